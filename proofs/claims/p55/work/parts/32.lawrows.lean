/-! THE LAW: methods with a table of handlers; static calls that write; known branches -/
/-- what the tables say of a method with handlers that is called by its name -/
abbrev zCW (y : MethodName) (bytes : ByteArray) (maxL : Nat) (ret : Option FieldType) (hh : List (Nat × Nat × Nat × Nat)) (k : Nat) : Prop := Cond.codeWith y bytes maxL ret hh ∈ GW ∧ Cond.initialized y.cls ∈ GW ∧ (y.cls ≠ "java/lang/invoke/MethodHandle" ∧ y.cls ≠ "java/lang/invoke/VarHandle" ∧ (parseMethodDescriptor y.desc).map (fun d => d.parameters.length) = some k)
theorem zMetH {l : Launch} {y : MethodName} {cc : ByteArray} {maxL : Nat} {ret : Option FieldType} {hh : List (Nat × Nat × Nat × Nat)} {rm : Room} {av : List Value} {g : ZG} {B : Nat} {PH : Heap → Prop} {Qc : Array Value → State → Outcome → State → Prop} {mc ms : Nat} {free : Addr → Prop} (hy : plainName y.cls = true) (hL : (lg_sl av).length ≤ maxL)
    (body : ∀ (p : Program) (e : Env) (R : Room) (s : State) (m : MethodId) (args : Array Value) (below : List Frame) (meth : Method) (c : Code) (Q : State → Prop) (ls : Array Slot), R = rm → args = av.toArray → Q = MQ below Qc args s mc ms free → CallFix p m c cc maxL s args GW y.cls → meth.sig.returnType = ret → meth.locks = false → c.exceptionTable.toList = tableOf hh → PH s.heap → zS g B s s.heap → va_S (zA B) s.heap s.heap [] → lv_has ls maxL (lv_args 0 av) →
      W p l e R s m args below meth c s.heap [] 0 0 Q (F0 m 0 ls [])) : Met l y (.codeWith y cc maxL ret hh :: GW) rm (va_Pc av (zPre g B PH)) Qc mc ms free := by
  refine MetFree.of_bodyS (code := cc) (maxLocals := maxL) (ret := ret) hy ?_ ?_
  · intro args s m h hn
    obtain ⟨m9, meth, c, hn9, h1, h2, h3, h4, -, h5, h6, -⟩ := Cond.codeWith_spec (atoms_spec (ws := .codeWith y cc maxL ret hh :: GW) h _ List.mem_cons_self)
    cases hn.symm.trans hn9
    exact ⟨meth, c, h1, h2, h3, h4, h5, h6⟩
  · intro p e s m args below meth c s₁ B0 hml hv _
    have hh0 : s₁.heap = s.heap := by rw [B0.state]; rfl
    have hex := vx_table (x := y) B0 (atoms_spec (ws := .codeWith y cc maxL ret hh :: GW) B0.pre _ List.mem_cons_self)
    obtain ⟨rfl, hPH, hZ⟩ := hv
    have K : W p l e rm s m av.toArray below meth c s.heap [] 0 0 (MQ below Qc av.toArray s mc ms free) (entryFrame m av.toArray maxL) := by
      rw [lg_entry_eq]
      exact body p e rm s m _ below meth c _ _ rfl rfl rfl ⟨B0.exec, B0.bytes, hml, findClass_of_methodNamed B0.named, fun w h => atoms_spec (ws := .codeWith y cc maxL ret hh :: GW) B0.pre w (List.mem_cons_of_mem _ h)⟩ B0.returns B0.notSynchronized hex hPH hZ va_S.rf (lv_entry av hL)
    obtain ⟨t, a1, o, b1, b2, b3⟩ := K s₁ hh0 (Stand.of_body B0)
    exact ⟨t, o, a1, b1, b2, ⟨b3.1, b3.2⟩⟩
section ZL
variable {p : Program} {l : Launch} {e : Env} {R : Room} {s : State} {m : MethodId} {args : Array Value} {below : List Frame} {meth : Method} {c : Code} {H : Heap} {locs : List Loc} {cells slots : Nat} {Q : State → Prop}
variable {cc bytes : ByteArray} {pc nL maxL index mc ms a n : Nat} {own : String} {ls : Array Slot} {rest st0 st1 : List Value} {g : ZG} {B : Nat} {y : MethodName} {ret : Option FieldType} {hh : List (Nat × Nat × Nat × Nat)} {rm : Room} {PH : Heap → Prop} {v v0 : Option Value} {b : Addr} {As : List Value} {PW : Option Value → Heap → Prop} {PV : Heap → Prop} {free : Addr → Prop} {Qc : Array Value → State → Outcome → State → Prop}
theorem z_runSW (S : CallFix p m c cc nL s args GW own) (hZ : zS g B s s.heap) (hS : va_S (zA B) s.heap H locs) (hM : Met l y (.codeWith y bytes maxL ret hh :: GW) rm (va_Pc As (zPre g B PH)) Qc mc ms free) (hI : zCW y bytes maxL ret hh As.length) (hV : Cond.static y ∈ GW) (hlink : Cond.methodLink own index y ∈ GW) (hrm : zRm rm R maxL mc ms) (hPH : PH H) (hsize : ls.size = nL) (hst0 : st0 = As.reverse ++ rest) (hcat : (rest.map fun v => v.category).sum ≤ 8) (hdg : decode cc pc = .ok (.invokestatic index, 3)) (hf : cells + mc ≤ R.cells ∧ slots + ms ≤ R.slots) :
    va_Run p l e R s m args below meth c H locs cells slots mc ms (F0 m pc ls st0) rest (Qc As.toArray) free :=
  vx_runSW S hM ⟨⟨hrm.1, hrm.2.1, hrm.2.2.1, hrm.2.2.2, pay_in S.2.2.2.2 (gIn hI.1), List.mem_cons_self⟩, S.2.2.2.2 _ hI.1, S.2.2.2.2 _ hI.2.1, ⟨hI.2.2.1, hI.2.2.2.1⟩, fun sig h => by
    have h2 := hI.2.2.2.2
    rw [h] at h2
    exact (Option.some.inj h2).symm, S.2.2.2.2 _ hlink, S.2.2.2.2 _ hV⟩ ⟨zPre.blind, fun _ hU hW => ⟨rfl, zPre.at' (hZ.at' hS) hPH hU hW⟩⟩ rfl rfl hsize hst0 (lv_room hcat) hdg hf
/-- a static call of a method with handlers that only reads -/
theorem z_cSW (S : CallFix p m c cc nL s args GW own) (hZ : zS g B s s.heap) (hS : va_S (zA B) s.heap H locs) (hM : Met l y (.codeWith y bytes maxL ret hh :: GW) rm (va_Pc As (zPre g B PH)) (zR v) 0 0 (fun _ => False)) (hI : zCW y bytes maxL ret hh As.length) (hV : Cond.static y ∈ GW) (hlink : Cond.methodLink own index y ∈ GW) (hrm : zRm rm R maxL 0 0) (hPH : PH H) (hsize : ls.size = nL) (hst0 : st0 = As.reverse ++ rest) (hcat : (rest.map fun v => v.category).sum ≤ 8) (hdg : decode cc pc = .ok (.invokestatic index, 3)) (hf : cells + 0 ≤ R.cells ∧ slots + 0 ≤ R.slots) (hst1 : v.toList ++ rest = st1)
    (kk : W p l e R s m args below meth c H locs cells slots Q (F0 m (pc + 3) ls st1)) : W p l e R s m args below meth c H locs cells slots Q (F0 m pc ls st0) := z_ro (z_runSW S hZ hS hM hI hV hlink hrm hPH hsize hst0 hcat hdg hf) hst1 kk
/-- one that writes, or makes something -/
theorem z_wSW (S : CallFix p m c cc nL s args GW own) (hZ : zS g B s s.heap) (hS : va_S (zA B) s.heap H locs) (hM : Met l y (.codeWith y bytes maxL ret hh :: GW) rm (va_Pc As (zPre g B PH)) (zX PW a n) mc ms (zA B)) (hB : B ≤ a) (hI : zCW y bytes maxL ret hh As.length) (hV : Cond.static y ∈ GW) (hlink : Cond.methodLink own index y ∈ GW) (hrm : zRm rm R maxL mc ms) (hPH : PH H) (hsize : ls.size = nL) (hst0 : st0 = As.reverse ++ rest) (hcat : (rest.map fun v => v.category).sum ≤ 8) (hdg : decode cc pc = .ok (.invokestatic index, 3)) (hf : cells + mc ≤ R.cells ∧ slots + ms ≤ R.slots)
    (kk : ∀ (v : Option Value) (H1 : Heap) (locs1 : List Loc), PW v H1 → zCh1 a n H H1 → va_S (zA B) s.heap H1 locs1 → W p l e R s m args below meth c H1 locs1 (cells + mc) (slots + ms) Q (F0 m (pc + 3) ls (v.toList ++ rest))) : W p l e R s m args below meth c H locs cells slots Q (F0 m pc ls st0) := z_rw (z_runSW S hZ hS hM hI hV hlink hrm hPH hsize hst0 hcat hdg hf) hS hB kk
/-- the answer known -/
theorem z_w1SW (S : CallFix p m c cc nL s args GW own) (hZ : zS g B s s.heap) (hS : va_S (zA B) s.heap H locs) (hM : Met l y (.codeWith y bytes maxL ret hh :: GW) rm (va_Pc As (zPre g B PH)) (zX (fun v H => v = v0 ∧ PV H) a n) mc ms (zA B)) (hB : B ≤ a) (hI : zCW y bytes maxL ret hh As.length) (hV : Cond.static y ∈ GW) (hlink : Cond.methodLink own index y ∈ GW) (hrm : zRm rm R maxL mc ms) (hPH : PH H) (hsize : ls.size = nL) (hst0 : st0 = As.reverse ++ rest) (hcat : (rest.map fun v => v.category).sum ≤ 8) (hdg : decode cc pc = .ok (.invokestatic index, 3)) (hf : cells + mc ≤ R.cells ∧ slots + ms ≤ R.slots) (hst1 : v0.toList ++ rest = st1)
    (kk : ∀ (H1 : Heap) (locs1 : List Loc), PV H1 → zCh1 a n H H1 → va_S (zA B) s.heap H1 locs1 → W p l e R s m args below meth c H1 locs1 (cells + mc) (slots + ms) Q (F0 m (pc + 3) ls st1)) : W p l e R s m args below meth c H locs cells slots Q (F0 m pc ls st0) :=
  z_wSW S hZ hS hM hB hI hV hlink hrm hPH hsize hst0 hcat hdg hf (fun v H1 locs1 hv hC hS1 => by
    obtain ⟨rfl, hw⟩ := hv
    rw [hst1]
    exact kk H1 locs1 hw hC hS1)
theorem z_w1S (S : CallFix p m c cc nL s args GW own) (hZ : zS g B s s.heap) (hS : va_S (zA B) s.heap H locs) (hM : Met l y (.code y bytes maxL ret :: GW) rm (va_Pc As (zPre g B PH)) (zX (fun v H => v = v0 ∧ PV H) a n) mc ms (zA B)) (hB : B ≤ a) (hI : zCI y bytes maxL ret As.length) (hV : Cond.static y ∈ GW) (hlink : Cond.methodLink own index y ∈ GW) (hrm : zRm rm R maxL mc ms) (hPH : PH H) (hsize : ls.size = nL) (hst0 : st0 = As.reverse ++ rest) (hcat : (rest.map fun v => v.category).sum ≤ 8) (hdg : decode cc pc = .ok (.invokestatic index, 3)) (hf : cells + mc ≤ R.cells ∧ slots + ms ≤ R.slots) (hst1 : v0.toList ++ rest = st1)
    (kk : ∀ (H1 : Heap) (locs1 : List Loc), PV H1 → zCh1 a n H H1 → va_S (zA B) s.heap H1 locs1 → W p l e R s m args below meth c H1 locs1 (cells + mc) (slots + ms) Q (F0 m (pc + 3) ls st1)) : W p l e R s m args below meth c H locs cells slots Q (F0 m pc ls st0) :=
  z_wS S hZ hS hM hB hI hV hlink hrm hPH hsize hst0 hcat hdg hf (fun v H1 locs1 hv hC hS1 => by
    obtain ⟨rfl, hw⟩ := hv
    rw [hst1]
    exact kk H1 locs1 hw hC hS1)
/-- caught here by the x-th row of the table -/
theorem z_ct {E : String} {ce : Cell} {q9 : Addr} (S : CallFix p m c cc nL s args GW own) (hZ : zS g B s s.heap) (hE : E ∈ zEx) (pre : List ExceptionTableEntry) (x : ExceptionTableEntry) (suf : List ExceptionTableEntry) (hex : c.exceptionTable.toList = tableOf hh) (hsplit : tableOf hh = pre ++ x :: suf) (hpass : ∀ z ∈ pre, covers z pc = false ∨ (z.catchType ≠ 0 ∧ ∃ nm : String, Cond.classLink own z.catchType nm ∈ GW ∧ (E, nm) ∈ zEn)) (hx : covers x pc = true) (h0 : x.catchType ≠ 0) (hlink : Cond.classLink own x.catchType E ∈ GW) (hce : H[q9]? = some ce) (hcv : ce.vm = .none) (hcl : s.vm.findClass E = some ce.cls)
    (kk : W p l e R s m args below meth c H locs cells slots Q (F0 m x.handlerPc ls [.ref q9])) : vx_W p l e R s m args below meth c H locs cells slots Q (F0 m pc ls rest) q9 :=
  vx_catch S.2.2.2.1 pre x suf (hex.trans hsplit) (fun z hz => (hpass z hz).elim Or.inl (fun q => Or.inr ⟨q.1, by
    obtain ⟨nm, h1, h2⟩ := q.2
    exact ⟨nm, S.2.2.2.2 _ h1, hZ.2.2.2.2.2.1 (E, nm) h2⟩⟩)) hx h0 (S.2.2.2.2 _ hlink) (va_Nw.use rfl (hZ.2.2.2.2.1 E hE)) hce hcv hcl kk
/-- the end of a method that wrote, whatever room is left -/
theorem z_wiw (hQ : Q = MQ below (zX PW a n) args s mc ms (zA B)) (S : CallFix p m c cc nL s args GW own) {ty : FieldType} {x : Int32} (h1 : cells ≤ mc) (h2 : slots ≤ ms) (hr : meth.sig.returnType = some ty) (hlk : meth.locks = false) (hn : narrow ty (.int x) = .int x) (hS : va_S (zA B) s.heap H locs) (hc : zCh1 a n s.heap H) (hw : PW (some (.int x)) H) (hdg : decode cc pc = .ok (.ireturn, 1)) : W p l e R s m args below meth c H locs cells slots Q (F0 m pc ls [.int x]) :=
  W.widen h1 h2 (z_wi hQ S hr hlk hn hS hc hw hdg)
theorem z_wdw (hQ : Q = MQ below (zX PW a n) args s mc ms (zA B)) (S : CallFix p m c cc nL s args GW own) {x : UInt64} (h1 : cells ≤ mc) (h2 : slots ≤ ms) (hr : meth.sig.returnType = some .double) (hlk : meth.locks = false) (hS : va_S (zA B) s.heap H locs) (hc : zCh1 a n s.heap H) (hw : PW (some (.double x)) H) (hdg : decode cc pc = .ok (.dreturn, 1)) : W p l e R s m args below meth c H locs cells slots Q (F0 m pc ls [.double x]) :=
  W.widen h1 h2 (by subst hQ; exact W.dret S.1 S.2.1 hr (fun t ht _ => ⟨_, rfl, by rw [ht]; exact hw, by rw [ht]; exact hc⟩) hS.2.2 hdg hlk)
theorem z_wfw (hQ : Q = MQ below (zX PW a n) args s mc ms (zA B)) (S : CallFix p m c cc nL s args GW own) {x : UInt32} (h1 : cells ≤ mc) (h2 : slots ≤ ms) (hr : meth.sig.returnType = some .float) (hlk : meth.locks = false) (hS : va_S (zA B) s.heap H locs) (hc : zCh1 a n s.heap H) (hw : PW (some (.float x)) H) (hdg : decode cc pc = .ok (.freturn, 1)) : W p l e R s m args below meth c H locs cells slots Q (F0 m pc ls [.float x]) :=
  W.widen h1 h2 (by subst hQ; exact W.fret S.1 S.2.1 hr (fun t ht _ => ⟨_, rfl, by rw [ht]; exact hw, by rw [ht]; exact hc⟩) hS.2.2 hdg hlk)
/-- known branches -/
theorem z_kne (S : CallFix p m c cc nL s args GW own) {x z : Int32} {off : Int} {tgt : Nat} (h : x = z) (hdg : decode cc pc = .ok (.if_icmp .ne off, 3)) (ht : (pc : Int) + off = (tgt : Int)) (kf : W p l e R s m args below meth c H locs cells slots Q (F0 m (pc + 3) ls rest)) : W p l e R s m args below meth c H locs cells slots Q (F0 m pc ls (.int z :: .int x :: rest)) :=
  lv_icmp_ne S.1 S.2.1 hdg ht (fun q => absurd h q) (fun _ => kf)
theorem z_knt (S : CallFix p m c cc nL s args GW own) {x z : Int32} {off : Int} {tgt : Nat} (h : ¬ x = z) (hdg : decode cc pc = .ok (.if_icmp .ne off, 3)) (ht : (pc : Int) + off = (tgt : Int)) (kt : W p l e R s m args below meth c H locs cells slots Q (F0 m tgt ls rest)) : W p l e R s m args below meth c H locs cells slots Q (F0 m pc ls (.int z :: .int x :: rest)) :=
  lv_icmp_ne S.1 S.2.1 hdg ht (fun _ => kt) (fun q => absurd q h)
theorem z_kin (S : CallFix p m c cc nL s args GW own) {x : Int32} {off : Int} {tgt : Nat} (h : x = 0) (hdg : decode cc pc = .ok (.ifCond .ne off, 3)) (ht : (pc : Int) + off = (tgt : Int)) (kf : W p l e R s m args below meth c H locs cells slots Q (F0 m (pc + 3) ls rest)) : W p l e R s m args below meth c H locs cells slots Q (F0 m pc ls (.int x :: rest)) :=
  lv_if_ne S.1 S.2.1 hdg ht (fun q => absurd h q) (fun _ => kf)
theorem z_kie (S : CallFix p m c cc nL s args GW own) {x : Int32} {off : Int} {tgt : Nat} (h : ¬ x = 0) (hdg : decode cc pc = .ok (.ifCond .eq off, 3)) (ht : (pc : Int) + off = (tgt : Int)) (kf : W p l e R s m args below meth c H locs cells slots Q (F0 m (pc + 3) ls rest)) : W p l e R s m args below meth c H locs cells slots Q (F0 m pc ls (.int x :: rest)) :=
  lv_if_eq S.1 S.2.1 hdg ht (fun q => absurd q h) (fun _ => kf)
theorem zn_neg {a : Nat} (h : a < 2 ^ 31) {z : Int32} (hz : z < 0) : ¬ nI a = z := fun q => nI_pos h (by rw [q]; exact hz)
end ZL
/-! THE STATE AS THE LAW SEES IT -/
/-- what always holds between the law's calls -/
def yIv (z : zSt) : Prop := zIv z ∧ z 15 0 0 1 = 0 ∧ z 11 0 0 3 ≤ 1
/-- how many changes are kept, and the j-th latest of them -/
abbrev yN (z : zSt) : Nat := z 12 0 0 2
def yK (z : zSt) : Nat → zL := fun j => z (3 + (z 12 0 0 1 + (z 12 0 0 2 - 1 - j)) % 8)
/-- behind an allowed change: P is the new loom -/
def yCh (z z' : zSt) (P : zL) : Prop := yIv z' ∧ z' 0 = P ∧ z' 2 = z 2 ∧ z' 11 0 0 3 = z 11 0 0 3 ∧ yN z' = min 8 (yN z + 1) ∧ yK z' 0 = z 0 ∧ ∀ j, j + 1 < yN z' → yK z' (j + 1) = yK z j
/-- nothing that counts has changed -/
def yNoc (z z' : zSt) : Prop := yIv z' ∧ z' 0 = z 0 ∧ z' 2 = z 2 ∧ z' 11 0 0 3 = z 11 0 0 3 ∧ yN z' = yN z ∧ ∀ j, j < yN z → yK z' j = yK z j
/-- behind undo -/
def yUd (z z' : zSt) : Prop := yIv z' ∧ z' 0 = yK z 0 ∧ z' 2 = z 2 ∧ z' 11 0 0 3 = z 11 0 0 3 ∧ yN z' = yN z - 1 ∧ ∀ j, j < yN z' → yK z' j = yK z (j + 1)
/-- the loom and the snapshot are as they were -/
def yKe (z z' : zSt) : Prop := yIv z' ∧ z' 0 = z 0 ∧ z' 2 = z 2 ∧ z' 11 0 0 3 = z 11 0 0 3
theorem zHk_n {f : Nat → Nat → Nat} (h : f 0 2 ≤ 8) : zHk f 0 2 = min 8 (f 0 2 + 1) := by
  unfold zHk; split
  · show f 0 2 + 1 = _; omega
  · show f 0 2 = _; omega
theorem zHk_o (f : Nat → Nat → Nat) : zHk f 0 1 = if f 0 2 < 8 then f 0 1 else (f 0 1 + 1) % 8 := by
  unfold zHk; split <;> rfl
theorem yCh.of {z z' : zSt} {P : zL} (hI : zIv z) (hP : zOk P) (h0 : z' 0 = P) (h2 : z' 2 = z 2) (h12 : z' 12 0 = zHk (z 12 0)) (hk : ∀ i, i < 8 → z' (3 + i) = va_up (fun i => z (3 + i)) ((z 12 0 0 1 + z 12 0 0 2) % 8) (z 0) i) (h11 : z' 11 0 0 3 = z 11 0 0 3) (h1 : z 11 0 0 3 ≤ 1) (h15 : z' 15 0 0 1 = 0) : yCh z z' P := by
  obtain ⟨i1, i2, i3, i4, i5⟩ := hI
  have n2 : z' 12 0 0 2 = min 8 (z 12 0 0 2 + 1) := by rw [h12]; exact zHk_n i5
  have n1 : z' 12 0 0 1 = if z 12 0 0 2 < 8 then z 12 0 0 1 else (z 12 0 0 1 + 1) % 8 := by rw [h12]; exact zHk_o _
  refine ⟨⟨⟨by rw [h0]; exact hP, by rw [h2]; exact i2, fun i hi => ?_, ?_, by omega⟩, h15, by omega⟩, h0, h2, h11, n2, ?_, fun j hj => ?_⟩
  · rw [hk i hi, va_up_eq]; split
    · exact i1
    · exact i3 i hi
  · rw [n1]; split <;> omega
  · show z' (3 + (z' 12 0 0 1 + (z' 12 0 0 2 - 1 - 0)) % 8) = _
    rw [hk _ (by omega), va_up_eq, if_pos]
    rw [n1, n2]; split <;> omega
  · have hj8 : j + 1 < z' 12 0 0 2 := hj
    show z' (3 + (z' 12 0 0 1 + (z' 12 0 0 2 - 1 - (j + 1))) % 8) = z (3 + (z 12 0 0 1 + (z 12 0 0 2 - 1 - j)) % 8)
    rw [hk _ (by omega), va_up_eq, if_neg]
    · show z (3 + _) = _
      congr 2
      rw [n1, n2]; split <;> omega
    · rw [n1, n2]; split <;> omega
theorem yNoc.of {z z' : zSt} (hI : zIv z) (h0 : z' 0 = z 0) (h2 : z' 2 = z 2) (h12 : z' 12 0 = z 12 0) (hk : ∀ i, i < 8 → z' (3 + i) = z (3 + i)) (h11 : z' 11 0 0 3 = z 11 0 0 3) (h1 : z 11 0 0 3 ≤ 1) (h15 : z' 15 0 0 1 = 0) : yNoc z z' := by
  obtain ⟨i1, i2, i3, i4, i5⟩ := hI
  refine ⟨⟨⟨by rw [h0]; exact i1, by rw [h2]; exact i2, fun i hi => by rw [hk i hi]; exact i3 i hi, by rw [h12]; exact i4, by rw [h12]; exact i5⟩, h15, by omega⟩, h0, h2, h11, by rw [yN, h12], fun j _ => ?_⟩
  show z' (3 + (z' 12 0 0 1 + (z' 12 0 0 2 - 1 - j)) % 8) = z (3 + (z 12 0 0 1 + (z 12 0 0 2 - 1 - j)) % 8)
  rw [h12]
  exact hk _ (by omega)
theorem yNoc.rf {z : zSt} (h : yIv z) : yNoc z z := ⟨h, rfl, rfl, rfl, rfl, fun _ _ => rfl⟩
theorem yNoc.tr {a b c : zSt} (h : yNoc a b) (k : yNoc b c) : yNoc a c := by
  obtain ⟨-, h2, h3, h4, h5, h6⟩ := h
  obtain ⟨k1, k2, k3, k4, k5, k6⟩ := k
  exact ⟨k1, k2.trans h2, k3.trans h3, k4.trans h4, k5.trans h5, fun j hj => (k6 j (by rw [h5]; exact hj)).trans (h6 j hj)⟩
theorem yNoc.ke {a b : zSt} (h : yNoc a b) : yKe a b := ⟨h.1, h.2.1, h.2.2.1, h.2.2.2.1⟩
theorem yKe.rf {a : zSt} (h : yIv a) : yKe a a := ⟨h, rfl, rfl, rfl⟩
theorem yKe.tr {a b c : zSt} (h : yKe a b) (k : yKe b c) : yKe a c := ⟨k.1, k.2.1.trans h.2.1, k.2.2.1.trans h.2.2.1, k.2.2.2.trans h.2.2.2⟩
theorem yIv.ok {z : zSt} (h : yIv z) : zOk (z 0) := h.1.1
/-- a change, undone -/
theorem yUd.ch {a b c : zSt} {P : zL} (h : yCh a b P) (k : yUd b c) : yKe a c ∧ yN c = min 8 (yN a + 1) - 1 ∧ ∀ j, j < yN c → yK c j = yK a j := by
  obtain ⟨-, h2, h3, h4, h5, h6, h7⟩ := h
  obtain ⟨k1, k2, k3, k4, k5, k6⟩ := k
  exact ⟨⟨k1, k2.trans h6, k3.trans h3, k4.trans h4⟩, by rw [k5, h5], fun j hj => (k6 j hj).trans (h7 j (by rw [k5] at hj; omega))⟩
/-- two changes, both undone -/
theorem yUd.ch2 {a b c d f : zSt} {P1 P2 : zL} (h1 : yCh a b P1) (h2 : yCh b c P2) (k1 : yUd c d) (k2 : yUd d f) : yKe a f := by
  have q1 := yUd.ch h2 k1
  have n1 : yN b = min 8 (yN a + 1) := h1.2.2.2.2.1
  have n2 := q1.2.1
  exact ⟨k2.1, k2.2.1.trans ((q1.2.2 0 (by rw [n2, n1]; omega)).trans h1.2.2.2.2.2.1), k2.2.2.1.trans (q1.1.2.2.1.trans h1.2.2.1), k2.2.2.2.1.trans (q1.1.2.2.2.trans h1.2.2.2.1)⟩
/-- an answer of one of the ten calls that change something -/
def yAn (z z' : zSt) (d : Nat × Nat) (pf : zL × Nat) (w : Option Value) : Prop := (d.1 = 0 ∧ w = some (.int (nI pf.2)) ∧ yCh z z' pf.1) ∨ (d.1 ≠ 0 ∧ w = some (.int (-100000000)) ∧ yNoc z z')
theorem zRq_14 {z : zSt} {k a b c i : Nat} (h : i ≠ 14) : zRq z k a b c i = z i := if_neg h
theorem zCg_h {S : zSt} {P : zL} {i : Nat} (h : 11 ≤ i) (h2 : i ≠ 12) : zCg S P i = S i := by unfold zCg; rw [if_pos h, if_neg h2]
theorem yCh.cg {z : zSt} (h : yIv z) {k a b c : Nat} {P : zL} (hP : zOk P) : yCh z (zCg (zRq z k a b c) P) P := by
  refine yCh.of h.1 hP rfl rfl rfl (fun i hi => ?_) (by rw [zCg_h (by omega) (by omega), zRq_14 (by omega)]) h.2.2 (by rw [zCg_h (by omega) (by omega), zRq_14 (by omega)]; exact h.2.1)
  rw [zCg_k _ _ i hi]
  show va_up (fun i => zRq z k a b c (3 + i)) ((z 12 0 0 1 + z 12 0 0 2) % 8) (z 0) i = _
  rw [va_up_eq, va_up_eq]; split
  · rfl
  · exact zRq_14 (by omega)
theorem zNo_o {S : zSt} {d : Nat × Nat} {i : Nat} (h : i ≠ 13) (h2 : i ≠ 11) : zNo S d i = S i := by unfold zNo; rw [if_neg h, if_neg h2]
theorem yNoc.no {z : zSt} (h : yIv z) {k a b c : Nat} {d : Nat × Nat} : yNoc z (zNo (zRq z k a b c) d) := by
  refine yNoc.of h.1 rfl rfl rfl (fun i hi => by rw [zNo_o (by omega) (by omega), zRq_14 (by omega)]) ?_ h.2.2 h.2.1
  show (if d.1 < 9 then zDn (z 11 0) d.1 d.2 else z 11 0) 0 3 = _
  split <;> rfl
theorem yUd.un {z : zSt} (h : yIv z) (h1 : 1 ≤ yN z) : yUd z (yUn z) := by
  obtain ⟨⟨i1, i2, i3, i4, i5⟩, i6, i7⟩ := h
  have h1 : 1 ≤ z 12 0 0 2 := h1
  have e0 : yUn z 0 = yK z 0 := by show z (3 + (z 12 0 0 1 + (z 12 0 0 2 - 1)) % 8) = _; rfl
  refine ⟨⟨⟨by rw [e0]; exact i3 _ (by omega), i2, fun i hi => by rw [yUn_k z i hi]; exact i3 i hi, i4, by show z 12 0 0 2 - 1 ≤ 8; omega⟩, i6, i7⟩, e0, rfl, rfl, rfl, fun j hj => ?_⟩
  have hj : j < z 12 0 0 2 - 1 := hj
  show yUn z (3 + (z 12 0 0 1 + (z 12 0 0 2 - 1 - 1 - j)) % 8) = z (3 + (z 12 0 0 1 + (z 12 0 0 2 - 1 - (j + 1))) % 8)
  rw [yUn_k z _ (by omega), show z 12 0 0 2 - 1 - 1 - j = z 12 0 0 2 - 1 - (j + 1) by omega]
theorem yRe_iv {z : zSt} (h : yIv z) : yIv (yRe z) := ⟨⟨h.1.2.1, h.1.2.1, fun i hi => by rw [yRe_k z i hi]; exact h.1.2.2.1 i hi, h.1.2.2.2.1, Nat.zero_le 8⟩, h.2⟩
theorem ySv_iv {z : zSt} (h : yIv z) : yIv (ySv z) := ⟨⟨h.1.1, h.1.1, fun i hi => by rw [ySv_k z i hi]; exact h.1.2.2.1 i hi, h.1.2.2.2⟩, h.2.1, Nat.le_refl 1⟩
theorem zVn_0 (v : zL) (a b c : Nat) : (zVd v 0 a b c).1 ≠ 10 := by
  intro h
  change (zV0 _ _ _ _).1 = 10 at h
  unfold zV0 at h
  (repeat' split at h) <;> cases h
theorem zVn_1 (v : zL) (a b c : Nat) : (zVd v 1 a b c).1 ≠ 9 := by
  intro h
  change (zV1 _ _).1 = 9 at h
  unfold zV1 at h
  (repeat' split at h) <;> cases h
theorem zVn_2 (v : zL) (a b c : Nat) : (zVd v 2 a b c).1 ≠ 9 := by
  intro h
  change (zV2 _ _).1 = 9 at h
  unfold zV2 at h
  (repeat' split at h) <;> cases h
theorem zVn_4 (v : zL) (a b c : Nat) : (zVd v 4 a b c).1 ≠ 10 := by
  intro h
  change (zV4 _ _).1 = 10 at h
  unfold zV4 at h
  (repeat' split at h) <;> cases h
theorem zVn_5 (v : zL) (a b c : Nat) : (zVd v 5 a b c).1 ≠ 10 := by
  intro h
  change (zV5 _ _).1 = 10 at h
  unfold zV5 at h
  (repeat' split at h) <;> cases h
theorem zVn_6 (v : zL) (a b c : Nat) : (zVd v 6 a b c).1 ≠ 10 := by
  intro h
  change (zV6 _ _ _).1 = 10 at h
  unfold zV6 at h
  (repeat' split at h) <;> cases h
theorem zVn_7 (v : zL) (a b c : Nat) : (zVd v 7 a b c).1 ≠ 9 := by
  intro h
  change (zV7 _ _ _ _).1 = 9 at h
  unfold zV7 at h
  (repeat' split at h) <;> cases h
theorem zVn_8 (v : zL) (a b c : Nat) : (zVd v 8 a b c).1 ≠ 9 := by
  intro h
  change (zV7 _ _ _ _).1 = 9 at h
  unfold zV7 at h
  (repeat' split at h) <;> cases h
theorem zVn_9 (v : zL) (a b c : Nat) : (zVd v 9 a b c).1 ≠ 10 := by
  intro h
  change (zV9 _ _).1 = 10 at h
  unfold zV9 at h
  (repeat' split at h) <;> cases h
