/-! METHODS: how one is begun, called and left -/
/-- what the tables say of a method that is called by its name -/
abbrev zCI (y : MethodName) (bytes : ByteArray) (maxL : Nat) (ret : Option FieldType) (k : Nat) : Prop := Cond.code y bytes maxL ret ∈ GW ∧ Cond.initialized y.cls ∈ GW ∧ (y.cls ≠ "java/lang/invoke/MethodHandle" ∧ y.cls ≠ "java/lang/invoke/VarHandle" ∧ (parseMethodDescriptor y.desc).map (fun d => d.parameters.length) = some k)
abbrev zRm (rm R : Room) (maxL mc ms : Nat) : Prop := rm.cells = mc ∧ rm.slots = ms ∧ rm.frames + 1 ≤ R.frames ∧ 8 + (maxL + 11) + rm.locals ≤ R.locals
theorem zMet {l : Launch} {y : MethodName} {cc : ByteArray} {maxL : Nat} {ret : Option FieldType} {rm : Room} {av : List Value} {g : ZG} {B : Nat} {PH : Heap → Prop} {Qc : Array Value → State → Outcome → State → Prop} {mc ms : Nat} {free : Addr → Prop} (hy : plainName y.cls = true) (hL : (lg_sl av).length ≤ maxL)
    (body : ∀ (p : Program) (e : Env) (R : Room) (s : State) (m : MethodId) (args : Array Value) (below : List Frame) (meth : Method) (c : Code) (Q : State → Prop) (ls : Array Slot), R = rm → args = av.toArray → Q = MQ below Qc args s mc ms free → CallFix p m c cc maxL s args GW y.cls → meth.sig.returnType = ret → meth.locks = false → PH s.heap → zS g B s s.heap → va_S (zA B) s.heap s.heap [] → meth.name = y.name → lv_has ls maxL (lv_args 0 av) →
      W p l e R s m args below meth c s.heap [] 0 0 Q (F0 m 0 ls [])) : Met l y (.code y cc maxL ret :: GW) rm (va_Pc av (zPre g B PH)) Qc mc ms free := by
  refine Met.ofW hy rfl ?_
  intro p e s m args below meth c s₁ B0 hml hv
  obtain ⟨rfl, hPH, hZ⟩ := hv
  rw [lg_entry_eq]
  exact body p e rm s m _ below meth c _ _ rfl rfl rfl ⟨B0.exec, B0.bytes, hml, findClass_of_methodNamed B0.named, fun w h => atoms_spec (ws := .code y cc maxL ret :: GW) B0.pre w (List.mem_cons_of_mem _ h)⟩ B0.returns B0.notSynchronized hPH hZ va_S.rf (name_of_methodNamed B0.named B0.method).1 (lv_entry av hL)
/-- a method that may throw -/
theorem zMetX {l : Launch} {y : MethodName} {cc : ByteArray} {maxL : Nat} {ret : Option FieldType} {rm : Room} {av : List Value} {g : ZG} {B : Nat} {PH : Heap → Prop} {Qc : Array Value → State → Outcome → State → Prop} {XC : String → State → State → Prop} {mc ms : Nat} {free : Addr → Prop} (hy : plainName y.cls = true) (hL : (lg_sl av).length ≤ maxL)
    (body : ∀ (p : Program) (e : Env) (R : Room) (s : State) (m : MethodId) (args : Array Value) (below : List Frame) (meth : Method) (c : Code) (Q : State → Prop) (ls : Array Slot), R = rm → args = av.toArray → Q = vx_MQ below Qc XC args s mc ms free → CallFix p m c cc maxL s args GW y.cls → meth.sig.returnType = ret → meth.locks = false → (∀ x ∈ c.exceptionTable.toList, False) → PH s.heap → zS g B s s.heap → va_S (zA B) s.heap s.heap [] → lv_has ls maxL (lv_args 0 av) →
      W p l e R s m args below meth c s.heap [] 0 0 Q (F0 m 0 ls [])) : vx_Met l y (.code y cc maxL ret :: GW) rm (va_Pc av (zPre g B PH)) Qc XC mc ms free := by
  refine vx_ofW hy rfl ?_
  intro p e s m args below meth c s₁ B0 hml hex hv
  obtain ⟨rfl, hPH, hZ⟩ := hv
  rw [lg_entry_eq]
  exact body p e rm s m _ below meth c _ _ rfl rfl rfl ⟨B0.exec, B0.bytes, hml, findClass_of_methodNamed B0.named, fun w h => atoms_spec (ws := .code y cc maxL ret :: GW) B0.pre w (List.mem_cons_of_mem _ h)⟩ B0.returns B0.notSynchronized hex hPH hZ va_S.rf (lv_entry av hL)
section ZC
variable {p : Program} {l : Launch} {e : Env} {R : Room} {s : State} {m : MethodId} {args : Array Value} {below : List Frame} {meth : Method} {c : Code} {H : Heap} {locs : List Loc} {cells slots : Nat} {Q : State → Prop}
variable {cc bytes : ByteArray} {pc nL maxL index mc ms a n : Nat} {own : String} {ls : Array Slot} {rest st0 st1 : List Value} {g : ZG} {B : Nat} {y : MethodName} {ret : Option FieldType} {rm : Room} {PH : Heap → Prop} {v : Option Value} {b : Addr} {As : List Value} {PW : Option Value → Heap → Prop} {free : Addr → Prop} {Qc : Array Value → State → Outcome → State → Prop} {arr : Array Value}
theorem z_callB (S : CallFix p m c cc nL s args GW own) {k : Nat} (hI : zCI y bytes maxL ret k) (hlink : Cond.methodLink own index y ∈ GW) (hrm : zRm rm R maxL mc ms) : CallB R s args own index y bytes maxL ret (.code y bytes maxL ret :: GW) rm mc ms k :=
  callB_of k S.2.2.2.2 (gIn hI.1) rfl hrm.1 hrm.2.1 (S.2.2.2.2 _ hI.2.1) (S.2.2.2.2 _ hlink) hI.2.2 hrm.2.2
/-- goes on behind a call that only read -/
theorem z_ro {pc : Nat} (hr : va_Run p l e R s m args below meth c H locs cells slots 0 0 (F0 m pc ls st0) rest (zR v arr) (fun _ => False)) (hst : v.toList ++ rest = st1) (kk : W p l e R s m args below meth c H locs cells slots Q (F0 m (pc + 3) ls st1)) : W p l e R s m args below meth c H locs cells slots Q (F0 m pc ls st0) := by
  subst hst
  intro T hT X
  obtain ⟨v1, st₀, t, T', L, h0, X', hL, e1, e2, ⟨hv, hh⟩, st⟩ := hr T hT X
  cases hv
  obtain ⟨t2, a1, b1⟩ := kk T' (by rw [e1, hh, h0]) (Stand.forget X' (fun q h => (hL q h).elim))
  exact ⟨t2, st t2 a1, b1⟩
theorem z_rw {pc : Nat} (hr : va_Run p l e R s m args below meth c H locs cells slots mc ms (F0 m pc ls st0) rest (zX PW a n arr) (zA B)) (hS : va_S (zA B) s.heap H locs) (hB : B ≤ a)
    (kk : ∀ (v : Option Value) (H1 : Heap) (locs1 : List Loc), PW v H1 → zCh1 a n H H1 → va_S (zA B) s.heap H1 locs1 → W p l e R s m args below meth c H1 locs1 (cells + mc) (slots + ms) Q (F0 m (pc + 3) ls (v.toList ++ rest))) : W p l e R s m args below meth c H locs cells slots Q (F0 m pc ls st0) := by
  intro T hT X
  obtain ⟨v1, st₀, t, T', L, h0, X', hL, e1, e2, ⟨w, hv, hw, hc⟩, st⟩ := hr T hT X
  cases hv
  rw [h0, ← e1] at hc
  obtain ⟨t2, a1, b1⟩ := kk v1 T'.heap (locs ++ L) (by rw [e1]; exact hw) hc (hc.va hB hS hL) T' rfl X'
  exact ⟨t2, st t2 a1, b1⟩
theorem z_runV (S : CallFix p m c cc nL s args GW own) (hZ : zS g B s s.heap) (hS : va_S (zA B) s.heap H locs) (hM : Met l y (.code y bytes maxL ret :: GW) rm (va_Pc (.ref b :: As) (zPre g B PH)) Qc mc ms free) (hI : zCI y bytes maxL ret As.length) (hV : Cond.instanceMethod y ∈ GW ∧ Cond.selects y.cls y y ∈ GW) (hlink : Cond.methodLink own index y ∈ GW) (hrm : zRm rm R maxL mc ms) (hPH : PH H) (hrv : ∃ cell : Cell, H[b]? = some cell ∧ cell.vm.isStatics = false ∧ s.vm.findClass y.cls = some cell.cls) (hsize : ls.size = nL) (hst0 : st0 = As.reverse ++ .ref b :: rest) (hcat : (rest.map fun v => v.category).sum ≤ 8) (hdg : decode cc pc = .ok (.invokevirtual index, 3)) (hf : cells + mc ≤ R.cells ∧ slots + ms ≤ R.slots) :
    va_Run p l e R s m args below meth c H locs cells slots mc ms (F0 m pc ls st0) rest (Qc (Value.ref b :: As).toArray) free :=
  va_runV S hM ⟨z_callB S hI hlink hrm, S.2.2.2.2 _ hV.1, S.2.2.2.2 _ hV.2⟩ ⟨zPre.blind, hrv, fun _ hU hW => ⟨rfl, zPre.at' (hZ.at' hS) hPH hU hW⟩⟩ rfl rfl hsize hst0 (lv_room hcat) hdg hf
theorem z_runS (S : CallFix p m c cc nL s args GW own) (hZ : zS g B s s.heap) (hS : va_S (zA B) s.heap H locs) (hM : Met l y (.code y bytes maxL ret :: GW) rm (va_Pc As (zPre g B PH)) Qc mc ms free) (hI : zCI y bytes maxL ret As.length) (hV : Cond.static y ∈ GW) (hlink : Cond.methodLink own index y ∈ GW) (hrm : zRm rm R maxL mc ms) (hPH : PH H) (hsize : ls.size = nL) (hst0 : st0 = As.reverse ++ rest) (hcat : (rest.map fun v => v.category).sum ≤ 8) (hdg : decode cc pc = .ok (.invokestatic index, 3)) (hf : cells + mc ≤ R.cells ∧ slots + ms ≤ R.slots) :
    va_Run p l e R s m args below meth c H locs cells slots mc ms (F0 m pc ls st0) rest (Qc As.toArray) free :=
  va_runS S hM ⟨z_callB S hI hlink hrm, S.2.2.2.2 _ hV⟩ ⟨zPre.blind, fun _ hU hW => ⟨rfl, zPre.at' (hZ.at' hS) hPH hU hW⟩⟩ rfl rfl hsize hst0 (lv_room hcat) hdg hf
/-- a virtual call that only reads -/
theorem z_cV (S : CallFix p m c cc nL s args GW own) (hZ : zS g B s s.heap) (hS : va_S (zA B) s.heap H locs) (hM : Met l y (.code y bytes maxL ret :: GW) rm (va_Pc (.ref b :: As) (zPre g B PH)) (zR v) 0 0 (fun _ => False)) (hI : zCI y bytes maxL ret As.length) (hV : Cond.instanceMethod y ∈ GW ∧ Cond.selects y.cls y y ∈ GW) (hlink : Cond.methodLink own index y ∈ GW) (hrm : zRm rm R maxL 0 0) (hPH : PH H) (hrv : ∃ cell : Cell, H[b]? = some cell ∧ cell.vm.isStatics = false ∧ s.vm.findClass y.cls = some cell.cls) (hsize : ls.size = nL) (hst0 : st0 = As.reverse ++ .ref b :: rest) (hcat : (rest.map fun v => v.category).sum ≤ 8) (hdg : decode cc pc = .ok (.invokevirtual index, 3)) (hf : cells + 0 ≤ R.cells ∧ slots + 0 ≤ R.slots) (hst1 : v.toList ++ rest = st1)
    (kk : W p l e R s m args below meth c H locs cells slots Q (F0 m (pc + 3) ls st1)) : W p l e R s m args below meth c H locs cells slots Q (F0 m pc ls st0) := z_ro (z_runV S hZ hS hM hI hV hlink hrm hPH hrv hsize hst0 hcat hdg hf) hst1 kk
theorem z_cS (S : CallFix p m c cc nL s args GW own) (hZ : zS g B s s.heap) (hS : va_S (zA B) s.heap H locs) (hM : Met l y (.code y bytes maxL ret :: GW) rm (va_Pc As (zPre g B PH)) (zR v) 0 0 (fun _ => False)) (hI : zCI y bytes maxL ret As.length) (hV : Cond.static y ∈ GW) (hlink : Cond.methodLink own index y ∈ GW) (hrm : zRm rm R maxL 0 0) (hPH : PH H) (hsize : ls.size = nL) (hst0 : st0 = As.reverse ++ rest) (hcat : (rest.map fun v => v.category).sum ≤ 8) (hdg : decode cc pc = .ok (.invokestatic index, 3)) (hf : cells + 0 ≤ R.cells ∧ slots + 0 ≤ R.slots) (hst1 : v.toList ++ rest = st1)
    (kk : W p l e R s m args below meth c H locs cells slots Q (F0 m (pc + 3) ls st1)) : W p l e R s m args below meth c H locs cells slots Q (F0 m pc ls st0) := z_ro (z_runS S hZ hS hM hI hV hlink hrm hPH hsize hst0 hcat hdg hf) hst1 kk
/-- a virtual call that writes -/
theorem z_wV (S : CallFix p m c cc nL s args GW own) (hZ : zS g B s s.heap) (hS : va_S (zA B) s.heap H locs) (hM : Met l y (.code y bytes maxL ret :: GW) rm (va_Pc (.ref b :: As) (zPre g B PH)) (zX PW a n) mc ms (zA B)) (hB : B ≤ a) (hI : zCI y bytes maxL ret As.length) (hV : Cond.instanceMethod y ∈ GW ∧ Cond.selects y.cls y y ∈ GW) (hlink : Cond.methodLink own index y ∈ GW) (hrm : zRm rm R maxL mc ms) (hPH : PH H) (hrv : ∃ cell : Cell, H[b]? = some cell ∧ cell.vm.isStatics = false ∧ s.vm.findClass y.cls = some cell.cls) (hsize : ls.size = nL) (hst0 : st0 = As.reverse ++ .ref b :: rest) (hcat : (rest.map fun v => v.category).sum ≤ 8) (hdg : decode cc pc = .ok (.invokevirtual index, 3)) (hf : cells + mc ≤ R.cells ∧ slots + ms ≤ R.slots)
    (kk : ∀ (v : Option Value) (H1 : Heap) (locs1 : List Loc), PW v H1 → zCh1 a n H H1 → va_S (zA B) s.heap H1 locs1 → W p l e R s m args below meth c H1 locs1 (cells + mc) (slots + ms) Q (F0 m (pc + 3) ls (v.toList ++ rest))) : W p l e R s m args below meth c H locs cells slots Q (F0 m pc ls st0) := z_rw (z_runV S hZ hS hM hI hV hlink hrm hPH hrv hsize hst0 hcat hdg hf) hS hB kk
theorem z_wS (S : CallFix p m c cc nL s args GW own) (hZ : zS g B s s.heap) (hS : va_S (zA B) s.heap H locs) (hM : Met l y (.code y bytes maxL ret :: GW) rm (va_Pc As (zPre g B PH)) (zX PW a n) mc ms (zA B)) (hB : B ≤ a) (hI : zCI y bytes maxL ret As.length) (hV : Cond.static y ∈ GW) (hlink : Cond.methodLink own index y ∈ GW) (hrm : zRm rm R maxL mc ms) (hPH : PH H) (hsize : ls.size = nL) (hst0 : st0 = As.reverse ++ rest) (hcat : (rest.map fun v => v.category).sum ≤ 8) (hdg : decode cc pc = .ok (.invokestatic index, 3)) (hf : cells + mc ≤ R.cells ∧ slots + ms ≤ R.slots)
    (kk : ∀ (v : Option Value) (H1 : Heap) (locs1 : List Loc), PW v H1 → zCh1 a n H H1 → va_S (zA B) s.heap H1 locs1 → W p l e R s m args below meth c H1 locs1 (cells + mc) (slots + ms) Q (F0 m (pc + 3) ls (v.toList ++ rest))) : W p l e R s m args below meth c H locs cells slots Q (F0 m pc ls st0) := z_rw (z_runS S hZ hS hM hI hV hlink hrm hPH hsize hst0 hcat hdg hf) hS hB kk
/-- the end of a method that only read: an int, boolean or char -/
theorem z_ri (hQ : Q = MQ below (zR v) args s 0 0 (fun _ => False)) (S : CallFix p m c cc nL s args GW own) {ty : FieldType} {x : Int32} (hr : meth.sig.returnType = some ty) (hlk : meth.locks = false) (hn : narrow ty (.int x) = .int x) (hv : v = some (.int x)) (hdg : decode cc pc = .ok (.ireturn, 1)) : W p l e R s m args below meth c s.heap [] 0 0 Q (F0 m pc ls [.int x]) := by
  subst hQ
  exact W.zret S.1 S.2.1 hr hn (fun t ht _ => ⟨by rw [hv], ht⟩) (fun q h => by cases h) hdg hlk
theorem z_rv (hQ : Q = MQ below (zR none) args s 0 0 (fun _ => False)) (S : CallFix p m c cc nL s args GW own) (hr : meth.sig.returnType = none) (hlk : meth.locks = false) (hdg : decode cc pc = .ok (.return_, 1)) : W p l e R s m args below meth c s.heap [] 0 0 Q (F0 m pc ls []) := by
  subst hQ
  exact W.vret S.1 S.2.1 hr (fun t ht _ => ⟨rfl, ht⟩) (fun q h => by cases h) hdg hlk
theorem z_ra (hQ : Q = MQ below (zR v) args s 0 0 (fun _ => False)) (S : CallFix p m c cc nL s args GW own) {rt : FieldType} {x : Value} (hr : meth.sig.returnType = some rt) (hlk : meth.locks = false) (hrt : (∃ n, rt = .object n) ∨ ∃ t, rt = .array t) (hx : x = .null ∨ ∃ a, x = .ref a) (hv : v = some x) (hdg : decode cc pc = .ok (.areturn, 1)) : W p l e R s m args below meth c s.heap [] 0 0 Q (F0 m pc ls [x]) := by
  subst hQ
  exact W.aret S.1 S.2.1 hr hrt hx (fun t ht _ => ⟨by rw [hv], ht⟩) (fun q h => by cases h) hdg hlk
/-- the end of a method that wrote -/
theorem z_wi (hQ : Q = MQ below (zX PW a n) args s cells slots (zA B)) (S : CallFix p m c cc nL s args GW own) {ty : FieldType} {x : Int32} (hr : meth.sig.returnType = some ty) (hlk : meth.locks = false) (hn : narrow ty (.int x) = .int x) (hS : va_S (zA B) s.heap H locs) (hc : zCh1 a n s.heap H) (hw : PW (some (.int x)) H) (hdg : decode cc pc = .ok (.ireturn, 1)) : W p l e R s m args below meth c H locs cells slots Q (F0 m pc ls [.int x]) := by
  subst hQ
  exact W.zret S.1 S.2.1 hr hn (fun t ht _ => ⟨_, rfl, by rw [ht]; exact hw, by rw [ht]; exact hc⟩) hS.2.2 hdg hlk
theorem z_wv (hQ : Q = MQ below (zX PW a n) args s cells slots (zA B)) (S : CallFix p m c cc nL s args GW own) (hr : meth.sig.returnType = none) (hlk : meth.locks = false) (hS : va_S (zA B) s.heap H locs) (hc : zCh1 a n s.heap H) (hw : PW none H) (hdg : decode cc pc = .ok (.return_, 1)) : W p l e R s m args below meth c H locs cells slots Q (F0 m pc ls []) := by
  subst hQ
  exact W.vret S.1 S.2.1 hr (fun t ht _ => ⟨_, rfl, by rw [ht]; exact hw, by rw [ht]; exact hc⟩) hS.2.2 hdg hlk
theorem z_wa (hQ : Q = MQ below (zX PW a n) args s cells slots (zA B)) (S : CallFix p m c cc nL s args GW own) {rt : FieldType} {x : Value} (hr : meth.sig.returnType = some rt) (hlk : meth.locks = false) (hrt : (∃ n, rt = .object n) ∨ ∃ t, rt = .array t) (hx : x = .null ∨ ∃ a, x = .ref a) (hS : va_S (zA B) s.heap H locs) (hc : zCh1 a n s.heap H) (hw : PW (some x) H) (hdg : decode cc pc = .ok (.areturn, 1)) : W p l e R s m args below meth c H locs cells slots Q (F0 m pc ls [x]) := by
  subst hQ
  exact W.aret S.1 S.2.1 hr hrt hx (fun t ht _ => ⟨_, rfl, by rw [ht]; exact hw, by rw [ht]; exact hc⟩) hS.2.2 hdg hlk
end ZC
