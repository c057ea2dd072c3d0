/-! NEW OBJECTS AND ARRAYS: rows of the kit with the new address told (it is the heap's size) -/
section YN
variable {p : Program} {l : Launch} {e : Env} {R : Room} {s : State} {m : MethodId} {args : Array Value} {below : List Frame} {meth : Method} {c : Code} {H : Heap} {locs : List Loc} {cells slots : Nat} {Q : State → Prop}
variable {cc bytes : ByteArray} {pc nL maxL index mc ms a n : Nat} {own : String} {ls : Array Slot} {rest st0 : List Value} {g : ZG} {B : Nat} {y : MethodName} {rm : Room} {PH : Heap → Prop} {b : Addr} {PW : Heap → Prop}
theorem z_obj (S : CallFix p m c cc nL s args GW own) (hlink : Cond.methodLink own index Lib.objectInit ∈ GW) (hsize : ls.size = nL) (hdg : decode cc pc = .ok (.invokespecial index, 3)) (hf : 1 ≤ R.frames) (hlo : (rest.map fun v => v.category).sum + 12 ≤ R.locals) (kk : W p l e R s m args below meth c H locs cells slots Q (F0 m (pc + 3) ls rest)) : W p l e R s m args below meth c H locs cells slots Q (F0 m pc ls (.ref a :: rest)) :=
  W.objInit S.1 S.2.1 S.2.2.2.1 (S.2.2.2.2 _ hlink) (S.2.2.2.2 _ k37) (S.2.2.2.2 _ k38) (g := F0 m pc ls (.ref a :: rest)) rfl (hsize.trans S.2.2.1.symm) rfl hdg hf (by show 2 * 0 + _ + 12 ≤ _; omega) kk
theorem zA.new {H0 H1 : Heap} (hS : va_S (zA B) H0 H locs) (hz : H1.size = H.size + 1) (ho : ∀ q, q < H.size → H1[q]? = H[q]?) : va_S (zA B) H0 H1 locs := ⟨Nat.le_trans hS.1 (by omega), fun x h1 h2 => (ho x (Nat.lt_of_lt_of_le h1 hS.1)).trans (hS.2.1 x h1 h2), hS.2.2⟩
theorem z_new (S : CallFix p m c cc nL s args GW own) (hK : zT g s) (hS : va_S (zA B) s.heap H locs) {ci : Nat} {C : String} {T : u_T} {N : Nat} (hc : zC[ci]? = some (C, T, N)) (hcl : Cond.classLink own index C ∈ GW) (hins : Cond.instantiable C N ∈ GW) (hini : Cond.initialized C ∈ GW) {fs : List Value} (ty : Nat → FieldType) (hty : ∀ k, k < N → parseFieldDescriptor (T k).2.2.1 = some (ty k)) (hfs : ∀ j, j < N → defaultValue (ty j) = vp_V fs j) (hf : cells + 1 ≤ R.cells ∧ slots + N ≤ R.slots) (hdg : decode cc pc = .ok (.new index, 3)) {h : Nat} (hh : H.size = h)
    (kk : ∀ H1 : Heap, va_at g.1 zC (h, .inr (ci, fs)) H1 → H1.size = h + 1 → (∀ q, q < h → H1[q]? = H[q]?) → va_S (zA B) s.heap H1 locs → W p l e R s m args below meth c H1 locs (cells + 1) (slots + N) Q (F0 m (pc + 3) ls (.ref h :: rest))) : W p l e R s m args below meth c H locs cells slots Q (F0 m pc ls rest) := by
  obtain ⟨hin, -, -⟩ := zC_ok _ (List.mem_of_getElem? hc)
  have hKn := hK.1 ci _ hc
  refine W.newcK S.1 S.2.1 S.2.2.2.1 (S.2.2.2.2 _ hcl) (S.2.2.2.2 _ hins) (S.2.2.2.2 _ hini) rfl hdg hf.1 hf.2 hKn.2.1 hh fun H1 kC hkC e1 z1 o1 => ?_
  exact kk H1 ⟨_, hc, (u_born ty S.2.2.2.2 hin hKn hkC e1 hty).to hfs⟩ z1 o1 (zA.new hS (by rw [hh]; exact z1) (by rw [hh]; exact o1))

theorem z_nwi (S : CallFix p m c cc nL s args GW own) (hK : zT g s) (hS : va_S (zA B) s.heap H locs) {N : Nat} (hN : N < 1000) (hf : cells + 1 ≤ R.cells ∧ slots + N ≤ R.slots) (hdg : decode cc pc = .ok (.newarray .int, 2)) {h : Nat} (hh : H.size = h)
    (kk : ∀ H1 : Heap, va_at g.1 zC (h, .inl (g.2 0 0, N, .inl (fun _ => nI 0))) H1 → H1.size = h + 1 → (∀ q, q < h → H1[q]? = H[q]?) → va_S (zA B) s.heap H1 locs → W p l e R s m args below meth c H1 locs (cells + 1) (slots + N) Q (F0 m (pc + 2) ls (.ref h :: rest))) : W p l e R s m args below meth c H locs cells slots Q (F0 m pc ls (.int (nI N) :: rest)) := by
  refine va_newaK (atype := .int) S.1 S.2.1 (S.2.2.2.2 _ k73) (g := F0 m pc ls (.int (nI N) :: rest)) rfl hdg rfl (nI_pos (by omega)) (nI_clamp (by omega)) (Nat.le_trans (Nat.mul_le_mul_left N (show componentBytes (newarray.typeOf .int) ≤ 4 by decide)) (by omega)) hf.1 hf.2 hh (fun H1 cA e1 z1 o1 _ e5 => ?_)
  have hcA : cA = g.2 0 0 := Option.some.inj (e5.symm.trans (hK.2 0 _ rfl).2)
  subst hcA
  exact kk H1 e1 z1 o1 (zA.new hS (by rw [hh]; exact z1) (by rw [hh]; exact o1))
theorem z_nwz (S : CallFix p m c cc nL s args GW own) (hK : zT g s) (hS : va_S (zA B) s.heap H locs) {N : Nat} (hN : N < 1000) (hf : cells + 1 ≤ R.cells ∧ slots + N ≤ R.slots) (hdg : decode cc pc = .ok (.newarray .boolean, 2)) {h : Nat} (hh : H.size = h)
    (kk : ∀ H1 : Heap, va_at g.1 zC (h, .inl (g.2 0 1, N, .inl (fun _ => nI 0))) H1 → H1.size = h + 1 → (∀ q, q < h → H1[q]? = H[q]?) → va_S (zA B) s.heap H1 locs → W p l e R s m args below meth c H1 locs (cells + 1) (slots + N) Q (F0 m (pc + 2) ls (.ref h :: rest))) : W p l e R s m args below meth c H locs cells slots Q (F0 m pc ls (.int (nI N) :: rest)) := by
  refine va_newaK (atype := .boolean) S.1 S.2.1 (S.2.2.2.2 _ k74) (g := F0 m pc ls (.int (nI N) :: rest)) rfl hdg rfl (nI_pos (by omega)) (nI_clamp (by omega)) (Nat.le_trans (Nat.mul_le_mul_left N (show componentBytes (newarray.typeOf .boolean) ≤ 4 by decide)) (by omega)) hf.1 hf.2 hh (fun H1 cA e1 z1 o1 _ e5 => ?_)
  have hcA : cA = g.2 0 1 := Option.some.inj (e5.symm.trans (hK.2 1 _ rfl).2)
  subst hcA
  exact kk H1 e1 z1 o1 (zA.new hS (by rw [hh]; exact z1) (by rw [hh]; exact o1))
theorem z_nwc (S : CallFix p m c cc nL s args GW own) (hK : zT g s) (hS : va_S (zA B) s.heap H locs) {N : Nat} (hN : N < 1000) (hf : cells + 1 ≤ R.cells ∧ slots + N ≤ R.slots) (hdg : decode cc pc = .ok (.newarray .char, 2)) {h : Nat} (hh : H.size = h)
    (kk : ∀ H1 : Heap, va_at g.1 zC (h, .inl (g.2 0 2, N, .inl (fun _ => nI 0))) H1 → H1.size = h + 1 → (∀ q, q < h → H1[q]? = H[q]?) → va_S (zA B) s.heap H1 locs → W p l e R s m args below meth c H1 locs (cells + 1) (slots + N) Q (F0 m (pc + 2) ls (.ref h :: rest))) : W p l e R s m args below meth c H locs cells slots Q (F0 m pc ls (.int (nI N) :: rest)) := by
  refine va_newaK (atype := .char) S.1 S.2.1 (S.2.2.2.2 _ k229) (g := F0 m pc ls (.int (nI N) :: rest)) rfl hdg rfl (nI_pos (by omega)) (nI_clamp (by omega)) (Nat.le_trans (Nat.mul_le_mul_left N (show componentBytes (newarray.typeOf .char) ≤ 4 by decide)) (by omega)) hf.1 hf.2 hh (fun H1 cA e1 z1 o1 _ e5 => ?_)
  have hcA : cA = g.2 0 2 := Option.some.inj (e5.symm.trans (hK.2 2 _ rfl).2)
  subst hcA
  exact kk H1 e1 z1 o1 (zA.new hS (by rw [hh]; exact z1) (by rw [hh]; exact o1))
/-- a final field, in the constructor -/
theorem z_pf (S : CallFix p m c cc nL s args GW own) (hK : zT g s) {ci : Nat} {fs : List Value} (hO : va_at g.1 zC (a, .inr (ci, fs)) H) (hS0 : va_S (zA B) s.heap H locs) (hB : B ≤ a) {C : String} {Tt : u_T} {N : Nat} (hc : zC[ci]? = some (C, Tt, N)) (j : Nat) (hj : j < N) {v : Value} (hlink : Cond.fieldLink own index (Tt j).1 (Tt j).2.1 (Tt j).2.2.1 ∈ GW) (hfin : (Tt j).2.2.2 = true) (hin2 : meth.name = "<init>") (hdecl : (Tt j).1 = own) {ty : FieldType} (hd : parseFieldDescriptor (Tt j).2.2.1 = some ty) (hn : narrow ty v = v) (hfit : fits ty v = true) (hl : j < fs.length) (hdg : decode cc pc = .ok (.putfield index, 3))
    (kk : ∀ (H1 : Heap) (locs1 : List Loc), va_at g.1 zC (a, .inr (ci, fs.set j v)) H1 → zCh1 a 1 H H1 → H1.size = H.size → va_S (zA B) s.heap H1 locs1 → W p l e R s m args below meth c H1 locs1 cells slots Q (F0 m (pc + 3) ls rest)) : W p l e R s m args below meth c H locs cells slots Q (F0 m pc ls (v :: .ref a :: rest)) := by
  obtain ⟨hin, ⟨ty0, hty⟩, hnm⟩ := zC_ok _ (List.mem_of_getElem? hc)
  have hap := va_apart (own := own) S.2.2.2.2 hin ty0 hty hnm hK hc
  obtain ⟨r0, h1, cell, q1, q2, q3, q4⟩ := hO
  have hr : r0 = (C, Tt, N) := Option.some.inj (h1.symm.trans hc)
  subst hr
  obtain ⟨hS, hfc, kC, hkC, hkind⟩ := hK.1 ci _ hc
  obtain ⟨cf, kf, fi, fd, hi, hsl⟩ := hS j hj
  have hlay := S.2.2.2.2 _ (hin _ (u_in_lay hj))
  unfold u_lay at hlay
  rw [if_pos hfin] at hlay
  have hst := (u_facts hfc hkC (u_lays S.2.2.2.2 hin hj) hi).1
  have hcf : m.cls = cf := by
    obtain ⟨_, _, c9, _, _, _, -, -, hf9, -, -, -, hown2, -⟩ := Cond.laysFinal_spec hlay
    have e1 : c9 = cf := by have := hi.symm.trans hf9; simp at this; exact this.1.symm
    rw [hdecl] at hown2
    rw [← e1]; exact Option.some.inj (S.2.2.2.1.symm.trans hown2)
  have h6 := u_fits hfc hkC hkind (Or.inr hlay) hi hd hn hfit
  refine W.putFinK S.1 S.2.1 S.2.2.2.1 (S.2.2.2.2 _ hlink) hi hst hcf hin2 (by rw [q2]; exact h6) q1 q3 (by rw [hsl]; exact k2_hasslot (q4 j hj)) rfl rfl hdg fun H1 e1 e2 e3 => ?_
  rw [hsl] at e1 ⊢
  exact kk H1 _ ⟨_, hc, t_OB.to (V := updV (vp_V fs) j v) ⟨_, e1, q2, q3, t_set q4 hap hj v⟩ (fun i _ => vp_updV_set hl v i)⟩ ⟨Nat.le_of_eq e2.symm, fun q _ ho => e3 q (ho.elim Nat.ne_of_lt (fun h => Nat.ne_of_gt h))⟩ e2 (hS0.put e2 e3 (show B ≤ a from hB))
/-- a nest mate's constructor, it writes -/
theorem z_iN (S : CallFix p m c cc nL s args GW own) (hZ : zS g B s s.heap) (hS : va_S (zA B) s.heap H locs) (hM : Met l y (.code y bytes maxL none :: GW) rm (va_Pc [.ref b] (zPre g B PH)) (zX (fun v H => v = none ∧ PW H) a n) mc ms (zA B)) (hB : B ≤ a) (hI : zCI y bytes maxL none 0) (hV : Cond.instanceMethod y ∈ GW) (hy : y.name = "<init>") (hlink : (own, index, y) ∈ zNm) (hrm : zRm rm R maxL mc ms) (hPH : PH H) (hsize : ls.size = nL) (hst0 : st0 = .ref b :: rest) (hcat : (rest.map fun v => v.category).sum ≤ 8) (hdg : decode cc pc = .ok (.invokespecial index, 3)) (hf : cells + mc ≤ R.cells ∧ slots + ms ≤ R.slots)
    (kk : ∀ (H1 : Heap) (locs1 : List Loc), PW H1 → zCh1 a n H H1 → va_S (zA B) s.heap H1 locs1 → W p l e R s m args below meth c H1 locs1 (cells + mc) (slots + ms) Q (F0 m (pc + 3) ls rest)) : W p l e R s m args below meth c H locs cells slots Q (F0 m pc ls st0) :=
  z_rw (va_runIN S hM ⟨va_cnB 0 S.2.2.2.2 (gIn hI.1) rfl hrm.1 hrm.2.1 (hZ.2.2.1 _ hlink) (S.2.2.2.2 _ hI.2.1) hI.2.2 hrm.2.2, hy, S.2.2.2.2 _ hV⟩ ⟨zPre.blind, fun _ hU hW => ⟨rfl, zPre.at' (hZ.at' hS) hPH hU hW⟩⟩ rfl rfl (As := []) hsize hst0 (lv_room hcat) hdg hf) hS hB (fun v H1 locs1 hv hC hS1 => by
    obtain ⟨rfl, hw⟩ := hv
    exact kk H1 locs1 hw hC hS1)
end YN
theorem zCh1.grow {a n : Nat} {H H1 : Heap} (hz : H.size ≤ H1.size) (ho : ∀ q, q < H.size → H1[q]? = H[q]?) : zCh1 a n H H1 := ⟨hz, fun q hq _ => ho q hq⟩
def z00 : Nat → Nat → Nat := fun _ _ => 0
