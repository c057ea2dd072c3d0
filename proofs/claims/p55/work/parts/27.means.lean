/-! THE MEAN AND THE SHARE -/
section YM
variable {p : Program} {l : Launch} {e : Env} {R : Room} {s : State} {m : MethodId} {args : Array Value} {below : List Frame} {meth : Method} {c : Code} {Q : State → Prop}
variable {cc : ByteArray} {pc nL : Nat} {own : String} {ls : Array Slot} {v : Option Value}
theorem z_rd (hQ : Q = MQ below (zR v) args s 0 0 (fun _ => False)) (S : CallFix p m c cc nL s args GW own) {x : UInt64} (hr : meth.sig.returnType = some .double) (hlk : meth.locks = false) (hv : v = some (.double x)) (hdg : decode cc pc = .ok (.dreturn, 1)) : W p l e R s m args below meth c s.heap [] 0 0 Q (F0 m pc ls [.double x]) := by
  subst hQ
  exact W.dret S.1 S.2.1 hr (fun t ht _ => ⟨by rw [hv], ht⟩) (fun q h => by cases h) hdg hlk
theorem z_rf (hQ : Q = MQ below (zR v) args s 0 0 (fun _ => False)) (S : CallFix p m c cc nL s args GW own) {x : UInt32} (hr : meth.sig.returnType = some .float) (hlk : meth.locks = false) (hv : v = some (.float x)) (hdg : decode cc pc = .ok (.freturn, 1)) : W p l e R s m args below meth c s.heap [] 0 0 Q (F0 m pc ls [.float x]) := by
  subst hQ
  exact W.fret S.1 S.2.1 hr (fun t ht _ => ⟨by rw [hv], ht⟩) (fun q h => by cases h) hdg hlk
end YM
theorem zBc_16 {x : Nat} (hx : x < 65536) : zBc x ≤ 16 := by
  rw [zBc_sum hx]
  have h := zSum_le (q := fun c => x / 2 ^ c % 2) (b := 1) (fun i => by show x / 2 ^ i % 2 ≤ 1; omega) 16
  omega
theorem zRc_640 {f : Nat → Nat → Nat} (h : zKo f) : zRc f < 641 := by
  have h1 := zSum_le (q := fun i => zBc (f 1 i)) (b := 16) (fun i => zBc_16 (h.2 i).1) (f 0 3)
  have h2 := h.1
  show zSum _ _ < 641
  omega
theorem zKc_640 {f : Nat → Nat → Nat} (h : zKo f) : zKc f < 641 := by
  have h1 := zSum_le (q := fun i => zBc (f 3 i)) (b := 16) (fun i => zBc_16 (h.2 i).2.2) (f 0 3)
  have h2 := h.1
  show zSum _ _ < 641
  omega
set_option maxRecDepth 20000 in
set_option maxHeartbeats 4000000 in
/-- meanRaised -/
theorem c_meanRaised (l : Launch) (g : ZG) {B : Nat} {o : Nat} (z : zSt) (hv : zOk (z 0)) (h0 : 1 ≤ z 0 2 0 3) : Met l yX11_meanRaised (.code yX11_meanRaised cX11_meanRaised 1 (some .double) :: GW) { frames := 2, cells := 0, slots := 0, locals := 42 } (va_Pc [.ref o] (zPre g B (fun H => zSO g o z H))) (zR (some (.double (yDd (zRc (z 0 2)) (z 0 2 0 3))))) 0 0 (fun _ => False) := by
  refine zMet (by decide) (Nat.le_of_ble_eq_true rfl) ?_
  intro p e R s m args below meth c Q ls hR hargs hQ S hr hlk hP hZ hS hnm hl
  have hl : lv_has ls 1 [(0, .ref (o))] := hl
  obtain ⟨hRo, hL, hF, hN, hHi, hJ, hQ0, hSc, hLn⟩ := hP
  obtain ⟨hP0, hP1, hP2, hP3, hP4⟩ := id hL
  have hw8 := hv.1.1
  have hk40 := hv.2.1.1
  refine lv_aload_n S.1 S.2.1 dX11_meanRaised_0 rfl (lv_at hl 0 rfl) ?_
  refine z_get (v := .ref (o + 1)) S hZ.1 hRo 0 (by decide) rfl rfl rfl 0 (by decide) rfl k245 dX11_meanRaised_1 ?_
  refine z_get (v := .ref (o + 1 + 6)) S hZ.1 hP0 0 (by decide) rfl rfl rfl 1 (by decide) rfl k121 dX11_meanRaised_4 ?_
  refine z_get (v := .int (nI ((z 0 2) 0 3))) S hZ.1 hP2 0 (by decide) rfl rfl rfl 3 (by decide) rfl k89 dX11_meanRaised_7 ?_
  refine z_cS (v := none) (rest := []) (As := [.int (nI ((z 0 2) 0 3))]) S hZ hS (c_requireDivisor_t l g (z 0 2 0 3) h0 (by omega) (PH := fun _ => True)) ci_X11_requireDivisor cv_X11_requireDivisor k1140 ⟨rfl, rfl, by rw [hR]; decide, by rw [hR]; decide⟩ trivial hl.1 rfl (Nat.le_of_ble_eq_true rfl) dX11_meanRaised_10 ⟨by rw [hR]; decide, by rw [hR]; decide⟩ rfl ?_
  refine lv_aload_n S.1 S.2.1 dX11_meanRaised_13 rfl (lv_at hl 0 rfl) ?_
  refine z_get (v := .ref (o + 1)) S hZ.1 hRo 0 (by decide) rfl rfl rfl 0 (by decide) rfl k245 dX11_meanRaised_14 ?_
  refine z_get (v := .ref (o + 1 + 6)) S hZ.1 hP0 0 (by decide) rfl rfl rfl 1 (by decide) rfl k121 dX11_meanRaised_17 ?_
  refine z_cV (v := some (.int (nI (zRc (z 0 2))))) (rest := []) (As := []) S hZ hS (c_X1_countRaised l g (z 0 2) hv.2.1) ci_X1_countRaised cv_X1_countRaised k1146 ⟨rfl, rfl, by rw [hR]; decide, by rw [hR]; decide⟩ hP2 (hP2.recv hZ.1 0 (by decide) rfl rfl rfl) hl.1 rfl (Nat.le_of_ble_eq_true rfl) dX11_meanRaised_20 ⟨by rw [hR]; decide, by rw [hR]; decide⟩ rfl ?_
  refine lv_i2d S.1 S.2.1 dX11_meanRaised_23 ?_
  refine lv_aload_n S.1 S.2.1 dX11_meanRaised_24 rfl (lv_at hl 0 rfl) ?_
  refine z_get (v := .ref (o + 1)) S hZ.1 hRo 0 (by decide) rfl rfl rfl 0 (by decide) rfl k245 dX11_meanRaised_25 ?_
  refine z_get (v := .ref (o + 1 + 6)) S hZ.1 hP0 0 (by decide) rfl rfl rfl 1 (by decide) rfl k121 dX11_meanRaised_28 ?_
  refine z_get (v := .int (nI ((z 0 2) 0 3))) S hZ.1 hP2 0 (by decide) rfl rfl rfl 3 (by decide) rfl k89 dX11_meanRaised_31 ?_
  refine lv_i2d S.1 S.2.1 dX11_meanRaised_34 ?_
  refine lv_ddiv S.1 S.2.1 dX11_meanRaised_35 (vf64_of (yDd_n (zRc_640 hv.2.1) (by omega) (by omega))) ?_
  exact z_rd hQ S hr hlk rfl dX11_meanRaised_36
set_option maxRecDepth 20000 in
set_option maxHeartbeats 4000000 in
/-- knotShare -/
theorem c_knotShare (l : Launch) (g : ZG) {B : Nat} {o : Nat} (z : zSt) (hv : zOk (z 0)) (h0 : 1 ≤ z 0 2 0 3) : Met l yX11_knotShare (.code yX11_knotShare cX11_knotShare 1 (some .float) :: GW) { frames := 2, cells := 0, slots := 0, locals := 42 } (va_Pc [.ref o] (zPre g B (fun H => zSO g o z H))) (zR (some (.float (yFf (zKc (z 0 2)) (z 0 2 0 3 * 16))))) 0 0 (fun _ => False) := by
  refine zMet (by decide) (Nat.le_of_ble_eq_true rfl) ?_
  intro p e R s m args below meth c Q ls hR hargs hQ S hr hlk hP hZ hS hnm hl
  have hl : lv_has ls 1 [(0, .ref (o))] := hl
  obtain ⟨hRo, hL, hF, hN, hHi, hJ, hQ0, hSc, hLn⟩ := hP
  obtain ⟨hP0, hP1, hP2, hP3, hP4⟩ := id hL
  have hw8 := hv.1.1
  have hk40 := hv.2.1.1
  refine lv_aload_n S.1 S.2.1 dX11_knotShare_0 rfl (lv_at hl 0 rfl) ?_
  refine z_get (v := .ref (o + 1)) S hZ.1 hRo 0 (by decide) rfl rfl rfl 0 (by decide) rfl k245 dX11_knotShare_1 ?_
  refine z_get (v := .ref (o + 1 + 6)) S hZ.1 hP0 0 (by decide) rfl rfl rfl 1 (by decide) rfl k121 dX11_knotShare_4 ?_
  refine z_get (v := .int (nI ((z 0 2) 0 3))) S hZ.1 hP2 0 (by decide) rfl rfl rfl 3 (by decide) rfl k89 dX11_knotShare_7 ?_
  refine z_cS (v := none) (rest := []) (As := [.int (nI ((z 0 2) 0 3))]) S hZ hS (c_requireDivisor_t l g (z 0 2 0 3) h0 (by omega) (PH := fun _ => True)) ci_X11_requireDivisor cv_X11_requireDivisor k1140 ⟨rfl, rfl, by rw [hR]; decide, by rw [hR]; decide⟩ trivial hl.1 rfl (Nat.le_of_ble_eq_true rfl) dX11_knotShare_10 ⟨by rw [hR]; decide, by rw [hR]; decide⟩ rfl ?_
  refine lv_aload_n S.1 S.2.1 dX11_knotShare_13 rfl (lv_at hl 0 rfl) ?_
  refine z_get (v := .ref (o + 1)) S hZ.1 hRo 0 (by decide) rfl rfl rfl 0 (by decide) rfl k245 dX11_knotShare_14 ?_
  refine z_get (v := .ref (o + 1 + 6)) S hZ.1 hP0 0 (by decide) rfl rfl rfl 1 (by decide) rfl k121 dX11_knotShare_17 ?_
  refine z_cV (v := some (.int (nI (zKc (z 0 2))))) (rest := []) (As := []) S hZ hS (c_X1_countKnots l g (z 0 2) hv.2.1) ci_X1_countKnots cv_X1_countKnots k1093 ⟨rfl, rfl, by rw [hR]; decide, by rw [hR]; decide⟩ hP2 (hP2.recv hZ.1 0 (by decide) rfl rfl rfl) hl.1 rfl (Nat.le_of_ble_eq_true rfl) dX11_knotShare_20 ⟨by rw [hR]; decide, by rw [hR]; decide⟩ rfl ?_
  refine lv_i2f S.1 S.2.1 dX11_knotShare_23 ?_
  refine lv_aload_n S.1 S.2.1 dX11_knotShare_24 rfl (lv_at hl 0 rfl) ?_
  refine z_get (v := .ref (o + 1)) S hZ.1 hRo 0 (by decide) rfl rfl rfl 0 (by decide) rfl k245 dX11_knotShare_25 ?_
  refine z_get (v := .ref (o + 1 + 6)) S hZ.1 hP0 0 (by decide) rfl rfl rfl 1 (by decide) rfl k121 dX11_knotShare_28 ?_
  refine z_get (v := .int (nI ((z 0 2) 0 3))) S hZ.1 hP2 0 (by decide) rfl rfl rfl 3 (by decide) rfl k89 dX11_knotShare_31 ?_
  refine z_bi S (k := 16) dX11_knotShare_34 (by decide) ?_
  refine z_mul S dX11_knotShare_36 ?_
  refine lv_i2f S.1 S.2.1 dX11_knotShare_37 ?_
  refine lv_fdiv S.1 S.2.1 dX11_knotShare_38 (vf32_of (yFf_n (zKc_640 hv.2.1) (by omega) (by omega))) ?_
  exact z_rf hQ S hr hlk rfl dX11_knotShare_39
