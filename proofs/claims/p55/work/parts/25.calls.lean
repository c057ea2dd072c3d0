/-! READING CALLS that throw; undo, the snapshot, feed, writeRow -/
set_option maxRecDepth 20000 in
set_option maxHeartbeats 4000000 in
/-- X10_has(-1) -/
theorem c_X10_hasN (l : Launch) (g : ZG) {B : Nat} {o : Nat} (f : Nat → Nat → Nat) : Met l yX10_has (.code yX10_has cX10_has 2 (some .boolean) :: GW) { frames := 0, cells := 0, slots := 0, locals := 0 } (va_Pc [.ref o, .int (-1)] (zPre g B (fun H => zPm g o 5 TW f H))) (zR (some (.int (nI 0)))) 0 0 (fun _ => False) := by
  refine zMet (by decide) (Nat.le_of_ble_eq_true rfl) ?_
  intro p e R s m args below meth c Q ls hR hargs hQ S hr hlk hP hZ hS hnm hl
  have hl : lv_has ls 2 [(0, .ref (o)), (1, .int (-1))] := hl
  refine lv_iload_n S.1 S.2.1 dX10_has_0 rfl (lv_at hl 1 rfl) ?_
  refine lv_if_lt (tgt := 16) S.1 S.2.1 dX10_has_1 (by decide) (fun _ => ?_) (fun h6 => absurd (by decide : (-1 : Int32) < 0) h6)
  refine z_ic S (k := 0) dX10_has_16 (by decide) ?_
  exact z_ri hQ S hr hlk rfl rfl dX10_has_17
set_option maxRecDepth 20000 in
set_option maxHeartbeats 4000000 in
/-- X1_has(-1) -/
theorem c_X1_hasN (l : Launch) (g : ZG) {B : Nat} {o : Nat} (f : Nat → Nat → Nat) : Met l yX1_has (.code yX1_has cX1_has 2 (some .boolean) :: GW) { frames := 0, cells := 0, slots := 0, locals := 0 } (va_Pc [.ref o, .int (-1)] (zPre g B (fun H => zPm g o 4 TC f H))) (zR (some (.int (nI 0)))) 0 0 (fun _ => False) := by
  refine zMet (by decide) (Nat.le_of_ble_eq_true rfl) ?_
  intro p e R s m args below meth c Q ls hR hargs hQ S hr hlk hP hZ hS hnm hl
  have hl : lv_has ls 2 [(0, .ref (o)), (1, .int (-1))] := hl
  refine lv_iload_n S.1 S.2.1 dX1_has_0 rfl (lv_at hl 1 rfl) ?_
  refine lv_if_lt (tgt := 16) S.1 S.2.1 dX1_has_1 (by decide) (fun _ => ?_) (fun h6 => absurd (by decide : (-1 : Int32) < 0) h6)
  refine z_ic S (k := 0) dX1_has_16 (by decide) ?_
  exact z_ri hQ S hr hlk rfl rfl dX1_has_17
set_option maxRecDepth 20000 in
set_option maxHeartbeats 4000000 in
/-- wickByWax, it throws -/
theorem c_wickByWax_no (l : Launch) (hl0 : l.stackTraces = false) (g : ZG) {B : Nat} {o : Nat} (z : zSt) (hv : zOk (z 0)) (i : Nat) (hi : z 0 1 0 4 ≤ i) (hi2 : i < 2 ^ 31) : vx_Met l yX11_wickByWax (.code yX11_wickByWax cX11_wickByWax 2 (some .int) :: GW) { frames := 8, cells := 1, slots := 6, locals := 140 } (va_Pc [.ref o, .int (nI (i))] (zPre g B (fun H => zSO g o z H))) (fun _ _ _ _ => False) (zXT (fun E _ => E = "java/util/NoSuchElementException") B 0) 1 6 (zA B) := by
  refine zMetX (by decide) (Nat.le_of_ble_eq_true rfl) ?_
  intro p e R s m args below meth c Q ls hR hargs hQ S hr hlk hex hP hZ hS hl
  have hl : lv_has ls 2 [(0, .ref (o)), (1, .int (nI (i)))] := hl
  subst hQ
  obtain ⟨hRo, hL, hF, hN, hHi, hJ, hQ0, hSc, hLn⟩ := hP
  obtain ⟨hP0, hP1, hP2, hP3, hP4⟩ := id hL
  have hw8 := hv.1.1
  have hk40 := hv.2.1.1
  refine lv_aload_n S.1 S.2.1 dX11_wickByWax_0 rfl (lv_at hl 0 rfl) ?_
  refine z_get (v := .ref (o + 1)) S hZ.1 hRo 0 (by decide) rfl rfl rfl 0 (by decide) rfl k245 dX11_wickByWax_1 ?_
  refine z_get (v := .ref (o + 1 + 1)) S hZ.1 hP0 0 (by decide) rfl rfl rfl 0 (by decide) rfl k118 dX11_wickByWax_4 ?_
  refine lv_iload_n S.1 S.2.1 dX11_wickByWax_7 rfl (lv_at hl 1 rfl) ?_
  refine z_cV (v := some (.int (nI (decide (i < z 0 1 0 4)).toNat))) (rest := []) (As := [.int (nI (i))]) S hZ hS (c_X10_has l g (z 0 1) hv.1 i (by omega)) ci_X10_has cv_X10_has k972 ⟨rfl, rfl, by rw [hR]; decide, by rw [hR]; decide⟩ hP1 (hP1.recv hZ.1 0 (by decide) rfl rfl rfl) hl.1 rfl (Nat.le_of_ble_eq_true rfl) dX11_wickByWax_8 ⟨by rw [hR]; decide, by rw [hR]; decide⟩ rfl ?_
  refine z_xS (rest := []) (As := [.int (nI (decide (i < z 0 1 0 4)).toNat)]) S hZ hS (c_requireElement_f l hl0 g (B := B) (decide (i < z 0 1 0 4)) (decide_eq_false (by omega)) (PH := fun _ => True)) (Nat.le_refl B) ci_X11_requireElement cv_X11_requireElement k806 ⟨rfl, rfl, by rw [hR]; exact Nat.le_of_ble_eq_true rfl, by rw [hR]; exact Nat.le_of_ble_eq_true rfl⟩ trivial hl.1 rfl (Nat.le_of_ble_eq_true rfl) dX11_wickByWax_11 ⟨by rw [hR]; exact Nat.le_of_ble_eq_true rfl, by rw [hR]; exact Nat.le_of_ble_eq_true rfl⟩ (fun E ce q9 H1 locs1 hPx hCn hSn hce hcv hcl => ?_)
  exact z_xo hex hlk hce hcv hcl hSn hCn hPx (Nat.le_of_ble_eq_true rfl) (Nat.le_of_ble_eq_true rfl)
set_option maxRecDepth 20000 in
set_option maxHeartbeats 4000000 in
/-- wickByWax, it throws -/
theorem c_wickByWax_neg (l : Launch) (hl0 : l.stackTraces = false) (g : ZG) {B : Nat} {o : Nat} (z : zSt) (hv : zOk (z 0))  : vx_Met l yX11_wickByWax (.code yX11_wickByWax cX11_wickByWax 2 (some .int) :: GW) { frames := 8, cells := 1, slots := 6, locals := 140 } (va_Pc [.ref o, .int (-1)] (zPre g B (fun H => zSO g o z H))) (fun _ _ _ _ => False) (zXT (fun E _ => E = "java/util/NoSuchElementException") B 0) 1 6 (zA B) := by
  refine zMetX (by decide) (Nat.le_of_ble_eq_true rfl) ?_
  intro p e R s m args below meth c Q ls hR hargs hQ S hr hlk hex hP hZ hS hl
  have hl : lv_has ls 2 [(0, .ref (o)), (1, .int (-1))] := hl
  subst hQ
  obtain ⟨hRo, hL, hF, hN, hHi, hJ, hQ0, hSc, hLn⟩ := hP
  obtain ⟨hP0, hP1, hP2, hP3, hP4⟩ := id hL
  have hw8 := hv.1.1
  have hk40 := hv.2.1.1
  refine lv_aload_n S.1 S.2.1 dX11_wickByWax_0 rfl (lv_at hl 0 rfl) ?_
  refine z_get (v := .ref (o + 1)) S hZ.1 hRo 0 (by decide) rfl rfl rfl 0 (by decide) rfl k245 dX11_wickByWax_1 ?_
  refine z_get (v := .ref (o + 1 + 1)) S hZ.1 hP0 0 (by decide) rfl rfl rfl 0 (by decide) rfl k118 dX11_wickByWax_4 ?_
  refine lv_iload_n S.1 S.2.1 dX11_wickByWax_7 rfl (lv_at hl 1 rfl) ?_
  refine z_cV (v := some (.int (nI (0)))) (rest := []) (As := [.int (-1)]) S hZ hS (c_X10_hasN l g (z 0 1)) ci_X10_has cv_X10_has k972 ⟨rfl, rfl, by rw [hR]; decide, by rw [hR]; decide⟩ hP1 (hP1.recv hZ.1 0 (by decide) rfl rfl rfl) hl.1 rfl (Nat.le_of_ble_eq_true rfl) dX11_wickByWax_8 ⟨by rw [hR]; decide, by rw [hR]; decide⟩ rfl ?_
  refine z_xS (rest := []) (As := [.int (nI (0))]) S hZ hS (c_requireElement_f l hl0 g (B := B) false rfl (PH := fun _ => True)) (Nat.le_refl B) ci_X11_requireElement cv_X11_requireElement k806 ⟨rfl, rfl, by rw [hR]; exact Nat.le_of_ble_eq_true rfl, by rw [hR]; exact Nat.le_of_ble_eq_true rfl⟩ trivial hl.1 rfl (Nat.le_of_ble_eq_true rfl) dX11_wickByWax_11 ⟨by rw [hR]; exact Nat.le_of_ble_eq_true rfl, by rw [hR]; exact Nat.le_of_ble_eq_true rfl⟩ (fun E ce q9 H1 locs1 hPx hCn hSn hce hcv hcl => ?_)
  exact z_xo hex hlk hce hcv hcl hSn hCn hPx (Nat.le_of_ble_eq_true rfl) (Nat.le_of_ble_eq_true rfl)
set_option maxRecDepth 20000 in
set_option maxHeartbeats 4000000 in
/-- knottedRowFrom, it throws -/
theorem c_knottedRowFrom_out (l : Launch) (hl0 : l.stackTraces = false) (g : ZG) {B : Nat} {o : Nat} (z : zSt) (hv : zOk (z 0)) (a : Nat) (ha : z 0 2 0 3 ≤ a) (ha2 : a < 2 ^ 31) : vx_Met l yX11_knottedRowFrom (.code yX11_knottedRowFrom cX11_knottedRowFrom 3 (some .int) :: GW) { frames := 8, cells := 1, slots := 6, locals := 140 } (va_Pc [.ref o, .int (nI (a))] (zPre g B (fun H => zSO g o z H))) (fun _ _ _ _ => False) (zXT (fun E _ => E = "java/lang/IndexOutOfBoundsException") B 0) 1 6 (zA B) := by
  refine zMetX (by decide) (Nat.le_of_ble_eq_true rfl) ?_
  intro p e R s m args below meth c Q ls hR hargs hQ S hr hlk hex hP hZ hS hl
  have hl : lv_has ls 3 [(0, .ref (o)), (1, .int (nI (a)))] := hl
  subst hQ
  obtain ⟨hRo, hL, hF, hN, hHi, hJ, hQ0, hSc, hLn⟩ := hP
  obtain ⟨hP0, hP1, hP2, hP3, hP4⟩ := id hL
  have hw8 := hv.1.1
  have hk40 := hv.2.1.1
  refine lv_aload_n S.1 S.2.1 dX11_knottedRowFrom_0 rfl (lv_at hl 0 rfl) ?_
  refine z_get (v := .ref (o + 1)) S hZ.1 hRo 0 (by decide) rfl rfl rfl 0 (by decide) rfl k245 dX11_knottedRowFrom_1 ?_
  refine z_get (v := .ref (o + 1 + 6)) S hZ.1 hP0 0 (by decide) rfl rfl rfl 1 (by decide) rfl k121 dX11_knottedRowFrom_4 ?_
  refine lv_iload_n S.1 S.2.1 dX11_knottedRowFrom_7 rfl (lv_at hl 1 rfl) ?_
  refine z_cV (v := some (.int (nI (decide (a < z 0 2 0 3)).toNat))) (rest := []) (As := [.int (nI (a))]) S hZ hS (c_X1_has l g (z 0 2) hv.2.1 a (by omega)) ci_X1_has cv_X1_has k991 ⟨rfl, rfl, by rw [hR]; decide, by rw [hR]; decide⟩ hP2 (hP2.recv hZ.1 0 (by decide) rfl rfl rfl) hl.1 rfl (Nat.le_of_ble_eq_true rfl) dX11_knottedRowFrom_8 ⟨by rw [hR]; decide, by rw [hR]; decide⟩ rfl ?_
  refine z_xS (rest := []) (As := [.int (nI (decide (a < z 0 2 0 3)).toNat)]) S hZ hS (c_requireIndex_f l hl0 g (B := B) (decide (a < z 0 2 0 3)) (decide_eq_false (by omega)) (PH := fun _ => True)) (Nat.le_refl B) ci_X11_requireIndex cv_X11_requireIndex k500 ⟨rfl, rfl, by rw [hR]; exact Nat.le_of_ble_eq_true rfl, by rw [hR]; exact Nat.le_of_ble_eq_true rfl⟩ trivial hl.1 rfl (Nat.le_of_ble_eq_true rfl) dX11_knottedRowFrom_11 ⟨by rw [hR]; exact Nat.le_of_ble_eq_true rfl, by rw [hR]; exact Nat.le_of_ble_eq_true rfl⟩ (fun E ce q9 H1 locs1 hPx hCn hSn hce hcv hcl => ?_)
  exact z_xo hex hlk hce hcv hcl hSn hCn hPx (Nat.le_of_ble_eq_true rfl) (Nat.le_of_ble_eq_true rfl)
set_option maxRecDepth 20000 in
set_option maxHeartbeats 4000000 in
/-- knottedRowFrom, it throws -/
theorem c_knottedRowFrom_neg (l : Launch) (hl0 : l.stackTraces = false) (g : ZG) {B : Nat} {o : Nat} (z : zSt) (hv : zOk (z 0))  : vx_Met l yX11_knottedRowFrom (.code yX11_knottedRowFrom cX11_knottedRowFrom 3 (some .int) :: GW) { frames := 8, cells := 1, slots := 6, locals := 140 } (va_Pc [.ref o, .int (-1)] (zPre g B (fun H => zSO g o z H))) (fun _ _ _ _ => False) (zXT (fun E _ => E = "java/lang/IndexOutOfBoundsException") B 0) 1 6 (zA B) := by
  refine zMetX (by decide) (Nat.le_of_ble_eq_true rfl) ?_
  intro p e R s m args below meth c Q ls hR hargs hQ S hr hlk hex hP hZ hS hl
  have hl : lv_has ls 3 [(0, .ref (o)), (1, .int (-1))] := hl
  subst hQ
  obtain ⟨hRo, hL, hF, hN, hHi, hJ, hQ0, hSc, hLn⟩ := hP
  obtain ⟨hP0, hP1, hP2, hP3, hP4⟩ := id hL
  have hw8 := hv.1.1
  have hk40 := hv.2.1.1
  refine lv_aload_n S.1 S.2.1 dX11_knottedRowFrom_0 rfl (lv_at hl 0 rfl) ?_
  refine z_get (v := .ref (o + 1)) S hZ.1 hRo 0 (by decide) rfl rfl rfl 0 (by decide) rfl k245 dX11_knottedRowFrom_1 ?_
  refine z_get (v := .ref (o + 1 + 6)) S hZ.1 hP0 0 (by decide) rfl rfl rfl 1 (by decide) rfl k121 dX11_knottedRowFrom_4 ?_
  refine lv_iload_n S.1 S.2.1 dX11_knottedRowFrom_7 rfl (lv_at hl 1 rfl) ?_
  refine z_cV (v := some (.int (nI (0)))) (rest := []) (As := [.int (-1)]) S hZ hS (c_X1_hasN l g (z 0 2)) ci_X1_has cv_X1_has k991 ⟨rfl, rfl, by rw [hR]; decide, by rw [hR]; decide⟩ hP2 (hP2.recv hZ.1 0 (by decide) rfl rfl rfl) hl.1 rfl (Nat.le_of_ble_eq_true rfl) dX11_knottedRowFrom_8 ⟨by rw [hR]; decide, by rw [hR]; decide⟩ rfl ?_
  refine z_xS (rest := []) (As := [.int (nI (0))]) S hZ hS (c_requireIndex_f l hl0 g (B := B) false rfl (PH := fun _ => True)) (Nat.le_refl B) ci_X11_requireIndex cv_X11_requireIndex k500 ⟨rfl, rfl, by rw [hR]; exact Nat.le_of_ble_eq_true rfl, by rw [hR]; exact Nat.le_of_ble_eq_true rfl⟩ trivial hl.1 rfl (Nat.le_of_ble_eq_true rfl) dX11_knottedRowFrom_11 ⟨by rw [hR]; exact Nat.le_of_ble_eq_true rfl, by rw [hR]; exact Nat.le_of_ble_eq_true rfl⟩ (fun E ce q9 H1 locs1 hPx hCn hSn hce hcv hcl => ?_)
  exact z_xo hex hlk hce hcv hcl hSn hCn hPx (Nat.le_of_ble_eq_true rfl) (Nat.le_of_ble_eq_true rfl)
set_option maxRecDepth 20000 in
set_option maxHeartbeats 4000000 in
/-- knottedRowFrom, it throws -/
theorem c_knottedRowFrom_no (l : Launch) (hl0 : l.stackTraces = false) (g : ZG) {B : Nat} {o : Nat} (z : zSt) (hv : zOk (z 0)) (a : Nat) (ha : a < z 0 2 0 3) (hno : ∀ k, a ≤ k → k < z 0 2 0 3 → z 0 2 3 k = 0) : vx_Met l yX11_knottedRowFrom (.code yX11_knottedRowFrom cX11_knottedRowFrom 3 (some .int) :: GW) { frames := 8, cells := 1, slots := 6, locals := 140 } (va_Pc [.ref o, .int (nI (a))] (zPre g B (fun H => zSO g o z H))) (fun _ _ _ _ => False) (zXT (fun E _ => E = "java/util/NoSuchElementException") B 0) 1 6 (zA B) := by
  refine zMetX (by decide) (Nat.le_of_ble_eq_true rfl) ?_
  intro p e R s m args below meth c Q ls hR hargs hQ S hr hlk hex hP hZ hS hl
  have hl : lv_has ls 3 [(0, .ref (o)), (1, .int (nI (a)))] := hl
  subst hQ
  obtain ⟨hRo, hL, hF, hN, hHi, hJ, hQ0, hSc, hLn⟩ := hP
  obtain ⟨hP0, hP1, hP2, hP3, hP4⟩ := id hL
  have hw8 := hv.1.1
  have hk40 := hv.2.1.1
  refine lv_aload_n S.1 S.2.1 dX11_knottedRowFrom_0 rfl (lv_at hl 0 rfl) ?_
  refine z_get (v := .ref (o + 1)) S hZ.1 hRo 0 (by decide) rfl rfl rfl 0 (by decide) rfl k245 dX11_knottedRowFrom_1 ?_
  refine z_get (v := .ref (o + 1 + 6)) S hZ.1 hP0 0 (by decide) rfl rfl rfl 1 (by decide) rfl k121 dX11_knottedRowFrom_4 ?_
  refine lv_iload_n S.1 S.2.1 dX11_knottedRowFrom_7 rfl (lv_at hl 1 rfl) ?_
  refine z_cV (v := some (.int (nI (decide (a < z 0 2 0 3)).toNat))) (rest := []) (As := [.int (nI (a))]) S hZ hS (c_X1_has l g (z 0 2) hv.2.1 a (by omega)) ci_X1_has cv_X1_has k991 ⟨rfl, rfl, by rw [hR]; decide, by rw [hR]; decide⟩ hP2 (hP2.recv hZ.1 0 (by decide) rfl rfl rfl) hl.1 rfl (Nat.le_of_ble_eq_true rfl) dX11_knottedRowFrom_8 ⟨by rw [hR]; decide, by rw [hR]; decide⟩ rfl ?_
  refine z_cS (v := none) (rest := []) (As := [.int (nI (decide (a < z 0 2 0 3)).toNat)]) S hZ hS (c_requireIndex_t l g (decide (a < z 0 2 0 3)) (decide_eq_true ha) (PH := fun _ => True)) ci_X11_requireIndex cv_X11_requireIndex k500 ⟨rfl, rfl, by rw [hR]; decide, by rw [hR]; decide⟩ trivial hl.1 rfl (Nat.le_of_ble_eq_true rfl) dX11_knottedRowFrom_11 ⟨by rw [hR]; decide, by rw [hR]; decide⟩ rfl ?_
  refine lv_aload_n S.1 S.2.1 dX11_knottedRowFrom_14 rfl (lv_at hl 0 rfl) ?_
  refine z_get (v := .ref (o + 1)) S hZ.1 hRo 0 (by decide) rfl rfl rfl 0 (by decide) rfl k245 dX11_knottedRowFrom_15 ?_
  refine z_get (v := .ref (o + 1 + 6)) S hZ.1 hP0 0 (by decide) rfl rfl rfl 1 (by decide) rfl k121 dX11_knottedRowFrom_18 ?_
  refine lv_iload_n S.1 S.2.1 dX11_knottedRowFrom_21 rfl (lv_at hl 1 rfl) ?_
  refine z_cV (v := some (.int (-1))) (rest := []) (As := [.int (nI (a))]) S hZ hS (c_X1_firstKnottedRowN l g (z 0 2) hv.2.1 a (by omega) hno) ci_X1_firstKnottedRow cv_X1_firstKnottedRow k1232 ⟨rfl, rfl, by rw [hR]; decide, by rw [hR]; decide⟩ hP2 (hP2.recv hZ.1 0 (by decide) rfl rfl rfl) hl.1 rfl (Nat.le_of_ble_eq_true rfl) dX11_knottedRowFrom_22 ⟨by rw [hR]; decide, by rw [hR]; decide⟩ rfl ?_
  refine lv_istore_n (lv' := [(2, .int (-1)), (0, .ref (o)), (1, .int (nI (a)))]) S.1 S.2.1 dX11_knottedRowFrom_25 rfl hl (by decide) rfl (fun ls hl => ?_)
  refine lv_iload_n S.1 S.2.1 dX11_knottedRowFrom_26 rfl (lv_at hl 0 rfl) ?_
  refine lv_if_lt (tgt := 34) S.1 S.2.1 dX11_knottedRowFrom_27 (by decide) (fun _ => ?_) (fun h6 => absurd (by decide : (-1 : Int32) < 0) h6)
  refine z_ic S (k := 0) dX11_knottedRowFrom_34 (by decide) ?_
  refine z_xS (rest := []) (As := [.int (nI (0))]) S hZ hS (c_requireElement_f l hl0 g (B := B) false rfl (PH := fun _ => True)) (Nat.le_refl B) ci_X11_requireElement cv_X11_requireElement k806 ⟨rfl, rfl, by rw [hR]; exact Nat.le_of_ble_eq_true rfl, by rw [hR]; exact Nat.le_of_ble_eq_true rfl⟩ trivial hl.1 rfl (Nat.le_of_ble_eq_true rfl) dX11_knottedRowFrom_35 ⟨by rw [hR]; exact Nat.le_of_ble_eq_true rfl, by rw [hR]; exact Nat.le_of_ble_eq_true rfl⟩ (fun E ce q9 H1 locs1 hPx hCn hSn hce hcv hcl => ?_)
  exact z_xo hex hlk hce hcv hcl hSn hCn hPx (Nat.le_of_ble_eq_true rfl) (Nat.le_of_ble_eq_true rfl)
set_option maxRecDepth 20000 in
set_option maxHeartbeats 4000000 in
/-- nextKnotRow, it throws -/
theorem c_nextKnotRow_out (l : Launch) (hl0 : l.stackTraces = false) (g : ZG) {B : Nat} {o : Nat} (z : zSt) (hv : zOk (z 0)) (a : Nat) (ha : z 0 2 0 3 ≤ a) (ha2 : a < 2 ^ 31) : vx_Met l yX11_nextKnotRow (.code yX11_nextKnotRow cX11_nextKnotRow 2 (some .int) :: GW) { frames := 9, cells := 1, slots := 6, locals := 165 } (va_Pc [.ref o, .int (nI (a))] (zPre g B (fun H => zSO g o z H))) (fun _ _ _ _ => False) (zXT (fun E _ => E = "java/lang/IndexOutOfBoundsException") B 0) 1 6 (zA B) := by
  refine zMetX (by decide) (Nat.le_of_ble_eq_true rfl) ?_
  intro p e R s m args below meth c Q ls hR hargs hQ S hr hlk hex hP hZ hS hl
  have hl : lv_has ls 2 [(0, .ref (o)), (1, .int (nI (a)))] := hl
  subst hQ
  obtain ⟨hRo, hL, hF, hN, hHi, hJ, hQ0, hSc, hLn⟩ := hP
  obtain ⟨hP0, hP1, hP2, hP3, hP4⟩ := id hL
  have hw8 := hv.1.1
  have hk40 := hv.2.1.1
  refine lv_aload_n S.1 S.2.1 dX11_nextKnotRow_0 rfl (lv_at hl 0 rfl) ?_
  refine lv_iload_n S.1 S.2.1 dX11_nextKnotRow_1 rfl (lv_at hl 1 rfl) ?_
  refine z_xV (rest := []) (As := [.int (nI (a))]) S hZ hS (c_knottedRowFrom_out l hl0 g z hv a ha ha2) (Nat.le_refl B) ci_X11_knottedRowFrom cv_X11_knottedRowFrom k1228 ⟨rfl, rfl, by rw [hR]; exact Nat.le_of_ble_eq_true rfl, by rw [hR]; exact Nat.le_of_ble_eq_true rfl⟩ ⟨hRo, hL, hF, hN, hHi, hJ, hQ0, hSc, hLn⟩ (hRo.recv hZ.1 0 (by decide) rfl rfl rfl) hl.1 rfl (Nat.le_of_ble_eq_true rfl) dX11_nextKnotRow_2 ⟨by rw [hR]; exact Nat.le_of_ble_eq_true rfl, by rw [hR]; exact Nat.le_of_ble_eq_true rfl⟩ (fun E ce q9 H1 locs1 hPx hCn hSn hce hcv hcl => ?_)
  exact z_xo hex hlk hce hcv hcl hSn hCn hPx (Nat.le_of_ble_eq_true rfl) (Nat.le_of_ble_eq_true rfl)
set_option maxRecDepth 20000 in
set_option maxHeartbeats 4000000 in
/-- nextKnotRow, it throws -/
theorem c_nextKnotRow_neg (l : Launch) (hl0 : l.stackTraces = false) (g : ZG) {B : Nat} {o : Nat} (z : zSt) (hv : zOk (z 0))  : vx_Met l yX11_nextKnotRow (.code yX11_nextKnotRow cX11_nextKnotRow 2 (some .int) :: GW) { frames := 9, cells := 1, slots := 6, locals := 165 } (va_Pc [.ref o, .int (-1)] (zPre g B (fun H => zSO g o z H))) (fun _ _ _ _ => False) (zXT (fun E _ => E = "java/lang/IndexOutOfBoundsException") B 0) 1 6 (zA B) := by
  refine zMetX (by decide) (Nat.le_of_ble_eq_true rfl) ?_
  intro p e R s m args below meth c Q ls hR hargs hQ S hr hlk hex hP hZ hS hl
  have hl : lv_has ls 2 [(0, .ref (o)), (1, .int (-1))] := hl
  subst hQ
  obtain ⟨hRo, hL, hF, hN, hHi, hJ, hQ0, hSc, hLn⟩ := hP
  obtain ⟨hP0, hP1, hP2, hP3, hP4⟩ := id hL
  have hw8 := hv.1.1
  have hk40 := hv.2.1.1
  refine lv_aload_n S.1 S.2.1 dX11_nextKnotRow_0 rfl (lv_at hl 0 rfl) ?_
  refine lv_iload_n S.1 S.2.1 dX11_nextKnotRow_1 rfl (lv_at hl 1 rfl) ?_
  refine z_xV (rest := []) (As := [.int (-1)]) S hZ hS (c_knottedRowFrom_neg l hl0 g z hv) (Nat.le_refl B) ci_X11_knottedRowFrom cv_X11_knottedRowFrom k1228 ⟨rfl, rfl, by rw [hR]; exact Nat.le_of_ble_eq_true rfl, by rw [hR]; exact Nat.le_of_ble_eq_true rfl⟩ ⟨hRo, hL, hF, hN, hHi, hJ, hQ0, hSc, hLn⟩ (hRo.recv hZ.1 0 (by decide) rfl rfl rfl) hl.1 rfl (Nat.le_of_ble_eq_true rfl) dX11_nextKnotRow_2 ⟨by rw [hR]; exact Nat.le_of_ble_eq_true rfl, by rw [hR]; exact Nat.le_of_ble_eq_true rfl⟩ (fun E ce q9 H1 locs1 hPx hCn hSn hce hcv hcl => ?_)
  exact z_xo hex hlk hce hcv hcl hSn hCn hPx (Nat.le_of_ble_eq_true rfl) (Nat.le_of_ble_eq_true rfl)
set_option maxRecDepth 20000 in
set_option maxHeartbeats 4000000 in
/-- nextKnotRow, it throws -/
theorem c_nextKnotRow_no (l : Launch) (hl0 : l.stackTraces = false) (g : ZG) {B : Nat} {o : Nat} (z : zSt) (hv : zOk (z 0)) (a : Nat) (ha : a < z 0 2 0 3) (hno : ∀ k, a ≤ k → k < z 0 2 0 3 → z 0 2 3 k = 0) : vx_Met l yX11_nextKnotRow (.code yX11_nextKnotRow cX11_nextKnotRow 2 (some .int) :: GW) { frames := 9, cells := 1, slots := 6, locals := 165 } (va_Pc [.ref o, .int (nI (a))] (zPre g B (fun H => zSO g o z H))) (fun _ _ _ _ => False) (zXT (fun E _ => E = "java/util/NoSuchElementException") B 0) 1 6 (zA B) := by
  refine zMetX (by decide) (Nat.le_of_ble_eq_true rfl) ?_
  intro p e R s m args below meth c Q ls hR hargs hQ S hr hlk hex hP hZ hS hl
  have hl : lv_has ls 2 [(0, .ref (o)), (1, .int (nI (a)))] := hl
  subst hQ
  obtain ⟨hRo, hL, hF, hN, hHi, hJ, hQ0, hSc, hLn⟩ := hP
  obtain ⟨hP0, hP1, hP2, hP3, hP4⟩ := id hL
  have hw8 := hv.1.1
  have hk40 := hv.2.1.1
  refine lv_aload_n S.1 S.2.1 dX11_nextKnotRow_0 rfl (lv_at hl 0 rfl) ?_
  refine lv_iload_n S.1 S.2.1 dX11_nextKnotRow_1 rfl (lv_at hl 1 rfl) ?_
  refine z_xV (rest := []) (As := [.int (nI (a))]) S hZ hS (c_knottedRowFrom_no l hl0 g z hv a ha hno) (Nat.le_refl B) ci_X11_knottedRowFrom cv_X11_knottedRowFrom k1228 ⟨rfl, rfl, by rw [hR]; exact Nat.le_of_ble_eq_true rfl, by rw [hR]; exact Nat.le_of_ble_eq_true rfl⟩ ⟨hRo, hL, hF, hN, hHi, hJ, hQ0, hSc, hLn⟩ (hRo.recv hZ.1 0 (by decide) rfl rfl rfl) hl.1 rfl (Nat.le_of_ble_eq_true rfl) dX11_nextKnotRow_2 ⟨by rw [hR]; exact Nat.le_of_ble_eq_true rfl, by rw [hR]; exact Nat.le_of_ble_eq_true rfl⟩ (fun E ce q9 H1 locs1 hPx hCn hSn hce hcv hcl => ?_)
  exact z_xo hex hlk hce hcv hcl hSn hCn hPx (Nat.le_of_ble_eq_true rfl) (Nat.le_of_ble_eq_true rfl)
set_option maxRecDepth 20000 in
set_option maxHeartbeats 4000000 in
/-- nextKnotColumn, it throws -/
theorem c_nextKnotColumn_out (l : Launch) (hl0 : l.stackTraces = false) (g : ZG) {B : Nat} {o : Nat} (z : zSt) (hv : zOk (z 0)) (a : Nat) (ha : z 0 2 0 3 ≤ a) (ha2 : a < 2 ^ 31) : vx_Met l yX11_nextKnotColumn (.code yX11_nextKnotColumn cX11_nextKnotColumn 2 (some .int) :: GW) { frames := 9, cells := 1, slots := 6, locals := 165 } (va_Pc [.ref o, .int (nI (a))] (zPre g B (fun H => zSO g o z H))) (fun _ _ _ _ => False) (zXT (fun E _ => E = "java/lang/IndexOutOfBoundsException") B 0) 1 6 (zA B) := by
  refine zMetX (by decide) (Nat.le_of_ble_eq_true rfl) ?_
  intro p e R s m args below meth c Q ls hR hargs hQ S hr hlk hex hP hZ hS hl
  have hl : lv_has ls 2 [(0, .ref (o)), (1, .int (nI (a)))] := hl
  subst hQ
  obtain ⟨hRo, hL, hF, hN, hHi, hJ, hQ0, hSc, hLn⟩ := hP
  obtain ⟨hP0, hP1, hP2, hP3, hP4⟩ := id hL
  have hw8 := hv.1.1
  have hk40 := hv.2.1.1
  refine lv_aload_n S.1 S.2.1 dX11_nextKnotColumn_0 rfl (lv_at hl 0 rfl) ?_
  refine z_get (v := .ref (o + 1)) S hZ.1 hRo 0 (by decide) rfl rfl rfl 0 (by decide) rfl k245 dX11_nextKnotColumn_1 ?_
  refine z_get (v := .ref (o + 1 + 6)) S hZ.1 hP0 0 (by decide) rfl rfl rfl 1 (by decide) rfl k121 dX11_nextKnotColumn_4 ?_
  refine lv_aload_n S.1 S.2.1 dX11_nextKnotColumn_7 rfl (lv_at hl 0 rfl) ?_
  refine lv_iload_n S.1 S.2.1 dX11_nextKnotColumn_8 rfl (lv_at hl 1 rfl) ?_
  refine z_xV (rest := [.ref (o + 1 + 6)]) (As := [.int (nI (a))]) S hZ hS (c_knottedRowFrom_out l hl0 g z hv a ha ha2) (Nat.le_refl B) ci_X11_knottedRowFrom cv_X11_knottedRowFrom k1228 ⟨rfl, rfl, by rw [hR]; exact Nat.le_of_ble_eq_true rfl, by rw [hR]; exact Nat.le_of_ble_eq_true rfl⟩ ⟨hRo, hL, hF, hN, hHi, hJ, hQ0, hSc, hLn⟩ (hRo.recv hZ.1 0 (by decide) rfl rfl rfl) hl.1 rfl (Nat.le_of_ble_eq_true rfl) dX11_nextKnotColumn_9 ⟨by rw [hR]; exact Nat.le_of_ble_eq_true rfl, by rw [hR]; exact Nat.le_of_ble_eq_true rfl⟩ (fun E ce q9 H1 locs1 hPx hCn hSn hce hcv hcl => ?_)
  exact z_xo hex hlk hce hcv hcl hSn hCn hPx (Nat.le_of_ble_eq_true rfl) (Nat.le_of_ble_eq_true rfl)
set_option maxRecDepth 20000 in
set_option maxHeartbeats 4000000 in
/-- nextKnotColumn, it throws -/
theorem c_nextKnotColumn_neg (l : Launch) (hl0 : l.stackTraces = false) (g : ZG) {B : Nat} {o : Nat} (z : zSt) (hv : zOk (z 0))  : vx_Met l yX11_nextKnotColumn (.code yX11_nextKnotColumn cX11_nextKnotColumn 2 (some .int) :: GW) { frames := 9, cells := 1, slots := 6, locals := 165 } (va_Pc [.ref o, .int (-1)] (zPre g B (fun H => zSO g o z H))) (fun _ _ _ _ => False) (zXT (fun E _ => E = "java/lang/IndexOutOfBoundsException") B 0) 1 6 (zA B) := by
  refine zMetX (by decide) (Nat.le_of_ble_eq_true rfl) ?_
  intro p e R s m args below meth c Q ls hR hargs hQ S hr hlk hex hP hZ hS hl
  have hl : lv_has ls 2 [(0, .ref (o)), (1, .int (-1))] := hl
  subst hQ
  obtain ⟨hRo, hL, hF, hN, hHi, hJ, hQ0, hSc, hLn⟩ := hP
  obtain ⟨hP0, hP1, hP2, hP3, hP4⟩ := id hL
  have hw8 := hv.1.1
  have hk40 := hv.2.1.1
  refine lv_aload_n S.1 S.2.1 dX11_nextKnotColumn_0 rfl (lv_at hl 0 rfl) ?_
  refine z_get (v := .ref (o + 1)) S hZ.1 hRo 0 (by decide) rfl rfl rfl 0 (by decide) rfl k245 dX11_nextKnotColumn_1 ?_
  refine z_get (v := .ref (o + 1 + 6)) S hZ.1 hP0 0 (by decide) rfl rfl rfl 1 (by decide) rfl k121 dX11_nextKnotColumn_4 ?_
  refine lv_aload_n S.1 S.2.1 dX11_nextKnotColumn_7 rfl (lv_at hl 0 rfl) ?_
  refine lv_iload_n S.1 S.2.1 dX11_nextKnotColumn_8 rfl (lv_at hl 1 rfl) ?_
  refine z_xV (rest := [.ref (o + 1 + 6)]) (As := [.int (-1)]) S hZ hS (c_knottedRowFrom_neg l hl0 g z hv) (Nat.le_refl B) ci_X11_knottedRowFrom cv_X11_knottedRowFrom k1228 ⟨rfl, rfl, by rw [hR]; exact Nat.le_of_ble_eq_true rfl, by rw [hR]; exact Nat.le_of_ble_eq_true rfl⟩ ⟨hRo, hL, hF, hN, hHi, hJ, hQ0, hSc, hLn⟩ (hRo.recv hZ.1 0 (by decide) rfl rfl rfl) hl.1 rfl (Nat.le_of_ble_eq_true rfl) dX11_nextKnotColumn_9 ⟨by rw [hR]; exact Nat.le_of_ble_eq_true rfl, by rw [hR]; exact Nat.le_of_ble_eq_true rfl⟩ (fun E ce q9 H1 locs1 hPx hCn hSn hce hcv hcl => ?_)
  exact z_xo hex hlk hce hcv hcl hSn hCn hPx (Nat.le_of_ble_eq_true rfl) (Nat.le_of_ble_eq_true rfl)
set_option maxRecDepth 20000 in
set_option maxHeartbeats 4000000 in
/-- nextKnotColumn, it throws -/
theorem c_nextKnotColumn_no (l : Launch) (hl0 : l.stackTraces = false) (g : ZG) {B : Nat} {o : Nat} (z : zSt) (hv : zOk (z 0)) (a : Nat) (ha : a < z 0 2 0 3) (hno : ∀ k, a ≤ k → k < z 0 2 0 3 → z 0 2 3 k = 0) : vx_Met l yX11_nextKnotColumn (.code yX11_nextKnotColumn cX11_nextKnotColumn 2 (some .int) :: GW) { frames := 9, cells := 1, slots := 6, locals := 165 } (va_Pc [.ref o, .int (nI (a))] (zPre g B (fun H => zSO g o z H))) (fun _ _ _ _ => False) (zXT (fun E _ => E = "java/util/NoSuchElementException") B 0) 1 6 (zA B) := by
  refine zMetX (by decide) (Nat.le_of_ble_eq_true rfl) ?_
  intro p e R s m args below meth c Q ls hR hargs hQ S hr hlk hex hP hZ hS hl
  have hl : lv_has ls 2 [(0, .ref (o)), (1, .int (nI (a)))] := hl
  subst hQ
  obtain ⟨hRo, hL, hF, hN, hHi, hJ, hQ0, hSc, hLn⟩ := hP
  obtain ⟨hP0, hP1, hP2, hP3, hP4⟩ := id hL
  have hw8 := hv.1.1
  have hk40 := hv.2.1.1
  refine lv_aload_n S.1 S.2.1 dX11_nextKnotColumn_0 rfl (lv_at hl 0 rfl) ?_
  refine z_get (v := .ref (o + 1)) S hZ.1 hRo 0 (by decide) rfl rfl rfl 0 (by decide) rfl k245 dX11_nextKnotColumn_1 ?_
  refine z_get (v := .ref (o + 1 + 6)) S hZ.1 hP0 0 (by decide) rfl rfl rfl 1 (by decide) rfl k121 dX11_nextKnotColumn_4 ?_
  refine lv_aload_n S.1 S.2.1 dX11_nextKnotColumn_7 rfl (lv_at hl 0 rfl) ?_
  refine lv_iload_n S.1 S.2.1 dX11_nextKnotColumn_8 rfl (lv_at hl 1 rfl) ?_
  refine z_xV (rest := [.ref (o + 1 + 6)]) (As := [.int (nI (a))]) S hZ hS (c_knottedRowFrom_no l hl0 g z hv a ha hno) (Nat.le_refl B) ci_X11_knottedRowFrom cv_X11_knottedRowFrom k1228 ⟨rfl, rfl, by rw [hR]; exact Nat.le_of_ble_eq_true rfl, by rw [hR]; exact Nat.le_of_ble_eq_true rfl⟩ ⟨hRo, hL, hF, hN, hHi, hJ, hQ0, hSc, hLn⟩ (hRo.recv hZ.1 0 (by decide) rfl rfl rfl) hl.1 rfl (Nat.le_of_ble_eq_true rfl) dX11_nextKnotColumn_9 ⟨by rw [hR]; exact Nat.le_of_ble_eq_true rfl, by rw [hR]; exact Nat.le_of_ble_eq_true rfl⟩ (fun E ce q9 H1 locs1 hPx hCn hSn hce hcv hcl => ?_)
  exact z_xo hex hlk hce hcv hcl hSn hCn hPx (Nat.le_of_ble_eq_true rfl) (Nat.le_of_ble_eq_true rfl)
set_option maxRecDepth 20000 in
set_option maxHeartbeats 4000000 in
/-- period, it throws -/
theorem c_period_no (l : Launch) (hl0 : l.stackTraces = false) (g : ZG) {B : Nat} {o : Nat} (z : zSt) (hv : zOk (z 0)) (h0 : z 0 2 0 3 = 0) : vx_Met l yX11_period (.code yX11_period cX11_period 2 (some .int) :: GW) { frames := 8, cells := 1, slots := 6, locals := 140 } (va_Pc [.ref o] (zPre g B (fun H => zSO g o z H))) (fun _ _ _ _ => False) (zXT (fun E _ => E = "java/util/NoSuchElementException") B 0) 1 6 (zA B) := by
  refine zMetX (by decide) (Nat.le_of_ble_eq_true rfl) ?_
  intro p e R s m args below meth c Q ls hR hargs hQ S hr hlk hex hP hZ hS hl
  have hl : lv_has ls 2 [(0, .ref (o))] := hl
  subst hQ
  obtain ⟨hRo, hL, hF, hN, hHi, hJ, hQ0, hSc, hLn⟩ := hP
  obtain ⟨hP0, hP1, hP2, hP3, hP4⟩ := id hL
  have hw8 := hv.1.1
  have hk40 := hv.2.1.1
  refine lv_aload_n S.1 S.2.1 dX11_period_0 rfl (lv_at hl 0 rfl) ?_
  refine z_get (v := .ref (o + 1)) S hZ.1 hRo 0 (by decide) rfl rfl rfl 0 (by decide) rfl k245 dX11_period_1 ?_
  refine z_get (v := .ref (o + 1 + 6)) S hZ.1 hP0 0 (by decide) rfl rfl rfl 1 (by decide) rfl k121 dX11_period_4 ?_
  refine z_get (v := .int (nI ((z 0 2) 0 3))) S hZ.1 hP2 0 (by decide) rfl rfl rfl 3 (by decide) rfl k89 dX11_period_7 ?_
  refine z_ile (tgt := 17) S (by omega) dX11_period_10 (by decide) (fun h7 => ?_) (fun h7 => ?_)
  · refine z_ic S (k := 0) dX11_period_17 (by decide) ?_
    refine z_xS (rest := []) (As := [.int (nI (0))]) S hZ hS (c_requireElement_f l hl0 g (B := B) false rfl (PH := fun _ => True)) (Nat.le_refl B) ci_X11_requireElement cv_X11_requireElement k806 ⟨rfl, rfl, by rw [hR]; exact Nat.le_of_ble_eq_true rfl, by rw [hR]; exact Nat.le_of_ble_eq_true rfl⟩ trivial hl.1 rfl (Nat.le_of_ble_eq_true rfl) dX11_period_18 ⟨by rw [hR]; exact Nat.le_of_ble_eq_true rfl, by rw [hR]; exact Nat.le_of_ble_eq_true rfl⟩ (fun E ce q9 H1 locs1 hPx hCn hSn hce hcv hcl => ?_)
    exact z_xo hex hlk hce hcv hcl hSn hCn hPx (Nat.le_of_ble_eq_true rfl) (Nat.le_of_ble_eq_true rfl)
  · exact absurd h7 (by omega)
set_option maxRecDepth 20000 in
set_option maxHeartbeats 4000000 in
/-- periodByBorders, it throws -/
theorem c_periodByBorders_no (l : Launch) (hl0 : l.stackTraces = false) (g : ZG) {B : Nat} {o : Nat} (z : zSt) (hv : zOk (z 0)) (h0 : z 0 2 0 3 = 0) : vx_Met l yX11_periodByBorders (.code yX11_periodByBorders cX11_periodByBorders 1 (some .int) :: GW) { frames := 8, cells := 1, slots := 6, locals := 140 } (va_Pc [.ref o] (zPre g B (fun H => zSO g o z H))) (fun _ _ _ _ => False) (zXT (fun E _ => E = "java/util/NoSuchElementException") B 0) 1 6 (zA B) := by
  refine zMetX (by decide) (Nat.le_of_ble_eq_true rfl) ?_
  intro p e R s m args below meth c Q ls hR hargs hQ S hr hlk hex hP hZ hS hl
  have hl : lv_has ls 1 [(0, .ref (o))] := hl
  subst hQ
  obtain ⟨hRo, hL, hF, hN, hHi, hJ, hQ0, hSc, hLn⟩ := hP
  obtain ⟨hP0, hP1, hP2, hP3, hP4⟩ := id hL
  have hw8 := hv.1.1
  have hk40 := hv.2.1.1
  refine lv_aload_n S.1 S.2.1 dX11_periodByBorders_0 rfl (lv_at hl 0 rfl) ?_
  refine z_get (v := .ref (o + 1)) S hZ.1 hRo 0 (by decide) rfl rfl rfl 0 (by decide) rfl k245 dX11_periodByBorders_1 ?_
  refine z_get (v := .ref (o + 1 + 6)) S hZ.1 hP0 0 (by decide) rfl rfl rfl 1 (by decide) rfl k121 dX11_periodByBorders_4 ?_
  refine z_get (v := .int (nI ((z 0 2) 0 3))) S hZ.1 hP2 0 (by decide) rfl rfl rfl 3 (by decide) rfl k89 dX11_periodByBorders_7 ?_
  refine z_ile (tgt := 17) S (by omega) dX11_periodByBorders_10 (by decide) (fun h7 => ?_) (fun h7 => ?_)
  · refine z_ic S (k := 0) dX11_periodByBorders_17 (by decide) ?_
    refine z_xS (rest := []) (As := [.int (nI (0))]) S hZ hS (c_requireElement_f l hl0 g (B := B) false rfl (PH := fun _ => True)) (Nat.le_refl B) ci_X11_requireElement cv_X11_requireElement k806 ⟨rfl, rfl, by rw [hR]; exact Nat.le_of_ble_eq_true rfl, by rw [hR]; exact Nat.le_of_ble_eq_true rfl⟩ trivial hl.1 rfl (Nat.le_of_ble_eq_true rfl) dX11_periodByBorders_18 ⟨by rw [hR]; exact Nat.le_of_ble_eq_true rfl, by rw [hR]; exact Nat.le_of_ble_eq_true rfl⟩ (fun E ce q9 H1 locs1 hPx hCn hSn hce hcv hcl => ?_)
    exact z_xo hex hlk hce hcv hcl hSn hCn hPx (Nat.le_of_ble_eq_true rfl) (Nat.le_of_ble_eq_true rfl)
  · exact absurd h7 (by omega)
set_option maxRecDepth 20000 in
set_option maxHeartbeats 4000000 in
/-- occurrences, it throws -/
theorem c_occurrences_0 (l : Launch) (hl0 : l.stackTraces = false) (g : ZG) {B : Nat} {o : Nat} (z : zSt) (hv : zOk (z 0))  : vx_Met l yX11_occurrences (.code yX11_occurrences cX11_occurrences 2 (some .int) :: GW) { frames := 8, cells := 1, slots := 6, locals := 140 } (va_Pc [.ref o, .int (nI (0))] (zPre g B (fun H => zSO g o z H))) (fun _ _ _ _ => False) (zXT (fun E _ => E = "java/lang/IllegalArgumentException") B 0) 1 6 (zA B) := by
  refine zMetX (by decide) (Nat.le_of_ble_eq_true rfl) ?_
  intro p e R s m args below meth c Q ls hR hargs hQ S hr hlk hex hP hZ hS hl
  have hl : lv_has ls 2 [(0, .ref (o)), (1, .int (nI (0)))] := hl
  subst hQ
  obtain ⟨hRo, hL, hF, hN, hHi, hJ, hQ0, hSc, hLn⟩ := hP
  obtain ⟨hP0, hP1, hP2, hP3, hP4⟩ := id hL
  have hw8 := hv.1.1
  have hk40 := hv.2.1.1
  refine lv_iload_n S.1 S.2.1 dX11_occurrences_0 rfl (lv_at hl 1 rfl) ?_
  refine z_ic S (k := 1) dX11_occurrences_1 (by decide) ?_
  refine z_clt (tgt := 23) S (by omega) (by omega) dX11_occurrences_2 (by decide) (fun h7 => ?_) (fun h7 => ?_)
  · refine z_ic S (k := 0) dX11_occurrences_23 (by decide) ?_
    refine z_xS (rest := []) (As := [.int (nI (0))]) S hZ hS (c_requireRange_f l hl0 g (B := B) false rfl (PH := fun _ => True)) (Nat.le_refl B) ci_X11_requireRange cv_X11_requireRange k425 ⟨rfl, rfl, by rw [hR]; exact Nat.le_of_ble_eq_true rfl, by rw [hR]; exact Nat.le_of_ble_eq_true rfl⟩ trivial hl.1 rfl (Nat.le_of_ble_eq_true rfl) dX11_occurrences_24 ⟨by rw [hR]; exact Nat.le_of_ble_eq_true rfl, by rw [hR]; exact Nat.le_of_ble_eq_true rfl⟩ (fun E ce q9 H1 locs1 hPx hCn hSn hce hcv hcl => ?_)
    exact z_xo hex hlk hce hcv hcl hSn hCn hPx (Nat.le_of_ble_eq_true rfl) (Nat.le_of_ble_eq_true rfl)
  · exact absurd h7 (by omega)
set_option maxRecDepth 20000 in
set_option maxHeartbeats 4000000 in
/-- occurrences, it throws -/
theorem c_occurrences_no (l : Launch) (hl0 : l.stackTraces = false) (g : ZG) {B : Nat} {o : Nat} (z : zSt) (hv : zOk (z 0)) (i : Nat) (h1i : 1 ≤ i) (hi : z 0 2 0 3 < i) (hi2 : i < 2 ^ 31) : vx_Met l yX11_occurrences (.code yX11_occurrences cX11_occurrences 2 (some .int) :: GW) { frames := 8, cells := 1, slots := 6, locals := 140 } (va_Pc [.ref o, .int (nI (i))] (zPre g B (fun H => zSO g o z H))) (fun _ _ _ _ => False) (zXT (fun E _ => E = "java/lang/IllegalArgumentException") B 0) 1 6 (zA B) := by
  refine zMetX (by decide) (Nat.le_of_ble_eq_true rfl) ?_
  intro p e R s m args below meth c Q ls hR hargs hQ S hr hlk hex hP hZ hS hl
  have hl : lv_has ls 2 [(0, .ref (o)), (1, .int (nI (i)))] := hl
  subst hQ
  obtain ⟨hRo, hL, hF, hN, hHi, hJ, hQ0, hSc, hLn⟩ := hP
  obtain ⟨hP0, hP1, hP2, hP3, hP4⟩ := id hL
  have hw8 := hv.1.1
  have hk40 := hv.2.1.1
  refine lv_iload_n S.1 S.2.1 dX11_occurrences_0 rfl (lv_at hl 1 rfl) ?_
  refine z_ic S (k := 1) dX11_occurrences_1 (by decide) ?_
  refine z_clt (tgt := 23) S (by omega) (by omega) dX11_occurrences_2 (by decide) (fun h7 => ?_) (fun h7 => ?_)
  · exact absurd h7 (by omega)
  · refine lv_iload_n S.1 S.2.1 dX11_occurrences_5 rfl (lv_at hl 1 rfl) ?_
    refine lv_aload_n S.1 S.2.1 dX11_occurrences_6 rfl (lv_at hl 0 rfl) ?_
    refine z_get (v := .ref (o + 1)) S hZ.1 hRo 0 (by decide) rfl rfl rfl 0 (by decide) rfl k245 dX11_occurrences_7 ?_
    refine z_get (v := .ref (o + 1 + 6)) S hZ.1 hP0 0 (by decide) rfl rfl rfl 1 (by decide) rfl k121 dX11_occurrences_10 ?_
    refine z_get (v := .int (nI ((z 0 2) 0 3))) S hZ.1 hP2 0 (by decide) rfl rfl rfl 3 (by decide) rfl k89 dX11_occurrences_13 ?_
    refine z_cgt (tgt := 23) S (by omega) (by omega) dX11_occurrences_16 (by decide) (fun h8 => ?_) (fun h8 => ?_)
    · refine z_ic S (k := 0) dX11_occurrences_23 (by decide) ?_
      refine z_xS (rest := []) (As := [.int (nI (0))]) S hZ hS (c_requireRange_f l hl0 g (B := B) false rfl (PH := fun _ => True)) (Nat.le_refl B) ci_X11_requireRange cv_X11_requireRange k425 ⟨rfl, rfl, by rw [hR]; exact Nat.le_of_ble_eq_true rfl, by rw [hR]; exact Nat.le_of_ble_eq_true rfl⟩ trivial hl.1 rfl (Nat.le_of_ble_eq_true rfl) dX11_occurrences_24 ⟨by rw [hR]; exact Nat.le_of_ble_eq_true rfl, by rw [hR]; exact Nat.le_of_ble_eq_true rfl⟩ (fun E ce q9 H1 locs1 hPx hCn hSn hce hcv hcl => ?_)
      exact z_xo hex hlk hce hcv hcl hSn hCn hPx (Nat.le_of_ble_eq_true rfl) (Nat.le_of_ble_eq_true rfl)
    · exact absurd h8 (by omega)
theorem ci_X11_meanRaised : zCI yX11_meanRaised cX11_meanRaised 1 (some .double) 0 := ⟨k1139, k1, by decide +kernel⟩
theorem cv_X11_meanRaised : Cond.instanceMethod yX11_meanRaised ∈ GW ∧ Cond.selects (yX11_meanRaised).cls yX11_meanRaised yX11_meanRaised ∈ GW := ⟨k1137, k1138⟩
set_option maxRecDepth 20000 in
set_option maxHeartbeats 4000000 in
/-- meanRaised, it throws -/
theorem c_meanRaised_no (l : Launch) (hl0 : l.stackTraces = false) (g : ZG) {B : Nat} {o : Nat} (z : zSt) (hv : zOk (z 0)) (h0 : z 0 2 0 3 = 0) : vx_Met l yX11_meanRaised (.code yX11_meanRaised cX11_meanRaised 1 (some .double) :: GW) { frames := 8, cells := 1, slots := 6, locals := 140 } (va_Pc [.ref o] (zPre g B (fun H => zSO g o z H))) (fun _ _ _ _ => False) (zXT (fun E _ => E = "java/lang/ArithmeticException") B 0) 1 6 (zA B) := by
  refine zMetX (by decide) (Nat.le_of_ble_eq_true rfl) ?_
  intro p e R s m args below meth c Q ls hR hargs hQ S hr hlk hex hP hZ hS hl
  have hl : lv_has ls 1 [(0, .ref (o))] := hl
  subst hQ
  obtain ⟨hRo, hL, hF, hN, hHi, hJ, hQ0, hSc, hLn⟩ := hP
  obtain ⟨hP0, hP1, hP2, hP3, hP4⟩ := id hL
  have hw8 := hv.1.1
  have hk40 := hv.2.1.1
  refine lv_aload_n S.1 S.2.1 dX11_meanRaised_0 rfl (lv_at hl 0 rfl) ?_
  refine z_get (v := .ref (o + 1)) S hZ.1 hRo 0 (by decide) rfl rfl rfl 0 (by decide) rfl k245 dX11_meanRaised_1 ?_
  refine z_get (v := .ref (o + 1 + 6)) S hZ.1 hP0 0 (by decide) rfl rfl rfl 1 (by decide) rfl k121 dX11_meanRaised_4 ?_
  refine z_get (v := .int (nI ((z 0 2) 0 3))) S hZ.1 hP2 0 (by decide) rfl rfl rfl 3 (by decide) rfl k89 dX11_meanRaised_7 ?_
  refine z_xS (rest := []) (As := [.int (nI ((z 0 2) 0 3))]) S hZ hS (c_requireDivisor_f l hl0 g (B := B) (z 0 2 0 3) h0 (PH := fun _ => True)) (Nat.le_refl B) ci_X11_requireDivisor cv_X11_requireDivisor k1140 ⟨rfl, rfl, by rw [hR]; exact Nat.le_of_ble_eq_true rfl, by rw [hR]; exact Nat.le_of_ble_eq_true rfl⟩ trivial hl.1 rfl (Nat.le_of_ble_eq_true rfl) dX11_meanRaised_10 ⟨by rw [hR]; exact Nat.le_of_ble_eq_true rfl, by rw [hR]; exact Nat.le_of_ble_eq_true rfl⟩ (fun E ce q9 H1 locs1 hPx hCn hSn hce hcv hcl => ?_)
  exact z_xo hex hlk hce hcv hcl hSn hCn hPx (Nat.le_of_ble_eq_true rfl) (Nat.le_of_ble_eq_true rfl)
theorem ci_X11_knotShare : zCI yX11_knotShare cX11_knotShare 1 (some .float) 0 := ⟨k1157, k1, by decide +kernel⟩
theorem cv_X11_knotShare : Cond.instanceMethod yX11_knotShare ∈ GW ∧ Cond.selects (yX11_knotShare).cls yX11_knotShare yX11_knotShare ∈ GW := ⟨k1155, k1156⟩
set_option maxRecDepth 20000 in
set_option maxHeartbeats 4000000 in
/-- knotShare, it throws -/
theorem c_knotShare_no (l : Launch) (hl0 : l.stackTraces = false) (g : ZG) {B : Nat} {o : Nat} (z : zSt) (hv : zOk (z 0)) (h0 : z 0 2 0 3 = 0) : vx_Met l yX11_knotShare (.code yX11_knotShare cX11_knotShare 1 (some .float) :: GW) { frames := 8, cells := 1, slots := 6, locals := 140 } (va_Pc [.ref o] (zPre g B (fun H => zSO g o z H))) (fun _ _ _ _ => False) (zXT (fun E _ => E = "java/lang/ArithmeticException") B 0) 1 6 (zA B) := by
  refine zMetX (by decide) (Nat.le_of_ble_eq_true rfl) ?_
  intro p e R s m args below meth c Q ls hR hargs hQ S hr hlk hex hP hZ hS hl
  have hl : lv_has ls 1 [(0, .ref (o))] := hl
  subst hQ
  obtain ⟨hRo, hL, hF, hN, hHi, hJ, hQ0, hSc, hLn⟩ := hP
  obtain ⟨hP0, hP1, hP2, hP3, hP4⟩ := id hL
  have hw8 := hv.1.1
  have hk40 := hv.2.1.1
  refine lv_aload_n S.1 S.2.1 dX11_knotShare_0 rfl (lv_at hl 0 rfl) ?_
  refine z_get (v := .ref (o + 1)) S hZ.1 hRo 0 (by decide) rfl rfl rfl 0 (by decide) rfl k245 dX11_knotShare_1 ?_
  refine z_get (v := .ref (o + 1 + 6)) S hZ.1 hP0 0 (by decide) rfl rfl rfl 1 (by decide) rfl k121 dX11_knotShare_4 ?_
  refine z_get (v := .int (nI ((z 0 2) 0 3))) S hZ.1 hP2 0 (by decide) rfl rfl rfl 3 (by decide) rfl k89 dX11_knotShare_7 ?_
  refine z_xS (rest := []) (As := [.int (nI ((z 0 2) 0 3))]) S hZ hS (c_requireDivisor_f l hl0 g (B := B) (z 0 2 0 3) h0 (PH := fun _ => True)) (Nat.le_refl B) ci_X11_requireDivisor cv_X11_requireDivisor k1140 ⟨rfl, rfl, by rw [hR]; exact Nat.le_of_ble_eq_true rfl, by rw [hR]; exact Nat.le_of_ble_eq_true rfl⟩ trivial hl.1 rfl (Nat.le_of_ble_eq_true rfl) dX11_knotShare_10 ⟨by rw [hR]; exact Nat.le_of_ble_eq_true rfl, by rw [hR]; exact Nat.le_of_ble_eq_true rfl⟩ (fun E ce q9 H1 locs1 hPx hCn hSn hce hcv hcl => ?_)
  exact z_xo hex hlk hce hcv hcl hSn hCn hPx (Nat.le_of_ble_eq_true rfl) (Nat.le_of_ble_eq_true rfl)
theorem ci_X11_restoreSnapshot : zCI yX11_restoreSnapshot cX11_restoreSnapshot 1 (some .int) 0 := ⟨k869, k1, by decide +kernel⟩
theorem cv_X11_restoreSnapshot : Cond.instanceMethod yX11_restoreSnapshot ∈ GW ∧ Cond.selects (yX11_restoreSnapshot).cls yX11_restoreSnapshot yX11_restoreSnapshot ∈ GW := ⟨k867, k868⟩
theorem ci_X11_undo : zCI yX11_undo cX11_undo 1 (some .int) 0 := ⟨k839, k1, by decide +kernel⟩
theorem cv_X11_undo : Cond.instanceMethod yX11_undo ∈ GW ∧ Cond.selects (yX11_undo).cls yX11_undo yX11_undo ∈ GW := ⟨k837, k838⟩
set_option maxRecDepth 20000 in
set_option maxHeartbeats 4000000 in
/-- restoreSnapshot, it throws -/
theorem c_restoreSnapshot_no (l : Launch) (hl0 : l.stackTraces = false) (g : ZG) {B : Nat} {o : Nat} (z : zSt) (hv : zOk (z 0)) (h0 : z 11 0 0 3 = 0) : vx_Met l yX11_restoreSnapshot (.code yX11_restoreSnapshot cX11_restoreSnapshot 1 (some .int) :: GW) { frames := 8, cells := 1, slots := 6, locals := 140 } (va_Pc [.ref o] (zPre g B (fun H => zSO g o z H))) (fun _ _ _ _ => False) (zXT (fun E _ => E = "java/lang/IllegalStateException") B 0) 1 6 (zA B) := by
  refine zMetX (by decide) (Nat.le_of_ble_eq_true rfl) ?_
  intro p e R s m args below meth c Q ls hR hargs hQ S hr hlk hex hP hZ hS hl
  have hl : lv_has ls 1 [(0, .ref (o))] := hl
  subst hQ
  obtain ⟨hRo, hL, hF, hN, hHi, hJ, hQ0, hSc, hLn⟩ := hP
  obtain ⟨hP0, hP1, hP2, hP3, hP4⟩ := id hL
  have hw8 := hv.1.1
  have hk40 := hv.2.1.1
  refine lv_aload_n S.1 S.2.1 dX11_restoreSnapshot_0 rfl (lv_at hl 0 rfl) ?_
  refine z_get (v := .int (nI ((z 11 0) 0 3))) S hZ.1 hRo 0 (by decide) rfl rfl rfl 3 (by decide) rfl k248 dX11_restoreSnapshot_1 ?_
  rw [h0]
  refine z_xS (rest := []) (As := [.int (nI (0))]) S hZ hS (c_requireState_f l hl0 g (B := B) false rfl (PH := fun _ => True)) (Nat.le_refl B) ci_X11_requireState cv_X11_requireState k840 ⟨rfl, rfl, by rw [hR]; exact Nat.le_of_ble_eq_true rfl, by rw [hR]; exact Nat.le_of_ble_eq_true rfl⟩ trivial hl.1 rfl (Nat.le_of_ble_eq_true rfl) dX11_restoreSnapshot_4 ⟨by rw [hR]; exact Nat.le_of_ble_eq_true rfl, by rw [hR]; exact Nat.le_of_ble_eq_true rfl⟩ (fun E ce q9 H1 locs1 hPx hCn hSn hce hcv hcl => ?_)
  exact z_xo hex hlk hce hcv hcl hSn hCn hPx (Nat.le_of_ble_eq_true rfl) (Nat.le_of_ble_eq_true rfl)
set_option maxRecDepth 20000 in
set_option maxHeartbeats 4000000 in
/-- undo, it throws -/
theorem c_undo_no (l : Launch) (hl0 : l.stackTraces = false) (g : ZG) {B : Nat} {o : Nat} (z : zSt) (hv : zOk (z 0)) (h0 : z 12 0 0 2 = 0) : vx_Met l yX11_undo (.code yX11_undo cX11_undo 1 (some .int) :: GW) { frames := 8, cells := 1, slots := 6, locals := 140 } (va_Pc [.ref o] (zPre g B (fun H => zSO g o z H))) (fun _ _ _ _ => False) (zXT (fun E _ => E = "java/lang/IllegalStateException") B 0) 1 6 (zA B) := by
  refine zMetX (by decide) (Nat.le_of_ble_eq_true rfl) ?_
  intro p e R s m args below meth c Q ls hR hargs hQ S hr hlk hex hP hZ hS hl
  have hl : lv_has ls 1 [(0, .ref (o))] := hl
  subst hQ
  obtain ⟨hRo, hL, hF, hN, hHi, hJ, hQ0, hSc, hLn⟩ := hP
  obtain ⟨hP0, hP1, hP2, hP3, hP4⟩ := id hL
  have hw8 := hv.1.1
  have hk40 := hv.2.1.1
  refine lv_aload_n S.1 S.2.1 dX11_undo_0 rfl (lv_at hl 0 rfl) ?_
  refine z_get (v := .ref (o + 37)) S hZ.1 hRo 0 (by decide) rfl rfl rfl 4 (by decide) rfl k249 dX11_undo_1 ?_
  refine z_get (v := .int (nI ((z 12 0) 0 2))) S hZ.1 hHi.1 0 (by decide) rfl rfl rfl 2 (by decide) rfl k153 dX11_undo_4 ?_
  refine z_ile (tgt := 14) S (by omega) dX11_undo_7 (by decide) (fun h7 => ?_) (fun h7 => ?_)
  · refine z_ic S (k := 0) dX11_undo_14 (by decide) ?_
    refine z_xS (rest := []) (As := [.int (nI (0))]) S hZ hS (c_requireState_f l hl0 g (B := B) false rfl (PH := fun _ => True)) (Nat.le_refl B) ci_X11_requireState cv_X11_requireState k840 ⟨rfl, rfl, by rw [hR]; exact Nat.le_of_ble_eq_true rfl, by rw [hR]; exact Nat.le_of_ble_eq_true rfl⟩ trivial hl.1 rfl (Nat.le_of_ble_eq_true rfl) dX11_undo_15 ⟨by rw [hR]; exact Nat.le_of_ble_eq_true rfl, by rw [hR]; exact Nat.le_of_ble_eq_true rfl⟩ (fun E ce q9 H1 locs1 hPx hCn hSn hce hcv hcl => ?_)
    exact z_xo hex hlk hce hcv hcl hSn hCn hPx (Nat.le_of_ble_eq_true rfl) (Nat.le_of_ble_eq_true rfl)
  · exact absurd h7 (by omega)
/-- behind undo, restoreSnapshot, saveSnapshot, feed, writeRow -/
def yUn (z : zSt) : zSt := fun b => if b = 0 then z (3 + (z 12 0 0 1 + (z 12 0 0 2 - 1)) % 8) else if b = 12 then (fun _ => va_up (z 12 0) 0 (va_up (z 12 0 0) 2 (z 12 0 0 2 - 1))) else z b
theorem yUn_k (z : zSt) (i : Nat) (hi : i < 8) : yUn z (3 + i) = z (3 + i) := by unfold yUn; rw [if_neg (by omega), if_neg (by omega)]
def yRe (z : zSt) : zSt := fun b => if b = 0 then z 2 else if b = 12 then (fun _ => va_up (z 12 0) 0 (va_up (z 12 0 0) 2 0)) else z b
theorem yRe_k (z : zSt) (i : Nat) (hi : i < 8) : yRe z (3 + i) = z (3 + i) := by unfold yRe; rw [if_neg (by omega), if_neg (by omega)]
def ySv (z : zSt) : zSt := fun b => if b = 2 then z 0 else if b = 11 then (fun _ => va_up (z 11 0) 0 (va_up (z 11 0 0) 3 1)) else z b
theorem ySv_k (z : zSt) (i : Nat) (hi : i < 8) : ySv z (3 + i) = z (3 + i) := by unfold ySv; rw [if_neg (by omega), if_neg (by omega)]
def yFd (z : zSt) (x : Nat) : zSt := fun b => if b = 15 then (fun k => match k with | 0 => yAp (z 15 0) x | k => z 15 k) else z b
theorem yFd_k (z : zSt) (x i : Nat) (hi : i < 8) : yFd z x (3 + i) = z (3 + i) := by unfold yFd; rw [if_neg (by omega)]
def yWr (z : zSt) (r : Nat) : zSt := fun b => if b = 16 then (fun _ => zRl (z 16 0) (z 0 2) r 16) else z b
theorem yWr_k (z : zSt) (r i : Nat) (hi : i < 8) : yWr z r (3 + i) = z (3 + i) := by unfold yWr; rw [if_neg (by omega)]
set_option maxRecDepth 20000 in
set_option maxHeartbeats 4000000 in
/-- undo -/
theorem c_undo_ok (l : Launch) (g : ZG) {B : Nat} {o : Nat} (hB : B ≤ o) (z : zSt) (hIv : zIv z) (h1c : 1 ≤ z 12 0 0 2) : Met l yX11_undo (.code yX11_undo cX11_undo 1 (some .int) :: GW) { frames := 4, cells := 0, slots := 0, locals := 123 } (va_Pc [.ref o] (zPre g B (fun H => zSO g o z H))) (zX (fun w H => w = some (.int (nI (z 12 0 0 2 - 1))) ∧ zSO g o (yUn z) H) o 152) 0 0 (zA B) := by
  refine zMet (by decide) (Nat.le_of_ble_eq_true rfl) ?_
  intro p e R s m args below meth c Q ls hR hargs hQ S hr hlk hP hZ hS hnm hl
  have hl : lv_has ls 1 [(0, .ref (o))] := hl
  obtain ⟨hRo, hL, hF, hN, hHi, hJ, hQ0, hSc, hLn⟩ := hP
  have hC : zCh1 o 152 s.heap s.heap := zCh1.rf
  have h8c := hIv.2.2.2.2
  refine lv_aload_n S.1 S.2.1 dX11_undo_0 rfl (lv_at hl 0 rfl) ?_
  refine z_get (v := .ref (o + 37)) S hZ.1 hRo 0 (by decide) rfl rfl rfl 4 (by decide) rfl k249 dX11_undo_1 ?_
  refine z_get (v := .int (nI ((z 12 0) 0 2))) S hZ.1 hHi.1 0 (by decide) rfl rfl rfl 2 (by decide) rfl k153 dX11_undo_4 ?_
  refine z_ile (tgt := 14) S (by omega) dX11_undo_7 (by decide) (fun h7 => ?_) (fun h7 => ?_)
  · exact absurd h7 (by omega)
  · refine z_ic S (k := 1) dX11_undo_10 (by decide) ?_
    refine lv_goto (tgt := 15) S.1 S.2.1 dX11_undo_11 (by decide) ?_
    refine z_cS (v := none) (rest := []) (As := [.int (nI (1))]) S hZ hS (c_requireState_t l g true rfl (PH := fun _ => True)) ci_X11_requireState cv_X11_requireState k840 ⟨rfl, rfl, by rw [hR]; decide, by rw [hR]; decide⟩ trivial hl.1 rfl (Nat.le_of_ble_eq_true rfl) dX11_undo_15 ⟨by rw [hR]; decide, by rw [hR]; decide⟩ rfl ?_
    refine lv_aload_n S.1 S.2.1 dX11_undo_18 rfl (lv_at hl 0 rfl) ?_
    refine z_get (v := .ref (o + 37)) S hZ.1 hRo 0 (by decide) rfl rfl rfl 4 (by decide) rfl k249 dX11_undo_19 ?_
    refine lv_aload_n S.1 S.2.1 dX11_undo_22 rfl (lv_at hl 0 rfl) ?_
    refine z_get (v := .ref (o + 1)) S hZ.1 hRo 0 (by decide) rfl rfl rfl 0 (by decide) rfl k245 dX11_undo_23 ?_
    refine z_w1 (v0 := none) (rest := []) (As := [.ref (o + 1)]) S hZ hS (c_X4_takeBack l g (oh := o + 37) (o := o + 1) (a := o) (n := 152) hB (by omega) (by omega) (z 12 0) hIv.2.2.2.1 h8c h1c (fun i => z (3 + i)) (z 0) (hIv.2.2.1 _ (by omega)) (fun H => zPm g o 1 TRo (z 11 0) H ∧ zLo g (o + 13) (z 1) H ∧ zLo g (o + 25) (z 2) H ∧ zPm g (o + 135) 1 TJu (z 13 0) H ∧ zPm g (o + 136) 1 TCo (z 14 0) H ∧ zSo g (o + 137) (z 15 0) (z 15 1) H ∧ zPm g (o + 150) 2 TLi (z 16 0) H) (fun H H1 hc hX => ⟨hX.1.kept hc (by omega), hX.2.1.kept hc (by omega), hX.2.2.1.kept hc (by omega), hX.2.2.2.1.kept hc (by omega), hX.2.2.2.2.1.kept hc (by omega), hX.2.2.2.2.2.1.kept hc (by omega), hX.2.2.2.2.2.2.kept hc (by omega)⟩) (fun H H1 hc hX => ⟨hX.1.kept hc (by omega), hX.2.1.kept hc (by omega), hX.2.2.1.kept hc (by omega), hX.2.2.2.1.kept hc (by omega), hX.2.2.2.2.1.kept hc (by omega), hX.2.2.2.2.2.1.kept hc (by omega), hX.2.2.2.2.2.2.kept hc (by omega)⟩)) hB ci_X4_takeBack cv_X4_takeBack k859 ⟨rfl, rfl, by rw [hR]; exact Nat.le_of_ble_eq_true rfl, by rw [hR]; exact Nat.le_of_ble_eq_true rfl⟩ ⟨hHi, hL, hRo, hF, hN, hJ, hQ0, hSc, hLn⟩ (hHi.1.recv hZ.1 0 (by decide) rfl rfl rfl) hl.1 rfl (Nat.le_of_ble_eq_true rfl) dX11_undo_26 ⟨by rw [hR]; exact Nat.le_of_ble_eq_true rfl, by rw [hR]; exact Nat.le_of_ble_eq_true rfl⟩ rfl (fun H1 locs1 hPn hCn hSn => ?_)
    obtain ⟨hHi, hL, hRo, hF, hN, hJ, hQ0, hSc, hLn⟩ := hPn
    have hC := hC.tr hCn
    have hS := hSn
    refine lv_aload_n S.1 S.2.1 dX11_undo_29 rfl (lv_at hl 0 rfl) ?_
    refine z_get (v := .ref (o + 37)) S hZ.1 hRo 0 (by decide) rfl rfl rfl 4 (by decide) rfl k249 dX11_undo_30 ?_
    refine z_get (v := .int (nI (z 12 0 0 2 - 1))) S hZ.1 hHi.1 0 (by decide) rfl rfl rfl 2 (by decide) rfl k153 dX11_undo_33 ?_
    exact z_wi hQ S hr hlk (zn_int _) hS hC ⟨rfl, hRo, hL, hF, hN, hHi.cgk (yUn_k z), hJ, hQ0, hSc, hLn⟩ dX11_undo_36
set_option maxRecDepth 20000 in
set_option maxHeartbeats 4000000 in
/-- restoreSnapshot -/
theorem c_restoreSnapshot_ok (l : Launch) (g : ZG) {B : Nat} {o : Nat} (hB : B ≤ o) (z : zSt) (hIv : zIv z) (h1 : z 11 0 0 3 = 1) : Met l yX11_restoreSnapshot (.code yX11_restoreSnapshot cX11_restoreSnapshot 1 (some .int) :: GW) { frames := 3, cells := 0, slots := 0, locals := 102 } (va_Pc [.ref o] (zPre g B (fun H => zSO g o z H))) (zX (fun w H => w = some (.int (nI (z 2 2 0 3))) ∧ zSO g o (yRe z) H) o 152) 0 0 (zA B) := by
  refine zMet (by decide) (Nat.le_of_ble_eq_true rfl) ?_
  intro p e R s m args below meth c Q ls hR hargs hQ S hr hlk hP hZ hS hnm hl
  have hl : lv_has ls 1 [(0, .ref (o))] := hl
  obtain ⟨hRo, hL, hF, hN, hHi, hJ, hQ0, hSc, hLn⟩ := hP
  have hC : zCh1 o 152 s.heap s.heap := zCh1.rf
  refine lv_aload_n S.1 S.2.1 dX11_restoreSnapshot_0 rfl (lv_at hl 0 rfl) ?_
  refine z_get (v := .int (nI ((z 11 0) 0 3))) S hZ.1 hRo 0 (by decide) rfl rfl rfl 3 (by decide) rfl k248 dX11_restoreSnapshot_1 ?_
  rw [h1]
  refine z_cS (v := none) (rest := []) (As := [.int (nI (1))]) S hZ hS (c_requireState_t l g true rfl (PH := fun _ => True)) ci_X11_requireState cv_X11_requireState k840 ⟨rfl, rfl, by rw [hR]; decide, by rw [hR]; decide⟩ trivial hl.1 rfl (Nat.le_of_ble_eq_true rfl) dX11_restoreSnapshot_4 ⟨by rw [hR]; decide, by rw [hR]; decide⟩ rfl ?_
  refine lv_aload_n S.1 S.2.1 dX11_restoreSnapshot_7 rfl (lv_at hl 0 rfl) ?_
  refine z_get (v := .ref (o + 1)) S hZ.1 hRo 0 (by decide) rfl rfl rfl 0 (by decide) rfl k245 dX11_restoreSnapshot_8 ?_
  refine lv_aload_n S.1 S.2.1 dX11_restoreSnapshot_11 rfl (lv_at hl 0 rfl) ?_
  refine z_get (v := .ref (o + 25)) S hZ.1 hRo 0 (by decide) rfl rfl rfl 2 (by decide) rfl k247 dX11_restoreSnapshot_12 ?_
  refine z_w1 (v0 := none) (rest := []) (As := [.ref (o + 25)]) S hZ hS (c_X8_copyFrom l g (o := o + 1) (o2 := o + 25) (by omega) (by omega) (z 0) (z 2) hIv.2.1) (by omega) ci_X8_copyFrom cv_X8_copyFrom k296 ⟨rfl, rfl, by rw [hR]; exact Nat.le_of_ble_eq_true rfl, by rw [hR]; exact Nat.le_of_ble_eq_true rfl⟩ ⟨hL, hN⟩ (hL.1.recv hZ.1 0 (by decide) rfl rfl rfl) hl.1 rfl (Nat.le_of_ble_eq_true rfl) dX11_restoreSnapshot_15 ⟨by rw [hR]; exact Nat.le_of_ble_eq_true rfl, by rw [hR]; exact Nat.le_of_ble_eq_true rfl⟩ rfl (fun H1 locs1 hPn hCn hSn => ?_)
  have hS := hSn
  have hRo := hRo.kept hCn (by omega)
  have hL := hPn
  have hF := hF.kept hCn (by omega)
  have hN := hN.kept hCn (by omega)
  have hHi := hHi.kept hCn (by omega)
  have hJ := hJ.kept hCn (by omega)
  have hQ0 := hQ0.kept hCn (by omega)
  have hSc := hSc.kept hCn (by omega)
  have hLn := hLn.kept hCn (by omega)
  have hC := hC.tr (hCn.mono (b := o) (k := 152) (by omega) (by omega))
  have hHi1 := hHi.1
  have hHi2 := hHi.2
  refine lv_aload_n S.1 S.2.1 dX11_restoreSnapshot_18 rfl (lv_at hl 0 rfl) ?_
  refine z_get (v := .ref (o + 37)) S hZ.1 hRo 0 (by decide) rfl rfl rfl 4 (by decide) rfl k249 dX11_restoreSnapshot_19 ?_
  refine z_w1 (v0 := none) (rest := []) (As := []) S hZ hS (c_X4_forget l g (oh := o + 37) (by omega) (z 12 0)) (by omega) ci_X4_forget cv_X4_forget k870 ⟨rfl, rfl, by rw [hR]; exact Nat.le_of_ble_eq_true rfl, by rw [hR]; exact Nat.le_of_ble_eq_true rfl⟩ hHi1 (hHi1.recv hZ.1 0 (by decide) rfl rfl rfl) hl.1 rfl (Nat.le_of_ble_eq_true rfl) dX11_restoreSnapshot_22 ⟨by rw [hR]; exact Nat.le_of_ble_eq_true rfl, by rw [hR]; exact Nat.le_of_ble_eq_true rfl⟩ rfl (fun H1 locs1 hPn hCn hSn => ?_)
  have hS := hSn
  have hRo := hRo.kept hCn (by omega)
  have hL := hL.kept hCn (by omega)
  have hF := hF.kept hCn (by omega)
  have hN := hN.kept hCn (by omega)
  have hHi := (show zHi g (o + 37) (va_up (z 12 0) 0 (va_up (z 12 0 0) 2 0)) (fun i => z (3 + i)) H1 from ⟨hPn, fun i hi => (hHi2 i hi).kept hCn (by omega)⟩)
  have hJ := hJ.kept hCn (by omega)
  have hQ0 := hQ0.kept hCn (by omega)
  have hSc := hSc.kept hCn (by omega)
  have hLn := hLn.kept hCn (by omega)
  have hC := hC.tr (hCn.mono (b := o) (k := 152) (by omega) (by omega))
  obtain ⟨hP0, hP1, hP2, hP3, hP4⟩ := id hL
  refine lv_aload_n S.1 S.2.1 dX11_restoreSnapshot_25 rfl (lv_at hl 0 rfl) ?_
  refine z_get (v := .ref (o + 1)) S hZ.1 hRo 0 (by decide) rfl rfl rfl 0 (by decide) rfl k245 dX11_restoreSnapshot_26 ?_
  refine z_get (v := .ref (o + 1 + 6)) S hZ.1 hP0 0 (by decide) rfl rfl rfl 1 (by decide) rfl k121 dX11_restoreSnapshot_29 ?_
  refine z_get (v := .int (nI ((z 2 2) 0 3))) S hZ.1 hP2 0 (by decide) rfl rfl rfl 3 (by decide) rfl k89 dX11_restoreSnapshot_32 ?_
  exact z_wi hQ S hr hlk (zn_int _) hS hC ⟨rfl, hRo, hL, hF, hN, hHi.cgk (yRe_k z), hJ, hQ0, hSc, hLn⟩ dX11_restoreSnapshot_35
theorem ci_X11_saveSnapshot : zCI yX11_saveSnapshot cX11_saveSnapshot 1 (some .int) 0 := ⟨k295, k1, by decide +kernel⟩
theorem cv_X11_saveSnapshot : Cond.instanceMethod yX11_saveSnapshot ∈ GW ∧ Cond.selects (yX11_saveSnapshot).cls yX11_saveSnapshot yX11_saveSnapshot ∈ GW := ⟨k293, k294⟩
set_option maxRecDepth 20000 in
set_option maxHeartbeats 4000000 in
/-- saveSnapshot -/
theorem c_saveSnapshot (l : Launch) (g : ZG) {B : Nat} {o : Nat} (hB : B ≤ o) (z : zSt) (hIv : zIv z) : Met l yX11_saveSnapshot (.code yX11_saveSnapshot cX11_saveSnapshot 1 (some .int) :: GW) { frames := 3, cells := 0, slots := 0, locals := 102 } (va_Pc [.ref o] (zPre g B (fun H => zSO g o z H))) (zX (fun w H => w = some (.int (nI (z 0 2 0 3))) ∧ zSO g o (ySv z) H) o 152) 0 0 (zA B) := by
  refine zMet (by decide) (Nat.le_of_ble_eq_true rfl) ?_
  intro p e R s m args below meth c Q ls hR hargs hQ S hr hlk hP hZ hS hnm hl
  have hl : lv_has ls 1 [(0, .ref (o))] := hl
  obtain ⟨hRo, hL, hF, hN, hHi, hJ, hQ0, hSc, hLn⟩ := hP
  have hC : zCh1 o 152 s.heap s.heap := zCh1.rf
  refine lv_aload_n S.1 S.2.1 dX11_saveSnapshot_0 rfl (lv_at hl 0 rfl) ?_
  refine z_get (v := .ref (o + 25)) S hZ.1 hRo 0 (by decide) rfl rfl rfl 2 (by decide) rfl k247 dX11_saveSnapshot_1 ?_
  refine lv_aload_n S.1 S.2.1 dX11_saveSnapshot_4 rfl (lv_at hl 0 rfl) ?_
  refine z_get (v := .ref (o + 1)) S hZ.1 hRo 0 (by decide) rfl rfl rfl 0 (by decide) rfl k245 dX11_saveSnapshot_5 ?_
  refine z_w1 (v0 := none) (rest := []) (As := [.ref (o + 1)]) S hZ hS (c_X8_copyFrom l g (o := o + 25) (o2 := o + 1) (by omega) (by omega) (z 2) (z 0) hIv.1) (by omega) ci_X8_copyFrom cv_X8_copyFrom k296 ⟨rfl, rfl, by rw [hR]; exact Nat.le_of_ble_eq_true rfl, by rw [hR]; exact Nat.le_of_ble_eq_true rfl⟩ ⟨hN, hL⟩ (hN.1.recv hZ.1 0 (by decide) rfl rfl rfl) hl.1 rfl (Nat.le_of_ble_eq_true rfl) dX11_saveSnapshot_8 ⟨by rw [hR]; exact Nat.le_of_ble_eq_true rfl, by rw [hR]; exact Nat.le_of_ble_eq_true rfl⟩ rfl (fun H1 locs1 hPn hCn hSn => ?_)
  have hS := hSn
  have hRo := hRo.kept hCn (by omega)
  have hL := hL.kept hCn (by omega)
  have hF := hF.kept hCn (by omega)
  have hN := hPn
  have hHi := hHi.kept hCn (by omega)
  have hJ := hJ.kept hCn (by omega)
  have hQ0 := hQ0.kept hCn (by omega)
  have hSc := hSc.kept hCn (by omega)
  have hLn := hLn.kept hCn (by omega)
  have hC := hC.tr (hCn.mono (b := o) (k := 152) (by omega) (by omega))
  refine lv_aload_n S.1 S.2.1 dX11_saveSnapshot_11 rfl (lv_at hl 0 rfl) ?_
  refine z_ic S (k := 1) dX11_saveSnapshot_12 (by decide) ?_
  refine z_put (v := .int (nI (1))) (ty := .boolean) S hZ.1 hRo hS hB 0 (by decide) rfl rfl rfl 3 (by decide) (va_up ((z 11 0) 0) 3 1) rfl k248 rfl (by decide +kernel) rfl rfl (Nat.le_of_ble_eq_true rfl) dX11_saveSnapshot_13 (fun H1 locs1 hPn hCn hSn => ?_)
  have hS := hSn
  have hRo := hPn
  have hL := hL.kept hCn (by omega)
  have hF := hF.kept hCn (by omega)
  have hN := hN.kept hCn (by omega)
  have hHi := hHi.kept hCn (by omega)
  have hJ := hJ.kept hCn (by omega)
  have hQ0 := hQ0.kept hCn (by omega)
  have hSc := hSc.kept hCn (by omega)
  have hLn := hLn.kept hCn (by omega)
  have hC := hC.tr (hCn.mono (b := o) (k := 152) (by omega) (by omega))
  obtain ⟨hP0, hP1, hP2, hP3, hP4⟩ := id hL
  refine lv_aload_n S.1 S.2.1 dX11_saveSnapshot_16 rfl (lv_at hl 0 rfl) ?_
  refine z_get (v := .ref (o + 1)) S hZ.1 hRo 0 (by decide) rfl rfl rfl 0 (by decide) rfl k245 dX11_saveSnapshot_17 ?_
  refine z_get (v := .ref (o + 1 + 6)) S hZ.1 hP0 0 (by decide) rfl rfl rfl 1 (by decide) rfl k121 dX11_saveSnapshot_20 ?_
  refine z_get (v := .int (nI ((z 0 2) 0 3))) S hZ.1 hP2 0 (by decide) rfl rfl rfl 3 (by decide) rfl k89 dX11_saveSnapshot_23 ?_
  exact z_wi hQ S hr hlk (zn_int _) hS hC ⟨rfl, hRo, hL, hF, hN, hHi.cgk (ySv_k z), hJ, hQ0, hSc, hLn⟩ dX11_saveSnapshot_26
theorem ci_X11_feed : zCI yX11_feed cX11_feed 2 (some .int) 1 := ⟨k885, k1, by decide +kernel⟩
theorem cv_X11_feed : Cond.instanceMethod yX11_feed ∈ GW ∧ Cond.selects (yX11_feed).cls yX11_feed yX11_feed ∈ GW := ⟨k883, k884⟩
set_option maxRecDepth 20000 in
set_option maxHeartbeats 4000000 in
/-- feed -/
theorem c_feed (l : Launch) (g : ZG) {B : Nat} {o : Nat} (hB : B ≤ o) (z : zSt) (x : Nat) (hx : x < 65536) (h60 : z 15 0 0 1 < 60) : Met l yX11_feed (.code yX11_feed cX11_feed 2 (some .int) :: GW) { frames := 1, cells := 0, slots := 0, locals := 21 } (va_Pc [.ref o, .int (nI (x))] (zPre g B (fun H => zSO g o z H))) (zX (fun w H => w = some (.int (nI (z 15 0 0 1 + 1))) ∧ zSO g o (yFd z x) H) o 152) 0 0 (zA B) := by
  refine zMet (by decide) (Nat.le_of_ble_eq_true rfl) ?_
  intro p e R s m args below meth c Q ls hR hargs hQ S hr hlk hP hZ hS hnm hl
  have hl : lv_has ls 2 [(0, .ref (o)), (1, .int (nI (x)))] := hl
  obtain ⟨hRo, hL, hF, hN, hHi, hJ, hQ0, hSc, hLn⟩ := hP
  have hC : zCh1 o 152 s.heap s.heap := zCh1.rf
  have hSc1 := hSc.1
  have hSc2 := hSc.2
  refine lv_aload_n S.1 S.2.1 dX11_feed_0 rfl (lv_at hl 0 rfl) ?_
  refine z_get (v := .ref (o + 137)) S hZ.1 hRo 0 (by decide) rfl rfl rfl 7 (by decide) rfl k252 dX11_feed_1 ?_
  refine z_cV (v := some (.int (nI (decide (60 ≤ z 15 0 0 1)).toNat))) (rest := []) (As := []) S hZ hS (c_X9_isFull l g (os := o + 137) (z 15 0) (by omega)) ci_X9_isFull cv_X9_isFull k886 ⟨rfl, rfl, by rw [hR]; decide, by rw [hR]; decide⟩ hSc1 (hSc1.recv hZ.1 0 (by decide) rfl rfl rfl) hl.1 rfl (Nat.le_of_ble_eq_true rfl) dX11_feed_4 ⟨by rw [hR]; decide, by rw [hR]; decide⟩ rfl ?_
  refine z_bne (tgt := 14) S dX11_feed_7 (by decide) (fun h7 => ?_) (fun h7 => ?_)
  · exact absurd (of_decide_eq_true h7) (by omega)
  · refine z_ic S (k := 1) dX11_feed_10 (by decide) ?_
    refine lv_goto (tgt := 15) S.1 S.2.1 dX11_feed_11 (by decide) ?_
    refine z_cS (v := none) (rest := []) (As := [.int (nI (1))]) S hZ hS (c_requireState_t l g true rfl (PH := fun _ => True)) ci_X11_requireState cv_X11_requireState k840 ⟨rfl, rfl, by rw [hR]; decide, by rw [hR]; decide⟩ trivial hl.1 rfl (Nat.le_of_ble_eq_true rfl) dX11_feed_15 ⟨by rw [hR]; decide, by rw [hR]; decide⟩ rfl ?_
    refine lv_aload_n S.1 S.2.1 dX11_feed_18 rfl (lv_at hl 0 rfl) ?_
    refine z_get (v := .ref (o + 137)) S hZ.1 hRo 0 (by decide) rfl rfl rfl 7 (by decide) rfl k252 dX11_feed_19 ?_
    refine lv_iload_n S.1 S.2.1 dX11_feed_22 rfl (lv_at hl 1 rfl) ?_
    refine z_w1 (v0 := some (.int (nI (z 15 0 0 1 + 1)))) (rest := []) (As := [.int (nI (x))]) S hZ hS (c_X9_append l g (os := o + 137) (by omega) (z 15 0) h60 x hx) (by omega) ci_X9_append cv_X9_append k890 ⟨rfl, rfl, by rw [hR]; exact Nat.le_of_ble_eq_true rfl, by rw [hR]; exact Nat.le_of_ble_eq_true rfl⟩ hSc1 (hSc1.recv hZ.1 0 (by decide) rfl rfl rfl) hl.1 rfl (Nat.le_of_ble_eq_true rfl) dX11_feed_23 ⟨by rw [hR]; exact Nat.le_of_ble_eq_true rfl, by rw [hR]; exact Nat.le_of_ble_eq_true rfl⟩ rfl (fun H1 locs1 hPn hCn hSn => ?_)
    have hS := hSn
    have hRo := hRo.kept hCn (by omega)
    have hL := hL.kept hCn (by omega)
    have hF := hF.kept hCn (by omega)
    have hN := hN.kept hCn (by omega)
    have hHi := hHi.kept hCn (by omega)
    have hJ := hJ.kept hCn (by omega)
    have hQ0 := hQ0.kept hCn (by omega)
    have hSc := (show zSo g (o + 137) (yAp (z 15 0) x) (z 15 1) H1 from ⟨hPn, fun i hi => (hSc2 i hi).kept hCn (by omega)⟩)
    have hLn := hLn.kept hCn (by omega)
    have hC := hC.tr (hCn.mono (b := o) (k := 152) (by omega) (by omega))
    exact z_wi hQ S hr hlk (zn_int _) hS hC ⟨rfl, hRo, hL, hF, hN, hHi.cgk (yFd_k z x), hJ, hQ0, hSc, hLn⟩ dX11_feed_26
theorem ci_X11_writeRow : zCI yX11_writeRow cX11_writeRow 2 (some .int) 1 := ⟨k1056, k1, by decide +kernel⟩
theorem cv_X11_writeRow : Cond.instanceMethod yX11_writeRow ∈ GW ∧ Cond.selects (yX11_writeRow).cls yX11_writeRow yX11_writeRow ∈ GW := ⟨k1054, k1055⟩
set_option maxRecDepth 20000 in
set_option maxHeartbeats 4000000 in
/-- writeRow -/
theorem c_writeRow (l : Launch) (g : ZG) {B : Nat} {o : Nat} (hB : B ≤ o) (z : zSt) (hv : zOk (z 0)) (i : Nat) (hi : i < z 0 2 0 3) : Met l yX11_writeRow (.code yX11_writeRow cX11_writeRow 2 (some .int) :: GW) { frames := 3, cells := 0, slots := 0, locals := 65 } (va_Pc [.ref o, .int (nI (i))] (zPre g B (fun H => zSO g o z H))) (zX (fun w H => w = some (.int (nI 18)) ∧ zSO g o (yWr z i) H) o 152) 0 0 (zA B) := by
  refine zMet (by decide) (Nat.le_of_ble_eq_true rfl) ?_
  intro p e R s m args below meth c Q ls hR hargs hQ S hr hlk hP hZ hS hnm hl
  have hl : lv_has ls 2 [(0, .ref (o)), (1, .int (nI (i)))] := hl
  obtain ⟨hRo, hL, hF, hN, hHi, hJ, hQ0, hSc, hLn⟩ := hP
  have hC : zCh1 o 152 s.heap s.heap := zCh1.rf
  have hk40 := hv.2.1.1
  obtain ⟨hP0, hP1, hP2, hP3, hP4⟩ := id hL
  refine lv_aload_n S.1 S.2.1 dX11_writeRow_0 rfl (lv_at hl 0 rfl) ?_
  refine z_get (v := .ref (o + 1)) S hZ.1 hRo 0 (by decide) rfl rfl rfl 0 (by decide) rfl k245 dX11_writeRow_1 ?_
  refine z_get (v := .ref (o + 1 + 6)) S hZ.1 hP0 0 (by decide) rfl rfl rfl 1 (by decide) rfl k121 dX11_writeRow_4 ?_
  refine lv_iload_n S.1 S.2.1 dX11_writeRow_7 rfl (lv_at hl 1 rfl) ?_
  refine z_cV (v := some (.int (nI (decide (i < z 0 2 0 3)).toNat))) (rest := []) (As := [.int (nI (i))]) S hZ hS (c_X1_has l g (z 0 2) hv.2.1 i (by omega)) ci_X1_has cv_X1_has k991 ⟨rfl, rfl, by rw [hR]; decide, by rw [hR]; decide⟩ hP2 (hP2.recv hZ.1 0 (by decide) rfl rfl rfl) hl.1 rfl (Nat.le_of_ble_eq_true rfl) dX11_writeRow_8 ⟨by rw [hR]; decide, by rw [hR]; decide⟩ rfl ?_
  refine z_cS (v := none) (rest := []) (As := [.int (nI (decide (i < z 0 2 0 3)).toNat)]) S hZ hS (c_requireIndex_t l g (decide (i < z 0 2 0 3)) (decide_eq_true hi) (PH := fun _ => True)) ci_X11_requireIndex cv_X11_requireIndex k500 ⟨rfl, rfl, by rw [hR]; decide, by rw [hR]; decide⟩ trivial hl.1 rfl (Nat.le_of_ble_eq_true rfl) dX11_writeRow_11 ⟨by rw [hR]; decide, by rw [hR]; decide⟩ rfl ?_
  refine lv_aload_n S.1 S.2.1 dX11_writeRow_14 rfl (lv_at hl 0 rfl) ?_
  refine z_get (v := .ref (o + 150)) S hZ.1 hRo 0 (by decide) rfl rfl rfl 10 (by decide) rfl k255 dX11_writeRow_15 ?_
  refine lv_aload_n S.1 S.2.1 dX11_writeRow_18 rfl (lv_at hl 0 rfl) ?_
  refine z_get (v := .ref (o + 1)) S hZ.1 hRo 0 (by decide) rfl rfl rfl 0 (by decide) rfl k245 dX11_writeRow_19 ?_
  refine z_get (v := .ref (o + 1 + 6)) S hZ.1 hP0 0 (by decide) rfl rfl rfl 1 (by decide) rfl k121 dX11_writeRow_22 ?_
  refine lv_iload_n S.1 S.2.1 dX11_writeRow_25 rfl (lv_at hl 1 rfl) ?_
  refine z_w1 (v0 := none) (rest := []) (As := [.ref (o + 1 + 6), .int (nI (i))]) S hZ hS (c_X7_showRow l g (ol := o + 150) (ow := o + 1 + 6) (by omega) (by omega) (z 16 0) (z 0 2) hv.2.1 i hi) (by omega) ci_X7_showRow cv_X7_showRow k1057 ⟨rfl, rfl, by rw [hR]; exact Nat.le_of_ble_eq_true rfl, by rw [hR]; exact Nat.le_of_ble_eq_true rfl⟩ ⟨hLn, hP2⟩ (hLn.recv hZ.1 0 (by decide) rfl rfl rfl) hl.1 rfl (Nat.le_of_ble_eq_true rfl) dX11_writeRow_26 ⟨by rw [hR]; exact Nat.le_of_ble_eq_true rfl, by rw [hR]; exact Nat.le_of_ble_eq_true rfl⟩ rfl (fun H1 locs1 hPn hCn hSn => ?_)
  have hS := hSn
  have hRo := hRo.kept hCn (by omega)
  have hL := hL.kept hCn (by omega)
  have hF := hF.kept hCn (by omega)
  have hN := hN.kept hCn (by omega)
  have hHi := hHi.kept hCn (by omega)
  have hJ := hJ.kept hCn (by omega)
  have hQ0 := hQ0.kept hCn (by omega)
  have hSc := hSc.kept hCn (by omega)
  have hLn := hPn
  have hC := hC.tr (hCn.mono (b := o) (k := 152) (by omega) (by omega))
  refine lv_aload_n S.1 S.2.1 dX11_writeRow_29 rfl (lv_at hl 0 rfl) ?_
  refine z_get (v := .ref (o + 150)) S hZ.1 hRo 0 (by decide) rfl rfl rfl 10 (by decide) rfl k255 dX11_writeRow_30 ?_
  refine z_get (v := .int (nI (18))) S hZ.1 hLn 0 (by decide) rfl rfl rfl 1 (by decide) rfl k239 dX11_writeRow_33 ?_
  exact z_wi hQ S hr hlk (zn_int _) hS hC ⟨rfl, hRo, hL, hF, hN, hHi.cgk (yWr_k z i), hJ, hQ0, hSc, hLn⟩ dX11_writeRow_36
