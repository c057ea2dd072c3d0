/-! READING CALLS that throw; undo, the snapshot, feed, writeRow -/
set_option maxRecDepth 20000 in
set_option maxHeartbeats 4000000 in
/-- X10_has(-1) -/
theorem c_X10_hasN (l : Launch) (g : ZG) {B : Nat} {o : Nat} (f : Nat → Nat → Nat) : Met l yX10_has (.code yX10_has cX10_has 2 (some .boolean) :: GW) { frames := 0, cells := 0, slots := 0, locals := 0 } (va_Pc [.ref o, .int (-1)] (zPre g B (fun H => zPm g o 5 TW f H))) (zR (some (.int (nI 0)))) 0 0 (fun _ => False) := by
  refine zMet (by decide) (Nat.le_of_ble_eq_true rfl) ?_
  intro p e R s m args below meth c Q ls hR hargs hQ S hr hlk hP hZ hS hnm hl
  have hl : lv_has ls 2 [(0, .ref (o)), (1, .int (-1))] := hl
  refine lv_iload_n S.1 S.2.1 dX10_has_0 rfl (lv_at hl 1 rfl) ?_
  refine lv_if_lt (tgt := 16) S.1 S.2.1 dX10_has_1 (by decide) (fun _ => ?_) (fun h6 => absurd (by decide : (-1 : Int32) < 0) h6)
  refine z_ic S (k := 0) dX10_has_16 (by decide) ?_
  exact z_ri hQ S hr hlk rfl rfl dX10_has_17
set_option maxRecDepth 20000 in
set_option maxHeartbeats 4000000 in
/-- X1_has(-1) -/
theorem c_X1_hasN (l : Launch) (g : ZG) {B : Nat} {o : Nat} (f : Nat → Nat → Nat) : Met l yX1_has (.code yX1_has cX1_has 2 (some .boolean) :: GW) { frames := 0, cells := 0, slots := 0, locals := 0 } (va_Pc [.ref o, .int (-1)] (zPre g B (fun H => zPm g o 4 TC f H))) (zR (some (.int (nI 0)))) 0 0 (fun _ => False) := by
  refine zMet (by decide) (Nat.le_of_ble_eq_true rfl) ?_
  intro p e R s m args below meth c Q ls hR hargs hQ S hr hlk hP hZ hS hnm hl
  have hl : lv_has ls 2 [(0, .ref (o)), (1, .int (-1))] := hl
  refine lv_iload_n S.1 S.2.1 dX1_has_0 rfl (lv_at hl 1 rfl) ?_
  refine lv_if_lt (tgt := 16) S.1 S.2.1 dX1_has_1 (by decide) (fun _ => ?_) (fun h6 => absurd (by decide : (-1 : Int32) < 0) h6)
  refine z_ic S (k := 0) dX1_has_16 (by decide) ?_
  exact z_ri hQ S hr hlk rfl rfl dX1_has_17
set_option maxRecDepth 20000 in
set_option maxHeartbeats 4000000 in
/-- wickByWax, it throws -/
theorem c_wickByWax_no (l : Launch) (hl0 : l.stackTraces = false) (g : ZG) {B : Nat} {o : Nat} (z : zSt) (hv : zOk (z 0)) (i : Nat) (hi : z 0 1 0 4 ≤ i) (hi2 : i < 2 ^ 31) : vx_Met l yX11_wickByWax (.code yX11_wickByWax cX11_wickByWax 2 (some .int) :: GW) { frames := 8, cells := 1, slots := 6, locals := 140 } (va_Pc [.ref o, .int (nI (i))] (zPre g B (fun H => zSO g o z H))) (fun _ _ _ _ => False) (zXT (fun E _ => E = "java/util/NoSuchElementException") B 0) 1 6 (zA B) := by
  refine zMetX (by decide) (Nat.le_of_ble_eq_true rfl) ?_
  intro p e R s m args below meth c Q ls hR hargs hQ S hr hlk hex hP hZ hS hl
  have hl : lv_has ls 2 [(0, .ref (o)), (1, .int (nI (i)))] := hl
  subst hQ
  obtain ⟨hRo, hL, hF, hN, hHi, hJ, hQ0, hSc, hLn⟩ := hP
  obtain ⟨hP0, hP1, hP2, hP3, hP4⟩ := id hL
  have hw8 := hv.1.1
  have hk40 := hv.2.1.1
  refine lv_aload_n S.1 S.2.1 dX11_wickByWax_0 rfl (lv_at hl 0 rfl) ?_
  refine z_get (v := .ref (o + 1)) S hZ.1 hRo 0 (by decide) rfl rfl rfl 0 (by decide) rfl k245 dX11_wickByWax_1 ?_
  refine z_get (v := .ref (o + 1 + 1)) S hZ.1 hP0 0 (by decide) rfl rfl rfl 0 (by decide) rfl k118 dX11_wickByWax_4 ?_
  refine lv_iload_n S.1 S.2.1 dX11_wickByWax_7 rfl (lv_at hl 1 rfl) ?_
  refine z_cV (v := some (.int (nI (decide (i < z 0 1 0 4)).toNat))) (rest := []) (As := [.int (nI (i))]) S hZ hS (c_X10_has l g (z 0 1) hv.1 i (by omega)) ci_X10_has cv_X10_has k972 ⟨rfl, rfl, by rw [hR]; decide, by rw [hR]; decide⟩ hP1 (hP1.recv hZ.1 0 (by decide) rfl rfl rfl) hl.1 rfl (Nat.le_of_ble_eq_true rfl) dX11_wickByWax_8 ⟨by rw [hR]; decide, by rw [hR]; decide⟩ rfl ?_
  refine z_xS (rest := []) (As := [.int (nI (decide (i < z 0 1 0 4)).toNat)]) S hZ hS (c_requireElement_f l hl0 g (B := B) (decide (i < z 0 1 0 4)) (decide_eq_false (by omega)) (PH := fun _ => True)) (Nat.le_refl B) ci_X11_requireElement cv_X11_requireElement k806 ⟨rfl, rfl, by rw [hR]; exact Nat.le_of_ble_eq_true rfl, by rw [hR]; exact Nat.le_of_ble_eq_true rfl⟩ trivial hl.1 rfl (Nat.le_of_ble_eq_true rfl) dX11_wickByWax_11 ⟨by rw [hR]; exact Nat.le_of_ble_eq_true rfl, by rw [hR]; exact Nat.le_of_ble_eq_true rfl⟩ (fun E ce q9 H1 locs1 hPx hCn hSn hce hcv hcl => ?_)
  exact z_xo hex hlk hce hcv hcl hSn hCn hPx (Nat.le_of_ble_eq_true rfl) (Nat.le_of_ble_eq_true rfl)
set_option maxRecDepth 20000 in
set_option maxHeartbeats 4000000 in
/-- wickByWax, it throws -/
theorem c_wickByWax_neg (l : Launch) (hl0 : l.stackTraces = false) (g : ZG) {B : Nat} {o : Nat} (z : zSt) (hv : zOk (z 0))  : vx_Met l yX11_wickByWax (.code yX11_wickByWax cX11_wickByWax 2 (some .int) :: GW) { frames := 8, cells := 1, slots := 6, locals := 140 } (va_Pc [.ref o, .int (-1)] (zPre g B (fun H => zSO g o z H))) (fun _ _ _ _ => False) (zXT (fun E _ => E = "java/util/NoSuchElementException") B 0) 1 6 (zA B) := by
  refine zMetX (by decide) (Nat.le_of_ble_eq_true rfl) ?_
  intro p e R s m args below meth c Q ls hR hargs hQ S hr hlk hex hP hZ hS hl
  have hl : lv_has ls 2 [(0, .ref (o)), (1, .int (-1))] := hl
  subst hQ
  obtain ⟨hRo, hL, hF, hN, hHi, hJ, hQ0, hSc, hLn⟩ := hP
  obtain ⟨hP0, hP1, hP2, hP3, hP4⟩ := id hL
  have hw8 := hv.1.1
  have hk40 := hv.2.1.1
  refine lv_aload_n S.1 S.2.1 dX11_wickByWax_0 rfl (lv_at hl 0 rfl) ?_
  refine z_get (v := .ref (o + 1)) S hZ.1 hRo 0 (by decide) rfl rfl rfl 0 (by decide) rfl k245 dX11_wickByWax_1 ?_
  refine z_get (v := .ref (o + 1 + 1)) S hZ.1 hP0 0 (by decide) rfl rfl rfl 0 (by decide) rfl k118 dX11_wickByWax_4 ?_
  refine lv_iload_n S.1 S.2.1 dX11_wickByWax_7 rfl (lv_at hl 1 rfl) ?_
  refine z_cV (v := some (.int (nI (0)))) (rest := []) (As := [.int (-1)]) S hZ hS (c_X10_hasN l g (z 0 1)) ci_X10_has cv_X10_has k972 ⟨rfl, rfl, by rw [hR]; decide, by rw [hR]; decide⟩ hP1 (hP1.recv hZ.1 0 (by decide) rfl rfl rfl) hl.1 rfl (Nat.le_of_ble_eq_true rfl) dX11_wickByWax_8 ⟨by rw [hR]; decide, by rw [hR]; decide⟩ rfl ?_
  refine z_xS (rest := []) (As := [.int (nI (0))]) S hZ hS (c_requireElement_f l hl0 g (B := B) false rfl (PH := fun _ => True)) (Nat.le_refl B) ci_X11_requireElement cv_X11_requireElement k806 ⟨rfl, rfl, by rw [hR]; exact Nat.le_of_ble_eq_true rfl, by rw [hR]; exact Nat.le_of_ble_eq_true rfl⟩ trivial hl.1 rfl (Nat.le_of_ble_eq_true rfl) dX11_wickByWax_11 ⟨by rw [hR]; exact Nat.le_of_ble_eq_true rfl, by rw [hR]; exact Nat.le_of_ble_eq_true rfl⟩ (fun E ce q9 H1 locs1 hPx hCn hSn hce hcv hcl => ?_)
  exact z_xo hex hlk hce hcv hcl hSn hCn hPx (Nat.le_of_ble_eq_true rfl) (Nat.le_of_ble_eq_true rfl)
set_option maxRecDepth 20000 in
set_option maxHeartbeats 4000000 in
/-- knottedRowFrom, it throws -/
theorem c_knottedRowFrom_out (l : Launch) (hl0 : l.stackTraces = false) (g : ZG) {B : Nat} {o : Nat} (z : zSt) (hv : zOk (z 0)) (a : Nat) (ha : z 0 2 0 3 ≤ a) (ha2 : a < 2 ^ 31) : vx_Met l yX11_knottedRowFrom (.code yX11_knottedRowFrom cX11_knottedRowFrom 3 (some .int) :: GW) { frames := 8, cells := 1, slots := 6, locals := 140 } (va_Pc [.ref o, .int (nI (a))] (zPre g B (fun H => zSO g o z H))) (fun _ _ _ _ => False) (zXT (fun E _ => E = "java/lang/IndexOutOfBoundsException") B 0) 1 6 (zA B) := by
  refine zMetX (by decide) (Nat.le_of_ble_eq_true rfl) ?_
  intro p e R s m args below meth c Q ls hR hargs hQ S hr hlk hex hP hZ hS hl
  have hl : lv_has ls 3 [(0, .ref (o)), (1, .int (nI (a)))] := hl
  subst hQ
  obtain ⟨hRo, hL, hF, hN, hHi, hJ, hQ0, hSc, hLn⟩ := hP
  obtain ⟨hP0, hP1, hP2, hP3, hP4⟩ := id hL
  have hw8 := hv.1.1
  have hk40 := hv.2.1.1
  refine lv_aload_n S.1 S.2.1 dX11_knottedRowFrom_0 rfl (lv_at hl 0 rfl) ?_
  refine z_get (v := .ref (o + 1)) S hZ.1 hRo 0 (by decide) rfl rfl rfl 0 (by decide) rfl k245 dX11_knottedRowFrom_1 ?_
  refine z_get (v := .ref (o + 1 + 6)) S hZ.1 hP0 0 (by decide) rfl rfl rfl 1 (by decide) rfl k121 dX11_knottedRowFrom_4 ?_
  refine lv_iload_n S.1 S.2.1 dX11_knottedRowFrom_7 rfl (lv_at hl 1 rfl) ?_
  refine z_cV (v := some (.int (nI (decide (a < z 0 2 0 3)).toNat))) (rest := []) (As := [.int (nI (a))]) S hZ hS (c_X1_has l g (z 0 2) hv.2.1 a (by omega)) ci_X1_has cv_X1_has k991 ⟨rfl, rfl, by rw [hR]; decide, by rw [hR]; decide⟩ hP2 (hP2.recv hZ.1 0 (by decide) rfl rfl rfl) hl.1 rfl (Nat.le_of_ble_eq_true rfl) dX11_knottedRowFrom_8 ⟨by rw [hR]; decide, by rw [hR]; decide⟩ rfl ?_
  refine z_xS (rest := []) (As := [.int (nI (decide (a < z 0 2 0 3)).toNat)]) S hZ hS (c_requireIndex_f l hl0 g (B := B) (decide (a < z 0 2 0 3)) (decide_eq_false (by omega)) (PH := fun _ => True)) (Nat.le_refl B) ci_X11_requireIndex cv_X11_requireIndex k500 ⟨rfl, rfl, by rw [hR]; exact Nat.le_of_ble_eq_true rfl, by rw [hR]; exact Nat.le_of_ble_eq_true rfl⟩ trivial hl.1 rfl (Nat.le_of_ble_eq_true rfl) dX11_knottedRowFrom_11 ⟨by rw [hR]; exact Nat.le_of_ble_eq_true rfl, by rw [hR]; exact Nat.le_of_ble_eq_true rfl⟩ (fun E ce q9 H1 locs1 hPx hCn hSn hce hcv hcl => ?_)
  exact z_xo hex hlk hce hcv hcl hSn hCn hPx (Nat.le_of_ble_eq_true rfl) (Nat.le_of_ble_eq_true rfl)
set_option maxRecDepth 20000 in
set_option maxHeartbeats 4000000 in
/-- knottedRowFrom, it throws -/
theorem c_knottedRowFrom_neg (l : Launch) (hl0 : l.stackTraces = false) (g : ZG) {B : Nat} {o : Nat} (z : zSt) (hv : zOk (z 0))  : vx_Met l yX11_knottedRowFrom (.code yX11_knottedRowFrom cX11_knottedRowFrom 3 (some .int) :: GW) { frames := 8, cells := 1, slots := 6, locals := 140 } (va_Pc [.ref o, .int (-1)] (zPre g B (fun H => zSO g o z H))) (fun _ _ _ _ => False) (zXT (fun E _ => E = "java/lang/IndexOutOfBoundsException") B 0) 1 6 (zA B) := by
  refine zMetX (by decide) (Nat.le_of_ble_eq_true rfl) ?_
  intro p e R s m args below meth c Q ls hR hargs hQ S hr hlk hex hP hZ hS hl
  have hl : lv_has ls 3 [(0, .ref (o)), (1, .int (-1))] := hl
  subst hQ
  obtain ⟨hRo, hL, hF, hN, hHi, hJ, hQ0, hSc, hLn⟩ := hP
  obtain ⟨hP0, hP1, hP2, hP3, hP4⟩ := id hL
  have hw8 := hv.1.1
  have hk40 := hv.2.1.1
  refine lv_aload_n S.1 S.2.1 dX11_knottedRowFrom_0 rfl (lv_at hl 0 rfl) ?_
  refine z_get (v := .ref (o + 1)) S hZ.1 hRo 0 (by decide) rfl rfl rfl 0 (by decide) rfl k245 dX11_knottedRowFrom_1 ?_
  refine z_get (v := .ref (o + 1 + 6)) S hZ.1 hP0 0 (by decide) rfl rfl rfl 1 (by decide) rfl k121 dX11_knottedRowFrom_4 ?_
  refine lv_iload_n S.1 S.2.1 dX11_knottedRowFrom_7 rfl (lv_at hl 1 rfl) ?_
  refine z_cV (v := some (.int (nI (0)))) (rest := []) (As := [.int (-1)]) S hZ hS (c_X1_hasN l g (z 0 2)) ci_X1_has cv_X1_has k991 ⟨rfl, rfl, by rw [hR]; decide, by rw [hR]; decide⟩ hP2 (hP2.recv hZ.1 0 (by decide) rfl rfl rfl) hl.1 rfl (Nat.le_of_ble_eq_true rfl) dX11_knottedRowFrom_8 ⟨by rw [hR]; decide, by rw [hR]; decide⟩ rfl ?_
  refine z_xS (rest := []) (As := [.int (nI (0))]) S hZ hS (c_requireIndex_f l hl0 g (B := B) false rfl (PH := fun _ => True)) (Nat.le_refl B) ci_X11_requireIndex cv_X11_requireIndex k500 ⟨rfl, rfl, by rw [hR]; exact Nat.le_of_ble_eq_true rfl, by rw [hR]; exact Nat.le_of_ble_eq_true rfl⟩ trivial hl.1 rfl (Nat.le_of_ble_eq_true rfl) dX11_knottedRowFrom_11 ⟨by rw [hR]; exact Nat.le_of_ble_eq_true rfl, by rw [hR]; exact Nat.le_of_ble_eq_true rfl⟩ (fun E ce q9 H1 locs1 hPx hCn hSn hce hcv hcl => ?_)
  exact z_xo hex hlk hce hcv hcl hSn hCn hPx (Nat.le_of_ble_eq_true rfl) (Nat.le_of_ble_eq_true rfl)
set_option maxRecDepth 20000 in
set_option maxHeartbeats 4000000 in
/-- knottedRowFrom, it throws -/
theorem c_knottedRowFrom_no (l : Launch) (hl0 : l.stackTraces = false) (g : ZG) {B : Nat} {o : Nat} (z : zSt) (hv : zOk (z 0)) (a : Nat) (ha : a < z 0 2 0 3) (hno : ∀ k, a ≤ k → k < z 0 2 0 3 → z 0 2 3 k = 0) : vx_Met l yX11_knottedRowFrom (.code yX11_knottedRowFrom cX11_knottedRowFrom 3 (some .int) :: GW) { frames := 8, cells := 1, slots := 6, locals := 140 } (va_Pc [.ref o, .int (nI (a))] (zPre g B (fun H => zSO g o z H))) (fun _ _ _ _ => False) (zXT (fun E _ => E = "java/util/NoSuchElementException") B 0) 1 6 (zA B) := by
  refine zMetX (by decide) (Nat.le_of_ble_eq_true rfl) ?_
  intro p e R s m args below meth c Q ls hR hargs hQ S hr hlk hex hP hZ hS hl
  have hl : lv_has ls 3 [(0, .ref (o)), (1, .int (nI (a)))] := hl
  subst hQ
  obtain ⟨hRo, hL, hF, hN, hHi, hJ, hQ0, hSc, hLn⟩ := hP
  obtain ⟨hP0, hP1, hP2, hP3, hP4⟩ := id hL
  have hw8 := hv.1.1
  have hk40 := hv.2.1.1
  refine lv_aload_n S.1 S.2.1 dX11_knottedRowFrom_0 rfl (lv_at hl 0 rfl) ?_
  refine z_get (v := .ref (o + 1)) S hZ.1 hRo 0 (by decide) rfl rfl rfl 0 (by decide) rfl k245 dX11_knottedRowFrom_1 ?_
  refine z_get (v := .ref (o + 1 + 6)) S hZ.1 hP0 0 (by decide) rfl rfl rfl 1 (by decide) rfl k121 dX11_knottedRowFrom_4 ?_
  refine lv_iload_n S.1 S.2.1 dX11_knottedRowFrom_7 rfl (lv_at hl 1 rfl) ?_
  refine z_cV (v := some (.int (nI (decide (a < z 0 2 0 3)).toNat))) (rest := []) (As := [.int (nI (a))]) S hZ hS (c_X1_has l g (z 0 2) hv.2.1 a (by omega)) ci_X1_has cv_X1_has k991 ⟨rfl, rfl, by rw [hR]; decide, by rw [hR]; decide⟩ hP2 (hP2.recv hZ.1 0 (by decide) rfl rfl rfl) hl.1 rfl (Nat.le_of_ble_eq_true rfl) dX11_knottedRowFrom_8 ⟨by rw [hR]; decide, by rw [hR]; decide⟩ rfl ?_
  refine z_cS (v := none) (rest := []) (As := [.int (nI (decide (a < z 0 2 0 3)).toNat)]) S hZ hS (c_requireIndex_t l g (decide (a < z 0 2 0 3)) (decide_eq_true ha) (PH := fun _ => True)) ci_X11_requireIndex cv_X11_requireIndex k500 ⟨rfl, rfl, by rw [hR]; decide, by rw [hR]; decide⟩ trivial hl.1 rfl (Nat.le_of_ble_eq_true rfl) dX11_knottedRowFrom_11 ⟨by rw [hR]; decide, by rw [hR]; decide⟩ rfl ?_
  refine lv_aload_n S.1 S.2.1 dX11_knottedRowFrom_14 rfl (lv_at hl 0 rfl) ?_
  refine z_get (v := .ref (o + 1)) S hZ.1 hRo 0 (by decide) rfl rfl rfl 0 (by decide) rfl k245 dX11_knottedRowFrom_15 ?_
  refine z_get (v := .ref (o + 1 + 6)) S hZ.1 hP0 0 (by decide) rfl rfl rfl 1 (by decide) rfl k121 dX11_knottedRowFrom_18 ?_
  refine lv_iload_n S.1 S.2.1 dX11_knottedRowFrom_21 rfl (lv_at hl 1 rfl) ?_
  refine z_cV (v := some (.int (-1))) (rest := []) (As := [.int (nI (a))]) S hZ hS (c_X1_firstKnottedRowN l g (z 0 2) hv.2.1 a (by omega) hno) ci_X1_firstKnottedRow cv_X1_firstKnottedRow k1232 ⟨rfl, rfl, by rw [hR]; decide, by rw [hR]; decide⟩ hP2 (hP2.recv hZ.1 0 (by decide) rfl rfl rfl) hl.1 rfl (Nat.le_of_ble_eq_true rfl) dX11_knottedRowFrom_22 ⟨by rw [hR]; decide, by rw [hR]; decide⟩ rfl ?_
  refine lv_istore_n (lv' := [(2, .int (-1)), (0, .ref (o)), (1, .int (nI (a)))]) S.1 S.2.1 dX11_knottedRowFrom_25 rfl hl (by decide) rfl (fun ls hl => ?_)
  refine lv_iload_n S.1 S.2.1 dX11_knottedRowFrom_26 rfl (lv_at hl 0 rfl) ?_
  refine lv_if_lt (tgt := 34) S.1 S.2.1 dX11_knottedRowFrom_27 (by decide) (fun _ => ?_) (fun h6 => absurd (by decide : (-1 : Int32) < 0) h6)
  refine z_ic S (k := 0) dX11_knottedRowFrom_34 (by decide) ?_
  refine z_xS (rest := []) (As := [.int (nI (0))]) S hZ hS (c_requireElement_f l hl0 g (B := B) false rfl (PH := fun _ => True)) (Nat.le_refl B) ci_X11_requireElement cv_X11_requireElement k806 ⟨rfl, rfl, by rw [hR]; exact Nat.le_of_ble_eq_true rfl, by rw [hR]; exact Nat.le_of_ble_eq_true rfl⟩ trivial hl.1 rfl (Nat.le_of_ble_eq_true rfl) dX11_knottedRowFrom_35 ⟨by rw [hR]; exact Nat.le_of_ble_eq_true rfl, by rw [hR]; exact Nat.le_of_ble_eq_true rfl⟩ (fun E ce q9 H1 locs1 hPx hCn hSn hce hcv hcl => ?_)
  exact z_xo hex hlk hce hcv hcl hSn hCn hPx (Nat.le_of_ble_eq_true rfl) (Nat.le_of_ble_eq_true rfl)
set_option maxRecDepth 20000 in
set_option maxHeartbeats 4000000 in
/-- nextKnotRow, it throws -/
theorem c_nextKnotRow_out (l : Launch) (hl0 : l.stackTraces = false) (g : ZG) {B : Nat} {o : Nat} (z : zSt) (hv : zOk (z 0)) (a : Nat) (ha : z 0 2 0 3 ≤ a) (ha2 : a < 2 ^ 31) : vx_Met l yX11_nextKnotRow (.code yX11_nextKnotRow cX11_nextKnotRow 2 (some .int) :: GW) { frames := 9, cells := 1, slots := 6, locals := 165 } (va_Pc [.ref o, .int (nI (a))] (zPre g B (fun H => zSO g o z H))) (fun _ _ _ _ => False) (zXT (fun E _ => E = "java/lang/IndexOutOfBoundsException") B 0) 1 6 (zA B) := by
  refine zMetX (by decide) (Nat.le_of_ble_eq_true rfl) ?_
  intro p e R s m args below meth c Q ls hR hargs hQ S hr hlk hex hP hZ hS hl
  have hl : lv_has ls 2 [(0, .ref (o)), (1, .int (nI (a)))] := hl
  subst hQ
  obtain ⟨hRo, hL, hF, hN, hHi, hJ, hQ0, hSc, hLn⟩ := hP
  obtain ⟨hP0, hP1, hP2, hP3, hP4⟩ := id hL
  have hw8 := hv.1.1
  have hk40 := hv.2.1.1
  refine lv_aload_n S.1 S.2.1 dX11_nextKnotRow_0 rfl (lv_at hl 0 rfl) ?_
  refine lv_iload_n S.1 S.2.1 dX11_nextKnotRow_1 rfl (lv_at hl 1 rfl) ?_
  refine z_xV (rest := []) (As := [.int (nI (a))]) S hZ hS (c_knottedRowFrom_out l hl0 g z hv a ha ha2) (Nat.le_refl B) ci_X11_knottedRowFrom cv_X11_knottedRowFrom k1228 ⟨rfl, rfl, by rw [hR]; exact Nat.le_of_ble_eq_true rfl, by rw [hR]; exact Nat.le_of_ble_eq_true rfl⟩ ⟨hRo, hL, hF, hN, hHi, hJ, hQ0, hSc, hLn⟩ (hRo.recv hZ.1 0 (by decide) rfl rfl rfl) hl.1 rfl (Nat.le_of_ble_eq_true rfl) dX11_nextKnotRow_2 ⟨by rw [hR]; exact Nat.le_of_ble_eq_true rfl, by rw [hR]; exact Nat.le_of_ble_eq_true rfl⟩ (fun E ce q9 H1 locs1 hPx hCn hSn hce hcv hcl => ?_)
  exact z_xo hex hlk hce hcv hcl hSn hCn hPx (Nat.le_of_ble_eq_true rfl) (Nat.le_of_ble_eq_true rfl)
set_option maxRecDepth 20000 in
set_option maxHeartbeats 4000000 in
/-- nextKnotRow, it throws -/
theorem c_nextKnotRow_neg (l : Launch) (hl0 : l.stackTraces = false) (g : ZG) {B : Nat} {o : Nat} (z : zSt) (hv : zOk (z 0))  : vx_Met l yX11_nextKnotRow (.code yX11_nextKnotRow cX11_nextKnotRow 2 (some .int) :: GW) { frames := 9, cells := 1, slots := 6, locals := 165 } (va_Pc [.ref o, .int (-1)] (zPre g B (fun H => zSO g o z H))) (fun _ _ _ _ => False) (zXT (fun E _ => E = "java/lang/IndexOutOfBoundsException") B 0) 1 6 (zA B) := by
  refine zMetX (by decide) (Nat.le_of_ble_eq_true rfl) ?_
  intro p e R s m args below meth c Q ls hR hargs hQ S hr hlk hex hP hZ hS hl
  have hl : lv_has ls 2 [(0, .ref (o)), (1, .int (-1))] := hl
  subst hQ
  obtain ⟨hRo, hL, hF, hN, hHi, hJ, hQ0, hSc, hLn⟩ := hP
  obtain ⟨hP0, hP1, hP2, hP3, hP4⟩ := id hL
  have hw8 := hv.1.1
  have hk40 := hv.2.1.1
  refine lv_aload_n S.1 S.2.1 dX11_nextKnotRow_0 rfl (lv_at hl 0 rfl) ?_
  refine lv_iload_n S.1 S.2.1 dX11_nextKnotRow_1 rfl (lv_at hl 1 rfl) ?_
  refine z_xV (rest := []) (As := [.int (-1)]) S hZ hS (c_knottedRowFrom_neg l hl0 g z hv) (Nat.le_refl B) ci_X11_knottedRowFrom cv_X11_knottedRowFrom k1228 ⟨rfl, rfl, by rw [hR]; exact Nat.le_of_ble_eq_true rfl, by rw [hR]; exact Nat.le_of_ble_eq_true rfl⟩ ⟨hRo, hL, hF, hN, hHi, hJ, hQ0, hSc, hLn⟩ (hRo.recv hZ.1 0 (by decide) rfl rfl rfl) hl.1 rfl (Nat.le_of_ble_eq_true rfl) dX11_nextKnotRow_2 ⟨by rw [hR]; exact Nat.le_of_ble_eq_true rfl, by rw [hR]; exact Nat.le_of_ble_eq_true rfl⟩ (fun E ce q9 H1 locs1 hPx hCn hSn hce hcv hcl => ?_)
  exact z_xo hex hlk hce hcv hcl hSn hCn hPx (Nat.le_of_ble_eq_true rfl) (Nat.le_of_ble_eq_true rfl)
set_option maxRecDepth 20000 in
set_option maxHeartbeats 4000000 in
/-- nextKnotRow, it throws -/
theorem c_nextKnotRow_no (l : Launch) (hl0 : l.stackTraces = false) (g : ZG) {B : Nat} {o : Nat} (z : zSt) (hv : zOk (z 0)) (a : Nat) (ha : a < z 0 2 0 3) (hno : ∀ k, a ≤ k → k < z 0 2 0 3 → z 0 2 3 k = 0) : vx_Met l yX11_nextKnotRow (.code yX11_nextKnotRow cX11_nextKnotRow 2 (some .int) :: GW) { frames := 9, cells := 1, slots := 6, locals := 165 } (va_Pc [.ref o, .int (nI (a))] (zPre g B (fun H => zSO g o z H))) (fun _ _ _ _ => False) (zXT (fun E _ => E = "java/util/NoSuchElementException") B 0) 1 6 (zA B) := by
  refine zMetX (by decide) (Nat.le_of_ble_eq_true rfl) ?_
  intro p e R s m args below meth c Q ls hR hargs hQ S hr hlk hex hP hZ hS hl
  have hl : lv_has ls 2 [(0, .ref (o)), (1, .int (nI (a)))] := hl
  subst hQ
  obtain ⟨hRo, hL, hF, hN, hHi, hJ, hQ0, hSc, hLn⟩ := hP
  obtain ⟨hP0, hP1, hP2, hP3, hP4⟩ := id hL
  have hw8 := hv.1.1
  have hk40 := hv.2.1.1
  refine lv_aload_n S.1 S.2.1 dX11_nextKnotRow_0 rfl (lv_at hl 0 rfl) ?_
  refine lv_iload_n S.1 S.2.1 dX11_nextKnotRow_1 rfl (lv_at hl 1 rfl) ?_
  refine z_xV (rest := []) (As := [.int (nI (a))]) S hZ hS (c_knottedRowFrom_no l hl0 g z hv a ha hno) (Nat.le_refl B) ci_X11_knottedRowFrom cv_X11_knottedRowFrom k1228 ⟨rfl, rfl, by rw [hR]; exact Nat.le_of_ble_eq_true rfl, by rw [hR]; exact Nat.le_of_ble_eq_true rfl⟩ ⟨hRo, hL, hF, hN, hHi, hJ, hQ0, hSc, hLn⟩ (hRo.recv hZ.1 0 (by decide) rfl rfl rfl) hl.1 rfl (Nat.le_of_ble_eq_true rfl) dX11_nextKnotRow_2 ⟨by rw [hR]; exact Nat.le_of_ble_eq_true rfl, by rw [hR]; exact Nat.le_of_ble_eq_true rfl⟩ (fun E ce q9 H1 locs1 hPx hCn hSn hce hcv hcl => ?_)
  exact z_xo hex hlk hce hcv hcl hSn hCn hPx (Nat.le_of_ble_eq_true rfl) (Nat.le_of_ble_eq_true rfl)
set_option maxRecDepth 20000 in
set_option maxHeartbeats 4000000 in
/-- nextKnotColumn, it throws -/
theorem c_nextKnotColumn_out (l : Launch) (hl0 : l.stackTraces = false) (g : ZG) {B : Nat} {o : Nat} (z : zSt) (hv : zOk (z 0)) (a : Nat) (ha : z 0 2 0 3 ≤ a) (ha2 : a < 2 ^ 31) : vx_Met l yX11_nextKnotColumn (.code yX11_nextKnotColumn cX11_nextKnotColumn 2 (some .int) :: GW) { frames := 9, cells := 1, slots := 6, locals := 165 } (va_Pc [.ref o, .int (nI (a))] (zPre g B (fun H => zSO g o z H))) (fun _ _ _ _ => False) (zXT (fun E _ => E = "java/lang/IndexOutOfBoundsException") B 0) 1 6 (zA B) := by
  refine zMetX (by decide) (Nat.le_of_ble_eq_true rfl) ?_
  intro p e R s m args below meth c Q ls hR hargs hQ S hr hlk hex hP hZ hS hl
  have hl : lv_has ls 2 [(0, .ref (o)), (1, .int (nI (a)))] := hl
  subst hQ
  obtain ⟨hRo, hL, hF, hN, hHi, hJ, hQ0, hSc, hLn⟩ := hP
  obtain ⟨hP0, hP1, hP2, hP3, hP4⟩ := id hL
  have hw8 := hv.1.1
  have hk40 := hv.2.1.1
  refine lv_aload_n S.1 S.2.1 dX11_nextKnotColumn_0 rfl (lv_at hl 0 rfl) ?_
  refine z_get (v := .ref (o + 1)) S hZ.1 hRo 0 (by decide) rfl rfl rfl 0 (by decide) rfl k245 dX11_nextKnotColumn_1 ?_
  refine z_get (v := .ref (o + 1 + 6)) S hZ.1 hP0 0 (by decide) rfl rfl rfl 1 (by decide) rfl k121 dX11_nextKnotColumn_4 ?_
  refine lv_aload_n S.1 S.2.1 dX11_nextKnotColumn_7 rfl (lv_at hl 0 rfl) ?_
  refine lv_iload_n S.1 S.2.1 dX11_nextKnotColumn_8 rfl (lv_at hl 1 rfl) ?_
  refine z_xV (rest := [.ref (o + 1 + 6)]) (As := [.int (nI (a))]) S hZ hS (c_knottedRowFrom_out l hl0 g z hv a ha ha2) (Nat.le_refl B) ci_X11_knottedRowFrom cv_X11_knottedRowFrom k1228 ⟨rfl, rfl, by rw [hR]; exact Nat.le_of_ble_eq_true rfl, by rw [hR]; exact Nat.le_of_ble_eq_true rfl⟩ ⟨hRo, hL, hF, hN, hHi, hJ, hQ0, hSc, hLn⟩ (hRo.recv hZ.1 0 (by decide) rfl rfl rfl) hl.1 rfl (Nat.le_of_ble_eq_true rfl) dX11_nextKnotColumn_9 ⟨by rw [hR]; exact Nat.le_of_ble_eq_true rfl, by rw [hR]; exact Nat.le_of_ble_eq_true rfl⟩ (fun E ce q9 H1 locs1 hPx hCn hSn hce hcv hcl => ?_)
  exact z_xo hex hlk hce hcv hcl hSn hCn hPx (Nat.le_of_ble_eq_true rfl) (Nat.le_of_ble_eq_true rfl)
set_option maxRecDepth 20000 in
set_option maxHeartbeats 4000000 in
/-- nextKnotColumn, it throws -/
theorem c_nextKnotColumn_neg (l : Launch) (hl0 : l.stackTraces = false) (g : ZG) {B : Nat} {o : Nat} (z : zSt) (hv : zOk (z 0))  : vx_Met l yX11_nextKnotColumn (.code yX11_nextKnotColumn cX11_nextKnotColumn 2 (some .int) :: GW) { frames := 9, cells := 1, slots := 6, locals := 165 } (va_Pc [.ref o, .int (-1)] (zPre g B (fun H => zSO g o z H))) (fun _ _ _ _ => False) (zXT (fun E _ => E = "java/lang/IndexOutOfBoundsException") B 0) 1 6 (zA B) := by
  refine zMetX (by decide) (Nat.le_of_ble_eq_true rfl) ?_
  intro p e R s m args below meth c Q ls hR hargs hQ S hr hlk hex hP hZ hS hl
  have hl : lv_has ls 2 [(0, .ref (o)), (1, .int (-1))] := hl
  subst hQ
  obtain ⟨hRo, hL, hF, hN, hHi, hJ, hQ0, hSc, hLn⟩ := hP
  obtain ⟨hP0, hP1, hP2, hP3, hP4⟩ := id hL
  have hw8 := hv.1.1
  have hk40 := hv.2.1.1
  refine lv_aload_n S.1 S.2.1 dX11_nextKnotColumn_0 rfl (lv_at hl 0 rfl) ?_
  refine z_get (v := .ref (o + 1)) S hZ.1 hRo 0 (by decide) rfl rfl rfl 0 (by decide) rfl k245 dX11_nextKnotColumn_1 ?_
  refine z_get (v := .ref (o + 1 + 6)) S hZ.1 hP0 0 (by decide) rfl rfl rfl 1 (by decide) rfl k121 dX11_nextKnotColumn_4 ?_
  refine lv_aload_n S.1 S.2.1 dX11_nextKnotColumn_7 rfl (lv_at hl 0 rfl) ?_
  refine lv_iload_n S.1 S.2.1 dX11_nextKnotColumn_8 rfl (lv_at hl 1 rfl) ?_
  refine z_xV (rest := [.ref (o + 1 + 6)]) (As := [.int (-1)]) S hZ hS (c_knottedRowFrom_neg l hl0 g z hv) (Nat.le_refl B) ci_X11_knottedRowFrom cv_X11_knottedRowFrom k1228 ⟨rfl, rfl, by rw [hR]; exact Nat.le_of_ble_eq_true rfl, by rw [hR]; exact Nat.le_of_ble_eq_true rfl⟩ ⟨hRo, hL, hF, hN, hHi, hJ, hQ0, hSc, hLn⟩ (hRo.recv hZ.1 0 (by decide) rfl rfl rfl) hl.1 rfl (Nat.le_of_ble_eq_true rfl) dX11_nextKnotColumn_9 ⟨by rw [hR]; exact Nat.le_of_ble_eq_true rfl, by rw [hR]; exact Nat.le_of_ble_eq_true rfl⟩ (fun E ce q9 H1 locs1 hPx hCn hSn hce hcv hcl => ?_)
  exact z_xo hex hlk hce hcv hcl hSn hCn hPx (Nat.le_of_ble_eq_true rfl) (Nat.le_of_ble_eq_true rfl)
set_option maxRecDepth 20000 in
set_option maxHeartbeats 4000000 in
/-- nextKnotColumn, it throws -/
theorem c_nextKnotColumn_no (l : Launch) (hl0 : l.stackTraces = false) (g : ZG) {B : Nat} {o : Nat} (z : zSt) (hv : zOk (z 0)) (a : Nat) (ha : a < z 0 2 0 3) (hno : ∀ k, a ≤ k → k < z 0 2 0 3 → z 0 2 3 k = 0) : vx_Met l yX11_nextKnotColumn (.code yX11_nextKnotColumn cX11_nextKnotColumn 2 (some .int) :: GW) { frames := 9, cells := 1, slots := 6, locals := 165 } (va_Pc [.ref o, .int (nI (a))] (zPre g B (fun H => zSO g o z H))) (fun _ _ _ _ => False) (zXT (fun E _ => E = "java/util/NoSuchElementException") B 0) 1 6 (zA B) := by
  refine zMetX (by decide) (Nat.le_of_ble_eq_true rfl) ?_
  intro p e R s m args below meth c Q ls hR hargs hQ S hr hlk hex hP hZ hS hl
  have hl : lv_has ls 2 [(0, .ref (o)), (1, .int (nI (a)))] := hl
  subst hQ
  obtain ⟨hRo, hL, hF, hN, hHi, hJ, hQ0, hSc, hLn⟩ := hP
  obtain ⟨hP0, hP1, hP2, hP3, hP4⟩ := id hL
  have hw8 := hv.1.1
  have hk40 := hv.2.1.1
  refine lv_aload_n S.1 S.2.1 dX11_nextKnotColumn_0 rfl (lv_at hl 0 rfl) ?_
  refine z_get (v := .ref (o + 1)) S hZ.1 hRo 0 (by decide) rfl rfl rfl 0 (by decide) rfl k245 dX11_nextKnotColumn_1 ?_
  refine z_get (v := .ref (o + 1 + 6)) S hZ.1 hP0 0 (by decide) rfl rfl rfl 1 (by decide) rfl k121 dX11_nextKnotColumn_4 ?_
  refine lv_aload_n S.1 S.2.1 dX11_nextKnotColumn_7 rfl (lv_at hl 0 rfl) ?_
  refine lv_iload_n S.1 S.2.1 dX11_nextKnotColumn_8 rfl (lv_at hl 1 rfl) ?_
  refine z_xV (rest := [.ref (o + 1 + 6)]) (As := [.int (nI (a))]) S hZ hS (c_knottedRowFrom_no l hl0 g z hv a ha hno) (Nat.le_refl B) ci_X11_knottedRowFrom cv_X11_knottedRowFrom k1228 ⟨rfl, rfl, by rw [hR]; exact Nat.le_of_ble_eq_true rfl, by rw [hR]; exact Nat.le_of_ble_eq_true rfl⟩ ⟨hRo, hL, hF, hN, hHi, hJ, hQ0, hSc, hLn⟩ (hRo.recv hZ.1 0 (by decide) rfl rfl rfl) hl.1 rfl (Nat.le_of_ble_eq_true rfl) dX11_nextKnotColumn_9 ⟨by rw [hR]; exact Nat.le_of_ble_eq_true rfl, by rw [hR]; exact Nat.le_of_ble_eq_true rfl⟩ (fun E ce q9 H1 locs1 hPx hCn hSn hce hcv hcl => ?_)
  exact z_xo hex hlk hce hcv hcl hSn hCn hPx (Nat.le_of_ble_eq_true rfl) (Nat.le_of_ble_eq_true rfl)
set_option maxRecDepth 20000 in
set_option maxHeartbeats 4000000 in
/-- period, it throws -/
theorem c_period_no (l : Launch) (hl0 : l.stackTraces = false) (g : ZG) {B : Nat} {o : Nat} (z : zSt) (hv : zOk (z 0)) (h0 : z 0 2 0 3 = 0) : vx_Met l yX11_period (.code yX11_period cX11_period 2 (some .int) :: GW) { frames := 8, cells := 1, slots := 6, locals := 140 } (va_Pc [.ref o] (zPre g B (fun H => zSO g o z H))) (fun _ _ _ _ => False) (zXT (fun E _ => E = "java/util/NoSuchElementException") B 0) 1 6 (zA B) := by
  refine zMetX (by decide) (Nat.le_of_ble_eq_true rfl) ?_
  intro p e R s m args below meth c Q ls hR hargs hQ S hr hlk hex hP hZ hS hl
  have hl : lv_has ls 2 [(0, .ref (o))] := hl
  subst hQ
  obtain ⟨hRo, hL, hF, hN, hHi, hJ, hQ0, hSc, hLn⟩ := hP
  obtain ⟨hP0, hP1, hP2, hP3, hP4⟩ := id hL
  have hw8 := hv.1.1
  have hk40 := hv.2.1.1
  refine lv_aload_n S.1 S.2.1 dX11_period_0 rfl (lv_at hl 0 rfl) ?_
  refine z_get (v := .ref (o + 1)) S hZ.1 hRo 0 (by decide) rfl rfl rfl 0 (by decide) rfl k245 dX11_period_1 ?_
  refine z_get (v := .ref (o + 1 + 6)) S hZ.1 hP0 0 (by decide) rfl rfl rfl 1 (by decide) rfl k121 dX11_period_4 ?_
  refine z_get (v := .int (nI ((z 0 2) 0 3))) S hZ.1 hP2 0 (by decide) rfl rfl rfl 3 (by decide) rfl k89 dX11_period_7 ?_
  refine z_ile (tgt := 17) S (by omega) dX11_period_10 (by decide) (fun h7 => ?_) (fun h7 => ?_)
  · refine z_ic S (k := 0) dX11_period_17 (by decide) ?_
    refine z_xS (rest := []) (As := [.int (nI (0))]) S hZ hS (c_requireElement_f l hl0 g (B := B) false rfl (PH := fun _ => True)) (Nat.le_refl B) ci_X11_requireElement cv_X11_requireElement k806 ⟨rfl, rfl, by rw [hR]; exact Nat.le_of_ble_eq_true rfl, by rw [hR]; exact Nat.le_of_ble_eq_true rfl⟩ trivial hl.1 rfl (Nat.le_of_ble_eq_true rfl) dX11_period_18 ⟨by rw [hR]; exact Nat.le_of_ble_eq_true rfl, by rw [hR]; exact Nat.le_of_ble_eq_true rfl⟩ (fun E ce q9 H1 locs1 hPx hCn hSn hce hcv hcl => ?_)
    exact z_xo hex hlk hce hcv hcl hSn hCn hPx (Nat.le_of_ble_eq_true rfl) (Nat.le_of_ble_eq_true rfl)
  · exact absurd h7 (by omega)
set_option maxRecDepth 20000 in
set_option maxHeartbeats 4000000 in
/-- periodByBorders, it throws -/
theorem c_periodByBorders_no (l : Launch) (hl0 : l.stackTraces = false) (g : ZG) {B : Nat} {o : Nat} (z : zSt) (hv : zOk (z 0)) (h0 : z 0 2 0 3 = 0) : vx_Met l yX11_periodByBorders (.code yX11_periodByBorders cX11_periodByBorders 1 (some .int) :: GW) { frames := 8, cells := 1, slots := 6, locals := 140 } (va_Pc [.ref o] (zPre g B (fun H => zSO g o z H))) (fun _ _ _ _ => False) (zXT (fun E _ => E = "java/util/NoSuchElementException") B 0) 1 6 (zA B) := by
  refine zMetX (by decide) (Nat.le_of_ble_eq_true rfl) ?_
  intro p e R s m args below meth c Q ls hR hargs hQ S hr hlk hex hP hZ hS hl
  have hl : lv_has ls 1 [(0, .ref (o))] := hl
  subst hQ
  obtain ⟨hRo, hL, hF, hN, hHi, hJ, hQ0, hSc, hLn⟩ := hP
  obtain ⟨hP0, hP1, hP2, hP3, hP4⟩ := id hL
  have hw8 := hv.1.1
  have hk40 := hv.2.1.1
  refine lv_aload_n S.1 S.2.1 dX11_periodByBorders_0 rfl (lv_at hl 0 rfl) ?_
  refine z_get (v := .ref (o + 1)) S hZ.1 hRo 0 (by decide) rfl rfl rfl 0 (by decide) rfl k245 dX11_periodByBorders_1 ?_
  refine z_get (v := .ref (o + 1 + 6)) S hZ.1 hP0 0 (by decide) rfl rfl rfl 1 (by decide) rfl k121 dX11_periodByBorders_4 ?_
  refine z_get (v := .int (nI ((z 0 2) 0 3))) S hZ.1 hP2 0 (by decide) rfl rfl rfl 3 (by decide) rfl k89 dX11_periodByBorders_7 ?_
  refine z_ile (tgt := 17) S (by omega) dX11_periodByBorders_10 (by decide) (fun h7 => ?_) (fun h7 => ?_)
  · refine z_ic S (k := 0) dX11_periodByBorders_17 (by decide) ?_
    refine z_xS (rest := []) (As := [.int (nI (0))]) S hZ hS (c_requireElement_f l hl0 g (B := B) false rfl (PH := fun _ => True)) (Nat.le_refl B) ci_X11_requireElement cv_X11_requireElement k806 ⟨rfl, rfl, by rw [hR]; exact Nat.le_of_ble_eq_true rfl, by rw [hR]; exact Nat.le_of_ble_eq_true rfl⟩ trivial hl.1 rfl (Nat.le_of_ble_eq_true rfl) dX11_periodByBorders_18 ⟨by rw [hR]; exact Nat.le_of_ble_eq_true rfl, by rw [hR]; exact Nat.le_of_ble_eq_true rfl⟩ (fun E ce q9 H1 locs1 hPx hCn hSn hce hcv hcl => ?_)
    exact z_xo hex hlk hce hcv hcl hSn hCn hPx (Nat.le_of_ble_eq_true rfl) (Nat.le_of_ble_eq_true rfl)
  · exact absurd h7 (by omega)
set_option maxRecDepth 20000 in
set_option maxHeartbeats 4000000 in
/-- occurrences, it throws -/
theorem c_occurrences_0 (l : Launch) (hl0 : l.stackTraces = false) (g : ZG) {B : Nat} {o : Nat} (z : zSt) (hv : zOk (z 0))  : vx_Met l yX11_occurrences (.code yX11_occurrences cX11_occurrences 2 (some .int) :: GW) { frames := 8, cells := 1, slots := 6, locals := 140 } (va_Pc [.ref o, .int (nI (0))] (zPre g B (fun H => zSO g o z H))) (fun _ _ _ _ => False) (zXT (fun E _ => E = "java/lang/IllegalArgumentException") B 0) 1 6 (zA B) := by
  refine zMetX (by decide) (Nat.le_of_ble_eq_true rfl) ?_
  intro p e R s m args below meth c Q ls hR hargs hQ S hr hlk hex hP hZ hS hl
  have hl : lv_has ls 2 [(0, .ref (o)), (1, .int (nI (0)))] := hl
  subst hQ
  obtain ⟨hRo, hL, hF, hN, hHi, hJ, hQ0, hSc, hLn⟩ := hP
  obtain ⟨hP0, hP1, hP2, hP3, hP4⟩ := id hL
  have hw8 := hv.1.1
  have hk40 := hv.2.1.1
  refine lv_iload_n S.1 S.2.1 dX11_occurrences_0 rfl (lv_at hl 1 rfl) ?_
  refine z_ic S (k := 1) dX11_occurrences_1 (by decide) ?_
  refine z_clt (tgt := 23) S (by omega) (by omega) dX11_occurrences_2 (by decide) (fun h7 => ?_) (fun h7 => ?_)
  · refine z_ic S (k := 0) dX11_occurrences_23 (by decide) ?_
    refine z_xS (rest := []) (As := [.int (nI (0))]) S hZ hS (c_requireRange_f l hl0 g (B := B) false rfl (PH := fun _ => True)) (Nat.le_refl B) ci_X11_requireRange cv_X11_requireRange k425 ⟨rfl, rfl, by rw [hR]; exact Nat.le_of_ble_eq_true rfl, by rw [hR]; exact Nat.le_of_ble_eq_true rfl⟩ trivial hl.1 rfl (Nat.le_of_ble_eq_true rfl) dX11_occurrences_24 ⟨by rw [hR]; exact Nat.le_of_ble_eq_true rfl, by rw [hR]; exact Nat.le_of_ble_eq_true rfl⟩ (fun E ce q9 H1 locs1 hPx hCn hSn hce hcv hcl => ?_)
    exact z_xo hex hlk hce hcv hcl hSn hCn hPx (Nat.le_of_ble_eq_true rfl) (Nat.le_of_ble_eq_true rfl)
  · exact absurd h7 (by omega)
set_option maxRecDepth 20000 in
set_option maxHeartbeats 4000000 in
/-- occurrences, it throws -/
theorem c_occurrences_no (l : Launch) (hl0 : l.stackTraces = false) (g : ZG) {B : Nat} {o : Nat} (z : zSt) (hv : zOk (z 0)) (i : Nat) (h1i : 1 ≤ i) (hi : z 0 2 0 3 < i) (hi2 : i < 2 ^ 31) : vx_Met l yX11_occurrences (.code yX11_occurrences cX11_occurrences 2 (some .int) :: GW) { frames := 8, cells := 1, slots := 6, locals := 140 } (va_Pc [.ref o, .int (nI (i))] (zPre g B (fun H => zSO g o z H))) (fun _ _ _ _ => False) (zXT (fun E _ => E = "java/lang/IllegalArgumentException") B 0) 1 6 (zA B) := by
  refine zMetX (by decide) (Nat.le_of_ble_eq_true rfl) ?_
  intro p e R s m args below meth c Q ls hR hargs hQ S hr hlk hex hP hZ hS hl
  have hl : lv_has ls 2 [(0, .ref (o)), (1, .int (nI (i)))] := hl
  subst hQ
  obtain ⟨hRo, hL, hF, hN, hHi, hJ, hQ0, hSc, hLn⟩ := hP
  obtain ⟨hP0, hP1, hP2, hP3, hP4⟩ := id hL
  have hw8 := hv.1.1
  have hk40 := hv.2.1.1
  refine lv_iload_n S.1 S.2.1 dX11_occurrences_0 rfl (lv_at hl 1 rfl) ?_
  refine z_ic S (k := 1) dX11_occurrences_1 (by decide) ?_
  refine z_clt (tgt := 23) S (by omega) (by omega) dX11_occurrences_2 (by decide) (fun h7 => ?_) (fun h7 => ?_)
  · exact absurd h7 (by omega)
  · refine lv_iload_n S.1 S.2.1 dX11_occurrences_5 rfl (lv_at hl 1 rfl) ?_
    refine lv_aload_n S.1 S.2.1 dX11_occurrences_6 rfl (lv_at hl 0 rfl) ?_
    refine z_get (v := .ref (o + 1)) S hZ.1 hRo 0 (by decide) rfl rfl rfl 0 (by decide) rfl k245 dX11_occurrences_7 ?_
    refine z_get (v := .ref (o + 1 + 6)) S hZ.1 hP0 0 (by decide) rfl rfl rfl 1 (by decide) rfl k121 dX11_occurrences_10 ?_
    refine z_get (v := .int (nI ((z 0 2) 0 3))) S hZ.1 hP2 0 (by decide) rfl rfl rfl 3 (by decide) rfl k89 dX11_occurrences_13 ?_
    refine z_cgt (tgt := 23) S (by omega) (by omega) dX11_occurrences_16 (by decide) (fun h8 => ?_) (fun h8 => ?_)
    · refine z_ic S (k := 0) dX11_occurrences_23 (by decide) ?_
      refine z_xS (rest := []) (As := [.int (nI (0))]) S hZ hS (c_requireRange_f l hl0 g (B := B) false rfl (PH := fun _ => True)) (Nat.le_refl B) ci_X11_requireRange cv_X11_requireRange k425 ⟨rfl, rfl, by rw [hR]; exact Nat.le_of_ble_eq_true rfl, by rw [hR]; exact Nat.le_of_ble_eq_true rfl⟩ trivial hl.1 rfl (Nat.le_of_ble_eq_true rfl) dX11_occurrences_24 ⟨by rw [hR]; exact Nat.le_of_ble_eq_true rfl, by rw [hR]; exact Nat.le_of_ble_eq_true rfl⟩ (fun E ce q9 H1 locs1 hPx hCn hSn hce hcv hcl => ?_)
      exact z_xo hex hlk hce hcv hcl hSn hCn hPx (Nat.le_of_ble_eq_true rfl) (Nat.le_of_ble_eq_true rfl)
    · exact absurd h8 (by omega)
theorem ci_X11_meanRaised : zCI yX11_meanRaised cX11_meanRaised 1 (some .double) 0 := ⟨k1139, k1, by decide +kernel⟩
theorem cv_X11_meanRaised : Cond.instanceMethod yX11_meanRaised ∈ GW ∧ Cond.selects (yX11_meanRaised).cls yX11_meanRaised yX11_meanRaised ∈ GW := ⟨k1137, k1138⟩
set_option maxRecDepth 20000 in
set_option maxHeartbeats 4000000 in
/-- meanRaised, it throws -/
theorem c_meanRaised_no (l : Launch) (hl0 : l.stackTraces = false) (g : ZG) {B : Nat} {o : Nat} (z : zSt) (hv : zOk (z 0)) (h0 : z 0 2 0 3 = 0) : vx_Met l yX11_meanRaised (.code yX11_meanRaised cX11_meanRaised 1 (some .double) :: GW) { frames := 8, cells := 1, slots := 6, locals := 140 } (va_Pc [.ref o] (zPre g B (fun H => zSO g o z H))) (fun _ _ _ _ => False) (zXT (fun E _ => E = "java/lang/ArithmeticException") B 0) 1 6 (zA B) := by
  refine zMetX (by decide) (Nat.le_of_ble_eq_true rfl) ?_
  intro p e R s m args below meth c Q ls hR hargs hQ S hr hlk hex hP hZ hS hl
  have hl : lv_has ls 1 [(0, .ref (o))] := hl
  subst hQ
  obtain ⟨hRo, hL, hF, hN, hHi, hJ, hQ0, hSc, hLn⟩ := hP
  obtain ⟨hP0, hP1, hP2, hP3, hP4⟩ := id hL
  have hw8 := hv.1.1
  have hk40 := hv.2.1.1
  refine lv_aload_n S.1 S.2.1 dX11_meanRaised_0 rfl (lv_at hl 0 rfl) ?_
  refine z_get (v := .ref (o + 1)) S hZ.1 hRo 0 (by decide) rfl rfl rfl 0 (by decide) rfl k245 dX11_meanRaised_1 ?_
  refine z_get (v := .ref (o + 1 + 6)) S hZ.1 hP0 0 (by decide) rfl rfl rfl 1 (by decide) rfl k121 dX11_meanRaised_4 ?_
  refine z_get (v := .int (nI ((z 0 2) 0 3))) S hZ.1 hP2 0 (by decide) rfl rfl rfl 3 (by decide) rfl k89 dX11_meanRaised_7 ?_
  refine z_xS (rest := []) (As := [.int (nI ((z 0 2) 0 3))]) S hZ hS (c_requireDivisor_f l hl0 g (B := B) (z 0 2 0 3) h0 (PH := fun _ => True)) (Nat.le_refl B) ci_X11_requireDivisor cv_X11_requireDivisor k1140 ⟨rfl, rfl, by rw [hR]; exact Nat.le_of_ble_eq_true rfl, by rw [hR]; exact Nat.le_of_ble_eq_true rfl⟩ trivial hl.1 rfl (Nat.le_of_ble_eq_true rfl) dX11_meanRaised_10 ⟨by rw [hR]; exact Nat.le_of_ble_eq_true rfl, by rw [hR]; exact Nat.le_of_ble_eq_true rfl⟩ (fun E ce q9 H1 locs1 hPx hCn hSn hce hcv hcl => ?_)
  exact z_xo hex hlk hce hcv hcl hSn hCn hPx (Nat.le_of_ble_eq_true rfl) (Nat.le_of_ble_eq_true rfl)
theorem ci_X11_knotShare : zCI yX11_knotShare cX11_knotShare 1 (some .float) 0 := ⟨k1157, k1, by decide +kernel⟩
theorem cv_X11_knotShare : Cond.instanceMethod yX11_knotShare ∈ GW ∧ Cond.selects (yX11_knotShare).cls yX11_knotShare yX11_knotShare ∈ GW := ⟨k1155, k1156⟩
set_option maxRecDepth 20000 in
set_option maxHeartbeats 4000000 in
/-- knotShare, it throws -/
theorem c_knotShare_no (l : Launch) (hl0 : l.stackTraces = false) (g : ZG) {B : Nat} {o : Nat} (z : zSt) (hv : zOk (z 0)) (h0 : z 0 2 0 3 = 0) : vx_Met l yX11_knotShare (.code yX11_knotShare cX11_knotShare 1 (some .float) :: GW) { frames := 8, cells := 1, slots := 6, locals := 140 } (va_Pc [.ref o] (zPre g B (fun H => zSO g o z H))) (fun _ _ _ _ => False) (zXT (fun E _ => E = "java/lang/ArithmeticException") B 0) 1 6 (zA B) := by
  refine zMetX (by decide) (Nat.le_of_ble_eq_true rfl) ?_
  intro p e R s m args below meth c Q ls hR hargs hQ S hr hlk hex hP hZ hS hl
  have hl : lv_has ls 1 [(0, .ref (o))] := hl
  subst hQ
  obtain ⟨hRo, hL, hF, hN, hHi, hJ, hQ0, hSc, hLn⟩ := hP
  obtain ⟨hP0, hP1, hP2, hP3, hP4⟩ := id hL
  have hw8 := hv.1.1
  have hk40 := hv.2.1.1
  refine lv_aload_n S.1 S.2.1 dX11_knotShare_0 rfl (lv_at hl 0 rfl) ?_
  refine z_get (v := .ref (o + 1)) S hZ.1 hRo 0 (by decide) rfl rfl rfl 0 (by decide) rfl k245 dX11_knotShare_1 ?_
  refine z_get (v := .ref (o + 1 + 6)) S hZ.1 hP0 0 (by decide) rfl rfl rfl 1 (by decide) rfl k121 dX11_knotShare_4 ?_
  refine z_get (v := .int (nI ((z 0 2) 0 3))) S hZ.1 hP2 0 (by decide) rfl rfl rfl 3 (by decide) rfl k89 dX11_knotShare_7 ?_
  refine z_xS (rest := []) (As := [.int (nI ((z 0 2) 0 3))]) S hZ hS (c_requireDivisor_f l hl0 g (B := B) (z 0 2 0 3) h0 (PH := fun _ => True)) (Nat.le_refl B) ci_X11_requireDivisor cv_X11_requireDivisor k1140 ⟨rfl, rfl, by rw [hR]; exact Nat.le_of_ble_eq_true rfl, by rw [hR]; exact Nat.le_of_ble_eq_true rfl⟩ trivial hl.1 rfl (Nat.le_of_ble_eq_true rfl) dX11_knotShare_10 ⟨by rw [hR]; exact Nat.le_of_ble_eq_true rfl, by rw [hR]; exact Nat.le_of_ble_eq_true rfl⟩ (fun E ce q9 H1 locs1 hPx hCn hSn hce hcv hcl => ?_)
  exact z_xo hex hlk hce hcv hcl hSn hCn hPx (Nat.le_of_ble_eq_true rfl) (Nat.le_of_ble_eq_true rfl)
theorem ci_X11_restoreSnapshot : zCI yX11_restoreSnapshot cX11_restoreSnapshot 1 (some .int) 0 := ⟨k869, k1, by decide +kernel⟩
theorem cv_X11_restoreSnapshot : Cond.instanceMethod yX11_restoreSnapshot ∈ GW ∧ Cond.selects (yX11_restoreSnapshot).cls yX11_restoreSnapshot yX11_restoreSnapshot ∈ GW := ⟨k867, k868⟩
theorem ci_X11_undo : zCI yX11_undo cX11_undo 1 (some .int) 0 := ⟨k839, k1, by decide +kernel⟩
theorem cv_X11_undo : Cond.instanceMethod yX11_undo ∈ GW ∧ Cond.selects (yX11_undo).cls yX11_undo yX11_undo ∈ GW := ⟨k837, k838⟩
set_option maxRecDepth 20000 in
set_option maxHeartbeats 4000000 in
/-- restoreSnapshot, it throws -/
theorem c_restoreSnapshot_no (l : Launch) (hl0 : l.stackTraces = false) (g : ZG) {B : Nat} {o : Nat} (z : zSt) (hv : zOk (z 0)) (h0 : z 11 0 0 3 = 0) : vx_Met l yX11_restoreSnapshot (.code yX11_restoreSnapshot cX11_restoreSnapshot 1 (some .int) :: GW) { frames := 8, cells := 1, slots := 6, locals := 140 } (va_Pc [.ref o] (zPre g B (fun H => zSO g o z H))) (fun _ _ _ _ => False) (zXT (fun E _ => E = "java/lang/IllegalStateException") B 0) 1 6 (zA B) := by
  refine zMetX (by decide) (Nat.le_of_ble_eq_true rfl) ?_
  intro p e R s m args below meth c Q ls hR hargs hQ S hr hlk hex hP hZ hS hl
  have hl : lv_has ls 1 [(0, .ref (o))] := hl
  subst hQ
  obtain ⟨hRo, hL, hF, hN, hHi, hJ, hQ0, hSc, hLn⟩ := hP
  obtain ⟨hP0, hP1, hP2, hP3, hP4⟩ := id hL
  have hw8 := hv.1.1
  have hk40 := hv.2.1.1
  refine lv_aload_n S.1 S.2.1 dX11_restoreSnapshot_0 rfl (lv_at hl 0 rfl) ?_
  refine z_get (v := .int (nI ((z 11 0) 0 3))) S hZ.1 hRo 0 (by decide) rfl rfl rfl 3 (by decide) rfl k248 dX11_restoreSnapshot_1 ?_
  rw [h0]
  refine z_xS (rest := []) (As := [.int (nI (0))]) S hZ hS (c_requireState_f l hl0 g (B := B) false rfl (PH := fun _ => True)) (Nat.le_refl B) ci_X11_requireState cv_X11_requireState k840 ⟨rfl, rfl, by rw [hR]; exact Nat.le_of_ble_eq_true rfl, by rw [hR]; exact Nat.le_of_ble_eq_true rfl⟩ trivial hl.1 rfl (Nat.le_of_ble_eq_true rfl) dX11_restoreSnapshot_4 ⟨by rw [hR]; exact Nat.le_of_ble_eq_true rfl, by rw [hR]; exact Nat.le_of_ble_eq_true rfl⟩ (fun E ce q9 H1 locs1 hPx hCn hSn hce hcv hcl => ?_)
  exact z_xo hex hlk hce hcv hcl hSn hCn hPx (Nat.le_of_ble_eq_true rfl) (Nat.le_of_ble_eq_true rfl)
set_option maxRecDepth 20000 in
set_option maxHeartbeats 4000000 in
/-- undo, it throws -/
theorem c_undo_no (l : Launch) (hl0 : l.stackTraces = false) (g : ZG) {B : Nat} {o : Nat} (z : zSt) (hv : zOk (z 0)) (h0 : z 12 0 0 2 = 0) : vx_Met l yX11_undo (.code yX11_undo cX11_undo 1 (some .int) :: GW) { frames := 8, cells := 1, slots := 6, locals := 140 } (va_Pc [.ref o] (zPre g B (fun H => zSO g o z H))) (fun _ _ _ _ => False) (zXT (fun E _ => E = "java/lang/IllegalStateException") B 0) 1 6 (zA B) := by
  refine zMetX (by decide) (Nat.le_of_ble_eq_true rfl) ?_
  intro p e R s m args below meth c Q ls hR hargs hQ S hr hlk hex hP hZ hS hl
  have hl : lv_has ls 1 [(0, .ref (o))] := hl
  subst hQ
  obtain ⟨hRo, hL, hF, hN, hHi, hJ, hQ0, hSc, hLn⟩ := hP
  obtain ⟨hP0, hP1, hP2, hP3, hP4⟩ := id hL
  have hw8 := hv.1.1
  have hk40 := hv.2.1.1
  refine lv_aload_n S.1 S.2.1 dX11_undo_0 rfl (lv_at hl 0 rfl) ?_
  refine z_get (v := .ref (o + 37)) S hZ.1 hRo 0 (by decide) rfl rfl rfl 4 (by decide) rfl k249 dX11_undo_1 ?_
  refine z_get (v := .int (nI ((z 12 0) 0 2))) S hZ.1 hHi.1 0 (by decide) rfl rfl rfl 2 (by decide) rfl k153 dX11_undo_4 ?_
  refine z_ile (tgt := 14) S (by omega) dX11_undo_7 (by decide) (fun h7 => ?_) (fun h7 => ?_)
  · refine z_ic S (k := 0) dX11_undo_14 (by decide) ?_
    refine z_xS (rest := []) (As := [.int (nI (0))]) S hZ hS (c_requireState_f l hl0 g (B := B) false rfl (PH := fun _ => True)) (Nat.le_refl B) ci_X11_requireState cv_X11_requireState k840 ⟨rfl, rfl, by rw [hR]; exact Nat.le_of_ble_eq_true rfl, by rw [hR]; exact Nat.le_of_ble_eq_true rfl⟩ trivial hl.1 rfl (Nat.le_of_ble_eq_true rfl) dX11_undo_15 ⟨by rw [hR]; exact Nat.le_of_ble_eq_true rfl, by rw [hR]; exact Nat.le_of_ble_eq_true rfl⟩ (fun E ce q9 H1 locs1 hPx hCn hSn hce hcv hcl => ?_)
    exact z_xo hex hlk hce hcv hcl hSn hCn hPx (Nat.le_of_ble_eq_true rfl) (Nat.le_of_ble_eq_true rfl)
  · exact absurd h7 (by omega)
