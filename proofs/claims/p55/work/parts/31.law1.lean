/-! THE LAW: its small readers -/
theorem ci_L_areEqual : zCI yL_areEqual cL_areEqual 3 (some .boolean) 3 := ⟨k1088, k0, by decide +kernel⟩
theorem cv_L_areEqual : Cond.static yL_areEqual ∈ GW := k1087
set_option maxRecDepth 20000 in
set_option maxHeartbeats 4000000 in
/-- c_areEqual -/
theorem c_areEqual (l : Launch) (g : ZG) {B : Nat} {o : Nat} (z : zSt) (hv : zOk (z 0)) (i j : Nat) (hi : i < z 0 2 0 3) (hj : j < z 0 2 0 3) : Met l yL_areEqual (.code yL_areEqual cL_areEqual 3 (some .boolean) :: GW) { frames := 2, cells := 0, slots := 0, locals := 42 } (va_Pc [.ref o, .int (nI (i)), .int (nI (j))] (zPre g B (fun H => zSO g o z H))) (zR (some (.int (nI (zRw (z 0 2) i j).toNat)))) 0 0 (fun _ => False) := by
  refine zMet (by decide) (Nat.le_of_ble_eq_true rfl) ?_
  intro p e R s m args below meth c Q ls hR hargs hQ S hr hlk hP hZ hS hnm hl
  have hl : lv_has ls 3 [(0, .ref (o)), (1, .int (nI (i))), (2, .int (nI (j)))] := hl
  have hRo := hP.1
  have hk40 := hv.2.1.1
  have m1 := hv.2.1.m i
  have m2 := hv.2.1.m j
  have l1 := hv.2.1.l i
  have l2 := hv.2.1.l j
  refine lv_aload_n S.1 S.2.1 dL_areEqual_0 rfl (lv_at hl 0 rfl) ?_
  refine lv_iload_n S.1 S.2.1 dL_areEqual_1 rfl (lv_at hl 1 rfl) ?_
  refine z_cV (v := some (.int (nI (z 0 2 1 i)))) (rest := []) (As := [.int (nI (i))]) S hZ hS (c_rowMask l g z hv i hi) ci_X11_rowMask cv_X11_rowMask k987 ⟨rfl, rfl, by rw [hR]; decide, by rw [hR]; decide⟩ hP (hRo.recv hZ.1 0 (by decide) rfl rfl rfl) hl.1 rfl (Nat.le_of_ble_eq_true rfl) dL_areEqual_2 ⟨by rw [hR]; decide, by rw [hR]; decide⟩ rfl ?_
  refine lv_aload_n S.1 S.2.1 dL_areEqual_5 rfl (lv_at hl 0 rfl) ?_
  refine lv_iload_n S.1 S.2.1 dL_areEqual_6 rfl (lv_at hl 2 rfl) ?_
  refine z_cV (v := some (.int (nI (z 0 2 1 j)))) (rest := [.int (nI (z 0 2 1 i))]) (As := [.int (nI (j))]) S hZ hS (c_rowMask l g z hv j hj) ci_X11_rowMask cv_X11_rowMask k987 ⟨rfl, rfl, by rw [hR]; decide, by rw [hR]; decide⟩ hP (hRo.recv hZ.1 0 (by decide) rfl rfl rfl) hl.1 rfl (Nat.le_of_ble_eq_true rfl) dL_areEqual_7 ⟨by rw [hR]; decide, by rw [hR]; decide⟩ rfl ?_
  refine z_cne (tgt := 30) S m1 m2 dL_areEqual_10 (by decide) (fun h1 => ?_) (fun h1 => ?_)
  · refine z_ic S (k := 0) dL_areEqual_30 (by decide) ?_
    exact z_ri hQ S hr hlk (zn_bool false) (by rw [show zRw (z 0 2) i j = false from decide_eq_false (fun q => h1 q.1)]; rfl) dL_areEqual_31
  · refine lv_aload_n S.1 S.2.1 dL_areEqual_13 rfl (lv_at hl 0 rfl) ?_
    refine lv_iload_n S.1 S.2.1 dL_areEqual_14 rfl (lv_at hl 1 rfl) ?_
    refine z_cV (v := some (.int (nI (z 0 2 2 i)))) (rest := []) (As := [.int (nI (i))]) S hZ hS (c_rowColour l g z hv i hi) ci_X11_rowColour cv_X11_rowColour k992 ⟨rfl, rfl, by rw [hR]; decide, by rw [hR]; decide⟩ hP (hRo.recv hZ.1 0 (by decide) rfl rfl rfl) hl.1 rfl (Nat.le_of_ble_eq_true rfl) dL_areEqual_15 ⟨by rw [hR]; decide, by rw [hR]; decide⟩ rfl ?_
    refine lv_aload_n S.1 S.2.1 dL_areEqual_18 rfl (lv_at hl 0 rfl) ?_
    refine lv_iload_n S.1 S.2.1 dL_areEqual_19 rfl (lv_at hl 2 rfl) ?_
    refine z_cV (v := some (.int (nI (z 0 2 2 j)))) (rest := [.int (nI (z 0 2 2 i))]) (As := [.int (nI (j))]) S hZ hS (c_rowColour l g z hv j hj) ci_X11_rowColour cv_X11_rowColour k992 ⟨rfl, rfl, by rw [hR]; decide, by rw [hR]; decide⟩ hP (hRo.recv hZ.1 0 (by decide) rfl rfl rfl) hl.1 rfl (Nat.le_of_ble_eq_true rfl) dL_areEqual_20 ⟨by rw [hR]; decide, by rw [hR]; decide⟩ rfl ?_
    refine z_cne (tgt := 30) S l1 l2 dL_areEqual_23 (by decide) (fun h2 => ?_) (fun h2 => ?_)
    · refine z_ic S (k := 0) dL_areEqual_30 (by decide) ?_
      exact z_ri hQ S hr hlk (zn_bool false) (by rw [show zRw (z 0 2) i j = false from decide_eq_false (fun q => h2 q.2)]; rfl) dL_areEqual_31
    · refine z_ic S (k := 1) dL_areEqual_26 (by decide) ?_
      refine lv_goto (tgt := 31) S.1 S.2.1 dL_areEqual_27 (by decide) ?_
      exact z_ri hQ S hr hlk (zn_bool true) (by rw [show zRw (z 0 2) i j = true from decide_eq_true ⟨h1, h2⟩]; rfl) dL_areEqual_31
