/-! THE LAW: isFit -/
theorem ci_L_isFit : zCI yL_isFit cL_isFit 1 (some .boolean) 1 := ⟨k1049, k0, by decide +kernel⟩
theorem cv_L_isFit : Cond.static yL_isFit ∈ GW := k1048
set_option maxRecDepth 20000 in
set_option maxHeartbeats 4000000 in
/-- isFit -/
theorem c_isFit (l : Launch) (hl0 : l.stackTraces = false) (g : ZG) {B : Nat} {o : Nat} (hB : B ≤ o) (z : zSt) (hI : yIv z) : Met l yL_isFit (.code yL_isFit cL_isFit 1 (some .boolean) :: GW) { frames := 16, cells := 98, slots := 588, locals := 340 } (va_Pc [.ref o] (zPre g B (fun H => zSO g o z H))) (zX (fun w H => w = some (.int (nI 1)) ∧ ∃ z9, zSO g o z9 H ∧ yKe z z9) o 152) 98 588 (zA B) := by
  refine zMet (by decide) (Nat.le_of_ble_eq_true rfl) ?_
  intro p e R s m args below meth c Q ls hR hargs hQ S hr hlk hP hZ hS hnm hl
  have hl : lv_has ls 1 [(0, .ref (o))] := hl
  have hC : zCh1 o 152 s.heap s.heap := zCh1.rf
  have hk := yKe.rf hI
  refine lv_aload_n S.1 S.2.1 dL_isFit_0 rfl (lv_at hl 0 rfl) ?_
  refine z_w1S (v0 := some (.int (nI (1)))) (rest := []) (As := [.ref (o)]) S hZ hS (c_areRows l hl0 g hB z hk.1) hB ci_L_areRows cv_L_areRows k1050 ⟨rfl, rfl, by rw [hR]; exact Nat.le_of_ble_eq_true rfl, by rw [hR]; exact Nat.le_of_ble_eq_true rfl⟩ hP hl.1 rfl (Nat.le_of_ble_eq_true rfl) dL_isFit_1 ⟨by rw [hR]; exact Nat.le_of_ble_eq_true rfl, by rw [hR]; exact Nat.le_of_ble_eq_true rfl⟩ rfl (fun H1 locs1 hPn hCn hSn => ?_)
  clear hP
  obtain ⟨z1, hP, hn⟩ := hPn
  replace hk := hk.tr hn.ke
  clear hn
  replace hS := hSn
  replace hC := hC.tr hCn
  clear hCn hSn
  refine z_kie (tgt := 57) S (by decide) dL_isFit_4 (by decide) ?_
  refine lv_aload_n S.1 S.2.1 dL_isFit_7 rfl (lv_at hl 0 rfl) ?_
  refine z_w1S (v0 := some (.int (nI (1)))) (rest := []) (As := [.ref (o)]) S hZ hS (c_arePeriods l hl0 g hB z1 hk.1) hB ci_L_arePeriods cv_L_arePeriods k1158 ⟨rfl, rfl, by rw [hR]; exact Nat.le_of_ble_eq_true rfl, by rw [hR]; exact Nat.le_of_ble_eq_true rfl⟩ hP hl.1 rfl (Nat.le_of_ble_eq_true rfl) dL_isFit_8 ⟨by rw [hR]; exact Nat.le_of_ble_eq_true rfl, by rw [hR]; exact Nat.le_of_ble_eq_true rfl⟩ rfl (fun H1 locs1 hPn hCn hSn => ?_)
  clear hP
  obtain ⟨z2, hP, hn⟩ := hPn
  replace hk := hk.tr hn.ke
  clear hn
  replace hS := hSn
  replace hC := hC.tr hCn
  clear hCn hSn
  refine z_kie (tgt := 57) S (by decide) dL_isFit_11 (by decide) ?_
  refine lv_aload_n S.1 S.2.1 dL_isFit_14 rfl (lv_at hl 0 rfl) ?_
  refine z_w1S (v0 := some (.int (nI (1)))) (rest := []) (As := [.ref (o)]) S hZ hS (c_areWicks l hl0 g hB z2 hk.1) hB ci_L_areWicks cv_L_areWicks k1002 ⟨rfl, rfl, by rw [hR]; exact Nat.le_of_ble_eq_true rfl, by rw [hR]; exact Nat.le_of_ble_eq_true rfl⟩ hP hl.1 rfl (Nat.le_of_ble_eq_true rfl) dL_isFit_15 ⟨by rw [hR]; exact Nat.le_of_ble_eq_true rfl, by rw [hR]; exact Nat.le_of_ble_eq_true rfl⟩ rfl (fun H1 locs1 hPn hCn hSn => ?_)
  clear hP
  obtain ⟨z3, hP, hn⟩ := hPn
  replace hk := hk.tr hn.ke
  clear hn
  replace hS := hSn
  replace hC := hC.tr hCn
  clear hCn hSn
  refine z_kie (tgt := 57) S (by decide) dL_isFit_18 (by decide) ?_
  refine lv_aload_n S.1 S.2.1 dL_isFit_21 rfl (lv_at hl 0 rfl) ?_
  refine z_w1S (v0 := some (.int (nI (1)))) (rest := []) (As := [.ref (o)]) S hZ hS (c_areKnots l hl0 g hB z3 hk.1) hB ci_L_areKnots cv_L_areKnots k1218 ⟨rfl, rfl, by rw [hR]; exact Nat.le_of_ble_eq_true rfl, by rw [hR]; exact Nat.le_of_ble_eq_true rfl⟩ hP hl.1 rfl (Nat.le_of_ble_eq_true rfl) dL_isFit_22 ⟨by rw [hR]; exact Nat.le_of_ble_eq_true rfl, by rw [hR]; exact Nat.le_of_ble_eq_true rfl⟩ rfl (fun H1 locs1 hPn hCn hSn => ?_)
  clear hP
  obtain ⟨z4, hP, hn⟩ := hPn
  replace hk := hk.tr hn.ke
  clear hn
  replace hS := hSn
  replace hC := hC.tr hCn
  clear hCn hSn
  refine z_kie (tgt := 57) S (by decide) dL_isFit_25 (by decide) ?_
  refine lv_aload_n S.1 S.2.1 dL_isFit_28 rfl (lv_at hl 0 rfl) ?_
  refine z_w1S (v0 := some (.int (nI (1)))) (rest := []) (As := [.ref (o)]) S hZ hS (c_isWoven l hl0 g hB z4 hk.1) hB ci_L_isWoven cv_L_isWoven k1248 ⟨rfl, rfl, by rw [hR]; exact Nat.le_of_ble_eq_true rfl, by rw [hR]; exact Nat.le_of_ble_eq_true rfl⟩ hP hl.1 rfl (Nat.le_of_ble_eq_true rfl) dL_isFit_29 ⟨by rw [hR]; exact Nat.le_of_ble_eq_true rfl, by rw [hR]; exact Nat.le_of_ble_eq_true rfl⟩ rfl (fun H1 locs1 hPn hCn hSn => ?_)
  clear hP
  obtain ⟨z5, hP, hn⟩ := hPn
  replace hk := hk.tr hn
  clear hn
  replace hS := hSn
  replace hC := hC.tr hCn
  clear hCn hSn
  refine z_kie (tgt := 57) S (by decide) dL_isFit_32 (by decide) ?_
  refine lv_aload_n S.1 S.2.1 dL_isFit_35 rfl (lv_at hl 0 rfl) ?_
  refine z_ic S (k := 1) dL_isFit_36 (by decide) ?_
  refine z_ic S (k := 2) dL_isFit_37 (by decide) ?_
  refine z_w1S (v0 := some (.int (nI (1)))) (rest := []) (As := [.ref (o), .int (nI (1)), .int (nI (2))]) S hZ hS (c_isRepeated l hl0 g hB z5 hk.1 1 2 (by decide) (by decide) (by decide) (by decide) (by decide) (by decide)) hB ci_L_isRepeated cv_L_isRepeated k1252 ⟨rfl, rfl, by rw [hR]; exact Nat.le_of_ble_eq_true rfl, by rw [hR]; exact Nat.le_of_ble_eq_true rfl⟩ hP hl.1 rfl (Nat.le_of_ble_eq_true rfl) dL_isFit_38 ⟨by rw [hR]; exact Nat.le_of_ble_eq_true rfl, by rw [hR]; exact Nat.le_of_ble_eq_true rfl⟩ rfl (fun H1 locs1 hPn hCn hSn => ?_)
  clear hP
  obtain ⟨z6, hP, hn⟩ := hPn
  replace hk := hk.tr hn
  clear hn
  replace hS := hSn
  replace hC := hC.tr hCn
  clear hCn hSn
  refine z_kie (tgt := 57) S (by decide) dL_isFit_41 (by decide) ?_
  refine lv_aload_n S.1 S.2.1 dL_isFit_44 rfl (lv_at hl 0 rfl) ?_
  refine z_ic S (k := 3) dL_isFit_45 (by decide) ?_
  refine z_ic S (k := 4) dL_isFit_46 (by decide) ?_
  refine z_w1S (v0 := some (.int (nI (1)))) (rest := []) (As := [.ref (o), .int (nI (3)), .int (nI (4))]) S hZ hS (c_isRepeated l hl0 g hB z6 hk.1 3 4 (by decide) (by decide) (by decide) (by decide) (by decide) (by decide)) hB ci_L_isRepeated cv_L_isRepeated k1252 ⟨rfl, rfl, by rw [hR]; exact Nat.le_of_ble_eq_true rfl, by rw [hR]; exact Nat.le_of_ble_eq_true rfl⟩ hP hl.1 rfl (Nat.le_of_ble_eq_true rfl) dL_isFit_47 ⟨by rw [hR]; exact Nat.le_of_ble_eq_true rfl, by rw [hR]; exact Nat.le_of_ble_eq_true rfl⟩ rfl (fun H1 locs1 hPn hCn hSn => ?_)
  clear hP
  obtain ⟨z7, hP, hn⟩ := hPn
  replace hk := hk.tr hn
  clear hn
  replace hS := hSn
  replace hC := hC.tr hCn
  clear hCn hSn
  refine z_kie (tgt := 57) S (by decide) dL_isFit_50 (by decide) ?_
  refine z_ic S (k := 1) dL_isFit_53 (by decide) ?_
  refine lv_goto (tgt := 58) S.1 S.2.1 dL_isFit_54 (by decide) ?_
  exact z_wiw hQ S (Nat.le_of_ble_eq_true rfl) (Nat.le_of_ble_eq_true rfl) hr hlk rfl hS hC ⟨rfl, z7, hP, hk⟩ dL_isFit_58
