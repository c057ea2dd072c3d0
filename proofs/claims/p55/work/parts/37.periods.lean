/-! THE LAW: arePeriods -/
theorem zCl_le {f : Nat → Nat → Nat} (h : zKo f) (r : Nat) : zCl f r ≤ 41 := by
  have h1 := zSum_le (q := fun i => (zRs f i (f 0 3 - r) r).toNat) (b := 1) (fun i => Bool.toNat_le _) (f 0 3 - r + 1)
  have h2 := h.1
  show zSum _ _ ≤ 41
  omega
theorem ci_L_arePeriods : zCI yL_arePeriods cL_arePeriods 8 (some .boolean) 1 := ⟨k1160, k0, by decide +kernel⟩
theorem cv_L_arePeriods : Cond.static yL_arePeriods ∈ GW := k1159
set_option maxRecDepth 20000 in
set_option maxHeartbeats 4000000 in
/-- arePeriods -/
theorem c_arePeriods (l : Launch) (hl0 : l.stackTraces = false) (g : ZG) {B : Nat} {o : Nat} (hB : B ≤ o) (z : zSt) (hI : yIv z) : Met l yL_arePeriods (.code yL_arePeriods cL_arePeriods 8 (some .boolean) :: GW) { frames := 12, cells := 4, slots := 24, locals := 240 } (va_Pc [.ref o] (zPre g B (fun H => zSO g o z H))) (zX (fun w H => w = some (.int (nI 1)) ∧ ∃ z9, zSO g o z9 H ∧ yNoc z z9) o 152) 4 24 (zA B) := by
  refine zMet (by decide) (Nat.le_of_ble_eq_true rfl) ?_
  intro p e R s m args below meth c Q ls hR hargs hQ S hr hlk hP hZ hS hnm hl
  have hl : lv_has ls 8 [(0, .ref (o))] := hl
  have hv := hI.ok
  have hk40 := hv.2.1.1
  have hC : zCh1 o 152 s.heap s.heap := zCh1.rf
  refine lv_aload_n S.1 S.2.1 dL_arePeriods_0 rfl (lv_at hl 0 rfl) ?_
  refine z_cV (v := some (.int (nI (z 0 2 0 3)))) (rest := []) (As := []) S hZ hS (c_rowCount l g z hv) ci_X11_rowCount cv_X11_rowCount k977 ⟨rfl, rfl, by rw [hR]; decide, by rw [hR]; decide⟩ hP (hP.1.recv hZ.1 0 (by decide) rfl rfl rfl) hl.1 rfl (Nat.le_of_ble_eq_true rfl) dL_arePeriods_1 ⟨by rw [hR]; decide, by rw [hR]; decide⟩ rfl ?_
  refine lv_istore_n (lv' := [(1, .int (nI (z 0 2 0 3))), (0, .ref (o))]) S.1 S.2.1 dL_arePeriods_4 rfl hl (by decide) rfl (fun ls hl => ?_)
  refine lv_aload_n S.1 S.2.1 dL_arePeriods_5 rfl (lv_at hl 1 rfl) ?_
  rcases Nat.eq_zero_or_pos (z 0 2 0 3) with hz | hz
  · refine z_w1SW (v0 := some (.int (-1000))) (rest := []) (As := [.ref (o)]) S hZ hS (c_L_period_no l hl0 g hB z hv hz) hB ci_L_period cv_L_period k1161 ⟨rfl, rfl, by rw [hR]; exact Nat.le_of_ble_eq_true rfl, by rw [hR]; exact Nat.le_of_ble_eq_true rfl⟩ hP hl.1 rfl (Nat.le_of_ble_eq_true rfl) dL_arePeriods_6 ⟨by rw [hR]; exact Nat.le_of_ble_eq_true rfl, by rw [hR]; exact Nat.le_of_ble_eq_true rfl⟩ rfl (fun H1 locs1 hPn hCn hSn => ?_)
    replace hS := hSn
    replace hC := hC.tr hCn
    replace hP := hPn
    clear hPn hCn hSn
    refine lv_istore_n (lv' := [(2, .int (-1000)), (1, .int (nI (z 0 2 0 3))), (0, .ref (o))]) S.1 S.2.1 dL_arePeriods_9 rfl hl (by decide) rfl (fun ls hl => ?_)
    refine lv_aload_n S.1 S.2.1 dL_arePeriods_10 rfl (lv_at hl 2 rfl) ?_
    refine z_w1SW (v0 := some (.int (-1000))) (rest := []) (As := [.ref (o)]) S hZ hS (c_L_periodByBorders_no l hl0 g hB z hv hz) hB ci_L_periodByBorders cv_L_periodByBorders k1172 ⟨rfl, rfl, by rw [hR]; exact Nat.le_of_ble_eq_true rfl, by rw [hR]; exact Nat.le_of_ble_eq_true rfl⟩ hP hl.1 rfl (Nat.le_of_ble_eq_true rfl) dL_arePeriods_11 ⟨by rw [hR]; exact Nat.le_of_ble_eq_true rfl, by rw [hR]; exact Nat.le_of_ble_eq_true rfl⟩ rfl (fun H1 locs1 hPn hCn hSn => ?_)
    replace hS := hSn
    replace hC := hC.tr hCn
    replace hP := hPn
    clear hPn hCn hSn
    refine lv_iload_n S.1 S.2.1 dL_arePeriods_14 rfl (lv_at hl 0 rfl) ?_
    refine z_kne (tgt := 70) S rfl dL_arePeriods_15 (by decide) ?_
    refine lv_iload_n S.1 S.2.1 dL_arePeriods_18 rfl (lv_at hl 0 rfl) ?_
    refine lv_sipush (v := -1000) S.1 S.2.1 dL_arePeriods_19 (by decide) ?_
    refine z_kne (tgt := 29) S rfl dL_arePeriods_22 (by decide) ?_
    refine z_ic S (k := 1) dL_arePeriods_25 (by decide) ?_
    refine lv_goto (tgt := 30) S.1 S.2.1 dL_arePeriods_26 (by decide) ?_
    refine lv_iload_n S.1 S.2.1 dL_arePeriods_30 rfl (lv_at hl 1 rfl) ?_
    refine z_ine (tgt := 38) S (by omega) dL_arePeriods_31 (by decide) (fun h1 => ?_) (fun h1 => ?_)
    · exact absurd h1 (by omega)
    · refine z_ic S (k := 1) dL_arePeriods_34 (by decide) ?_
      refine lv_goto (tgt := 39) S.1 S.2.1 dL_arePeriods_35 (by decide) ?_
      refine z_kne (tgt := 70) S rfl dL_arePeriods_39 (by decide) ?_
      refine lv_aload_n S.1 S.2.1 dL_arePeriods_42 rfl (lv_at hl 2 rfl) ?_
      refine z_ic S (k := 0) dL_arePeriods_43 (by decide) ?_
      refine z_w1SW (v0 := some (.int (-1000))) (rest := []) (As := [.ref (o), .int (nI (0))]) S hZ hS (c_L_occurrences_0 l hl0 g hB z hv) hB ci_L_occurrences cv_L_occurrences k1187 ⟨rfl, rfl, by rw [hR]; exact Nat.le_of_ble_eq_true rfl, by rw [hR]; exact Nat.le_of_ble_eq_true rfl⟩ hP hl.1 rfl (Nat.le_of_ble_eq_true rfl) dL_arePeriods_44 ⟨by rw [hR]; exact Nat.le_of_ble_eq_true rfl, by rw [hR]; exact Nat.le_of_ble_eq_true rfl⟩ rfl (fun H1 locs1 hPn hCn hSn => ?_)
      replace hS := hSn
      replace hC := hC.tr hCn
      replace hP := hPn
      clear hPn hCn hSn
      refine lv_sipush (v := -1000) S.1 S.2.1 dL_arePeriods_47 (by decide) ?_
      refine z_kne (tgt := 70) S rfl dL_arePeriods_50 (by decide) ?_
      refine lv_aload_n S.1 S.2.1 dL_arePeriods_53 rfl (lv_at hl 2 rfl) ?_
      refine lv_iload_n S.1 S.2.1 dL_arePeriods_54 rfl (lv_at hl 1 rfl) ?_
      refine z_ic S (k := 1) dL_arePeriods_55 (by decide) ?_
      refine z_add S dL_arePeriods_56 ?_
      refine z_w1SW (v0 := some (.int (-1000))) (rest := []) (As := [.ref (o), .int (nI ((z 0 2 0 3) + 1))]) S hZ hS (c_L_occurrences_no l hl0 g hB z hv (z 0 2 0 3 + 1) (by omega) (by omega) (by omega)) hB ci_L_occurrences cv_L_occurrences k1187 ⟨rfl, rfl, by rw [hR]; exact Nat.le_of_ble_eq_true rfl, by rw [hR]; exact Nat.le_of_ble_eq_true rfl⟩ hP hl.1 rfl (Nat.le_of_ble_eq_true rfl) dL_arePeriods_57 ⟨by rw [hR]; exact Nat.le_of_ble_eq_true rfl, by rw [hR]; exact Nat.le_of_ble_eq_true rfl⟩ rfl (fun H1 locs1 hPn hCn hSn => ?_)
      replace hS := hSn
      replace hC := hC.tr hCn
      replace hP := hPn
      clear hPn hCn hSn
      refine lv_sipush (v := -1000) S.1 S.2.1 dL_arePeriods_60 (by decide) ?_
      refine z_kne (tgt := 70) S rfl dL_arePeriods_63 (by decide) ?_
      refine z_ic S (k := 1) dL_arePeriods_66 (by decide) ?_
      refine lv_goto (tgt := 71) S.1 S.2.1 dL_arePeriods_67 (by decide) ?_
      refine lv_istore_n (lv' := [(3, .int (nI (1))), (2, .int (-1000)), (1, .int (nI (z 0 2 0 3))), (0, .ref (o))]) S.1 S.2.1 dL_arePeriods_71 rfl hl (by decide) rfl (fun ls hl => ?_)
      refine lv_iload_n S.1 S.2.1 dL_arePeriods_72 rfl (lv_at hl 2 rfl) ?_
      refine z_ine (tgt := 78) S (by omega) dL_arePeriods_73 (by decide) (fun h2 => ?_) (fun h2 => ?_)
      · exact absurd h2 (by omega)
      · refine lv_iload_n S.1 S.2.1 dL_arePeriods_76 rfl (lv_at hl 0 rfl) ?_
        exact z_wiw hQ S (Nat.le_of_ble_eq_true rfl) (Nat.le_of_ble_eq_true rfl) hr hlk rfl hS hC ⟨rfl, z, hP, yNoc.rf hI⟩ dL_arePeriods_77
  · have hcd := zCd_le (f := z 0 2) (b := yPd (z 0 2)) (by unfold yPd; omega) (yPd_yes hz)
    have hbn := yPd_le (f := z 0 2) hz
    have hb1 : 1 ≤ yPd (z 0 2) := by unfold yPd; omega
    have hyes := yPd_yes (f := z 0 2) hz
    have hno : ∀ k, 1 ≤ k → k < yPd (z 0 2) → zOv (z 0 2) k = false := fun k h1 h2 => yPd_no h1 h2
    generalize yPd (z 0 2) = b at hcd hbn hb1 hyes hno
    refine z_cSW (v := some (.int (nI (b)))) (rest := []) (As := [.ref (o)]) S hZ hS (c_L_period l hl0 g z hv b hb1 hbn hno (fun _ => hyes)) ci_L_period cv_L_period k1161 ⟨rfl, rfl, by rw [hR]; exact Nat.le_of_ble_eq_true rfl, by rw [hR]; exact Nat.le_of_ble_eq_true rfl⟩ hP hl.1 rfl (Nat.le_of_ble_eq_true rfl) dL_arePeriods_6 ⟨by rw [hR]; exact Nat.le_of_ble_eq_true rfl, by rw [hR]; exact Nat.le_of_ble_eq_true rfl⟩ rfl ?_
    refine lv_istore_n (lv' := [(2, .int (nI (b))), (1, .int (nI (z 0 2 0 3))), (0, .ref (o))]) S.1 S.2.1 dL_arePeriods_9 rfl hl (by decide) rfl (fun ls hl => ?_)
    refine lv_aload_n S.1 S.2.1 dL_arePeriods_10 rfl (lv_at hl 2 rfl) ?_
    refine z_cSW (v := some (.int (nI (z 0 2 0 3 - (z 0 2 0 3 - b))))) (rest := []) (As := [.ref (o)]) S hZ hS (c_L_periodByBorders l hl0 g z hv (z 0 2 0 3 - b) (by omega) (fun k h1 h2 => by rw [zRs_ov (by omega)]; exact hno _ (by omega) (by omega)) (Or.inr (by rw [zRs_ov (by omega), show z 0 2 0 3 - (z 0 2 0 3 - b) = b by omega]; exact hyes))) ci_L_periodByBorders cv_L_periodByBorders k1172 ⟨rfl, rfl, by rw [hR]; exact Nat.le_of_ble_eq_true rfl, by rw [hR]; exact Nat.le_of_ble_eq_true rfl⟩ hP hl.1 rfl (Nat.le_of_ble_eq_true rfl) dL_arePeriods_11 ⟨by rw [hR]; exact Nat.le_of_ble_eq_true rfl, by rw [hR]; exact Nat.le_of_ble_eq_true rfl⟩ rfl ?_
    refine lv_iload_n S.1 S.2.1 dL_arePeriods_14 rfl (lv_at hl 0 rfl) ?_
    refine z_kne (tgt := 70) S (by rw [show z 0 2 0 3 - (z 0 2 0 3 - b) = b by omega]) dL_arePeriods_15 (by decide) ?_
    refine lv_iload_n S.1 S.2.1 dL_arePeriods_18 rfl (lv_at hl 0 rfl) ?_
    refine lv_sipush (v := -1000) S.1 S.2.1 dL_arePeriods_19 (by decide) ?_
    refine z_knt (tgt := 29) S (zn_neg (by omega) (by decide)) dL_arePeriods_22 (by decide) ?_
    refine z_ic S (k := 0) dL_arePeriods_29 (by decide) ?_
    refine lv_iload_n S.1 S.2.1 dL_arePeriods_30 rfl (lv_at hl 1 rfl) ?_
    refine z_ine (tgt := 38) S (by omega) dL_arePeriods_31 (by decide) (fun h1 => ?_) (fun h1 => ?_)
    · refine z_ic S (k := 0) dL_arePeriods_38 (by decide) ?_
      refine z_kne (tgt := 70) S rfl dL_arePeriods_39 (by decide) ?_
      refine lv_aload_n S.1 S.2.1 dL_arePeriods_42 rfl (lv_at hl 2 rfl) ?_
      refine z_ic S (k := 0) dL_arePeriods_43 (by decide) ?_
      refine z_w1SW (v0 := some (.int (-1000))) (rest := []) (As := [.ref (o), .int (nI (0))]) S hZ hS (c_L_occurrences_0 l hl0 g hB z hv) hB ci_L_occurrences cv_L_occurrences k1187 ⟨rfl, rfl, by rw [hR]; exact Nat.le_of_ble_eq_true rfl, by rw [hR]; exact Nat.le_of_ble_eq_true rfl⟩ hP hl.1 rfl (Nat.le_of_ble_eq_true rfl) dL_arePeriods_44 ⟨by rw [hR]; exact Nat.le_of_ble_eq_true rfl, by rw [hR]; exact Nat.le_of_ble_eq_true rfl⟩ rfl (fun H1 locs1 hPn hCn hSn => ?_)
      replace hS := hSn
      replace hC := hC.tr hCn
      replace hP := hPn
      clear hPn hCn hSn
      refine lv_sipush (v := -1000) S.1 S.2.1 dL_arePeriods_47 (by decide) ?_
      refine z_kne (tgt := 70) S rfl dL_arePeriods_50 (by decide) ?_
      refine lv_aload_n S.1 S.2.1 dL_arePeriods_53 rfl (lv_at hl 2 rfl) ?_
      refine lv_iload_n S.1 S.2.1 dL_arePeriods_54 rfl (lv_at hl 1 rfl) ?_
      refine z_ic S (k := 1) dL_arePeriods_55 (by decide) ?_
      refine z_add S dL_arePeriods_56 ?_
      refine z_w1SW (v0 := some (.int (-1000))) (rest := []) (As := [.ref (o), .int (nI ((z 0 2 0 3) + 1))]) S hZ hS (c_L_occurrences_no l hl0 g hB z hv (z 0 2 0 3 + 1) (by omega) (by omega) (by omega)) hB ci_L_occurrences cv_L_occurrences k1187 ⟨rfl, rfl, by rw [hR]; exact Nat.le_of_ble_eq_true rfl, by rw [hR]; exact Nat.le_of_ble_eq_true rfl⟩ hP hl.1 rfl (Nat.le_of_ble_eq_true rfl) dL_arePeriods_57 ⟨by rw [hR]; exact Nat.le_of_ble_eq_true rfl, by rw [hR]; exact Nat.le_of_ble_eq_true rfl⟩ rfl (fun H1 locs1 hPn hCn hSn => ?_)
      replace hS := hSn
      replace hC := hC.tr hCn
      replace hP := hPn
      clear hPn hCn hSn
      refine lv_sipush (v := -1000) S.1 S.2.1 dL_arePeriods_60 (by decide) ?_
      refine z_kne (tgt := 70) S rfl dL_arePeriods_63 (by decide) ?_
      refine z_ic S (k := 1) dL_arePeriods_66 (by decide) ?_
      refine lv_goto (tgt := 71) S.1 S.2.1 dL_arePeriods_67 (by decide) ?_
      refine lv_istore_n (lv' := [(3, .int (nI (1))), (2, .int (nI (b))), (1, .int (nI (z 0 2 0 3))), (0, .ref (o))]) S.1 S.2.1 dL_arePeriods_71 rfl hl (by decide) rfl (fun ls hl => ?_)
      refine lv_iload_n S.1 S.2.1 dL_arePeriods_72 rfl (lv_at hl 2 rfl) ?_
      refine z_ine (tgt := 78) S (by omega) dL_arePeriods_73 (by decide) (fun h2 => ?_) (fun h2 => ?_)
      · refine lv_iload_n S.1 S.2.1 dL_arePeriods_78 rfl (lv_at hl 0 rfl) ?_
        refine z_kie (tgt := 116) S (by decide) dL_arePeriods_79 (by decide) ?_
        refine lv_aload_n S.1 S.2.1 dL_arePeriods_82 rfl (lv_at hl 3 rfl) ?_
        refine lv_iload_n S.1 S.2.1 dL_arePeriods_83 rfl (lv_at hl 1 rfl) ?_
        refine z_cS (v := some (.int (nI (zOv (z 0 2) b).toNat))) (rest := []) (As := [.ref (o), .int (nI (b))]) S hZ hS (c_isPeriod l hl0 g z hv b hbn) ci_L_isPeriod cv_L_isPeriod k1198 ⟨rfl, rfl, by rw [hR]; exact Nat.le_of_ble_eq_true rfl, by rw [hR]; exact Nat.le_of_ble_eq_true rfl⟩ hP hl.1 rfl (Nat.le_of_ble_eq_true rfl) dL_arePeriods_84 ⟨by rw [hR]; exact Nat.le_of_ble_eq_true rfl, by rw [hR]; exact Nat.le_of_ble_eq_true rfl⟩ rfl ?_
        refine z_beq (tgt := 116) S dL_arePeriods_87 (by decide) (fun h3 => ?_) (fun h3 => ?_)
        · exact absurd h3 (by rw [hyes]; decide)
        · refine lv_iload_n S.1 S.2.1 dL_arePeriods_90 rfl (lv_at hl 1 rfl) ?_
          refine lv_iload_n S.1 S.2.1 dL_arePeriods_91 rfl (lv_at hl 2 rfl) ?_
          refine z_cgt (tgt := 116) S (by omega) (by omega) dL_arePeriods_92 (by decide) (fun h4 => ?_) (fun h4 => ?_)
          · exact absurd h4 (by omega)
          · have hcl := zCl_1 (z 0 2)
            refine lv_aload_n S.1 S.2.1 dL_arePeriods_95 rfl (lv_at hl 3 rfl) ?_
            refine lv_iload_n S.1 S.2.1 dL_arePeriods_96 rfl (lv_at hl 2 rfl) ?_
            refine z_cV (v := some (.int (nI (zCl (z 0 2) (z 0 2 0 3))))) (rest := []) (As := [.int (nI (z 0 2 0 3))]) S hZ hS (c_occurrences l g z hv (z 0 2 0 3) hz (Nat.le_refl _)) ci_X11_occurrences cv_X11_occurrences k1190 ⟨rfl, rfl, by rw [hR]; decide, by rw [hR]; decide⟩ hP (hP.1.recv hZ.1 0 (by decide) rfl rfl rfl) hl.1 rfl (Nat.le_of_ble_eq_true rfl) dL_arePeriods_97 ⟨by rw [hR]; decide, by rw [hR]; decide⟩ rfl ?_
            refine z_ic S (k := 1) dL_arePeriods_100 (by decide) ?_
            refine z_kne (tgt := 116) S (by rw [hcl]) dL_arePeriods_101 (by decide) ?_
            refine lv_aload_n S.1 S.2.1 dL_arePeriods_104 rfl (lv_at hl 3 rfl) ?_
            refine z_cV (v := some (.int (nI (zCd (z 0 2))))) (rest := []) (As := []) S hZ hS (c_distinctRows l g z hv) ci_X11_distinctRows cv_X11_distinctRows k1094 ⟨rfl, rfl, by rw [hR]; decide, by rw [hR]; decide⟩ hP (hP.1.recv hZ.1 0 (by decide) rfl rfl rfl) hl.1 rfl (Nat.le_of_ble_eq_true rfl) dL_arePeriods_105 ⟨by rw [hR]; decide, by rw [hR]; decide⟩ rfl ?_
            refine lv_iload_n S.1 S.2.1 dL_arePeriods_108 rfl (lv_at hl 1 rfl) ?_
            refine z_cgt (tgt := 116) S (by omega) (by omega) dL_arePeriods_109 (by decide) (fun h5 => ?_) (fun h5 => ?_)
            · exact absurd h5 (by omega)
            · refine z_ic S (k := 1) dL_arePeriods_112 (by decide) ?_
              refine lv_goto (tgt := 117) S.1 S.2.1 dL_arePeriods_113 (by decide) ?_
              refine lv_istore_n (lv' := [(3, .int (nI (1))), (2, .int (nI (b))), (1, .int (nI (z 0 2 0 3))), (0, .ref (o))]) S.1 S.2.1 dL_arePeriods_117 rfl hl (by decide) rfl (fun ls hl => ?_)
              refine z_ic S (k := 1) dL_arePeriods_118 (by decide) ?_
              refine lv_istore (lv' := [(4, .int (nI (1))), (3, .int (nI (1))), (2, .int (nI (b))), (1, .int (nI (z 0 2 0 3))), (0, .ref (o))]) S.1 S.2.1 dL_arePeriods_119 hl (by decide) rfl (fun ls hl => ?_)
              have loop1 : ∀ (n : Nat) (q : Nat) (ls : Array Slot), (1 ≤ q ∧ q ≤ b) → (b < q + n) → lv_has ls 8 [(0, .ref (o)), (1, .int (nI (z 0 2 0 3))), (2, .int (nI (b))), (3, .int (nI (1))), (4, .int (nI (q)))] → W p l e R s m args below meth c H1 locs1 ((0 + 1) + 1) ((0 + 6) + 6) Q (F0 m 121 ls []) := by
                intro n
                induction n with
                | zero => intro q ls g1 h2 hl; exact absurd h2 (by omega)
                | succ n ih =>
                  intro q ls g1 h2 hl
                  refine lv_iload_n S.1 S.2.1 dL_arePeriods_121 rfl (lv_at hl 3 rfl) ?_
                  refine z_kie (tgt := 152) S (by decide) dL_arePeriods_122 (by decide) ?_
                  refine lv_iload S.1 S.2.1 dL_arePeriods_125 (lv_at hl 4 rfl) ?_
                  refine lv_iload_n S.1 S.2.1 dL_arePeriods_127 rfl (lv_at hl 2 rfl) ?_
                  refine z_cge (tgt := 152) S (by omega) (by omega) dL_arePeriods_128 (by decide) (fun h6 => ?_) (fun h6 => ?_)
                  · refine z_ic S (k := 2) dL_arePeriods_152 (by decide) ?_
                    refine lv_istore (lv' := [(4, .int (nI (2))), (0, .ref (o)), (1, .int (nI (z 0 2 0 3))), (2, .int (nI (b))), (3, .int (nI (1)))]) S.1 S.2.1 dL_arePeriods_153 hl (by decide) rfl (fun ls hl => ?_)
                    have loop2 : ∀ (n : Nat) (q : Nat) (ls : Array Slot), (2 ≤ q ∧ q ≤ z 0 2 0 3 + 1) → (z 0 2 0 3 + 1 < q + n) → lv_has ls 8 [(0, .ref (o)), (1, .int (nI (z 0 2 0 3))), (2, .int (nI (b))), (3, .int (nI (1))), (4, .int (nI (q)))] → W p l e R s m args below meth c H1 locs1 ((0 + 1) + 1) ((0 + 6) + 6) Q (F0 m 155 ls []) := by
                      intro n
                      induction n with
                      | zero => intro q ls g2 h2 hl; exact absurd h2 (by omega)
                      | succ n ih =>
                        intro q ls g2 h2 hl
                        refine lv_iload_n S.1 S.2.1 dL_arePeriods_155 rfl (lv_at hl 3 rfl) ?_
                        refine z_kie (tgt := 194) S (by decide) dL_arePeriods_156 (by decide) ?_
                        refine lv_iload S.1 S.2.1 dL_arePeriods_159 (lv_at hl 4 rfl) ?_
                        refine lv_iload_n S.1 S.2.1 dL_arePeriods_161 rfl (lv_at hl 1 rfl) ?_
                        refine z_cgt (tgt := 194) S (by omega) (by omega) dL_arePeriods_162 (by decide) (fun h8 => ?_) (fun h8 => ?_)
                        · refine z_ic S (k := 0) dL_arePeriods_194 (by decide) ?_
                          refine lv_istore (lv' := [(4, .int (nI (0))), (0, .ref (o)), (1, .int (nI (z 0 2 0 3))), (2, .int (nI (b))), (3, .int (nI (1)))]) S.1 S.2.1 dL_arePeriods_195 hl (by decide) rfl (fun ls hl => ?_)
                          have loop3 : ∀ (n : Nat) (c9 : Nat) (ls : Array Slot), (c9 ≤ 20) → (20 < c9 + n) → lv_has ls 8 [(0, .ref (o)), (1, .int (nI (z 0 2 0 3))), (2, .int (nI (b))), (3, .int (nI (1))), (4, .int (nI (c9)))] → W p l e R s m args below meth c H1 locs1 ((0 + 1) + 1) ((0 + 6) + 6) Q (F0 m 197 ls []) := by
                            intro n
                            induction n with
                            | zero => intro c9 ls g3 h2 hl; exact absurd h2 (by omega)
                            | succ n ih =>
                              intro c9 ls g3 h2 hl
                              refine lv_iload_n S.1 S.2.1 dL_arePeriods_197 rfl (lv_at hl 3 rfl) ?_
                              refine z_kie (tgt := 282) S (by decide) dL_arePeriods_198 (by decide) ?_
                              refine lv_iload S.1 S.2.1 dL_arePeriods_201 (lv_at hl 4 rfl) ?_
                              refine z_bi S (k := 16) dL_arePeriods_203 (by decide) ?_
                              refine z_cge (tgt := 282) S (by omega) (by omega) dL_arePeriods_205 (by decide) (fun j1 => ?_) (fun j1 => ?_)
                              · refine lv_iload_n S.1 S.2.1 dL_arePeriods_282 rfl (lv_at hl 3 rfl) ?_
                                refine z_kie (tgt := 317) S (by decide) dL_arePeriods_283 (by decide) ?_
                                have hx6 : (z 0 2 1 0 ^^^ z 0 2 1 (z 0 2 0 3 - 1)) < 65536 := Nat.xor_lt_two_pow (n := 16) (hv.2.1.2 _).1 (hv.2.1.2 _).1
                                refine lv_aload_n S.1 S.2.1 dL_arePeriods_286 rfl (lv_at hl 0 rfl) ?_
                                refine z_ic S (k := 0) dL_arePeriods_287 (by decide) ?_
                                refine lv_iload_n S.1 S.2.1 dL_arePeriods_288 rfl (lv_at hl 1 rfl) ?_
                                refine z_ic S (k := 1) dL_arePeriods_289 (by decide) ?_
                                refine z_sub S (by omega) dL_arePeriods_290 ?_
                                refine z_cV (v := some (.int (nI (zBc (z 0 2 1 0 ^^^ z 0 2 1 (z 0 2 0 3 - 1)))))) (rest := []) (As := [.int (nI (0)), .int (nI ((z 0 2 0 3) - 1))]) S hZ hS (c_distance l g z hv 0 (z 0 2 0 3 - 1) hz (by omega)) ci_X11_distance cv_X11_distance k1212 ⟨rfl, rfl, by rw [hR]; decide, by rw [hR]; decide⟩ hP (hP.1.recv hZ.1 0 (by decide) rfl rfl rfl) hl.1 rfl (Nat.le_of_ble_eq_true rfl) dL_arePeriods_291 ⟨by rw [hR]; decide, by rw [hR]; decide⟩ rfl ?_
                                refine lv_aload_n S.1 S.2.1 dL_arePeriods_294 rfl (lv_at hl 0 rfl) ?_
                                refine z_ic S (k := 0) dL_arePeriods_295 (by decide) ?_
                                refine z_cV (v := some (.int (nI (z 0 2 1 0)))) (rest := [.int (nI (zBc (z 0 2 1 0 ^^^ z 0 2 1 (z 0 2 0 3 - 1))))]) (As := [.int (nI (0))]) S hZ hS (c_rowMask l g z hv 0 hz) ci_X11_rowMask cv_X11_rowMask k987 ⟨rfl, rfl, by rw [hR]; decide, by rw [hR]; decide⟩ hP (hP.1.recv hZ.1 0 (by decide) rfl rfl rfl) hl.1 rfl (Nat.le_of_ble_eq_true rfl) dL_arePeriods_296 ⟨by rw [hR]; decide, by rw [hR]; decide⟩ rfl ?_
                                refine lv_aload_n S.1 S.2.1 dL_arePeriods_299 rfl (lv_at hl 0 rfl) ?_
                                refine lv_iload_n S.1 S.2.1 dL_arePeriods_300 rfl (lv_at hl 1 rfl) ?_
                                refine z_ic S (k := 1) dL_arePeriods_301 (by decide) ?_
                                refine z_sub S (by omega) dL_arePeriods_302 ?_
                                refine z_cV (v := some (.int (nI (z 0 2 1 (z 0 2 0 3 - 1))))) (rest := [.int (nI (z 0 2 1 0)), .int (nI (zBc (z 0 2 1 0 ^^^ z 0 2 1 (z 0 2 0 3 - 1))))]) (As := [.int (nI ((z 0 2 0 3) - 1))]) S hZ hS (c_rowMask l g z hv (z 0 2 0 3 - 1) (by omega)) ci_X11_rowMask cv_X11_rowMask k987 ⟨rfl, rfl, by rw [hR]; decide, by rw [hR]; decide⟩ hP (hP.1.recv hZ.1 0 (by decide) rfl rfl rfl) hl.1 rfl (Nat.le_of_ble_eq_true rfl) dL_arePeriods_303 ⟨by rw [hR]; decide, by rw [hR]; decide⟩ rfl ?_
                                refine z_xor S dL_arePeriods_306 ?_
                                refine z_cS (v := some (.int (nI (zBc (z 0 2 1 0 ^^^ z 0 2 1 (z 0 2 0 3 - 1)))))) (rest := [.int (nI (zBc (z 0 2 1 0 ^^^ z 0 2 1 (z 0 2 0 3 - 1))))]) (As := [.int (nI ((z 0 2 1 0) ^^^ (z 0 2 1 (z 0 2 0 3 - 1))))]) S hZ hS (c_bitCount l g (z 0 2 1 0 ^^^ z 0 2 1 (z 0 2 0 3 - 1)) (by omega) (PH := fun _ => True)) ci_J6_bitCount_0f7a4 cv_J6_bitCount_0f7a4 k1217 ⟨rfl, rfl, by rw [hR]; exact Nat.le_of_ble_eq_true rfl, by rw [hR]; exact Nat.le_of_ble_eq_true rfl⟩ trivial hl.1 rfl (Nat.le_of_ble_eq_true rfl) dL_arePeriods_307 ⟨by rw [hR]; exact Nat.le_of_ble_eq_true rfl, by rw [hR]; exact Nat.le_of_ble_eq_true rfl⟩ rfl ?_
                                refine z_kne (tgt := 317) S rfl dL_arePeriods_310 (by decide) ?_
                                refine z_ic S (k := 1) dL_arePeriods_313 (by decide) ?_
                                refine lv_goto (tgt := 318) S.1 S.2.1 dL_arePeriods_314 (by decide) ?_
                                exact z_wiw hQ S (Nat.le_of_ble_eq_true rfl) (Nat.le_of_ble_eq_true rfl) hr hlk rfl hS hC ⟨rfl, z, hP, yNoc.rf hI⟩ dL_arePeriods_318
                              · refine z_ic S (k := 0) dL_arePeriods_208 (by decide) ?_
                                refine lv_istore (lv' := [(5, .int (nI (0))), (0, .ref (o)), (1, .int (nI (z 0 2 0 3))), (2, .int (nI (b))), (3, .int (nI (1))), (4, .int (nI (c9)))]) S.1 S.2.1 dL_arePeriods_209 hl (by decide) rfl (fun ls hl => ?_)
                                refine z_ic S (k := 0) dL_arePeriods_211 (by decide) ?_
                                refine lv_istore (lv' := [(6, .int (nI (0))), (5, .int (nI (0))), (0, .ref (o)), (1, .int (nI (z 0 2 0 3))), (2, .int (nI (b))), (3, .int (nI (1))), (4, .int (nI (c9)))]) S.1 S.2.1 dL_arePeriods_212 hl (by decide) rfl (fun ls hl => ?_)
                                refine z_ic S (k := 0) dL_arePeriods_214 (by decide) ?_
                                refine lv_istore (lv' := [(7, .int (nI (0))), (6, .int (nI (0))), (5, .int (nI (0))), (0, .ref (o)), (1, .int (nI (z 0 2 0 3))), (2, .int (nI (b))), (3, .int (nI (1))), (4, .int (nI (c9)))]) S.1 S.2.1 dL_arePeriods_215 hl (by decide) rfl (fun ls hl => ?_)
                                have runs : ∀ (n2 r9 lg lo : Nat) (ls : Array Slot), (r9 ≤ z 0 2 0 3) → (z 0 2 0 3 < r9 + n2) → (lo = (zLr (z 0 2) c9 r9).1) → (lg = (zLr (z 0 2) c9 r9).2) → (lo ≤ r9 ∧ lg ≤ r9) → lv_has ls 8 [(0, .ref (o)), (1, .int (nI (z 0 2 0 3))), (2, .int (nI (b))), (3, .int (nI (1))), (4, .int (nI (c9))), (5, .int (nI (lg))), (6, .int (nI (lo))), (7, .int (nI (r9)))] → W p l e R s m args below meth c H1 locs1 ((0 + 1) + 1) ((0 + 6) + 6) Q (F0 m 217 ls []) := by
                                  intro n2
                                  induction n2 with
                                  | zero => intro r9 lg lo ls k1 k2 hlo hlg hle hl; exact absurd k2 (by omega)
                                  | succ n2 ih2 =>
                                    intro r9 lg lo ls k1 k2 hlo hlg hle hl
                                    refine lv_iload S.1 S.2.1 dL_arePeriods_217 (lv_at hl 7 rfl) ?_
                                    refine lv_iload_n S.1 S.2.1 dL_arePeriods_219 rfl (lv_at hl 1 rfl) ?_
                                    refine z_cge (tgt := 259) S (by omega) (by omega) dL_arePeriods_220 (by decide) (fun j2 => ?_) (fun j2 => ?_)
                                    · rw [show r9 = z 0 2 0 3 by omega] at hlo
                                      refine lv_aload_n S.1 S.2.1 dL_arePeriods_259 rfl (lv_at hl 0 rfl) ?_
                                      refine lv_iload S.1 S.2.1 dL_arePeriods_260 (lv_at hl 4 rfl) ?_
                                      refine z_cV (v := some (.int (nI ((zLr (z 0 2) c9 (z 0 2 0 3)).1)))) (rest := []) (As := [.int (nI (c9))]) S hZ hS (c_longestFloat l g z hv c9 (by omega)) ci_X11_longestFloat cv_X11_longestFloat k1201 ⟨rfl, rfl, by rw [hR]; decide, by rw [hR]; decide⟩ hP (hP.1.recv hZ.1 0 (by decide) rfl rfl rfl) hl.1 rfl (Nat.le_of_ble_eq_true rfl) dL_arePeriods_262 ⟨by rw [hR]; decide, by rw [hR]; decide⟩ rfl ?_
                                      refine lv_iload S.1 S.2.1 dL_arePeriods_265 (lv_at hl 6 rfl) ?_
                                      refine z_kne (tgt := 274) S (by rw [hlo]) dL_arePeriods_267 (by decide) ?_
                                      refine z_ic S (k := 1) dL_arePeriods_270 (by decide) ?_
                                      refine lv_goto (tgt := 275) S.1 S.2.1 dL_arePeriods_271 (by decide) ?_
                                      refine lv_istore_n (lv' := [(3, .int (nI (1))), (0, .ref (o)), (1, .int (nI (z 0 2 0 3))), (2, .int (nI (b))), (4, .int (nI (c9))), (5, .int (nI (lg))), (6, .int (nI (lo))), (7, .int (nI (r9)))]) S.1 S.2.1 dL_arePeriods_275 rfl hl (by decide) rfl (fun ls hl => ?_)
                                      refine z_inc S (lv' := [(4, .int (nI (c9 + 5))), (3, .int (nI (1))), (0, .ref (o)), (1, .int (nI (z 0 2 0 3))), (2, .int (nI (b))), (5, .int (nI (lg))), (6, .int (nI (lo))), (7, .int (nI (r9)))]) (k := 4) (b := 5) dL_arePeriods_276 hl rfl (by decide) (by decide) rfl (fun ls hl => ?_)
                                      refine lv_goto (tgt := 197) S.1 S.2.1 dL_arePeriods_279 (by decide) ?_
                                      exact ih (c9 + 5) ls (by omega) (by omega) (lv_sub hl [2, 3, 4, 1, 0] rfl)
                                    · refine lv_aload_n S.1 S.2.1 dL_arePeriods_223 rfl (lv_at hl 0 rfl) ?_
                                      refine lv_iload S.1 S.2.1 dL_arePeriods_224 (lv_at hl 7 rfl) ?_
                                      refine lv_iload S.1 S.2.1 dL_arePeriods_226 (lv_at hl 4 rfl) ?_
                                      refine z_cV (v := some (.int (nI (zBt (z 0 2 1 r9) c9).toNat))) (rest := []) (As := [.int (nI (r9)), .int (nI (c9))]) S hZ hS (c_isRaised l g z hv r9 c9 j2 (by omega)) ci_X11_isRaised cv_X11_isRaised k1081 ⟨rfl, rfl, by rw [hR]; decide, by rw [hR]; decide⟩ hP (hP.1.recv hZ.1 0 (by decide) rfl rfl rfl) hl.1 rfl (Nat.le_of_ble_eq_true rfl) dL_arePeriods_228 ⟨by rw [hR]; decide, by rw [hR]; decide⟩ rfl ?_
                                      have J_1 : ∀ x9 : Nat, x9 = (if zBt (z 0 2 1 r9) c9 = true then lg + 1 else 0) → W p l e R s m args below meth c H1 locs1 ((0 + 1) + 1) ((0 + 6) + 6) Q (F0 m 242 ls [.int (nI (x9))]) := by
                                        intro x9 hx9
                                        subst hx9
                                        have hrn : (if zBt (z 0 2 1 r9) c9 = true then lg + 1 else 0) ≤ r9 + 1 := by split <;> omega
                                        refine lv_istore (lv' := [(5, .int (nI ((if zBt (z 0 2 1 r9) c9 = true then lg + 1 else 0)))), (0, .ref (o)), (1, .int (nI (z 0 2 0 3))), (2, .int (nI (b))), (3, .int (nI (1))), (4, .int (nI (c9))), (6, .int (nI (lo))), (7, .int (nI (r9)))]) S.1 S.2.1 dL_arePeriods_242 hl (by decide) rfl (fun ls hl => ?_)
                                        refine lv_iload S.1 S.2.1 dL_arePeriods_244 (lv_at hl 6 rfl) ?_
                                        refine lv_iload S.1 S.2.1 dL_arePeriods_246 (lv_at hl 0 rfl) ?_
                                        refine z_max S (by omega) (by omega) hl.1 k1024 ⟨k767, k21, k768⟩ (by rw [hR]; exact Nat.le_of_ble_eq_true rfl) (by rw [hR]; exact Nat.le_of_ble_eq_true rfl) (by rw [hR]; exact Nat.le_of_ble_eq_true rfl) (by rw [hR]; exact Nat.le_of_ble_eq_true rfl) dL_arePeriods_248 ?_
                                        refine lv_istore (lv' := [(6, .int (nI (max lo (if zBt (z 0 2 1 r9) c9 = true then lg + 1 else 0)))), (5, .int (nI ((if zBt (z 0 2 1 r9) c9 = true then lg + 1 else 0)))), (0, .ref (o)), (1, .int (nI (z 0 2 0 3))), (2, .int (nI (b))), (3, .int (nI (1))), (4, .int (nI (c9))), (7, .int (nI (r9)))]) S.1 S.2.1 dL_arePeriods_251 hl (by decide) rfl (fun ls hl => ?_)
                                        refine z_inc S (lv' := [(7, .int (nI (r9 + 1))), (6, .int (nI (max lo (if zBt (z 0 2 1 r9) c9 = true then lg + 1 else 0)))), (5, .int (nI ((if zBt (z 0 2 1 r9) c9 = true then lg + 1 else 0)))), (0, .ref (o)), (1, .int (nI (z 0 2 0 3))), (2, .int (nI (b))), (3, .int (nI (1))), (4, .int (nI (c9)))]) (k := 7) (b := 1) dL_arePeriods_253 hl rfl (by decide) (by decide) rfl (fun ls hl => ?_)
                                        refine lv_goto (tgt := 217) S.1 S.2.1 dL_arePeriods_256 (by decide) ?_
                                        exact ih2 (r9 + 1) _ _ ls (by omega) (by omega) (by rw [hlo, hlg]; rfl) (by rw [hlg]; rfl) ⟨by omega, by omega⟩ (lv_sub hl [3, 4, 5, 6, 7, 2, 1, 0] rfl)
                                      refine z_beq (tgt := 241) S dL_arePeriods_231 (by decide) (fun j3 => ?_) (fun j3 => ?_)
                                      · refine z_ic S (k := 0) dL_arePeriods_241 (by decide) ?_
                                        exact J_1 _ (by rw [j3]; rfl)
                                      · refine lv_iload S.1 S.2.1 dL_arePeriods_234 (lv_at hl 5 rfl) ?_
                                        refine z_ic S (k := 1) dL_arePeriods_236 (by decide) ?_
                                        refine z_add S dL_arePeriods_237 ?_
                                        refine lv_goto (tgt := 242) S.1 S.2.1 dL_arePeriods_238 (by decide) ?_
                                        exact J_1 _ (by rw [j3]; rfl)
                                exact runs (z 0 2 0 3 + 1) 0 0 0 ls (by omega) (by omega) rfl rfl ⟨Nat.le_refl _, Nat.le_refl _⟩ (lv_sub hl [3, 4, 5, 6, 7, 2, 1, 0] rfl)
                          exact loop3 21 0 ls (by omega) (by omega) (lv_sub hl [1, 2, 3, 4, 0] rfl)
                        · have hq1 := zCl_le hv.2.1 q
                          have hq2 := zCl_le hv.2.1 (q - 1)
                          have hq3 := zCl_mono (f := z 0 2) (r := q - 1) (by omega) (by omega)
                          rw [show q - 1 + 1 = q by omega] at hq3
                          refine lv_aload_n S.1 S.2.1 dL_arePeriods_165 rfl (lv_at hl 0 rfl) ?_
                          refine lv_iload S.1 S.2.1 dL_arePeriods_166 (lv_at hl 4 rfl) ?_
                          refine z_cV (v := some (.int (nI (zCl (z 0 2) q)))) (rest := []) (As := [.int (nI (q))]) S hZ hS (c_occurrences l g z hv q (by omega) (by omega)) ci_X11_occurrences cv_X11_occurrences k1190 ⟨rfl, rfl, by rw [hR]; decide, by rw [hR]; decide⟩ hP (hP.1.recv hZ.1 0 (by decide) rfl rfl rfl) hl.1 rfl (Nat.le_of_ble_eq_true rfl) dL_arePeriods_168 ⟨by rw [hR]; decide, by rw [hR]; decide⟩ rfl ?_
                          refine lv_aload_n S.1 S.2.1 dL_arePeriods_171 rfl (lv_at hl 0 rfl) ?_
                          refine lv_iload S.1 S.2.1 dL_arePeriods_172 (lv_at hl 4 rfl) ?_
                          refine z_ic S (k := 1) dL_arePeriods_174 (by decide) ?_
                          refine z_sub S (by omega) dL_arePeriods_175 ?_
                          refine z_cV (v := some (.int (nI (zCl (z 0 2) (q - 1))))) (rest := [.int (nI (zCl (z 0 2) q))]) (As := [.int (nI (q - 1))]) S hZ hS (c_occurrences l g z hv (q - 1) (by omega) (by omega)) ci_X11_occurrences cv_X11_occurrences k1190 ⟨rfl, rfl, by rw [hR]; decide, by rw [hR]; decide⟩ hP (hP.1.recv hZ.1 0 (by decide) rfl rfl rfl) hl.1 rfl (Nat.le_of_ble_eq_true rfl) dL_arePeriods_176 ⟨by rw [hR]; decide, by rw [hR]; decide⟩ rfl ?_
                          refine z_cgt (tgt := 186) S (by omega) (by omega) dL_arePeriods_179 (by decide) (fun h9 => ?_) (fun h9 => ?_)
                          · exact absurd h9 (by omega)
                          · refine z_ic S (k := 1) dL_arePeriods_182 (by decide) ?_
                            refine lv_goto (tgt := 187) S.1 S.2.1 dL_arePeriods_183 (by decide) ?_
                            refine lv_istore_n (lv' := [(3, .int (nI (1))), (0, .ref (o)), (1, .int (nI (z 0 2 0 3))), (2, .int (nI (b))), (4, .int (nI (q)))]) S.1 S.2.1 dL_arePeriods_187 rfl hl (by decide) rfl (fun ls hl => ?_)
                            refine z_inc S (lv' := [(4, .int (nI (q + 1))), (3, .int (nI (1))), (0, .ref (o)), (1, .int (nI (z 0 2 0 3))), (2, .int (nI (b)))]) (k := 4) (b := 1) dL_arePeriods_188 hl rfl (by decide) (by decide) rfl (fun ls hl => ?_)
                            refine lv_goto (tgt := 155) S.1 S.2.1 dL_arePeriods_191 (by decide) ?_
                            exact ih (q + 1) ls ⟨by omega, by omega⟩ (by omega) (lv_sub hl [2, 3, 4, 1, 0] rfl)
                    exact loop2 (z 0 2 0 3 + 1) 2 ls ⟨by omega, by omega⟩ (by omega) (lv_sub hl [1, 2, 3, 4, 0] rfl)
                  · refine lv_aload_n S.1 S.2.1 dL_arePeriods_131 rfl (lv_at hl 0 rfl) ?_
                    refine lv_iload S.1 S.2.1 dL_arePeriods_132 (lv_at hl 4 rfl) ?_
                    refine z_cS (v := some (.int (nI (zOv (z 0 2) q).toNat))) (rest := []) (As := [.ref (o), .int (nI (q))]) S hZ hS (c_isPeriod l hl0 g z hv q (by omega)) ci_L_isPeriod cv_L_isPeriod k1198 ⟨rfl, rfl, by rw [hR]; exact Nat.le_of_ble_eq_true rfl, by rw [hR]; exact Nat.le_of_ble_eq_true rfl⟩ hP hl.1 rfl (Nat.le_of_ble_eq_true rfl) dL_arePeriods_134 ⟨by rw [hR]; exact Nat.le_of_ble_eq_true rfl, by rw [hR]; exact Nat.le_of_ble_eq_true rfl⟩ rfl ?_
                    refine z_bne (tgt := 144) S dL_arePeriods_137 (by decide) (fun h7 => ?_) (fun h7 => ?_)
                    · exact absurd h7 (by rw [hno q (by omega) h6]; decide)
                    · refine z_ic S (k := 1) dL_arePeriods_140 (by decide) ?_
                      refine lv_goto (tgt := 145) S.1 S.2.1 dL_arePeriods_141 (by decide) ?_
                      refine lv_istore_n (lv' := [(3, .int (nI (1))), (0, .ref (o)), (1, .int (nI (z 0 2 0 3))), (2, .int (nI (b))), (4, .int (nI (q)))]) S.1 S.2.1 dL_arePeriods_145 rfl hl (by decide) rfl (fun ls hl => ?_)
                      refine z_inc S (lv' := [(4, .int (nI (q + 1))), (3, .int (nI (1))), (0, .ref (o)), (1, .int (nI (z 0 2 0 3))), (2, .int (nI (b)))]) (k := 4) (b := 1) dL_arePeriods_146 hl rfl (by decide) (by decide) rfl (fun ls hl => ?_)
                      refine lv_goto (tgt := 121) S.1 S.2.1 dL_arePeriods_149 (by decide) ?_
                      exact ih (q + 1) ls (by omega) (by omega) (lv_sub hl [2, 3, 4, 1, 0] rfl)
              exact loop1 (b + 1) 1 ls ⟨by omega, by omega⟩ (by omega) (lv_sub hl [4, 3, 2, 1, 0] rfl)
      · exact absurd h2 (by omega)
    · exact absurd h1 (by omega)
