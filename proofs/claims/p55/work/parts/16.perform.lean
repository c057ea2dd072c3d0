theorem ci_X8_perform : zCI yX8_perform cX8_perform 4 (some .int) 1 := ⟨k547, k2, by decide +kernel⟩
theorem cv_X8_perform : Cond.instanceMethod yX8_perform ∈ GW ∧ Cond.selects (yX8_perform).cls yX8_perform yX8_perform ∈ GW := ⟨k545, k546⟩
set_option maxRecDepth 20000 in
set_option maxHeartbeats 4000000 in
/-- Loom.perform(command), wick -/
theorem c_X8_perform_0 (l : Launch) (g : ZG) {B : Nat} {o oc : Nat} (hB : B ≤ o) (v : zL) (hv : zOk v) (fc : Nat → Nat → Nat) (hk : fc 0 0 = 0) (h8 : v 1 0 4 < 8) : Met l yX8_perform (.code yX8_perform cX8_perform 4 (some .int) :: GW) { frames := 4, cells := 0, slots := 0, locals := 104 } (va_Pc [.ref o, .ref oc] (zPre g B (fun H => zLo g o v H ∧ zPm g oc 1 TCo fc H))) (zX (fun w H => w = some (.int (nI (zPf v 0 (fc 0 1) (fc 0 2) (fc 0 3)).2)) ∧ zLo g o (zPf v 0 (fc 0 1) (fc 0 2) (fc 0 3)).1 H) o 12) 0 0 (zA B) := by
  refine zMet (by decide) (Nat.le_of_ble_eq_true rfl) ?_
  intro p e R s m args below meth c Q ls hR hargs hQ S hr hlk hP hZ hS hnm hl
  have hl : lv_has ls 4 [(0, .ref (o)), (1, .ref (oc))] := hl
  have hC : zCh1 o 12 s.heap s.heap := zCh1.rf
  obtain ⟨hPL, hC0⟩ := hP
  obtain ⟨hP0, hP1, hP2, hP3, hP4⟩ := id hPL
  obtain ⟨hv1, hv2, hv3, hv4⟩ := id hv
  refine lv_aload_n S.1 S.2.1 dX8_perform_0 rfl (lv_at hl 1 rfl) ?_
  refine z_get (v := .int (nI (fc 0 1))) S hZ.1 hC0 0 (by decide) rfl rfl rfl 1 (by decide) rfl k185 dX8_perform_1 ?_
  refine lv_istore_n (lv' := [(2, .int (nI (fc 0 1))), (0, .ref (o)), (1, .ref (oc))]) S.1 S.2.1 dX8_perform_4 rfl hl (by decide) rfl (fun ls hl => ?_)
  refine lv_aload_n S.1 S.2.1 dX8_perform_5 rfl (lv_at hl 2 rfl) ?_
  refine z_get (v := .int (nI (fc 0 2))) S hZ.1 hC0 0 (by decide) rfl rfl rfl 2 (by decide) rfl k188 dX8_perform_6 ?_
  refine lv_istore_n (lv' := [(3, .int (nI (fc 0 2))), (2, .int (nI (fc 0 1))), (0, .ref (o)), (1, .ref (oc))]) S.1 S.2.1 dX8_perform_9 rfl hl (by decide) rfl (fun ls hl => ?_)
  refine va_gets (A := zA B) S.1 S.2.1 hZ.swZ hS S.2.2.2.1 (S.2.2.2.2 _ k548) (fun _ h => h) dX8_perform_10 ?_
  refine lv_aload_n S.1 S.2.1 dX8_perform_13 rfl (lv_at hl 3 rfl) ?_
  refine z_get (v := .ref (g.2 1 (fc 0 0))) S hZ.1 hC0 0 (by decide) rfl rfl rfl 0 (by decide) rfl k182 dX8_perform_14 ?_
  rw [hk]
  refine z_ord S hZ hS 0 (by decide) k549 ⟨by rw [hR]; exact Nat.le_of_ble_eq_true rfl, by rw [hR]; exact Nat.le_of_ble_eq_true rfl⟩ hl.1 (Nat.le_of_ble_eq_true rfl) dX8_perform_17 ⟨by rw [hR]; exact Nat.le_of_ble_eq_true rfl, by rw [hR]; exact Nat.le_of_ble_eq_true rfl⟩ ?_
  refine va_ti (A := zA B) (v := .int (nI (zSw 0))) S.1 S.2.1 hZ.swT hS (vp_in_nI (by decide) (by decide)) (by rw [nI_clamp (by decide)]) dX8_perform_20 ?_
  refine lv_tableIn (off := 51) (tgt := 72) S.1 S.2.1 dX8_perform_21 (by decide) (by decide) (by decide) (by decide) ?_
  refine lv_aload_n S.1 S.2.1 dX8_perform_72 rfl (lv_at hl 2 rfl) ?_
  refine z_get (v := .ref (o + 1)) S hZ.1 hP0 0 (by decide) rfl rfl rfl 0 (by decide) rfl k116 dX8_perform_73 ?_
  refine lv_iload_n S.1 S.2.1 dX8_perform_76 rfl (lv_at hl 1 rfl) ?_
  refine lv_iload_n S.1 S.2.1 dX8_perform_77 rfl (lv_at hl 0 rfl) ?_
  refine lv_aload_n S.1 S.2.1 dX8_perform_78 rfl (lv_at hl 3 rfl) ?_
  refine z_get (v := .int (nI (fc 0 3))) S hZ.1 hC0 0 (by decide) rfl rfl rfl 3 (by decide) rfl k191 dX8_perform_79 ?_
  refine z_w1 (v0 := some (.int (nI (v 1 0 4)))) (rest := []) (As := [.int (nI (fc 0 1)), .int (nI (fc 0 2)), .int (nI (fc 0 3))]) S hZ hS (c_X10_place l g (by omega) (v 1) hv1 _ _ _ h8) (by omega) ci_X10_place cv_X10_place k550 ⟨rfl, rfl, by rw [hR]; exact Nat.le_of_ble_eq_true rfl, by rw [hR]; exact Nat.le_of_ble_eq_true rfl⟩ hP1 (hP1.recv hZ.1 0 (by decide) rfl rfl rfl) hl.1 rfl (Nat.le_of_ble_eq_true rfl) dX8_perform_82 ⟨by rw [hR]; exact Nat.le_of_ble_eq_true rfl, by rw [hR]; exact Nat.le_of_ble_eq_true rfl⟩ rfl (fun H1 locs1 hPn hCn hSn => ?_)
  have hS := hSn
  have hP0 := hP0.kept hCn (by omega)
  have hP2 := hP2.kept hCn (by omega)
  have hP3 := hP3.kept hCn (by omega)
  have hP4 := hP4.kept hCn (by omega)
  have hP1 := hPn
  have hC := hC.tr (hCn.mono (b := o) (k := 12) (by omega) (by omega))
  exact z_wi hQ S hr hlk (zn_int _) hS hC ⟨rfl, hP0, hP1, hP2, hP3, hP4⟩ dX8_perform_85
set_option maxRecDepth 20000 in
set_option maxHeartbeats 4000000 in
/-- Loom.perform(command), light -/
theorem c_X8_perform_1 (l : Launch) (g : ZG) {B : Nat} {o oc : Nat} (hB : B ≤ o) (v : zL) (hv : zOk v) (fc : Nat → Nat → Nat) (hk : fc 0 0 = 1) (h8 : fc 0 1 < 8) (hw2 : zWo (va_up (v 1) 4 (va_up (v 1 4) (fc 0 1) 1))) : Met l yX8_perform (.code yX8_perform cX8_perform 4 (some .int) :: GW) { frames := 4, cells := 0, slots := 0, locals := 104 } (va_Pc [.ref o, .ref oc] (zPre g B (fun H => zLo g o v H ∧ zPm g oc 1 TCo fc H))) (zX (fun w H => w = some (.int (nI (zPf v 1 (fc 0 1) (fc 0 2) (fc 0 3)).2)) ∧ zLo g o (zPf v 1 (fc 0 1) (fc 0 2) (fc 0 3)).1 H) o 12) 0 0 (zA B) := by
  refine zMet (by decide) (Nat.le_of_ble_eq_true rfl) ?_
  intro p e R s m args below meth c Q ls hR hargs hQ S hr hlk hP hZ hS hnm hl
  have hl : lv_has ls 4 [(0, .ref (o)), (1, .ref (oc))] := hl
  have hC : zCh1 o 12 s.heap s.heap := zCh1.rf
  obtain ⟨hPL, hC0⟩ := hP
  obtain ⟨hP0, hP1, hP2, hP3, hP4⟩ := id hPL
  obtain ⟨hv1, hv2, hv3, hv4⟩ := id hv
  refine lv_aload_n S.1 S.2.1 dX8_perform_0 rfl (lv_at hl 1 rfl) ?_
  refine z_get (v := .int (nI (fc 0 1))) S hZ.1 hC0 0 (by decide) rfl rfl rfl 1 (by decide) rfl k185 dX8_perform_1 ?_
  refine lv_istore_n (lv' := [(2, .int (nI (fc 0 1))), (0, .ref (o)), (1, .ref (oc))]) S.1 S.2.1 dX8_perform_4 rfl hl (by decide) rfl (fun ls hl => ?_)
  refine lv_aload_n S.1 S.2.1 dX8_perform_5 rfl (lv_at hl 2 rfl) ?_
  refine z_get (v := .int (nI (fc 0 2))) S hZ.1 hC0 0 (by decide) rfl rfl rfl 2 (by decide) rfl k188 dX8_perform_6 ?_
  refine lv_istore_n (lv' := [(3, .int (nI (fc 0 2))), (2, .int (nI (fc 0 1))), (0, .ref (o)), (1, .ref (oc))]) S.1 S.2.1 dX8_perform_9 rfl hl (by decide) rfl (fun ls hl => ?_)
  refine va_gets (A := zA B) S.1 S.2.1 hZ.swZ hS S.2.2.2.1 (S.2.2.2.2 _ k548) (fun _ h => h) dX8_perform_10 ?_
  refine lv_aload_n S.1 S.2.1 dX8_perform_13 rfl (lv_at hl 3 rfl) ?_
  refine z_get (v := .ref (g.2 1 (fc 0 0))) S hZ.1 hC0 0 (by decide) rfl rfl rfl 0 (by decide) rfl k182 dX8_perform_14 ?_
  rw [hk]
  refine z_ord S hZ hS 1 (by decide) k549 ⟨by rw [hR]; exact Nat.le_of_ble_eq_true rfl, by rw [hR]; exact Nat.le_of_ble_eq_true rfl⟩ hl.1 (Nat.le_of_ble_eq_true rfl) dX8_perform_17 ⟨by rw [hR]; exact Nat.le_of_ble_eq_true rfl, by rw [hR]; exact Nat.le_of_ble_eq_true rfl⟩ ?_
  refine va_ti (A := zA B) (v := .int (nI (zSw 1))) S.1 S.2.1 hZ.swT hS (vp_in_nI (by decide) (by decide)) (by rw [nI_clamp (by decide)]) dX8_perform_20 ?_
  refine lv_tableIn (off := 65) (tgt := 86) S.1 S.2.1 dX8_perform_21 (by decide) (by decide) (by decide) (by decide) ?_
  refine lv_aload_n S.1 S.2.1 dX8_perform_86 rfl (lv_at hl 2 rfl) ?_
  refine z_get (v := .ref (o + 1)) S hZ.1 hP0 0 (by decide) rfl rfl rfl 0 (by decide) rfl k116 dX8_perform_87 ?_
  refine lv_iload_n S.1 S.2.1 dX8_perform_90 rfl (lv_at hl 1 rfl) ?_
  refine z_ic S (k := 1) dX8_perform_91 (by decide) ?_
  refine z_w1 (v0 := some (.int (nI (zSum (va_up (v 1 4) (fc 0 1) 1) (v 1 0 4))))) (rest := []) (As := [.int (nI (fc 0 1)), .int (nI (1))]) S hZ hS (c_X10_setLit l g (by omega) (v 1) hv1 (fc 0 1) 1 h8 (by decide) hw2) (by omega) ci_X10_setLit cv_X10_setLit k554 ⟨rfl, rfl, by rw [hR]; exact Nat.le_of_ble_eq_true rfl, by rw [hR]; exact Nat.le_of_ble_eq_true rfl⟩ hP1 (hP1.recv hZ.1 0 (by decide) rfl rfl rfl) hl.1 rfl (Nat.le_of_ble_eq_true rfl) dX8_perform_92 ⟨by rw [hR]; exact Nat.le_of_ble_eq_true rfl, by rw [hR]; exact Nat.le_of_ble_eq_true rfl⟩ rfl (fun H1 locs1 hPn hCn hSn => ?_)
  have hS := hSn
  have hP0 := hP0.kept hCn (by omega)
  have hP2 := hP2.kept hCn (by omega)
  have hP3 := hP3.kept hCn (by omega)
  have hP4 := hP4.kept hCn (by omega)
  have hP1 := hPn
  have hC := hC.tr (hCn.mono (b := o) (k := 12) (by omega) (by omega))
  exact z_wi hQ S hr hlk (zn_int _) hS hC ⟨rfl, hP0, hP1, hP2, hP3, hP4⟩ dX8_perform_95
set_option maxRecDepth 20000 in
set_option maxHeartbeats 4000000 in
/-- Loom.perform(command), snuff -/
theorem c_X8_perform_2 (l : Launch) (g : ZG) {B : Nat} {o oc : Nat} (hB : B ≤ o) (v : zL) (hv : zOk v) (fc : Nat → Nat → Nat) (hk : fc 0 0 = 2) (h8 : fc 0 1 < 8) (hw2 : zWo (va_up (v 1) 4 (va_up (v 1 4) (fc 0 1) 0))) : Met l yX8_perform (.code yX8_perform cX8_perform 4 (some .int) :: GW) { frames := 4, cells := 0, slots := 0, locals := 104 } (va_Pc [.ref o, .ref oc] (zPre g B (fun H => zLo g o v H ∧ zPm g oc 1 TCo fc H))) (zX (fun w H => w = some (.int (nI (zPf v 2 (fc 0 1) (fc 0 2) (fc 0 3)).2)) ∧ zLo g o (zPf v 2 (fc 0 1) (fc 0 2) (fc 0 3)).1 H) o 12) 0 0 (zA B) := by
  refine zMet (by decide) (Nat.le_of_ble_eq_true rfl) ?_
  intro p e R s m args below meth c Q ls hR hargs hQ S hr hlk hP hZ hS hnm hl
  have hl : lv_has ls 4 [(0, .ref (o)), (1, .ref (oc))] := hl
  have hC : zCh1 o 12 s.heap s.heap := zCh1.rf
  obtain ⟨hPL, hC0⟩ := hP
  obtain ⟨hP0, hP1, hP2, hP3, hP4⟩ := id hPL
  obtain ⟨hv1, hv2, hv3, hv4⟩ := id hv
  refine lv_aload_n S.1 S.2.1 dX8_perform_0 rfl (lv_at hl 1 rfl) ?_
  refine z_get (v := .int (nI (fc 0 1))) S hZ.1 hC0 0 (by decide) rfl rfl rfl 1 (by decide) rfl k185 dX8_perform_1 ?_
  refine lv_istore_n (lv' := [(2, .int (nI (fc 0 1))), (0, .ref (o)), (1, .ref (oc))]) S.1 S.2.1 dX8_perform_4 rfl hl (by decide) rfl (fun ls hl => ?_)
  refine lv_aload_n S.1 S.2.1 dX8_perform_5 rfl (lv_at hl 2 rfl) ?_
  refine z_get (v := .int (nI (fc 0 2))) S hZ.1 hC0 0 (by decide) rfl rfl rfl 2 (by decide) rfl k188 dX8_perform_6 ?_
  refine lv_istore_n (lv' := [(3, .int (nI (fc 0 2))), (2, .int (nI (fc 0 1))), (0, .ref (o)), (1, .ref (oc))]) S.1 S.2.1 dX8_perform_9 rfl hl (by decide) rfl (fun ls hl => ?_)
  refine va_gets (A := zA B) S.1 S.2.1 hZ.swZ hS S.2.2.2.1 (S.2.2.2.2 _ k548) (fun _ h => h) dX8_perform_10 ?_
  refine lv_aload_n S.1 S.2.1 dX8_perform_13 rfl (lv_at hl 3 rfl) ?_
  refine z_get (v := .ref (g.2 1 (fc 0 0))) S hZ.1 hC0 0 (by decide) rfl rfl rfl 0 (by decide) rfl k182 dX8_perform_14 ?_
  rw [hk]
  refine z_ord S hZ hS 2 (by decide) k549 ⟨by rw [hR]; exact Nat.le_of_ble_eq_true rfl, by rw [hR]; exact Nat.le_of_ble_eq_true rfl⟩ hl.1 (Nat.le_of_ble_eq_true rfl) dX8_perform_17 ⟨by rw [hR]; exact Nat.le_of_ble_eq_true rfl, by rw [hR]; exact Nat.le_of_ble_eq_true rfl⟩ ?_
  refine va_ti (A := zA B) (v := .int (nI (zSw 2))) S.1 S.2.1 hZ.swT hS (vp_in_nI (by decide) (by decide)) (by rw [nI_clamp (by decide)]) dX8_perform_20 ?_
  refine lv_tableIn (off := 75) (tgt := 96) S.1 S.2.1 dX8_perform_21 (by decide) (by decide) (by decide) (by decide) ?_
  refine lv_aload_n S.1 S.2.1 dX8_perform_96 rfl (lv_at hl 2 rfl) ?_
  refine z_get (v := .ref (o + 1)) S hZ.1 hP0 0 (by decide) rfl rfl rfl 0 (by decide) rfl k116 dX8_perform_97 ?_
  refine lv_iload_n S.1 S.2.1 dX8_perform_100 rfl (lv_at hl 1 rfl) ?_
  refine z_ic S (k := 0) dX8_perform_101 (by decide) ?_
  refine z_w1 (v0 := some (.int (nI (zSum (va_up (v 1 4) (fc 0 1) 0) (v 1 0 4))))) (rest := []) (As := [.int (nI (fc 0 1)), .int (nI (0))]) S hZ hS (c_X10_setLit l g (by omega) (v 1) hv1 (fc 0 1) 0 h8 (by decide) hw2) (by omega) ci_X10_setLit cv_X10_setLit k554 ⟨rfl, rfl, by rw [hR]; exact Nat.le_of_ble_eq_true rfl, by rw [hR]; exact Nat.le_of_ble_eq_true rfl⟩ hP1 (hP1.recv hZ.1 0 (by decide) rfl rfl rfl) hl.1 rfl (Nat.le_of_ble_eq_true rfl) dX8_perform_102 ⟨by rw [hR]; exact Nat.le_of_ble_eq_true rfl, by rw [hR]; exact Nat.le_of_ble_eq_true rfl⟩ rfl (fun H1 locs1 hPn hCn hSn => ?_)
  have hS := hSn
  have hP0 := hP0.kept hCn (by omega)
  have hP2 := hP2.kept hCn (by omega)
  have hP3 := hP3.kept hCn (by omega)
  have hP4 := hP4.kept hCn (by omega)
  have hP1 := hPn
  have hC := hC.tr (hCn.mono (b := o) (k := 12) (by omega) (by omega))
  exact z_wi hQ S hr hlk (zn_int _) hS hC ⟨rfl, hP0, hP1, hP2, hP3, hP4⟩ dX8_perform_105
set_option maxRecDepth 20000 in
set_option maxHeartbeats 4000000 in
/-- Loom.perform(command), wax -/
theorem c_X8_perform_3 (l : Launch) (g : ZG) {B : Nat} {o oc : Nat} (hB : B ≤ o) (v : zL) (hv : zOk v) (fc : Nat → Nat → Nat) (hk : fc 0 0 = 3) (h8 : fc 0 1 < 8) : Met l yX8_perform (.code yX8_perform cX8_perform 4 (some .int) :: GW) { frames := 4, cells := 0, slots := 0, locals := 104 } (va_Pc [.ref o, .ref oc] (zPre g B (fun H => zLo g o v H ∧ zPm g oc 1 TCo fc H))) (zX (fun w H => w = some (.int (nI (zPf v 3 (fc 0 1) (fc 0 2) (fc 0 3)).2)) ∧ zLo g o (zPf v 3 (fc 0 1) (fc 0 2) (fc 0 3)).1 H) o 12) 0 0 (zA B) := by
  refine zMet (by decide) (Nat.le_of_ble_eq_true rfl) ?_
  intro p e R s m args below meth c Q ls hR hargs hQ S hr hlk hP hZ hS hnm hl
  have hl : lv_has ls 4 [(0, .ref (o)), (1, .ref (oc))] := hl
  have hC : zCh1 o 12 s.heap s.heap := zCh1.rf
  obtain ⟨hPL, hC0⟩ := hP
  obtain ⟨hP0, hP1, hP2, hP3, hP4⟩ := id hPL
  obtain ⟨hv1, hv2, hv3, hv4⟩ := id hv
  refine lv_aload_n S.1 S.2.1 dX8_perform_0 rfl (lv_at hl 1 rfl) ?_
  refine z_get (v := .int (nI (fc 0 1))) S hZ.1 hC0 0 (by decide) rfl rfl rfl 1 (by decide) rfl k185 dX8_perform_1 ?_
  refine lv_istore_n (lv' := [(2, .int (nI (fc 0 1))), (0, .ref (o)), (1, .ref (oc))]) S.1 S.2.1 dX8_perform_4 rfl hl (by decide) rfl (fun ls hl => ?_)
  refine lv_aload_n S.1 S.2.1 dX8_perform_5 rfl (lv_at hl 2 rfl) ?_
  refine z_get (v := .int (nI (fc 0 2))) S hZ.1 hC0 0 (by decide) rfl rfl rfl 2 (by decide) rfl k188 dX8_perform_6 ?_
  refine lv_istore_n (lv' := [(3, .int (nI (fc 0 2))), (2, .int (nI (fc 0 1))), (0, .ref (o)), (1, .ref (oc))]) S.1 S.2.1 dX8_perform_9 rfl hl (by decide) rfl (fun ls hl => ?_)
  refine va_gets (A := zA B) S.1 S.2.1 hZ.swZ hS S.2.2.2.1 (S.2.2.2.2 _ k548) (fun _ h => h) dX8_perform_10 ?_
  refine lv_aload_n S.1 S.2.1 dX8_perform_13 rfl (lv_at hl 3 rfl) ?_
  refine z_get (v := .ref (g.2 1 (fc 0 0))) S hZ.1 hC0 0 (by decide) rfl rfl rfl 0 (by decide) rfl k182 dX8_perform_14 ?_
  rw [hk]
  refine z_ord S hZ hS 3 (by decide) k549 ⟨by rw [hR]; exact Nat.le_of_ble_eq_true rfl, by rw [hR]; exact Nat.le_of_ble_eq_true rfl⟩ hl.1 (Nat.le_of_ble_eq_true rfl) dX8_perform_17 ⟨by rw [hR]; exact Nat.le_of_ble_eq_true rfl, by rw [hR]; exact Nat.le_of_ble_eq_true rfl⟩ ?_
  refine va_ti (A := zA B) (v := .int (nI (zSw 3))) S.1 S.2.1 hZ.swT hS (vp_in_nI (by decide) (by decide)) (by rw [nI_clamp (by decide)]) dX8_perform_20 ?_
  refine lv_tableIn (off := 85) (tgt := 106) S.1 S.2.1 dX8_perform_21 (by decide) (by decide) (by decide) (by decide) ?_
  refine lv_aload_n S.1 S.2.1 dX8_perform_106 rfl (lv_at hl 2 rfl) ?_
  refine z_get (v := .ref (o + 1)) S hZ.1 hP0 0 (by decide) rfl rfl rfl 0 (by decide) rfl k116 dX8_perform_107 ?_
  refine lv_iload_n S.1 S.2.1 dX8_perform_110 rfl (lv_at hl 1 rfl) ?_
  refine lv_iload_n S.1 S.2.1 dX8_perform_111 rfl (lv_at hl 0 rfl) ?_
  refine z_w1 (v0 := some (.int (nI (v 1 3 (fc 0 1) + fc 0 2)))) (rest := []) (As := [.int (nI (fc 0 1)), .int (nI (fc 0 2))]) S hZ hS (c_X10_pour l g (by omega) (v 1) hv1 (fc 0 1) (fc 0 2) h8) (by omega) ci_X10_pour cv_X10_pour k559 ⟨rfl, rfl, by rw [hR]; exact Nat.le_of_ble_eq_true rfl, by rw [hR]; exact Nat.le_of_ble_eq_true rfl⟩ hP1 (hP1.recv hZ.1 0 (by decide) rfl rfl rfl) hl.1 rfl (Nat.le_of_ble_eq_true rfl) dX8_perform_112 ⟨by rw [hR]; exact Nat.le_of_ble_eq_true rfl, by rw [hR]; exact Nat.le_of_ble_eq_true rfl⟩ rfl (fun H1 locs1 hPn hCn hSn => ?_)
  have hS := hSn
  have hP0 := hP0.kept hCn (by omega)
  have hP2 := hP2.kept hCn (by omega)
  have hP3 := hP3.kept hCn (by omega)
  have hP4 := hP4.kept hCn (by omega)
  have hP1 := hPn
  have hC := hC.tr (hCn.mono (b := o) (k := 12) (by omega) (by omega))
  exact z_wi hQ S hr hlk (zn_int _) hS hC ⟨rfl, hP0, hP1, hP2, hP3, hP4⟩ dX8_perform_115
set_option maxRecDepth 20000 in
set_option maxHeartbeats 4000000 in
/-- Loom.perform(command), weave -/
theorem c_X8_perform_4 (l : Launch) (g : ZG) {B : Nat} {o oc : Nat} (hB : B ≤ o) (v : zL) (hv : zOk v) (fc : Nat → Nat → Nat) (hk : fc 0 0 = 4) (h40 : v 2 0 3 + fc 0 1 ≤ 40) : Met l yX8_perform (.code yX8_perform cX8_perform 4 (some .int) :: GW) { frames := 4, cells := 0, slots := 0, locals := 104 } (va_Pc [.ref o, .ref oc] (zPre g B (fun H => zLo g o v H ∧ zPm g oc 1 TCo fc H))) (zX (fun w H => w = some (.int (nI (zPf v 4 (fc 0 1) (fc 0 2) (fc 0 3)).2)) ∧ zLo g o (zPf v 4 (fc 0 1) (fc 0 2) (fc 0 3)).1 H) o 12) 0 0 (zA B) := by
  refine zMet (by decide) (Nat.le_of_ble_eq_true rfl) ?_
  intro p e R s m args below meth c Q ls hR hargs hQ S hr hlk hP hZ hS hnm hl
  have hl : lv_has ls 4 [(0, .ref (o)), (1, .ref (oc))] := hl
  have hC : zCh1 o 12 s.heap s.heap := zCh1.rf
  obtain ⟨hPL, hC0⟩ := hP
  obtain ⟨hP0, hP1, hP2, hP3, hP4⟩ := id hPL
  obtain ⟨hv1, hv2, hv3, hv4⟩ := id hv
  refine lv_aload_n S.1 S.2.1 dX8_perform_0 rfl (lv_at hl 1 rfl) ?_
  refine z_get (v := .int (nI (fc 0 1))) S hZ.1 hC0 0 (by decide) rfl rfl rfl 1 (by decide) rfl k185 dX8_perform_1 ?_
  refine lv_istore_n (lv' := [(2, .int (nI (fc 0 1))), (0, .ref (o)), (1, .ref (oc))]) S.1 S.2.1 dX8_perform_4 rfl hl (by decide) rfl (fun ls hl => ?_)
  refine lv_aload_n S.1 S.2.1 dX8_perform_5 rfl (lv_at hl 2 rfl) ?_
  refine z_get (v := .int (nI (fc 0 2))) S hZ.1 hC0 0 (by decide) rfl rfl rfl 2 (by decide) rfl k188 dX8_perform_6 ?_
  refine lv_istore_n (lv' := [(3, .int (nI (fc 0 2))), (2, .int (nI (fc 0 1))), (0, .ref (o)), (1, .ref (oc))]) S.1 S.2.1 dX8_perform_9 rfl hl (by decide) rfl (fun ls hl => ?_)
  refine va_gets (A := zA B) S.1 S.2.1 hZ.swZ hS S.2.2.2.1 (S.2.2.2.2 _ k548) (fun _ h => h) dX8_perform_10 ?_
  refine lv_aload_n S.1 S.2.1 dX8_perform_13 rfl (lv_at hl 3 rfl) ?_
  refine z_get (v := .ref (g.2 1 (fc 0 0))) S hZ.1 hC0 0 (by decide) rfl rfl rfl 0 (by decide) rfl k182 dX8_perform_14 ?_
  rw [hk]
  refine z_ord S hZ hS 4 (by decide) k549 ⟨by rw [hR]; exact Nat.le_of_ble_eq_true rfl, by rw [hR]; exact Nat.le_of_ble_eq_true rfl⟩ hl.1 (Nat.le_of_ble_eq_true rfl) dX8_perform_17 ⟨by rw [hR]; exact Nat.le_of_ble_eq_true rfl, by rw [hR]; exact Nat.le_of_ble_eq_true rfl⟩ ?_
  refine va_ti (A := zA B) (v := .int (nI (zSw 4))) S.1 S.2.1 hZ.swT hS (vp_in_nI (by decide) (by decide)) (by rw [nI_clamp (by decide)]) dX8_perform_20 ?_
  refine lv_tableIn (off := 95) (tgt := 116) S.1 S.2.1 dX8_perform_21 (by decide) (by decide) (by decide) (by decide) ?_
  refine lv_aload_n S.1 S.2.1 dX8_perform_116 rfl (lv_at hl 2 rfl) ?_
  refine lv_iload_n S.1 S.2.1 dX8_perform_117 rfl (lv_at hl 1 rfl) ?_
  refine z_w1 (v0 := some (.int (nI (zWn v (fc 0 1))))) (rest := []) (As := [.int (nI (fc 0 1))]) S hZ hS (c_X8_weaveRows l g hB v hv (fc 0 1) h40) hB ci_X8_weaveRows cv_X8_weaveRows k563 ⟨rfl, rfl, by rw [hR]; exact Nat.le_of_ble_eq_true rfl, by rw [hR]; exact Nat.le_of_ble_eq_true rfl⟩ hPL (hP0.recv hZ.1 0 (by decide) rfl rfl rfl) hl.1 rfl (Nat.le_of_ble_eq_true rfl) dX8_perform_118 ⟨by rw [hR]; exact Nat.le_of_ble_eq_true rfl, by rw [hR]; exact Nat.le_of_ble_eq_true rfl⟩ rfl (fun H1 locs1 hPn hCn hSn => ?_)
  exact z_wi hQ S hr hlk (zn_int _) hSn (hC.tr hCn) ⟨rfl, hPn⟩ dX8_perform_121
set_option maxRecDepth 20000 in
set_option maxHeartbeats 4000000 in
/-- Loom.perform(command), ravel -/
theorem c_X8_perform_5 (l : Launch) (g : ZG) {B : Nat} {o oc : Nat} (hB : B ≤ o) (v : zL) (hv : zOk v) (fc : Nat → Nat → Nat) (hk : fc 0 0 = 5) (h9 : fc 0 1 ≤ v 2 0 3) : Met l yX8_perform (.code yX8_perform cX8_perform 4 (some .int) :: GW) { frames := 4, cells := 0, slots := 0, locals := 104 } (va_Pc [.ref o, .ref oc] (zPre g B (fun H => zLo g o v H ∧ zPm g oc 1 TCo fc H))) (zX (fun w H => w = some (.int (nI (zPf v 5 (fc 0 1) (fc 0 2) (fc 0 3)).2)) ∧ zLo g o (zPf v 5 (fc 0 1) (fc 0 2) (fc 0 3)).1 H) o 12) 0 0 (zA B) := by
  refine zMet (by decide) (Nat.le_of_ble_eq_true rfl) ?_
  intro p e R s m args below meth c Q ls hR hargs hQ S hr hlk hP hZ hS hnm hl
  have hl : lv_has ls 4 [(0, .ref (o)), (1, .ref (oc))] := hl
  have hC : zCh1 o 12 s.heap s.heap := zCh1.rf
  obtain ⟨hPL, hC0⟩ := hP
  obtain ⟨hP0, hP1, hP2, hP3, hP4⟩ := id hPL
  obtain ⟨hv1, hv2, hv3, hv4⟩ := id hv
  refine lv_aload_n S.1 S.2.1 dX8_perform_0 rfl (lv_at hl 1 rfl) ?_
  refine z_get (v := .int (nI (fc 0 1))) S hZ.1 hC0 0 (by decide) rfl rfl rfl 1 (by decide) rfl k185 dX8_perform_1 ?_
  refine lv_istore_n (lv' := [(2, .int (nI (fc 0 1))), (0, .ref (o)), (1, .ref (oc))]) S.1 S.2.1 dX8_perform_4 rfl hl (by decide) rfl (fun ls hl => ?_)
  refine lv_aload_n S.1 S.2.1 dX8_perform_5 rfl (lv_at hl 2 rfl) ?_
  refine z_get (v := .int (nI (fc 0 2))) S hZ.1 hC0 0 (by decide) rfl rfl rfl 2 (by decide) rfl k188 dX8_perform_6 ?_
  refine lv_istore_n (lv' := [(3, .int (nI (fc 0 2))), (2, .int (nI (fc 0 1))), (0, .ref (o)), (1, .ref (oc))]) S.1 S.2.1 dX8_perform_9 rfl hl (by decide) rfl (fun ls hl => ?_)
  refine va_gets (A := zA B) S.1 S.2.1 hZ.swZ hS S.2.2.2.1 (S.2.2.2.2 _ k548) (fun _ h => h) dX8_perform_10 ?_
  refine lv_aload_n S.1 S.2.1 dX8_perform_13 rfl (lv_at hl 3 rfl) ?_
  refine z_get (v := .ref (g.2 1 (fc 0 0))) S hZ.1 hC0 0 (by decide) rfl rfl rfl 0 (by decide) rfl k182 dX8_perform_14 ?_
  rw [hk]
  refine z_ord S hZ hS 5 (by decide) k549 ⟨by rw [hR]; exact Nat.le_of_ble_eq_true rfl, by rw [hR]; exact Nat.le_of_ble_eq_true rfl⟩ hl.1 (Nat.le_of_ble_eq_true rfl) dX8_perform_17 ⟨by rw [hR]; exact Nat.le_of_ble_eq_true rfl, by rw [hR]; exact Nat.le_of_ble_eq_true rfl⟩ ?_
  refine va_ti (A := zA B) (v := .int (nI (zSw 5))) S.1 S.2.1 hZ.swT hS (vp_in_nI (by decide) (by decide)) (by rw [nI_clamp (by decide)]) dX8_perform_20 ?_
  refine lv_tableIn (off := 101) (tgt := 122) S.1 S.2.1 dX8_perform_21 (by decide) (by decide) (by decide) (by decide) ?_
  refine lv_aload_n S.1 S.2.1 dX8_perform_122 rfl (lv_at hl 2 rfl) ?_
  refine z_get (v := .ref (o + 6)) S hZ.1 hP0 0 (by decide) rfl rfl rfl 1 (by decide) rfl k119 dX8_perform_123 ?_
  refine lv_iload_n S.1 S.2.1 dX8_perform_126 rfl (lv_at hl 1 rfl) ?_
  refine z_w1 (v0 := some (.int (nI (v 2 0 3 - fc 0 1)))) (rest := []) (As := [.int (nI (fc 0 1))]) S hZ hS (c_X1_removeLast l g (by omega) (v 2) hv2 (fc 0 1) h9) (by omega) ci_X1_removeLast cv_X1_removeLast k599 ⟨rfl, rfl, by rw [hR]; exact Nat.le_of_ble_eq_true rfl, by rw [hR]; exact Nat.le_of_ble_eq_true rfl⟩ hP2 (hP2.recv hZ.1 0 (by decide) rfl rfl rfl) hl.1 rfl (Nat.le_of_ble_eq_true rfl) dX8_perform_127 ⟨by rw [hR]; exact Nat.le_of_ble_eq_true rfl, by rw [hR]; exact Nat.le_of_ble_eq_true rfl⟩ rfl (fun H1 locs1 hPn hCn hSn => ?_)
  have hS := hSn
  have hP0 := hP0.kept hCn (by omega)
  have hP1 := hP1.kept hCn (by omega)
  have hP3 := hP3.kept hCn (by omega)
  have hP4 := hP4.kept hCn (by omega)
  have hP2 := hPn
  have hC := hC.tr (hCn.mono (b := o) (k := 12) (by omega) (by omega))
  exact z_wi hQ S hr hlk (zn_int _) hS hC ⟨rfl, hP0, hP1, hP2, hP3, hP4⟩ dX8_perform_130
set_option maxRecDepth 20000 in
set_option maxHeartbeats 4000000 in
/-- Loom.perform(command), repeat -/
theorem c_X8_perform_6 (l : Launch) (g : ZG) {B : Nat} {o oc : Nat} (hB : B ≤ o) (v : zL) (hv : zOk v) (fc : Nat → Nat → Nat) (hk : fc 0 0 = 6) (h0 : fc 0 1 ≤ v 2 0 3) (h1r : 1 ≤ fc 0 1) (h40 : v 2 0 3 + fc 0 1 * fc 0 2 ≤ 40) : Met l yX8_perform (.code yX8_perform cX8_perform 4 (some .int) :: GW) { frames := 4, cells := 0, slots := 0, locals := 104 } (va_Pc [.ref o, .ref oc] (zPre g B (fun H => zLo g o v H ∧ zPm g oc 1 TCo fc H))) (zX (fun w H => w = some (.int (nI (zPf v 6 (fc 0 1) (fc 0 2) (fc 0 3)).2)) ∧ zLo g o (zPf v 6 (fc 0 1) (fc 0 2) (fc 0 3)).1 H) o 12) 0 0 (zA B) := by
  refine zMet (by decide) (Nat.le_of_ble_eq_true rfl) ?_
  intro p e R s m args below meth c Q ls hR hargs hQ S hr hlk hP hZ hS hnm hl
  have hl : lv_has ls 4 [(0, .ref (o)), (1, .ref (oc))] := hl
  have hC : zCh1 o 12 s.heap s.heap := zCh1.rf
  obtain ⟨hPL, hC0⟩ := hP
  obtain ⟨hP0, hP1, hP2, hP3, hP4⟩ := id hPL
  obtain ⟨hv1, hv2, hv3, hv4⟩ := id hv
  refine lv_aload_n S.1 S.2.1 dX8_perform_0 rfl (lv_at hl 1 rfl) ?_
  refine z_get (v := .int (nI (fc 0 1))) S hZ.1 hC0 0 (by decide) rfl rfl rfl 1 (by decide) rfl k185 dX8_perform_1 ?_
  refine lv_istore_n (lv' := [(2, .int (nI (fc 0 1))), (0, .ref (o)), (1, .ref (oc))]) S.1 S.2.1 dX8_perform_4 rfl hl (by decide) rfl (fun ls hl => ?_)
  refine lv_aload_n S.1 S.2.1 dX8_perform_5 rfl (lv_at hl 2 rfl) ?_
  refine z_get (v := .int (nI (fc 0 2))) S hZ.1 hC0 0 (by decide) rfl rfl rfl 2 (by decide) rfl k188 dX8_perform_6 ?_
  refine lv_istore_n (lv' := [(3, .int (nI (fc 0 2))), (2, .int (nI (fc 0 1))), (0, .ref (o)), (1, .ref (oc))]) S.1 S.2.1 dX8_perform_9 rfl hl (by decide) rfl (fun ls hl => ?_)
  refine va_gets (A := zA B) S.1 S.2.1 hZ.swZ hS S.2.2.2.1 (S.2.2.2.2 _ k548) (fun _ h => h) dX8_perform_10 ?_
  refine lv_aload_n S.1 S.2.1 dX8_perform_13 rfl (lv_at hl 3 rfl) ?_
  refine z_get (v := .ref (g.2 1 (fc 0 0))) S hZ.1 hC0 0 (by decide) rfl rfl rfl 0 (by decide) rfl k182 dX8_perform_14 ?_
  rw [hk]
  refine z_ord S hZ hS 6 (by decide) k549 ⟨by rw [hR]; exact Nat.le_of_ble_eq_true rfl, by rw [hR]; exact Nat.le_of_ble_eq_true rfl⟩ hl.1 (Nat.le_of_ble_eq_true rfl) dX8_perform_17 ⟨by rw [hR]; exact Nat.le_of_ble_eq_true rfl, by rw [hR]; exact Nat.le_of_ble_eq_true rfl⟩ ?_
  refine va_ti (A := zA B) (v := .int (nI (zSw 6))) S.1 S.2.1 hZ.swT hS (vp_in_nI (by decide) (by decide)) (by rw [nI_clamp (by decide)]) dX8_perform_20 ?_
  refine lv_tableIn (off := 110) (tgt := 131) S.1 S.2.1 dX8_perform_21 (by decide) (by decide) (by decide) (by decide) ?_
  refine lv_aload_n S.1 S.2.1 dX8_perform_131 rfl (lv_at hl 2 rfl) ?_
  refine z_get (v := .ref (o + 6)) S hZ.1 hP0 0 (by decide) rfl rfl rfl 1 (by decide) rfl k119 dX8_perform_132 ?_
  refine lv_iload_n S.1 S.2.1 dX8_perform_135 rfl (lv_at hl 1 rfl) ?_
  refine lv_iload_n S.1 S.2.1 dX8_perform_136 rfl (lv_at hl 0 rfl) ?_
  refine z_w1 (v0 := some (.int (nI (v 2 0 3 + fc 0 1 * fc 0 2)))) (rest := []) (As := [.int (nI (fc 0 1)), .int (nI (fc 0 2))]) S hZ hS (c_X1_copyLast l g (by omega) (v 2) hv2 (fc 0 1) (fc 0 2) h0 h1r h40) (by omega) ci_X1_copyLast cv_X1_copyLast k603 ⟨rfl, rfl, by rw [hR]; exact Nat.le_of_ble_eq_true rfl, by rw [hR]; exact Nat.le_of_ble_eq_true rfl⟩ hP2 (hP2.recv hZ.1 0 (by decide) rfl rfl rfl) hl.1 rfl (Nat.le_of_ble_eq_true rfl) dX8_perform_137 ⟨by rw [hR]; exact Nat.le_of_ble_eq_true rfl, by rw [hR]; exact Nat.le_of_ble_eq_true rfl⟩ rfl (fun H1 locs1 hPn hCn hSn => ?_)
  have hS := hSn
  have hP0 := hP0.kept hCn (by omega)
  have hP1 := hP1.kept hCn (by omega)
  have hP3 := hP3.kept hCn (by omega)
  have hP4 := hP4.kept hCn (by omega)
  have hP2 := hPn
  have hC := hC.tr (hCn.mono (b := o) (k := 12) (by omega) (by omega))
  exact z_wi hQ S hr hlk (zn_int _) hS hC ⟨rfl, hP0, hP1, hP2, hP3, hP4⟩ dX8_perform_140
set_option maxRecDepth 20000 in
set_option maxHeartbeats 4000000 in
/-- Loom.perform(command), knot -/
theorem c_X8_perform_7 (l : Launch) (g : ZG) {B : Nat} {o oc : Nat} (hB : B ≤ o) (v : zL) (hv : zOk v) (fc : Nat → Nat → Nat) (hk : fc 0 0 = 7) (hi : fc 0 1 < v 2 0 3) (hj : fc 0 2 < 16) : Met l yX8_perform (.code yX8_perform cX8_perform 4 (some .int) :: GW) { frames := 4, cells := 0, slots := 0, locals := 104 } (va_Pc [.ref o, .ref oc] (zPre g B (fun H => zLo g o v H ∧ zPm g oc 1 TCo fc H))) (zX (fun w H => w = some (.int (nI (zPf v 7 (fc 0 1) (fc 0 2) (fc 0 3)).2)) ∧ zLo g o (zPf v 7 (fc 0 1) (fc 0 2) (fc 0 3)).1 H) o 12) 0 0 (zA B) := by
  refine zMet (by decide) (Nat.le_of_ble_eq_true rfl) ?_
  intro p e R s m args below meth c Q ls hR hargs hQ S hr hlk hP hZ hS hnm hl
  have hl : lv_has ls 4 [(0, .ref (o)), (1, .ref (oc))] := hl
  have hC : zCh1 o 12 s.heap s.heap := zCh1.rf
  obtain ⟨hPL, hC0⟩ := hP
  obtain ⟨hP0, hP1, hP2, hP3, hP4⟩ := id hPL
  obtain ⟨hv1, hv2, hv3, hv4⟩ := id hv
  refine lv_aload_n S.1 S.2.1 dX8_perform_0 rfl (lv_at hl 1 rfl) ?_
  refine z_get (v := .int (nI (fc 0 1))) S hZ.1 hC0 0 (by decide) rfl rfl rfl 1 (by decide) rfl k185 dX8_perform_1 ?_
  refine lv_istore_n (lv' := [(2, .int (nI (fc 0 1))), (0, .ref (o)), (1, .ref (oc))]) S.1 S.2.1 dX8_perform_4 rfl hl (by decide) rfl (fun ls hl => ?_)
  refine lv_aload_n S.1 S.2.1 dX8_perform_5 rfl (lv_at hl 2 rfl) ?_
  refine z_get (v := .int (nI (fc 0 2))) S hZ.1 hC0 0 (by decide) rfl rfl rfl 2 (by decide) rfl k188 dX8_perform_6 ?_
  refine lv_istore_n (lv' := [(3, .int (nI (fc 0 2))), (2, .int (nI (fc 0 1))), (0, .ref (o)), (1, .ref (oc))]) S.1 S.2.1 dX8_perform_9 rfl hl (by decide) rfl (fun ls hl => ?_)
  refine va_gets (A := zA B) S.1 S.2.1 hZ.swZ hS S.2.2.2.1 (S.2.2.2.2 _ k548) (fun _ h => h) dX8_perform_10 ?_
  refine lv_aload_n S.1 S.2.1 dX8_perform_13 rfl (lv_at hl 3 rfl) ?_
  refine z_get (v := .ref (g.2 1 (fc 0 0))) S hZ.1 hC0 0 (by decide) rfl rfl rfl 0 (by decide) rfl k182 dX8_perform_14 ?_
  rw [hk]
  refine z_ord S hZ hS 7 (by decide) k549 ⟨by rw [hR]; exact Nat.le_of_ble_eq_true rfl, by rw [hR]; exact Nat.le_of_ble_eq_true rfl⟩ hl.1 (Nat.le_of_ble_eq_true rfl) dX8_perform_17 ⟨by rw [hR]; exact Nat.le_of_ble_eq_true rfl, by rw [hR]; exact Nat.le_of_ble_eq_true rfl⟩ ?_
  refine va_ti (A := zA B) (v := .int (nI (zSw 7))) S.1 S.2.1 hZ.swT hS (vp_in_nI (by decide) (by decide)) (by rw [nI_clamp (by decide)]) dX8_perform_20 ?_
  refine lv_tableIn (off := 120) (tgt := 141) S.1 S.2.1 dX8_perform_21 (by decide) (by decide) (by decide) (by decide) ?_
  refine lv_aload_n S.1 S.2.1 dX8_perform_141 rfl (lv_at hl 2 rfl) ?_
  refine z_get (v := .ref (o + 6)) S hZ.1 hP0 0 (by decide) rfl rfl rfl 1 (by decide) rfl k119 dX8_perform_142 ?_
  refine lv_iload_n S.1 S.2.1 dX8_perform_145 rfl (lv_at hl 1 rfl) ?_
  refine lv_iload_n S.1 S.2.1 dX8_perform_146 rfl (lv_at hl 0 rfl) ?_
  refine z_w1 (v0 := some (.int (nI (zKc (zFk (v 2) (fc 0 1) (fc 0 2)))))) (rest := []) (As := [.int (nI (fc 0 1)), .int (nI (fc 0 2))]) S hZ hS (c_X1_flipKnot l g (by omega) (v 2) hv2 (fc 0 1) (fc 0 2) hi hj) (by omega) ci_X1_flipKnot cv_X1_flipKnot k608 ⟨rfl, rfl, by rw [hR]; exact Nat.le_of_ble_eq_true rfl, by rw [hR]; exact Nat.le_of_ble_eq_true rfl⟩ hP2 (hP2.recv hZ.1 0 (by decide) rfl rfl rfl) hl.1 rfl (Nat.le_of_ble_eq_true rfl) dX8_perform_147 ⟨by rw [hR]; exact Nat.le_of_ble_eq_true rfl, by rw [hR]; exact Nat.le_of_ble_eq_true rfl⟩ rfl (fun H1 locs1 hPn hCn hSn => ?_)
  have hS := hSn
  have hP0 := hP0.kept hCn (by omega)
  have hP1 := hP1.kept hCn (by omega)
  have hP3 := hP3.kept hCn (by omega)
  have hP4 := hP4.kept hCn (by omega)
  have hP2 := hPn
  have hC := hC.tr (hCn.mono (b := o) (k := 12) (by omega) (by omega))
  exact z_wi hQ S hr hlk (zn_int _) hS hC ⟨rfl, hP0, hP1, hP2, hP3, hP4⟩ dX8_perform_150
set_option maxRecDepth 20000 in
set_option maxHeartbeats 4000000 in
/-- Loom.perform(command), untie -/
theorem c_X8_perform_8 (l : Launch) (g : ZG) {B : Nat} {o oc : Nat} (hB : B ≤ o) (v : zL) (hv : zOk v) (fc : Nat → Nat → Nat) (hk : fc 0 0 = 8) (hi : fc 0 1 < v 2 0 3) (hj : fc 0 2 < 16) : Met l yX8_perform (.code yX8_perform cX8_perform 4 (some .int) :: GW) { frames := 4, cells := 0, slots := 0, locals := 104 } (va_Pc [.ref o, .ref oc] (zPre g B (fun H => zLo g o v H ∧ zPm g oc 1 TCo fc H))) (zX (fun w H => w = some (.int (nI (zPf v 8 (fc 0 1) (fc 0 2) (fc 0 3)).2)) ∧ zLo g o (zPf v 8 (fc 0 1) (fc 0 2) (fc 0 3)).1 H) o 12) 0 0 (zA B) := by
  refine zMet (by decide) (Nat.le_of_ble_eq_true rfl) ?_
  intro p e R s m args below meth c Q ls hR hargs hQ S hr hlk hP hZ hS hnm hl
  have hl : lv_has ls 4 [(0, .ref (o)), (1, .ref (oc))] := hl
  have hC : zCh1 o 12 s.heap s.heap := zCh1.rf
  obtain ⟨hPL, hC0⟩ := hP
  obtain ⟨hP0, hP1, hP2, hP3, hP4⟩ := id hPL
  obtain ⟨hv1, hv2, hv3, hv4⟩ := id hv
  refine lv_aload_n S.1 S.2.1 dX8_perform_0 rfl (lv_at hl 1 rfl) ?_
  refine z_get (v := .int (nI (fc 0 1))) S hZ.1 hC0 0 (by decide) rfl rfl rfl 1 (by decide) rfl k185 dX8_perform_1 ?_
  refine lv_istore_n (lv' := [(2, .int (nI (fc 0 1))), (0, .ref (o)), (1, .ref (oc))]) S.1 S.2.1 dX8_perform_4 rfl hl (by decide) rfl (fun ls hl => ?_)
  refine lv_aload_n S.1 S.2.1 dX8_perform_5 rfl (lv_at hl 2 rfl) ?_
  refine z_get (v := .int (nI (fc 0 2))) S hZ.1 hC0 0 (by decide) rfl rfl rfl 2 (by decide) rfl k188 dX8_perform_6 ?_
  refine lv_istore_n (lv' := [(3, .int (nI (fc 0 2))), (2, .int (nI (fc 0 1))), (0, .ref (o)), (1, .ref (oc))]) S.1 S.2.1 dX8_perform_9 rfl hl (by decide) rfl (fun ls hl => ?_)
  refine va_gets (A := zA B) S.1 S.2.1 hZ.swZ hS S.2.2.2.1 (S.2.2.2.2 _ k548) (fun _ h => h) dX8_perform_10 ?_
  refine lv_aload_n S.1 S.2.1 dX8_perform_13 rfl (lv_at hl 3 rfl) ?_
  refine z_get (v := .ref (g.2 1 (fc 0 0))) S hZ.1 hC0 0 (by decide) rfl rfl rfl 0 (by decide) rfl k182 dX8_perform_14 ?_
  rw [hk]
  refine z_ord S hZ hS 8 (by decide) k549 ⟨by rw [hR]; exact Nat.le_of_ble_eq_true rfl, by rw [hR]; exact Nat.le_of_ble_eq_true rfl⟩ hl.1 (Nat.le_of_ble_eq_true rfl) dX8_perform_17 ⟨by rw [hR]; exact Nat.le_of_ble_eq_true rfl, by rw [hR]; exact Nat.le_of_ble_eq_true rfl⟩ ?_
  refine va_ti (A := zA B) (v := .int (nI (zSw 8))) S.1 S.2.1 hZ.swT hS (vp_in_nI (by decide) (by decide)) (by rw [nI_clamp (by decide)]) dX8_perform_20 ?_
  refine lv_tableIn (off := 120) (tgt := 141) S.1 S.2.1 dX8_perform_21 (by decide) (by decide) (by decide) (by decide) ?_
  refine lv_aload_n S.1 S.2.1 dX8_perform_141 rfl (lv_at hl 2 rfl) ?_
  refine z_get (v := .ref (o + 6)) S hZ.1 hP0 0 (by decide) rfl rfl rfl 1 (by decide) rfl k119 dX8_perform_142 ?_
  refine lv_iload_n S.1 S.2.1 dX8_perform_145 rfl (lv_at hl 1 rfl) ?_
  refine lv_iload_n S.1 S.2.1 dX8_perform_146 rfl (lv_at hl 0 rfl) ?_
  refine z_w1 (v0 := some (.int (nI (zKc (zFk (v 2) (fc 0 1) (fc 0 2)))))) (rest := []) (As := [.int (nI (fc 0 1)), .int (nI (fc 0 2))]) S hZ hS (c_X1_flipKnot l g (by omega) (v 2) hv2 (fc 0 1) (fc 0 2) hi hj) (by omega) ci_X1_flipKnot cv_X1_flipKnot k608 ⟨rfl, rfl, by rw [hR]; exact Nat.le_of_ble_eq_true rfl, by rw [hR]; exact Nat.le_of_ble_eq_true rfl⟩ hP2 (hP2.recv hZ.1 0 (by decide) rfl rfl rfl) hl.1 rfl (Nat.le_of_ble_eq_true rfl) dX8_perform_147 ⟨by rw [hR]; exact Nat.le_of_ble_eq_true rfl, by rw [hR]; exact Nat.le_of_ble_eq_true rfl⟩ rfl (fun H1 locs1 hPn hCn hSn => ?_)
  have hS := hSn
  have hP0 := hP0.kept hCn (by omega)
  have hP1 := hP1.kept hCn (by omega)
  have hP3 := hP3.kept hCn (by omega)
  have hP4 := hP4.kept hCn (by omega)
  have hP2 := hPn
  have hC := hC.tr (hCn.mono (b := o) (k := 12) (by omega) (by omega))
  exact z_wi hQ S hr hlk (zn_int _) hS hC ⟨rfl, hP0, hP1, hP2, hP3, hP4⟩ dX8_perform_150
set_option maxRecDepth 20000 in
set_option maxHeartbeats 4000000 in
/-- Loom.perform(command), mend -/
theorem c_X8_perform_9l (l : Launch) (g : ZG) {B : Nat} {o oc : Nat} (hB : B ≤ o) (v : zL) (hv : zOk v) (fc : Nat → Nat → Nat) (hk : fc 0 0 = 9) (hs : fc 0 1 = 108) (h1 : 1 ≤ v 3 0 1) : Met l yX8_perform (.code yX8_perform cX8_perform 4 (some .int) :: GW) { frames := 4, cells := 0, slots := 0, locals := 104 } (va_Pc [.ref o, .ref oc] (zPre g B (fun H => zLo g o v H ∧ zPm g oc 1 TCo fc H))) (zX (fun w H => w = some (.int (nI (zPf v 9 (fc 0 1) (fc 0 2) (fc 0 3)).2)) ∧ zLo g o (zPf v 9 (fc 0 1) (fc 0 2) (fc 0 3)).1 H) o 12) 0 0 (zA B) := by
  refine zMet (by decide) (Nat.le_of_ble_eq_true rfl) ?_
  intro p e R s m args below meth c Q ls hR hargs hQ S hr hlk hP hZ hS hnm hl
  have hl : lv_has ls 4 [(0, .ref (o)), (1, .ref (oc))] := hl
  have hC : zCh1 o 12 s.heap s.heap := zCh1.rf
  obtain ⟨hPL, hC0⟩ := hP
  obtain ⟨hP0, hP1, hP2, hP3, hP4⟩ := id hPL
  obtain ⟨hv1, hv2, hv3, hv4⟩ := id hv
  refine lv_aload_n S.1 S.2.1 dX8_perform_0 rfl (lv_at hl 1 rfl) ?_
  refine z_get (v := .int (nI (fc 0 1))) S hZ.1 hC0 0 (by decide) rfl rfl rfl 1 (by decide) rfl k185 dX8_perform_1 ?_
  refine lv_istore_n (lv' := [(2, .int (nI (fc 0 1))), (0, .ref (o)), (1, .ref (oc))]) S.1 S.2.1 dX8_perform_4 rfl hl (by decide) rfl (fun ls hl => ?_)
  refine lv_aload_n S.1 S.2.1 dX8_perform_5 rfl (lv_at hl 2 rfl) ?_
  refine z_get (v := .int (nI (fc 0 2))) S hZ.1 hC0 0 (by decide) rfl rfl rfl 2 (by decide) rfl k188 dX8_perform_6 ?_
  refine lv_istore_n (lv' := [(3, .int (nI (fc 0 2))), (2, .int (nI (fc 0 1))), (0, .ref (o)), (1, .ref (oc))]) S.1 S.2.1 dX8_perform_9 rfl hl (by decide) rfl (fun ls hl => ?_)
  refine va_gets (A := zA B) S.1 S.2.1 hZ.swZ hS S.2.2.2.1 (S.2.2.2.2 _ k548) (fun _ h => h) dX8_perform_10 ?_
  refine lv_aload_n S.1 S.2.1 dX8_perform_13 rfl (lv_at hl 3 rfl) ?_
  refine z_get (v := .ref (g.2 1 (fc 0 0))) S hZ.1 hC0 0 (by decide) rfl rfl rfl 0 (by decide) rfl k182 dX8_perform_14 ?_
  rw [hk]
  refine z_ord S hZ hS 9 (by decide) k549 ⟨by rw [hR]; exact Nat.le_of_ble_eq_true rfl, by rw [hR]; exact Nat.le_of_ble_eq_true rfl⟩ hl.1 (Nat.le_of_ble_eq_true rfl) dX8_perform_17 ⟨by rw [hR]; exact Nat.le_of_ble_eq_true rfl, by rw [hR]; exact Nat.le_of_ble_eq_true rfl⟩ ?_
  refine va_ti (A := zA B) (v := .int (nI (zSw 9))) S.1 S.2.1 hZ.swT hS (vp_in_nI (by decide) (by decide)) (by rw [nI_clamp (by decide)]) dX8_perform_20 ?_
  refine lv_tableOut (tgt := 151) S.1 S.2.1 dX8_perform_21 (by decide) (by decide) ?_
  refine lv_aload_n S.1 S.2.1 dX8_perform_151 rfl (lv_at hl 2 rfl) ?_
  refine lv_iload_n S.1 S.2.1 dX8_perform_152 rfl (lv_at hl 1 rfl) ?_
  refine z_cV (v := some (.ref (if fc 0 1 = 108 then o + 10 else o + 11))) (rest := []) (As := [.int (nI (fc 0 1))]) S hZ hS (c_X8_edgeAt l g v (fc 0 1) (by omega)) ci_X8_edgeAt cv_X8_edgeAt k622 ⟨rfl, rfl, by rw [hR]; decide, by rw [hR]; decide⟩ hPL (hP0.recv hZ.1 0 (by decide) rfl rfl rfl) hl.1 rfl (Nat.le_of_ble_eq_true rfl) dX8_perform_153 ⟨by rw [hR]; decide, by rw [hR]; decide⟩ rfl ?_
  rw [show (if fc 0 1 = 108 then o + 10 else o + 11) = o + 10 from if_pos hs]
  refine z_w1 (v0 := some (.int (nI (v 3 0 1 - 1)))) (rest := []) (As := []) S hZ hS (c_X3_repair l g (by omega) (v 3) h1) (by omega) ci_X3_repair cv_X3_repair k623 ⟨rfl, rfl, by rw [hR]; exact Nat.le_of_ble_eq_true rfl, by rw [hR]; exact Nat.le_of_ble_eq_true rfl⟩ hP3 (hP3.recv hZ.1 0 (by decide) rfl rfl rfl) hl.1 rfl (Nat.le_of_ble_eq_true rfl) dX8_perform_156 ⟨by rw [hR]; exact Nat.le_of_ble_eq_true rfl, by rw [hR]; exact Nat.le_of_ble_eq_true rfl⟩ rfl (fun H1 locs1 hPn hCn hSn => ?_)
  have hS := hSn
  have hP0 := hP0.kept hCn (by omega)
  have hP1 := hP1.kept hCn (by omega)
  have hP2 := hP2.kept hCn (by omega)
  have hP4 := hP4.kept hCn (by omega)
  have hP3 := hPn
  have hC := hC.tr (hCn.mono (b := o) (k := 12) (by omega) (by omega))
  have e1 : zPf v 9 (fc 0 1) (fc 0 2) (fc 0 3) = (zMk (v 0) (v 1) (v 2) (va_up (v 3) 0 (va_up (va_up (v 3 0) 1 (v 3 0 1 - 1)) 0 0)) (v 4) v, v 3 0 1 - 1) := if_pos hs
  exact z_wi hQ S hr hlk (zn_int _) hS hC (by rw [e1]; exact ⟨rfl, hP0, hP1, hP2, hP3, hP4⟩) dX8_perform_159
set_option maxRecDepth 20000 in
set_option maxHeartbeats 4000000 in
/-- Loom.perform(command), mend -/
theorem c_X8_perform_9r (l : Launch) (g : ZG) {B : Nat} {o oc : Nat} (hB : B ≤ o) (v : zL) (hv : zOk v) (fc : Nat → Nat → Nat) (hk : fc 0 0 = 9) (hs : fc 0 1 = 114) (h1 : 1 ≤ v 4 0 1) : Met l yX8_perform (.code yX8_perform cX8_perform 4 (some .int) :: GW) { frames := 4, cells := 0, slots := 0, locals := 104 } (va_Pc [.ref o, .ref oc] (zPre g B (fun H => zLo g o v H ∧ zPm g oc 1 TCo fc H))) (zX (fun w H => w = some (.int (nI (zPf v 9 (fc 0 1) (fc 0 2) (fc 0 3)).2)) ∧ zLo g o (zPf v 9 (fc 0 1) (fc 0 2) (fc 0 3)).1 H) o 12) 0 0 (zA B) := by
  refine zMet (by decide) (Nat.le_of_ble_eq_true rfl) ?_
  intro p e R s m args below meth c Q ls hR hargs hQ S hr hlk hP hZ hS hnm hl
  have hl : lv_has ls 4 [(0, .ref (o)), (1, .ref (oc))] := hl
  have hC : zCh1 o 12 s.heap s.heap := zCh1.rf
  obtain ⟨hPL, hC0⟩ := hP
  obtain ⟨hP0, hP1, hP2, hP3, hP4⟩ := id hPL
  obtain ⟨hv1, hv2, hv3, hv4⟩ := id hv
  refine lv_aload_n S.1 S.2.1 dX8_perform_0 rfl (lv_at hl 1 rfl) ?_
  refine z_get (v := .int (nI (fc 0 1))) S hZ.1 hC0 0 (by decide) rfl rfl rfl 1 (by decide) rfl k185 dX8_perform_1 ?_
  refine lv_istore_n (lv' := [(2, .int (nI (fc 0 1))), (0, .ref (o)), (1, .ref (oc))]) S.1 S.2.1 dX8_perform_4 rfl hl (by decide) rfl (fun ls hl => ?_)
  refine lv_aload_n S.1 S.2.1 dX8_perform_5 rfl (lv_at hl 2 rfl) ?_
  refine z_get (v := .int (nI (fc 0 2))) S hZ.1 hC0 0 (by decide) rfl rfl rfl 2 (by decide) rfl k188 dX8_perform_6 ?_
  refine lv_istore_n (lv' := [(3, .int (nI (fc 0 2))), (2, .int (nI (fc 0 1))), (0, .ref (o)), (1, .ref (oc))]) S.1 S.2.1 dX8_perform_9 rfl hl (by decide) rfl (fun ls hl => ?_)
  refine va_gets (A := zA B) S.1 S.2.1 hZ.swZ hS S.2.2.2.1 (S.2.2.2.2 _ k548) (fun _ h => h) dX8_perform_10 ?_
  refine lv_aload_n S.1 S.2.1 dX8_perform_13 rfl (lv_at hl 3 rfl) ?_
  refine z_get (v := .ref (g.2 1 (fc 0 0))) S hZ.1 hC0 0 (by decide) rfl rfl rfl 0 (by decide) rfl k182 dX8_perform_14 ?_
  rw [hk]
  refine z_ord S hZ hS 9 (by decide) k549 ⟨by rw [hR]; exact Nat.le_of_ble_eq_true rfl, by rw [hR]; exact Nat.le_of_ble_eq_true rfl⟩ hl.1 (Nat.le_of_ble_eq_true rfl) dX8_perform_17 ⟨by rw [hR]; exact Nat.le_of_ble_eq_true rfl, by rw [hR]; exact Nat.le_of_ble_eq_true rfl⟩ ?_
  refine va_ti (A := zA B) (v := .int (nI (zSw 9))) S.1 S.2.1 hZ.swT hS (vp_in_nI (by decide) (by decide)) (by rw [nI_clamp (by decide)]) dX8_perform_20 ?_
  refine lv_tableOut (tgt := 151) S.1 S.2.1 dX8_perform_21 (by decide) (by decide) ?_
  refine lv_aload_n S.1 S.2.1 dX8_perform_151 rfl (lv_at hl 2 rfl) ?_
  refine lv_iload_n S.1 S.2.1 dX8_perform_152 rfl (lv_at hl 1 rfl) ?_
  refine z_cV (v := some (.ref (if fc 0 1 = 108 then o + 10 else o + 11))) (rest := []) (As := [.int (nI (fc 0 1))]) S hZ hS (c_X8_edgeAt l g v (fc 0 1) (by omega)) ci_X8_edgeAt cv_X8_edgeAt k622 ⟨rfl, rfl, by rw [hR]; decide, by rw [hR]; decide⟩ hPL (hP0.recv hZ.1 0 (by decide) rfl rfl rfl) hl.1 rfl (Nat.le_of_ble_eq_true rfl) dX8_perform_153 ⟨by rw [hR]; decide, by rw [hR]; decide⟩ rfl ?_
  rw [show (if fc 0 1 = 108 then o + 10 else o + 11) = o + 11 from if_neg (by omega)]
  refine z_w1 (v0 := some (.int (nI (v 4 0 1 - 1)))) (rest := []) (As := []) S hZ hS (c_X3_repair l g (by omega) (v 4) h1) (by omega) ci_X3_repair cv_X3_repair k623 ⟨rfl, rfl, by rw [hR]; exact Nat.le_of_ble_eq_true rfl, by rw [hR]; exact Nat.le_of_ble_eq_true rfl⟩ hP4 (hP4.recv hZ.1 0 (by decide) rfl rfl rfl) hl.1 rfl (Nat.le_of_ble_eq_true rfl) dX8_perform_156 ⟨by rw [hR]; exact Nat.le_of_ble_eq_true rfl, by rw [hR]; exact Nat.le_of_ble_eq_true rfl⟩ rfl (fun H1 locs1 hPn hCn hSn => ?_)
  have hS := hSn
  have hP0 := hP0.kept hCn (by omega)
  have hP1 := hP1.kept hCn (by omega)
  have hP2 := hP2.kept hCn (by omega)
  have hP3 := hP3.kept hCn (by omega)
  have hP4 := hPn
  have hC := hC.tr (hCn.mono (b := o) (k := 12) (by omega) (by omega))
  have e1 : zPf v 9 (fc 0 1) (fc 0 2) (fc 0 3) = (zMk (v 0) (v 1) (v 2) (v 3) (va_up (v 4) 0 (va_up (va_up (v 4 0) 1 (v 4 0 1 - 1)) 0 0)) v, v 4 0 1 - 1) := if_neg (by omega)
  exact z_wi hQ S hr hlk (zn_int _) hS hC (by rw [e1]; exact ⟨rfl, hP0, hP1, hP2, hP3, hP4⟩) dX8_perform_159
