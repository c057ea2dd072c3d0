/-! THE LAW: isWoven -/
theorem yCh.noc {a b c : zSt} {P : zL} (h : yCh a b P) (k : yNoc b c) : yCh a c P := by
  obtain ⟨-, h2, h3, h4, h5, h6, h7⟩ := h
  obtain ⟨k1, k2, k3, k4, k5, k6⟩ := k
  have h5 : b 12 0 0 2 = min 8 (a 12 0 0 2 + 1) := h5
  have k5 : c 12 0 0 2 = b 12 0 0 2 := k5
  refine ⟨k1, k2.trans h2, k3.trans h3, k4.trans h4, k5.trans h5, (k6 0 (by show 0 < b 12 0 0 2; omega)).trans h6, fun j hj => (k6 (j + 1) ?_).trans (h7 j ?_)⟩
  · have hj : j + 1 < c 12 0 0 2 := hj
    show j + 1 < b 12 0 0 2; omega
  · have hj : j + 1 < c 12 0 0 2 := hj
    show j + 1 < b 12 0 0 2; omega
theorem yCh.n1 {a b : zSt} {P : zL} (h : yCh a b P) : 1 ≤ b 12 0 0 2 ∧ b 12 0 0 2 ≤ 8 := by
  have e : b 12 0 0 2 = min 8 (a 12 0 0 2 + 1) := h.2.2.2.2.1
  omega
theorem yV4 {v : zL} {a : Nat} (h : (zVd v 4 a 0 0).1 ≠ 0) (h1 : 1 ≤ a) (h2 : a ≤ 10) : zSum (v 1 4) (v 1 0 4) = 0 ∨ 40 < v 2 0 3 + a := by
  change (zV4 v a).1 ≠ 0 at h
  unfold zV4 at h
  rw [if_neg (by omega)] at h
  by_cases c : zLt v = 0
  · exact Or.inl c
  · rw [if_neg c] at h
    by_cases d : 40 < v 2 0 3 + a
    · exact Or.inr d
    · rw [if_neg d] at h; exact absurd rfl h
theorem yL0 {v : zL} {a : Nat} (hv : zOk v) (h : (zVd v 4 a 0 0).1 = 0) : 1 ≤ zSum (v 1 4) (v 1 0 4) ∧ 1 ≤ zMx (v 1) (v 1 0 4) := by
  have c : zSum (v 1 4) (v 1 0 4) ≠ 0 := (zV4_0 h).2.2.1
  have d := zLt_0 hv.1 (v 1 0 4)
  omega
theorem yW1 {v : zL} (hv : zOk v) (h : (zVd v 4 1 0 0).1 = 0) : zPf v 4 1 0 0 = (zWv v, 1) := by
  have e : zWn v 1 = 1 := by rw [zWn_eq hv.1]; have := (yL0 hv h).2; omega
  show (zWs v (zWn v 1), zWn v 1) = _
  rw [e]; rfl
theorem zPf4 (v : zL) (a : Nat) : zPf v 4 a 0 0 = (zWs v (zWn v a), zWn v a) := rfl
theorem zWv_m (v : zL) : zWv v 2 1 (v 2 0 3) = zUb (v 3 0 1) (v 4 0 1) (zPt (v 1) (v 1 0 4)) := by
  show (if v 2 0 3 = v 2 0 3 then _ else _) = _
  rw [if_pos rfl]
theorem ci_L_isWoven : zCI yL_isWoven cL_isWoven 11 (some .boolean) 1 := ⟨k1250, k0, by decide +kernel⟩
theorem cv_L_isWoven : Cond.static yL_isWoven ∈ GW := k1249
set_option maxRecDepth 20000 in
set_option maxHeartbeats 4000000 in
/-- isWoven -/
theorem c_isWoven (l : Launch) (hl0 : l.stackTraces = false) (g : ZG) {B : Nat} {o : Nat} (hB : B ≤ o) (z : zSt) (hI : yIv z) : Met l yL_isWoven (.code yL_isWoven cL_isWoven 11 (some .boolean) :: GW) { frames := 14, cells := 4, slots := 24, locals := 290 } (va_Pc [.ref o] (zPre g B (fun H => zSO g o z H))) (zX (fun w H => w = some (.int (nI 1)) ∧ ∃ z9, zSO g o z9 H ∧ yKe z z9) o 152) 4 24 (zA B) := by
  refine zMet (by decide) (Nat.le_of_ble_eq_true rfl) ?_
  intro p e R s m args below meth c Q ls hR hargs hQ S hr hlk hP hZ hS hnm hl
  have hl : lv_has ls 11 [(0, .ref (o))] := hl
  have hv := hI.ok
  have hk40 := hv.2.1.1
  have hC : zCh1 o 152 s.heap s.heap := zCh1.rf
  have hmx := zMx_le hv.1 (z 0 1 0 4)
  have hlt : zSum (z 0 1 4) (z 0 1 0 4) ≤ 8 := zLt_le hv
  refine lv_aload_n S.1 S.2.1 dL_isWoven_0 rfl (lv_at hl 0 rfl) ?_
  refine z_cS (v := some (.long (yDst (z 0)))) (rest := []) (As := [.ref (o)]) S hZ hS (c_digest l hl0 g z hv) ci_L_digest cv_L_digest k936 ⟨rfl, rfl, by rw [hR]; exact Nat.le_of_ble_eq_true rfl, by rw [hR]; exact Nat.le_of_ble_eq_true rfl⟩ hP hl.1 rfl (Nat.le_of_ble_eq_true rfl) dL_isWoven_1 ⟨by rw [hR]; exact Nat.le_of_ble_eq_true rfl, by rw [hR]; exact Nat.le_of_ble_eq_true rfl⟩ rfl ?_
  refine lv_lstore_n (lv' := [(1, .long (yDst (z 0))), (0, .ref (o))]) S.1 S.2.1 dL_isWoven_4 rfl hl (by decide) rfl (fun ls hl => ?_)
  refine lv_aload_n S.1 S.2.1 dL_isWoven_5 rfl (lv_at hl 1 rfl) ?_
  refine z_cV (v := some (.int (nI (zUb (z 0 3 0 1) (z 0 4 0 1) (zPt (z 0 1) (z 0 1 0 4)))))) (rest := []) (As := []) S hZ hS (c_nextMask l g z hv (zPt_ok hv)) ci_X11_nextMask cv_X11_nextMask k981 ⟨rfl, rfl, by rw [hR]; decide, by rw [hR]; decide⟩ hP (hP.1.recv hZ.1 0 (by decide) rfl rfl rfl) hl.1 rfl (Nat.le_of_ble_eq_true rfl) dL_isWoven_6 ⟨by rw [hR]; decide, by rw [hR]; decide⟩ rfl ?_
  refine lv_istore_n (lv' := [(3, .int (nI (zUb (z 0 3 0 1) (z 0 4 0 1) (zPt (z 0 1) (z 0 1 0 4))))), (1, .long (yDst (z 0))), (0, .ref (o))]) S.1 S.2.1 dL_isWoven_9 rfl hl (by decide) rfl (fun ls hl => ?_)
  refine lv_aload_n S.1 S.2.1 dL_isWoven_10 rfl (lv_at hl 2 rfl) ?_
  refine z_cV (v := some (.int (nI (zSum (z 0 1 4) (z 0 1 0 4))))) (rest := []) (As := []) S hZ hS (c_litCount l g z hv) ci_X11_litCount cv_X11_litCount k1025 ⟨rfl, rfl, by rw [hR]; decide, by rw [hR]; decide⟩ hP (hP.1.recv hZ.1 0 (by decide) rfl rfl rfl) hl.1 rfl (Nat.le_of_ble_eq_true rfl) dL_isWoven_11 ⟨by rw [hR]; decide, by rw [hR]; decide⟩ rfl ?_
  refine lv_istore (lv' := [(4, .int (nI (zSum (z 0 1 4) (z 0 1 0 4)))), (3, .int (nI (zUb (z 0 3 0 1) (z 0 4 0 1) (zPt (z 0 1) (z 0 1 0 4))))), (1, .long (yDst (z 0))), (0, .ref (o))]) S.1 S.2.1 dL_isWoven_14 hl (by decide) rfl (fun ls hl => ?_)
  refine lv_aload_n S.1 S.2.1 dL_isWoven_16 rfl (lv_at hl 3 rfl) ?_
  refine z_cV (v := some (.int (nI (z 0 0 0 5)))) (rest := []) (As := []) S hZ hS (c_waxUsed l g z hv) ci_X11_waxUsed cv_X11_waxUsed k945 ⟨rfl, rfl, by rw [hR]; decide, by rw [hR]; decide⟩ hP (hP.1.recv hZ.1 0 (by decide) rfl rfl rfl) hl.1 rfl (Nat.le_of_ble_eq_true rfl) dL_isWoven_17 ⟨by rw [hR]; decide, by rw [hR]; decide⟩ rfl ?_
  refine lv_istore (lv' := [(5, .int (nI (z 0 0 0 5))), (4, .int (nI (zSum (z 0 1 4) (z 0 1 0 4)))), (3, .int (nI (zUb (z 0 3 0 1) (z 0 4 0 1) (zPt (z 0 1) (z 0 1 0 4))))), (1, .long (yDst (z 0))), (0, .ref (o))]) S.1 S.2.1 dL_isWoven_20 hl (by decide) rfl (fun ls hl => ?_)
  refine lv_aload_n S.1 S.2.1 dL_isWoven_22 rfl (lv_at hl 4 rfl) ?_
  refine z_cV (v := some (.int (nI (z 0 2 0 3)))) (rest := []) (As := []) S hZ hS (c_rowCount l g z hv) ci_X11_rowCount cv_X11_rowCount k977 ⟨rfl, rfl, by rw [hR]; decide, by rw [hR]; decide⟩ hP (hP.1.recv hZ.1 0 (by decide) rfl rfl rfl) hl.1 rfl (Nat.le_of_ble_eq_true rfl) dL_isWoven_23 ⟨by rw [hR]; decide, by rw [hR]; decide⟩ rfl ?_
  refine lv_istore (lv' := [(6, .int (nI (z 0 2 0 3))), (5, .int (nI (z 0 0 0 5))), (4, .int (nI (zSum (z 0 1 4) (z 0 1 0 4)))), (3, .int (nI (zUb (z 0 3 0 1) (z 0 4 0 1) (zPt (z 0 1) (z 0 1 0 4))))), (1, .long (yDst (z 0))), (0, .ref (o))]) S.1 S.2.1 dL_isWoven_26 hl (by decide) rfl (fun ls hl => ?_)
  refine lv_aload_n S.1 S.2.1 dL_isWoven_28 rfl (lv_at hl 5 rfl) ?_
  refine z_cV (v := some (.int (nI (zMx (z 0 1) (z 0 1 0 4))))) (rest := []) (As := []) S hZ hS (c_rowsUntilDark l g z hv (zMx (z 0 1) (z 0 1 0 4)) (zMx_le hv.1 _) (fun k hk => zAf_t hk) (fun _ => zAf_f (Nat.le_refl _))) ci_X11_rowsUntilDark cv_X11_rowsUntilDark k1030 ⟨rfl, rfl, by rw [hR]; decide, by rw [hR]; decide⟩ hP (hP.1.recv hZ.1 0 (by decide) rfl rfl rfl) hl.1 rfl (Nat.le_of_ble_eq_true rfl) dL_isWoven_29 ⟨by rw [hR]; decide, by rw [hR]; decide⟩ rfl ?_
  refine lv_istore (lv' := [(7, .int (nI (zMx (z 0 1) (z 0 1 0 4)))), (6, .int (nI (z 0 2 0 3))), (5, .int (nI (z 0 0 0 5))), (4, .int (nI (zSum (z 0 1 4) (z 0 1 0 4)))), (3, .int (nI (zUb (z 0 3 0 1) (z 0 4 0 1) (zPt (z 0 1) (z 0 1 0 4))))), (1, .long (yDst (z 0))), (0, .ref (o))]) S.1 S.2.1 dL_isWoven_32 hl (by decide) rfl (fun ls hl => ?_)
  refine lv_aload_n S.1 S.2.1 dL_isWoven_34 rfl (lv_at hl 6 rfl) ?_
  refine z_ic S (k := 1) dL_isWoven_35 (by decide) ?_
  refine z_wSW (rest := []) (As := [.ref (o), .int (nI (1))]) S hZ hS (c_L_weave l hl0 g hB z hI 1 (by omega)) hB ci_L_weave cv_L_weave k666 ⟨rfl, rfl, by rw [hR]; exact Nat.le_of_ble_eq_true rfl, by rw [hR]; exact Nat.le_of_ble_eq_true rfl⟩ hP hl.1 rfl (Nat.le_of_ble_eq_true rfl) dL_isWoven_36 ⟨by rw [hR]; exact Nat.le_of_ble_eq_true rfl, by rw [hR]; exact Nat.le_of_ble_eq_true rfl⟩ (fun v9 H1 locs1 hPn hCn hSn => ?_)
  clear hP
  obtain ⟨z1, hP, han⟩ := hPn
  replace hS := hSn
  replace hC := hC.tr hCn
  clear hCn hSn
  rcases han with ⟨hd, rfl, hch⟩ | ⟨hd, rfl, hno⟩
  · rw [yW1 hv hd] at hch
    have hz1 : z1 0 = zWv (z 0) := hch.2.1
    have hL0 := yL0 hv hd
    have hv1 := hch.1.ok
    rw [yW1 hv hd]
    show W p l e R s m args below meth c H1 locs1 (0 + 1) (0 + 6) Q (F0 m 39 ls [.int (nI (1))])
    refine lv_istore (lv' := [(8, .int (nI (1))), (7, .int (nI (zMx (z 0 1) (z 0 1 0 4)))), (6, .int (nI (z 0 2 0 3))), (5, .int (nI (z 0 0 0 5))), (4, .int (nI (zSum (z 0 1 4) (z 0 1 0 4)))), (3, .int (nI (zUb (z 0 3 0 1) (z 0 4 0 1) (zPt (z 0 1) (z 0 1 0 4))))), (1, .long (yDst (z 0))), (0, .ref (o))]) S.1 S.2.1 dL_isWoven_39 hl (by decide) rfl (fun ls hl => ?_)
    refine lv_iload S.1 S.2.1 dL_isWoven_41 (lv_at hl 0 rfl) ?_
    refine lv_ldc S.1 S.2.1 S.2.2.2.1 (S.2.2.2.2 _ k324) dL_isWoven_43 ?_
    refine z_knt (tgt := 75) S (by decide) dL_isWoven_45 (by decide) ?_
    refine lv_iload S.1 S.2.1 dL_isWoven_75 (lv_at hl 4 rfl) ?_
    refine z_ile (tgt := 134) S (by omega) dL_isWoven_77 (by decide) (fun h8 => ?_) (fun h8 => ?_)
    · exact absurd h8 (by omega)
    · refine lv_iload S.1 S.2.1 dL_isWoven_80 (lv_at hl 0 rfl) ?_
      refine z_ic S (k := 1) dL_isWoven_82 (by decide) ?_
      refine z_kne (tgt := 134) S rfl dL_isWoven_83 (by decide) ?_
      refine lv_aload_n S.1 S.2.1 dL_isWoven_86 rfl (lv_at hl 7 rfl) ?_
      refine z_cV (v := some (.int (nI (z1 0 2 0 3)))) (rest := []) (As := []) S hZ hS (c_rowCount l g z1 hv1) ci_X11_rowCount cv_X11_rowCount k977 ⟨rfl, rfl, by rw [hR]; decide, by rw [hR]; decide⟩ hP (hP.1.recv hZ.1 0 (by decide) rfl rfl rfl) hl.1 rfl (Nat.le_of_ble_eq_true rfl) dL_isWoven_87 ⟨by rw [hR]; decide, by rw [hR]; decide⟩ rfl ?_
      refine lv_iload S.1 S.2.1 dL_isWoven_90 (lv_at hl 2 rfl) ?_
      refine z_ic S (k := 1) dL_isWoven_92 (by decide) ?_
      refine z_add S dL_isWoven_93 ?_
      refine z_kne (tgt := 134) S (by rw [hz1, zWv_c]) dL_isWoven_94 (by decide) ?_
      refine lv_aload_n S.1 S.2.1 dL_isWoven_97 rfl (lv_at hl 7 rfl) ?_
      refine lv_iload S.1 S.2.1 dL_isWoven_98 (lv_at hl 2 rfl) ?_
      refine z_cV (v := some (.int (nI (z1 0 2 1 (z 0 2 0 3))))) (rest := []) (As := [.int (nI (z 0 2 0 3))]) S hZ hS (c_rowMask l g z1 hv1 (z 0 2 0 3) (by rw [hz1, zWv_c]; omega)) ci_X11_rowMask cv_X11_rowMask k987 ⟨rfl, rfl, by rw [hR]; decide, by rw [hR]; decide⟩ hP (hP.1.recv hZ.1 0 (by decide) rfl rfl rfl) hl.1 rfl (Nat.le_of_ble_eq_true rfl) dL_isWoven_100 ⟨by rw [hR]; decide, by rw [hR]; decide⟩ rfl ?_
      refine lv_iload_n S.1 S.2.1 dL_isWoven_103 rfl (lv_at hl 5 rfl) ?_
      refine z_kne (tgt := 134) S (by rw [hz1, zWv_m]) dL_isWoven_104 (by decide) ?_
      refine lv_aload_n S.1 S.2.1 dL_isWoven_107 rfl (lv_at hl 7 rfl) ?_
      refine z_cV (v := some (.int (nI (z1 0 0 0 5)))) (rest := []) (As := []) S hZ hS (c_waxUsed l g z1 hv1) ci_X11_waxUsed cv_X11_waxUsed k945 ⟨rfl, rfl, by rw [hR]; decide, by rw [hR]; decide⟩ hP (hP.1.recv hZ.1 0 (by decide) rfl rfl rfl) hl.1 rfl (Nat.le_of_ble_eq_true rfl) dL_isWoven_108 ⟨by rw [hR]; decide, by rw [hR]; decide⟩ rfl ?_
      refine lv_iload S.1 S.2.1 dL_isWoven_111 (lv_at hl 3 rfl) ?_
      refine lv_iload S.1 S.2.1 dL_isWoven_113 (lv_at hl 4 rfl) ?_
      refine z_add S dL_isWoven_115 ?_
      refine z_kne (tgt := 134) S (by rw [hz1]; rfl) dL_isWoven_116 (by decide) ?_
      refine lv_aload_n S.1 S.2.1 dL_isWoven_119 rfl (lv_at hl 7 rfl) ?_
      refine z_cV (v := some (.int (nI (zMx (z1 0 1) (z1 0 1 0 4))))) (rest := []) (As := []) S hZ hS (c_rowsUntilDark l g z1 hv1 (zMx (z1 0 1) (z1 0 1 0 4)) (zMx_le hv1.1 _) (fun k hk => zAf_t hk) (fun _ => zAf_f (Nat.le_refl _))) ci_X11_rowsUntilDark cv_X11_rowsUntilDark k1030 ⟨rfl, rfl, by rw [hR]; decide, by rw [hR]; decide⟩ hP (hP.1.recv hZ.1 0 (by decide) rfl rfl rfl) hl.1 rfl (Nat.le_of_ble_eq_true rfl) dL_isWoven_120 ⟨by rw [hR]; decide, by rw [hR]; decide⟩ rfl ?_
      refine lv_iload S.1 S.2.1 dL_isWoven_123 (lv_at hl 1 rfl) ?_
      refine z_ic S (k := 1) dL_isWoven_125 (by decide) ?_
      refine z_sub S (by omega) dL_isWoven_126 ?_
      refine z_kne (tgt := 134) S (congrArg nI (by rw [hz1]; exact zMx_ws hv.1 1)) dL_isWoven_127 (by decide) ?_
      refine z_ic S (k := 1) dL_isWoven_130 (by decide) ?_
      refine lv_goto (tgt := 135) S.1 S.2.1 dL_isWoven_131 (by decide) ?_
      refine lv_istore (lv' := [(9, .int (nI (1))), (8, .int (nI (1))), (7, .int (nI (zMx (z 0 1) (z 0 1 0 4)))), (6, .int (nI (z 0 2 0 3))), (5, .int (nI (z 0 0 0 5))), (4, .int (nI (zSum (z 0 1 4) (z 0 1 0 4)))), (3, .int (nI (zUb (z 0 3 0 1) (z 0 4 0 1) (zPt (z 0 1) (z 0 1 0 4))))), (1, .long (yDst (z 0))), (0, .ref (o))]) S.1 S.2.1 dL_isWoven_135 hl (by decide) rfl (fun ls hl => ?_)
      refine lv_iload S.1 S.2.1 dL_isWoven_137 (lv_at hl 0 rfl) ?_
      refine z_kie (tgt := 162) S (by decide) dL_isWoven_139 (by decide) ?_
      refine lv_aload_n S.1 S.2.1 dL_isWoven_142 rfl (lv_at hl 8 rfl) ?_
      refine z_w1SW (v0 := some (.int (nI (z1 12 0 0 2 - 1)))) (rest := []) (As := [.ref (o)]) S hZ hS (c_L_undo l hl0 g hB z1 hch.1 hch.n1.1) hB ci_L_undo cv_L_undo k832 ⟨rfl, rfl, by rw [hR]; exact Nat.le_of_ble_eq_true rfl, by rw [hR]; exact Nat.le_of_ble_eq_true rfl⟩ hP hl.1 rfl (Nat.le_of_ble_eq_true rfl) dL_isWoven_143 ⟨by rw [hR]; exact Nat.le_of_ble_eq_true rfl, by rw [hR]; exact Nat.le_of_ble_eq_true rfl⟩ rfl (fun H1 locs1 hPn hCn hSn => ?_)
      clear hP
      obtain ⟨z2, hP, hud⟩ := hPn
      replace hS := hSn
      replace hC := hC.tr hCn
      clear hCn hSn
      refine z_ilt (tgt := 162) S (by have := hch.1.1.2.2.2.2; omega) dL_isWoven_146 (by decide) ?_
      have hke := (yUd.ch hch hud).1
      refine lv_aload_n S.1 S.2.1 dL_isWoven_149 rfl (lv_at hl 8 rfl) ?_
      refine z_cS (v := some (.long (yDst (z2 0)))) (rest := []) (As := [.ref (o)]) S hZ hS (c_digest l hl0 g z2 (by rw [hke.2.1]; exact hv)) ci_L_digest cv_L_digest k936 ⟨rfl, rfl, by rw [hR]; exact Nat.le_of_ble_eq_true rfl, by rw [hR]; exact Nat.le_of_ble_eq_true rfl⟩ hP hl.1 rfl (Nat.le_of_ble_eq_true rfl) dL_isWoven_150 ⟨by rw [hR]; exact Nat.le_of_ble_eq_true rfl, by rw [hR]; exact Nat.le_of_ble_eq_true rfl⟩ rfl ?_
      rw [show yDst (z2 0) = yDst (z 0) from congrArg yDst hke.2.1]
      refine lv_lload_n S.1 S.2.1 dL_isWoven_153 rfl (lv_at hl 7 rfl) ?_
      refine W.lcmp S.1 S.2.1 dL_isWoven_154 ?_
      rw [lg_cmp_rf]
      refine z_kin (tgt := 162) S rfl dL_isWoven_155 (by decide) ?_
      refine z_ic S (k := 1) dL_isWoven_158 (by decide) ?_
      refine lv_goto (tgt := 163) S.1 S.2.1 dL_isWoven_159 (by decide) ?_
      refine lv_istore (lv' := [(9, .int (nI (1))), (8, .int (nI (1))), (7, .int (nI (zMx (z 0 1) (z 0 1 0 4)))), (6, .int (nI (z 0 2 0 3))), (5, .int (nI (z 0 0 0 5))), (4, .int (nI (zSum (z 0 1 4) (z 0 1 0 4)))), (3, .int (nI (zUb (z 0 3 0 1) (z 0 4 0 1) (zPt (z 0 1) (z 0 1 0 4))))), (1, .long (yDst (z 0))), (0, .ref (o))]) S.1 S.2.1 dL_isWoven_163 hl (by decide) rfl (fun ls hl => ?_)
      refine lv_aload_n S.1 S.2.1 dL_isWoven_165 rfl (lv_at hl 8 rfl) ?_
      refine z_bi S (k := 10) dL_isWoven_166 (by decide) ?_
      refine z_wSW (rest := []) (As := [.ref (o), .int (nI (10))]) S hZ hS (c_L_weave l hl0 g hB z2 hke.1 10 (by omega)) hB ci_L_weave cv_L_weave k666 ⟨rfl, rfl, by rw [hR]; exact Nat.le_of_ble_eq_true rfl, by rw [hR]; exact Nat.le_of_ble_eq_true rfl⟩ hP hl.1 rfl (Nat.le_of_ble_eq_true rfl) dL_isWoven_168 ⟨by rw [hR]; exact Nat.le_of_ble_eq_true rfl, by rw [hR]; exact Nat.le_of_ble_eq_true rfl⟩ (fun v9 H1 locs1 hPn hCn hSn => ?_)
      clear hP
      obtain ⟨z3, hP, han⟩ := hPn
      replace hS := hSn
      replace hC := hC.tr hCn
      clear hCn hSn
      rw [hke.2.1, zPf4] at han
      have hwn := zWn_eq hv.1 10
      generalize zWn (z 0) 10 = wn at han hwn
      rcases han with ⟨hd2, rfl, hch2⟩ | ⟨hd2, rfl, hno2⟩
      · show W p l e R s m args below meth c H1 locs1 (((0 + 1) + 0) + 1) (((0 + 6) + 0) + 6) Q (F0 m 171 ls [.int (nI (wn))])
        have hz3 : z3 0 = zWs (z 0) wn := hch2.2.1
        have hv3 := hch2.1.ok
        refine lv_istore (lv' := [(10, .int (nI (wn))), (9, .int (nI (1))), (8, .int (nI (1))), (7, .int (nI (zMx (z 0 1) (z 0 1 0 4)))), (6, .int (nI (z 0 2 0 3))), (5, .int (nI (z 0 0 0 5))), (4, .int (nI (zSum (z 0 1 4) (z 0 1 0 4)))), (3, .int (nI (zUb (z 0 3 0 1) (z 0 4 0 1) (zPt (z 0 1) (z 0 1 0 4))))), (1, .long (yDst (z 0))), (0, .ref (o))]) S.1 S.2.1 dL_isWoven_171 hl (by decide) rfl (fun ls hl => ?_)
        refine lv_iload S.1 S.2.1 dL_isWoven_173 (lv_at hl 1 rfl) ?_
        refine z_kie (tgt := 237) S (by decide) dL_isWoven_175 (by decide) ?_
        refine lv_iload S.1 S.2.1 dL_isWoven_178 (lv_at hl 0 rfl) ?_
        refine lv_ldc S.1 S.2.1 S.2.2.2.1 (S.2.2.2.2 _ k324) dL_isWoven_180 ?_
        refine z_knt (tgt := 195) S (zn_neg (by omega) (by decide)) dL_isWoven_182 (by decide) ?_
        refine lv_iload S.1 S.2.1 dL_isWoven_195 (lv_at hl 0 rfl) ?_
        refine z_bi S (k := 10) dL_isWoven_197 (by decide) ?_
        refine lv_iload S.1 S.2.1 dL_isWoven_199 (lv_at hl 3 rfl) ?_
        refine z_min S (by omega) (by omega) hl.1 k1251 ⟨k597, k21, k598⟩ (by rw [hR]; exact Nat.le_of_ble_eq_true rfl) (by rw [hR]; exact Nat.le_of_ble_eq_true rfl) (by rw [hR]; exact Nat.le_of_ble_eq_true rfl) (by rw [hR]; exact Nat.le_of_ble_eq_true rfl) dL_isWoven_201 ?_
        refine z_kne (tgt := 237) S (by rw [hwn]) dL_isWoven_204 (by decide) ?_
        refine lv_aload_n S.1 S.2.1 dL_isWoven_207 rfl (lv_at hl 9 rfl) ?_
        refine z_cV (v := some (.int (nI (z3 0 2 0 3)))) (rest := []) (As := []) S hZ hS (c_rowCount l g z3 hv3) ci_X11_rowCount cv_X11_rowCount k977 ⟨rfl, rfl, by rw [hR]; decide, by rw [hR]; decide⟩ hP (hP.1.recv hZ.1 0 (by decide) rfl rfl rfl) hl.1 rfl (Nat.le_of_ble_eq_true rfl) dL_isWoven_208 ⟨by rw [hR]; decide, by rw [hR]; decide⟩ rfl ?_
        refine lv_iload S.1 S.2.1 dL_isWoven_211 (lv_at hl 4 rfl) ?_
        refine lv_iload S.1 S.2.1 dL_isWoven_213 (lv_at hl 0 rfl) ?_
        refine z_add S dL_isWoven_215 ?_
        refine z_kne (tgt := 237) S (by rw [hz3, zWs_c]) dL_isWoven_216 (by decide) ?_
        refine lv_aload_n S.1 S.2.1 dL_isWoven_219 rfl (lv_at hl 9 rfl) ?_
        refine z_w1S (v0 := some (.int (nI (1)))) (rest := []) (As := [.ref (o)]) S hZ hS (c_areWicks l hl0 g hB z3 hch2.1) hB ci_L_areWicks cv_L_areWicks k1002 ⟨rfl, rfl, by rw [hR]; exact Nat.le_of_ble_eq_true rfl, by rw [hR]; exact Nat.le_of_ble_eq_true rfl⟩ hP hl.1 rfl (Nat.le_of_ble_eq_true rfl) dL_isWoven_220 ⟨by rw [hR]; exact Nat.le_of_ble_eq_true rfl, by rw [hR]; exact Nat.le_of_ble_eq_true rfl⟩ rfl (fun H1 locs1 hPn hCn hSn => ?_)
        clear hP
        obtain ⟨z4, hP, hno4⟩ := hPn
        replace hS := hSn
        replace hC := hC.tr hCn
        clear hCn hSn
        refine z_kie (tgt := 237) S (by decide) dL_isWoven_223 (by decide) ?_
        refine lv_aload_n S.1 S.2.1 dL_isWoven_226 rfl (lv_at hl 9 rfl) ?_
        have hch4 := hch2.noc hno4
        refine z_w1SW (v0 := some (.int (nI (z4 12 0 0 2 - 1)))) (rest := []) (As := [.ref (o)]) S hZ hS (c_L_undo l hl0 g hB z4 hch4.1 hch4.n1.1) hB ci_L_undo cv_L_undo k832 ⟨rfl, rfl, by rw [hR]; exact Nat.le_of_ble_eq_true rfl, by rw [hR]; exact Nat.le_of_ble_eq_true rfl⟩ hP hl.1 rfl (Nat.le_of_ble_eq_true rfl) dL_isWoven_227 ⟨by rw [hR]; exact Nat.le_of_ble_eq_true rfl, by rw [hR]; exact Nat.le_of_ble_eq_true rfl⟩ rfl (fun H1 locs1 hPn hCn hSn => ?_)
        clear hP
        obtain ⟨z5, hP, hud2⟩ := hPn
        replace hS := hSn
        replace hC := hC.tr hCn
        clear hCn hSn
        refine z_ilt (tgt := 237) S (by have := hch4.1.1.2.2.2.2; omega) dL_isWoven_230 (by decide) ?_
        have hke5 := hke.tr (yUd.ch hch4 hud2).1
        refine z_ic S (k := 1) dL_isWoven_233 (by decide) ?_
        refine lv_goto (tgt := 238) S.1 S.2.1 dL_isWoven_234 (by decide) ?_
        refine lv_istore (lv' := [(9, .int (nI (1))), (10, .int (nI (wn))), (8, .int (nI (1))), (7, .int (nI (zMx (z 0 1) (z 0 1 0 4)))), (6, .int (nI (z 0 2 0 3))), (5, .int (nI (z 0 0 0 5))), (4, .int (nI (zSum (z 0 1 4) (z 0 1 0 4)))), (3, .int (nI (zUb (z 0 3 0 1) (z 0 4 0 1) (zPt (z 0 1) (z 0 1 0 4))))), (1, .long (yDst (z 0))), (0, .ref (o))]) S.1 S.2.1 dL_isWoven_238 hl (by decide) rfl (fun ls hl => ?_)
        refine lv_iload S.1 S.2.1 dL_isWoven_240 (lv_at hl 0 rfl) ?_
        refine z_kie (tgt := 258) S (by decide) dL_isWoven_242 (by decide) ?_
        refine lv_aload_n S.1 S.2.1 dL_isWoven_245 rfl (lv_at hl 9 rfl) ?_
        refine z_cS (v := some (.long (yDst (z5 0)))) (rest := []) (As := [.ref (o)]) S hZ hS (c_digest l hl0 g z5 (by rw [hke5.2.1]; exact hv)) ci_L_digest cv_L_digest k936 ⟨rfl, rfl, by rw [hR]; exact Nat.le_of_ble_eq_true rfl, by rw [hR]; exact Nat.le_of_ble_eq_true rfl⟩ hP hl.1 rfl (Nat.le_of_ble_eq_true rfl) dL_isWoven_246 ⟨by rw [hR]; exact Nat.le_of_ble_eq_true rfl, by rw [hR]; exact Nat.le_of_ble_eq_true rfl⟩ rfl ?_
        rw [show yDst (z5 0) = yDst (z 0) from congrArg yDst hke5.2.1]
        refine lv_lload_n S.1 S.2.1 dL_isWoven_249 rfl (lv_at hl 8 rfl) ?_
        refine W.lcmp S.1 S.2.1 dL_isWoven_250 ?_
        rw [lg_cmp_rf]
        refine z_kin (tgt := 258) S rfl dL_isWoven_251 (by decide) ?_
        refine z_ic S (k := 1) dL_isWoven_254 (by decide) ?_
        refine lv_goto (tgt := 259) S.1 S.2.1 dL_isWoven_255 (by decide) ?_
        exact z_wiw hQ S (Nat.le_of_ble_eq_true rfl) (Nat.le_of_ble_eq_true rfl) hr hlk rfl hS hC ⟨rfl, z5, hP, hke5⟩ dL_isWoven_259
      · show W p l e R s m args below meth c H1 locs1 (((0 + 1) + 0) + 1) (((0 + 6) + 0) + 6) Q (F0 m 171 ls [.int (-100000000)])
        have h40 := yV4 hd2 (by omega) (by omega)
        refine lv_istore (lv' := [(10, .int (-100000000)), (9, .int (nI (1))), (8, .int (nI (1))), (7, .int (nI (zMx (z 0 1) (z 0 1 0 4)))), (6, .int (nI (z 0 2 0 3))), (5, .int (nI (z 0 0 0 5))), (4, .int (nI (zSum (z 0 1 4) (z 0 1 0 4)))), (3, .int (nI (zUb (z 0 3 0 1) (z 0 4 0 1) (zPt (z 0 1) (z 0 1 0 4))))), (1, .long (yDst (z 0))), (0, .ref (o))]) S.1 S.2.1 dL_isWoven_171 hl (by decide) rfl (fun ls hl => ?_)
        refine lv_iload S.1 S.2.1 dL_isWoven_173 (lv_at hl 1 rfl) ?_
        refine z_kie (tgt := 237) S (by decide) dL_isWoven_175 (by decide) ?_
        refine lv_iload S.1 S.2.1 dL_isWoven_178 (lv_at hl 0 rfl) ?_
        refine lv_ldc S.1 S.2.1 S.2.2.2.1 (S.2.2.2.2 _ k324) dL_isWoven_180 ?_
        refine z_kne (tgt := 195) S rfl dL_isWoven_182 (by decide) ?_
        refine lv_iload S.1 S.2.1 dL_isWoven_185 (lv_at hl 4 rfl) ?_
        refine z_bi S (k := 30) dL_isWoven_187 (by decide) ?_
        refine z_cle (tgt := 237) S (by omega) (by omega) dL_isWoven_189 (by decide) (fun h9 => ?_) (fun h9 => ?_)
        · exact absurd h9 (by omega)
        · have hke5 := hke.tr hno2.ke
          refine lv_goto (tgt := 233) S.1 S.2.1 dL_isWoven_192 (by decide) ?_
          refine z_ic S (k := 1) dL_isWoven_233 (by decide) ?_
          refine lv_goto (tgt := 238) S.1 S.2.1 dL_isWoven_234 (by decide) ?_
          refine lv_istore (lv' := [(9, .int (nI (1))), (10, .int (-100000000)), (8, .int (nI (1))), (7, .int (nI (zMx (z 0 1) (z 0 1 0 4)))), (6, .int (nI (z 0 2 0 3))), (5, .int (nI (z 0 0 0 5))), (4, .int (nI (zSum (z 0 1 4) (z 0 1 0 4)))), (3, .int (nI (zUb (z 0 3 0 1) (z 0 4 0 1) (zPt (z 0 1) (z 0 1 0 4))))), (1, .long (yDst (z 0))), (0, .ref (o))]) S.1 S.2.1 dL_isWoven_238 hl (by decide) rfl (fun ls hl => ?_)
          refine lv_iload S.1 S.2.1 dL_isWoven_240 (lv_at hl 0 rfl) ?_
          refine z_kie (tgt := 258) S (by decide) dL_isWoven_242 (by decide) ?_
          refine lv_aload_n S.1 S.2.1 dL_isWoven_245 rfl (lv_at hl 9 rfl) ?_
          refine z_cS (v := some (.long (yDst (z3 0)))) (rest := []) (As := [.ref (o)]) S hZ hS (c_digest l hl0 g z3 (by rw [hke5.2.1]; exact hv)) ci_L_digest cv_L_digest k936 ⟨rfl, rfl, by rw [hR]; exact Nat.le_of_ble_eq_true rfl, by rw [hR]; exact Nat.le_of_ble_eq_true rfl⟩ hP hl.1 rfl (Nat.le_of_ble_eq_true rfl) dL_isWoven_246 ⟨by rw [hR]; exact Nat.le_of_ble_eq_true rfl, by rw [hR]; exact Nat.le_of_ble_eq_true rfl⟩ rfl ?_
          rw [show yDst (z3 0) = yDst (z 0) from congrArg yDst hke5.2.1]
          refine lv_lload_n S.1 S.2.1 dL_isWoven_249 rfl (lv_at hl 8 rfl) ?_
          refine W.lcmp S.1 S.2.1 dL_isWoven_250 ?_
          rw [lg_cmp_rf]
          refine z_kin (tgt := 258) S rfl dL_isWoven_251 (by decide) ?_
          refine z_ic S (k := 1) dL_isWoven_254 (by decide) ?_
          refine lv_goto (tgt := 259) S.1 S.2.1 dL_isWoven_255 (by decide) ?_
          exact z_wiw hQ S (Nat.le_of_ble_eq_true rfl) (Nat.le_of_ble_eq_true rfl) hr hlk rfl hS hC ⟨rfl, z3, hP, hke5⟩ dL_isWoven_259
  · show W p l e R s m args below meth c H1 locs1 (0 + 1) (0 + 6) Q (F0 m 39 ls [.int (-100000000)])
    have h40 := yV4 hd (by omega) (by omega)
    refine lv_istore (lv' := [(8, .int (-100000000)), (7, .int (nI (zMx (z 0 1) (z 0 1 0 4)))), (6, .int (nI (z 0 2 0 3))), (5, .int (nI (z 0 0 0 5))), (4, .int (nI (zSum (z 0 1 4) (z 0 1 0 4)))), (3, .int (nI (zUb (z 0 3 0 1) (z 0 4 0 1) (zPt (z 0 1) (z 0 1 0 4))))), (1, .long (yDst (z 0))), (0, .ref (o))]) S.1 S.2.1 dL_isWoven_39 hl (by decide) rfl (fun ls hl => ?_)
    refine lv_iload S.1 S.2.1 dL_isWoven_41 (lv_at hl 0 rfl) ?_
    refine lv_ldc S.1 S.2.1 S.2.2.2.1 (S.2.2.2.2 _ k324) dL_isWoven_43 ?_
    refine z_kne (tgt := 75) S rfl dL_isWoven_45 (by decide) ?_
    have J_1 : ∀ (ls : Array Slot), lv_has ls 11 [(0, .ref (o)), (1, .long (yDst (z 0)))] → W p l e R s m args below meth c H1 locs1 (0 + 1) (0 + 6) Q (F0 m 60 ls []) := by
      intro ls hl
      refine lv_aload_n S.1 S.2.1 dL_isWoven_60 rfl (lv_at hl 0 rfl) ?_
      refine z_cS (v := some (.long (yDst (z1 0)))) (rest := []) (As := [.ref (o)]) S hZ hS (c_digest l hl0 g z1 (by rw [hno.2.1]; exact hv)) ci_L_digest cv_L_digest k936 ⟨rfl, rfl, by rw [hR]; exact Nat.le_of_ble_eq_true rfl, by rw [hR]; exact Nat.le_of_ble_eq_true rfl⟩ hP hl.1 rfl (Nat.le_of_ble_eq_true rfl) dL_isWoven_61 ⟨by rw [hR]; exact Nat.le_of_ble_eq_true rfl, by rw [hR]; exact Nat.le_of_ble_eq_true rfl⟩ rfl ?_
      rw [show yDst (z1 0) = yDst (z 0) from congrArg yDst hno.2.1]
      refine lv_lload_n S.1 S.2.1 dL_isWoven_64 rfl (lv_at hl 1 rfl) ?_
      refine W.lcmp S.1 S.2.1 dL_isWoven_65 ?_
      rw [lg_cmp_rf]
      refine z_kin (tgt := 73) S rfl dL_isWoven_66 (by decide) ?_
      refine z_ic S (k := 1) dL_isWoven_69 (by decide) ?_
      refine lv_goto (tgt := 74) S.1 S.2.1 dL_isWoven_70 (by decide) ?_
      exact z_wiw hQ S (Nat.le_of_ble_eq_true rfl) (Nat.le_of_ble_eq_true rfl) hr hlk rfl hS hC ⟨rfl, z1, hP, hno.ke⟩ dL_isWoven_74
    refine lv_iload S.1 S.2.1 dL_isWoven_48 (lv_at hl 4 rfl) ?_
    refine z_ieq (tgt := 60) S (by omega) dL_isWoven_50 (by decide) (fun h8 => ?_) (fun h8 => ?_)
    · exact J_1 ls (lv_sub hl [7, 6] rfl)
    · refine lv_iload S.1 S.2.1 dL_isWoven_53 (lv_at hl 2 rfl) ?_
      refine z_bi S (k := 40) dL_isWoven_55 (by decide) ?_
      refine z_kne (tgt := 73) S (by rw [show z 0 2 0 3 = 40 by omega]) dL_isWoven_57 (by decide) ?_
      exact J_1 ls (lv_sub hl [7, 6] rfl)
