/-! THE LAW: its methods with handlers -/
theorem ci_L_addWick : zCW yL_addWick cL_addWick 6 (some .int) [(4, 13, 16, 17), (4, 13, 21, 19)] 4 := ⟨k321, k0, by decide +kernel⟩
theorem cv_L_addWick : Cond.static yL_addWick ∈ GW := k320
set_option maxRecDepth 20000 in
set_option maxHeartbeats 4000000 in
/-- addWick -/
theorem c_L_addWick (l : Launch) (hl0 : l.stackTraces = false) (g : ZG) {B : Nat} {o : Nat} (hB : B ≤ o) (z : zSt) (hI : yIv z) (a : Nat) (ha : a < 2 ^ 31) (b : Nat) (hb : b < 2 ^ 31) (c9 : Nat) (hc9 : c9 < 2 ^ 31) : Met l yL_addWick (.codeWith yL_addWick cL_addWick 6 (some .int) [(4, 13, 16, 17), (4, 13, 21, 19)] :: GW) { frames := 9, cells := 1, slots := 6, locals := 172 } (va_Pc [.ref o, .int (nI a), .int (nI b), .int (nI c9)] (zPre g B (fun H => zSO g o z H))) (zX (fun w H => ∃ z9, zSO g o z9 H ∧ yAn z z9 (zVd (z 0) 0 a b c9) (zPf (z 0) 0 a b c9) w) o 152) 1 6 (zA B) := by
  refine zMetH (by decide) (Nat.le_of_ble_eq_true rfl) ?_
  intro p e R s m args below meth c Q ls hR hargs hQ S hr hlk hex hP hZ hS hl
  have hl : lv_has ls 6 [(0, .ref (o)), (1, .int (nI (a))), (2, .int (nI (b))), (3, .int (nI (c9)))] := hl
  refine lv_ldc S.1 S.2.1 S.2.2.2.1 (S.2.2.2.2 _ k324) dL_addWick_0 ?_
  refine lv_istore (lv' := [(4, .int (-100000000)), (0, .ref (o)), (1, .int (nI (a))), (2, .int (nI (b))), (3, .int (nI (c9)))]) S.1 S.2.1 dL_addWick_2 hl (by decide) rfl (fun ls hl => ?_)
  refine lv_aload_n S.1 S.2.1 dL_addWick_4 rfl (lv_at hl 1 rfl) ?_
  refine lv_iload_n S.1 S.2.1 dL_addWick_5 rfl (lv_at hl 2 rfl) ?_
  refine lv_iload_n S.1 S.2.1 dL_addWick_6 rfl (lv_at hl 3 rfl) ?_
  refine lv_iload_n S.1 S.2.1 dL_addWick_7 rfl (lv_at hl 4 rfl) ?_
  by_cases h0 : (zVd (z 0) 0 a b c9).1 = 0
  · refine z_w1 (v0 := some (.int (nI (zPf (z 0) 0 a b c9).2))) (rest := []) (As := [.int (nI (a)), .int (nI (b)), .int (nI (c9))]) S hZ hS (c_addWick_ok l g hB z hI.1 a ha b hb c9 hc9 h0) hB ci_X11_addWick cv_X11_addWick k325 ⟨rfl, rfl, by rw [hR]; exact Nat.le_of_ble_eq_true rfl, by rw [hR]; exact Nat.le_of_ble_eq_true rfl⟩ hP (hP.1.recv hZ.1 0 (by decide) rfl rfl rfl) hl.1 rfl (Nat.le_of_ble_eq_true rfl) dL_addWick_8 ⟨by rw [hR]; exact Nat.le_of_ble_eq_true rfl, by rw [hR]; exact Nat.le_of_ble_eq_true rfl⟩ rfl (fun H1 locs1 hPn hCn hSn => ?_)
    refine lv_istore (lv' := [(4, .int (nI ((zPf (z 0) 0 a b c9).2))), (0, .ref (o)), (1, .int (nI (a))), (2, .int (nI (b))), (3, .int (nI (c9)))]) S.1 S.2.1 dL_addWick_11 hl (by decide) rfl (fun ls hl => ?_)
    refine lv_goto (tgt := 26) S.1 S.2.1 dL_addWick_13 (by decide) ?_
    refine lv_iload S.1 S.2.1 dL_addWick_26 (lv_at hl 0 rfl) ?_
    exact z_wiw hQ S (Nat.le_of_ble_eq_true rfl) (Nat.le_of_ble_eq_true rfl) hr hlk (zn_int _) hSn hCn ⟨_, hPn, Or.inl ⟨h0, rfl, yCh.cg hI (zPf_ok hI.ok h0)⟩⟩ dL_addWick_28
  · refine z_xV (rest := []) (As := [.int (nI (a)), .int (nI (b)), .int (nI (c9))]) S hZ hS (c_addWick_no l hl0 g hB z hI.1 a ha b hb c9 hc9 h0) hB ci_X11_addWick cv_X11_addWick k325 ⟨rfl, rfl, by rw [hR]; exact Nat.le_of_ble_eq_true rfl, by rw [hR]; exact Nat.le_of_ble_eq_true rfl⟩ hP (hP.1.recv hZ.1 0 (by decide) rfl rfl rfl) hl.1 rfl (Nat.le_of_ble_eq_true rfl) dL_addWick_8 ⟨by rw [hR]; exact Nat.le_of_ble_eq_true rfl, by rw [hR]; exact Nat.le_of_ble_eq_true rfl⟩ (fun E ce q9 H1 locs1 hPx hCn hSn hce hcv hcl => ?_)
    obtain ⟨hE, hPn⟩ := hPx
    by_cases h9 : (zVd (z 0) 0 a b c9).1 = 9
    · have hE := hE.trans (show zXn (zVd (z 0) 0 a b c9) = "java/lang/IllegalArgumentException" from (by rw [zXn, if_pos h9]))
      subst hE
      refine z_ct (hh := [(4, 13, 16, 17), (4, 13, 21, 19)]) S hZ (by decide) [] ⟨4, 13, 16, 17⟩ [⟨4, 13, 21, 19⟩] hex rfl (fun x9 hx9 => by cases hx9) rfl (by decide : (17 : Nat) ≠ 0) k322 hce hcv hcl ?_
      show W p l e R s m args below meth c H1 locs1 (0 + 1) (0 + 6) Q (F0 m 16 ls [.ref (q9)])
      refine lv_astore (lv' := [(5, .ref (q9)), (4, .int (-100000000)), (0, .ref (o)), (1, .int (nI (a))), (2, .int (nI (b))), (3, .int (nI (c9)))]) S.1 S.2.1 dL_addWick_16 hl (by decide) rfl (fun ls hl => ?_)
      refine lv_ldc S.1 S.2.1 S.2.2.2.1 (S.2.2.2.2 _ k324) dL_addWick_18 ?_
      exact z_wiw hQ S (Nat.le_of_ble_eq_true rfl) (Nat.le_of_ble_eq_true rfl) hr hlk (zn_int _) hSn hCn ⟨_, hPn, Or.inr ⟨h0, rfl, yNoc.no hI⟩⟩ dL_addWick_20
    have h10 := zVn_0 (z 0) a b c9
    have hE := hE.trans (show zXn (zVd (z 0) 0 a b c9) = "java/lang/UnsupportedOperationException" from (by rw [zXn, if_neg h9, if_neg h10]))
    subst hE
    refine z_ct (hh := [(4, 13, 16, 17), (4, 13, 21, 19)]) S hZ (by decide) [⟨4, 13, 16, 17⟩] ⟨4, 13, 21, 19⟩ [] hex rfl (fun x9 hx9 => by
        rcases List.mem_cons.mp hx9 with e9 | hx9
        · rw [e9]; exact Or.inr ⟨(by decide : (17 : Nat) ≠ 0), "java/lang/IllegalArgumentException", k322, by decide⟩
        cases hx9) rfl (by decide : (19 : Nat) ≠ 0) k323 hce hcv hcl ?_
    show W p l e R s m args below meth c H1 locs1 (0 + 1) (0 + 6) Q (F0 m 21 ls [.ref (q9)])
    refine lv_astore (lv' := [(5, .ref (q9)), (4, .int (-100000000)), (0, .ref (o)), (1, .int (nI (a))), (2, .int (nI (b))), (3, .int (nI (c9)))]) S.1 S.2.1 dL_addWick_21 hl (by decide) rfl (fun ls hl => ?_)
    refine lv_ldc S.1 S.2.1 S.2.2.2.1 (S.2.2.2.2 _ k324) dL_addWick_23 ?_
    exact z_wiw hQ S (Nat.le_of_ble_eq_true rfl) (Nat.le_of_ble_eq_true rfl) hr hlk (zn_int _) hSn hCn ⟨_, hPn, Or.inr ⟨h0, rfl, yNoc.no hI⟩⟩ dL_addWick_25
theorem ci_L_light : zCW yL_light cL_light 4 (some .int) [(3, 9, 12, 25), (3, 9, 16, 19)] 2 := ⟨k629, k0, by decide +kernel⟩
theorem cv_L_light : Cond.static yL_light ∈ GW := k628
set_option maxRecDepth 20000 in
set_option maxHeartbeats 4000000 in
/-- light -/
theorem c_L_light (l : Launch) (hl0 : l.stackTraces = false) (g : ZG) {B : Nat} {o : Nat} (hB : B ≤ o) (z : zSt) (hI : yIv z) (a : Nat) (ha : a < 2 ^ 31) : Met l yL_light (.codeWith yL_light cL_light 4 (some .int) [(3, 9, 12, 25), (3, 9, 16, 19)] :: GW) { frames := 9, cells := 1, slots := 6, locals := 170 } (va_Pc [.ref o, .int (nI a)] (zPre g B (fun H => zSO g o z H))) (zX (fun w H => ∃ z9, zSO g o z9 H ∧ yAn z z9 (zVd (z 0) 1 a 0 0) (zPf (z 0) 1 a 0 0) w) o 152) 1 6 (zA B) := by
  refine zMetH (by decide) (Nat.le_of_ble_eq_true rfl) ?_
  intro p e R s m args below meth c Q ls hR hargs hQ S hr hlk hex hP hZ hS hl
  have hl : lv_has ls 4 [(0, .ref (o)), (1, .int (nI (a)))] := hl
  refine lv_ldc S.1 S.2.1 S.2.2.2.1 (S.2.2.2.2 _ k324) dL_light_0 ?_
  refine lv_istore_n (lv' := [(2, .int (-100000000)), (0, .ref (o)), (1, .int (nI (a)))]) S.1 S.2.1 dL_light_2 rfl hl (by decide) rfl (fun ls hl => ?_)
  refine lv_aload_n S.1 S.2.1 dL_light_3 rfl (lv_at hl 1 rfl) ?_
  refine lv_iload_n S.1 S.2.1 dL_light_4 rfl (lv_at hl 2 rfl) ?_
  by_cases h0 : (zVd (z 0) 1 a 0 0).1 = 0
  · refine z_w1 (v0 := some (.int (nI (zPf (z 0) 1 a 0 0).2))) (rest := []) (As := [.int (nI (a))]) S hZ hS (c_light_ok l g hB z hI.1 a ha h0) hB ci_X11_light cv_X11_light k651 ⟨rfl, rfl, by rw [hR]; exact Nat.le_of_ble_eq_true rfl, by rw [hR]; exact Nat.le_of_ble_eq_true rfl⟩ hP (hP.1.recv hZ.1 0 (by decide) rfl rfl rfl) hl.1 rfl (Nat.le_of_ble_eq_true rfl) dL_light_5 ⟨by rw [hR]; exact Nat.le_of_ble_eq_true rfl, by rw [hR]; exact Nat.le_of_ble_eq_true rfl⟩ rfl (fun H1 locs1 hPn hCn hSn => ?_)
    refine lv_istore_n (lv' := [(2, .int (nI ((zPf (z 0) 1 a 0 0).2))), (0, .ref (o)), (1, .int (nI (a)))]) S.1 S.2.1 dL_light_8 rfl hl (by decide) rfl (fun ls hl => ?_)
    refine lv_goto (tgt := 20) S.1 S.2.1 dL_light_9 (by decide) ?_
    refine lv_iload_n S.1 S.2.1 dL_light_20 rfl (lv_at hl 0 rfl) ?_
    exact z_wiw hQ S (Nat.le_of_ble_eq_true rfl) (Nat.le_of_ble_eq_true rfl) hr hlk (zn_int _) hSn hCn ⟨_, hPn, Or.inl ⟨h0, rfl, yCh.cg hI (zPf_ok hI.ok h0)⟩⟩ dL_light_21
  · refine z_xV (rest := []) (As := [.int (nI (a))]) S hZ hS (c_light_no l hl0 g hB z hI.1 a ha h0) hB ci_X11_light cv_X11_light k651 ⟨rfl, rfl, by rw [hR]; exact Nat.le_of_ble_eq_true rfl, by rw [hR]; exact Nat.le_of_ble_eq_true rfl⟩ hP (hP.1.recv hZ.1 0 (by decide) rfl rfl rfl) hl.1 rfl (Nat.le_of_ble_eq_true rfl) dL_light_5 ⟨by rw [hR]; exact Nat.le_of_ble_eq_true rfl, by rw [hR]; exact Nat.le_of_ble_eq_true rfl⟩ (fun E ce q9 H1 locs1 hPx hCn hSn hce hcv hcl => ?_)
    obtain ⟨hE, hPn⟩ := hPx
    have h9 := zVn_1 (z 0) a 0 0
    by_cases h10 : (zVd (z 0) 1 a 0 0).1 = 10
    · have hE := hE.trans (show zXn (zVd (z 0) 1 a 0 0) = "java/lang/IndexOutOfBoundsException" from (by rw [zXn, if_neg h9, if_pos h10]))
      subst hE
      refine z_ct (hh := [(3, 9, 12, 25), (3, 9, 16, 19)]) S hZ (by decide) [] ⟨3, 9, 12, 25⟩ [⟨3, 9, 16, 19⟩] hex rfl (fun x9 hx9 => by cases hx9) rfl (by decide : (25 : Nat) ≠ 0) k630 hce hcv hcl ?_
      show W p l e R s m args below meth c H1 locs1 (0 + 1) (0 + 6) Q (F0 m 12 ls [.ref (q9)])
      refine lv_astore_n (lv' := [(3, .ref (q9)), (2, .int (-100000000)), (0, .ref (o)), (1, .int (nI (a)))]) S.1 S.2.1 dL_light_12 rfl hl (by decide) rfl (fun ls hl => ?_)
      refine lv_ldc S.1 S.2.1 S.2.2.2.1 (S.2.2.2.2 _ k324) dL_light_13 ?_
      exact z_wiw hQ S (Nat.le_of_ble_eq_true rfl) (Nat.le_of_ble_eq_true rfl) hr hlk (zn_int _) hSn hCn ⟨_, hPn, Or.inr ⟨h0, rfl, yNoc.no hI⟩⟩ dL_light_15
    have hE := hE.trans (show zXn (zVd (z 0) 1 a 0 0) = "java/lang/UnsupportedOperationException" from (by rw [zXn, if_neg h9, if_neg h10]))
    subst hE
    refine z_ct (hh := [(3, 9, 12, 25), (3, 9, 16, 19)]) S hZ (by decide) [⟨3, 9, 12, 25⟩] ⟨3, 9, 16, 19⟩ [] hex rfl (fun x9 hx9 => by
        rcases List.mem_cons.mp hx9 with e9 | hx9
        · rw [e9]; exact Or.inr ⟨(by decide : (25 : Nat) ≠ 0), "java/lang/IndexOutOfBoundsException", k630, by decide⟩
        cases hx9) rfl (by decide : (19 : Nat) ≠ 0) k323 hce hcv hcl ?_
    show W p l e R s m args below meth c H1 locs1 (0 + 1) (0 + 6) Q (F0 m 16 ls [.ref (q9)])
    refine lv_astore_n (lv' := [(3, .ref (q9)), (2, .int (-100000000)), (0, .ref (o)), (1, .int (nI (a)))]) S.1 S.2.1 dL_light_16 rfl hl (by decide) rfl (fun ls hl => ?_)
    refine lv_ldc S.1 S.2.1 S.2.2.2.1 (S.2.2.2.2 _ k324) dL_light_17 ?_
    exact z_wiw hQ S (Nat.le_of_ble_eq_true rfl) (Nat.le_of_ble_eq_true rfl) hr hlk (zn_int _) hSn hCn ⟨_, hPn, Or.inr ⟨h0, rfl, yNoc.no hI⟩⟩ dL_light_19
theorem ci_L_snuff : zCW yL_snuff cL_snuff 4 (some .int) [(3, 9, 12, 25), (3, 9, 16, 19)] 2 := ⟨k899, k0, by decide +kernel⟩
theorem cv_L_snuff : Cond.static yL_snuff ∈ GW := k898
set_option maxRecDepth 20000 in
set_option maxHeartbeats 4000000 in
/-- snuff -/
theorem c_L_snuff (l : Launch) (hl0 : l.stackTraces = false) (g : ZG) {B : Nat} {o : Nat} (hB : B ≤ o) (z : zSt) (hI : yIv z) (a : Nat) (ha : a < 2 ^ 31) : Met l yL_snuff (.codeWith yL_snuff cL_snuff 4 (some .int) [(3, 9, 12, 25), (3, 9, 16, 19)] :: GW) { frames := 9, cells := 1, slots := 6, locals := 170 } (va_Pc [.ref o, .int (nI a)] (zPre g B (fun H => zSO g o z H))) (zX (fun w H => ∃ z9, zSO g o z9 H ∧ yAn z z9 (zVd (z 0) 2 a 0 0) (zPf (z 0) 2 a 0 0) w) o 152) 1 6 (zA B) := by
  refine zMetH (by decide) (Nat.le_of_ble_eq_true rfl) ?_
  intro p e R s m args below meth c Q ls hR hargs hQ S hr hlk hex hP hZ hS hl
  have hl : lv_has ls 4 [(0, .ref (o)), (1, .int (nI (a)))] := hl
  refine lv_ldc S.1 S.2.1 S.2.2.2.1 (S.2.2.2.2 _ k324) dL_snuff_0 ?_
  refine lv_istore_n (lv' := [(2, .int (-100000000)), (0, .ref (o)), (1, .int (nI (a)))]) S.1 S.2.1 dL_snuff_2 rfl hl (by decide) rfl (fun ls hl => ?_)
  refine lv_aload_n S.1 S.2.1 dL_snuff_3 rfl (lv_at hl 1 rfl) ?_
  refine lv_iload_n S.1 S.2.1 dL_snuff_4 rfl (lv_at hl 2 rfl) ?_
  by_cases h0 : (zVd (z 0) 2 a 0 0).1 = 0
  · refine z_w1 (v0 := some (.int (nI (zPf (z 0) 2 a 0 0).2))) (rest := []) (As := [.int (nI (a))]) S hZ hS (c_snuff_ok l g hB z hI.1 a ha h0) hB ci_X11_snuff cv_X11_snuff k900 ⟨rfl, rfl, by rw [hR]; exact Nat.le_of_ble_eq_true rfl, by rw [hR]; exact Nat.le_of_ble_eq_true rfl⟩ hP (hP.1.recv hZ.1 0 (by decide) rfl rfl rfl) hl.1 rfl (Nat.le_of_ble_eq_true rfl) dL_snuff_5 ⟨by rw [hR]; exact Nat.le_of_ble_eq_true rfl, by rw [hR]; exact Nat.le_of_ble_eq_true rfl⟩ rfl (fun H1 locs1 hPn hCn hSn => ?_)
    refine lv_istore_n (lv' := [(2, .int (nI ((zPf (z 0) 2 a 0 0).2))), (0, .ref (o)), (1, .int (nI (a)))]) S.1 S.2.1 dL_snuff_8 rfl hl (by decide) rfl (fun ls hl => ?_)
    refine lv_goto (tgt := 20) S.1 S.2.1 dL_snuff_9 (by decide) ?_
    refine lv_iload_n S.1 S.2.1 dL_snuff_20 rfl (lv_at hl 0 rfl) ?_
    exact z_wiw hQ S (Nat.le_of_ble_eq_true rfl) (Nat.le_of_ble_eq_true rfl) hr hlk (zn_int _) hSn hCn ⟨_, hPn, Or.inl ⟨h0, rfl, yCh.cg hI (zPf_ok hI.ok h0)⟩⟩ dL_snuff_21
  · refine z_xV (rest := []) (As := [.int (nI (a))]) S hZ hS (c_snuff_no l hl0 g hB z hI.1 a ha h0) hB ci_X11_snuff cv_X11_snuff k900 ⟨rfl, rfl, by rw [hR]; exact Nat.le_of_ble_eq_true rfl, by rw [hR]; exact Nat.le_of_ble_eq_true rfl⟩ hP (hP.1.recv hZ.1 0 (by decide) rfl rfl rfl) hl.1 rfl (Nat.le_of_ble_eq_true rfl) dL_snuff_5 ⟨by rw [hR]; exact Nat.le_of_ble_eq_true rfl, by rw [hR]; exact Nat.le_of_ble_eq_true rfl⟩ (fun E ce q9 H1 locs1 hPx hCn hSn hce hcv hcl => ?_)
    obtain ⟨hE, hPn⟩ := hPx
    have h9 := zVn_2 (z 0) a 0 0
    by_cases h10 : (zVd (z 0) 2 a 0 0).1 = 10
    · have hE := hE.trans (show zXn (zVd (z 0) 2 a 0 0) = "java/lang/IndexOutOfBoundsException" from (by rw [zXn, if_neg h9, if_pos h10]))
      subst hE
      refine z_ct (hh := [(3, 9, 12, 25), (3, 9, 16, 19)]) S hZ (by decide) [] ⟨3, 9, 12, 25⟩ [⟨3, 9, 16, 19⟩] hex rfl (fun x9 hx9 => by cases hx9) rfl (by decide : (25 : Nat) ≠ 0) k630 hce hcv hcl ?_
      show W p l e R s m args below meth c H1 locs1 (0 + 1) (0 + 6) Q (F0 m 12 ls [.ref (q9)])
      refine lv_astore_n (lv' := [(3, .ref (q9)), (2, .int (-100000000)), (0, .ref (o)), (1, .int (nI (a)))]) S.1 S.2.1 dL_snuff_12 rfl hl (by decide) rfl (fun ls hl => ?_)
      refine lv_ldc S.1 S.2.1 S.2.2.2.1 (S.2.2.2.2 _ k324) dL_snuff_13 ?_
      exact z_wiw hQ S (Nat.le_of_ble_eq_true rfl) (Nat.le_of_ble_eq_true rfl) hr hlk (zn_int _) hSn hCn ⟨_, hPn, Or.inr ⟨h0, rfl, yNoc.no hI⟩⟩ dL_snuff_15
    have hE := hE.trans (show zXn (zVd (z 0) 2 a 0 0) = "java/lang/UnsupportedOperationException" from (by rw [zXn, if_neg h9, if_neg h10]))
    subst hE
    refine z_ct (hh := [(3, 9, 12, 25), (3, 9, 16, 19)]) S hZ (by decide) [⟨3, 9, 12, 25⟩] ⟨3, 9, 16, 19⟩ [] hex rfl (fun x9 hx9 => by
        rcases List.mem_cons.mp hx9 with e9 | hx9
        · rw [e9]; exact Or.inr ⟨(by decide : (25 : Nat) ≠ 0), "java/lang/IndexOutOfBoundsException", k630, by decide⟩
        cases hx9) rfl (by decide : (19 : Nat) ≠ 0) k323 hce hcv hcl ?_
    show W p l e R s m args below meth c H1 locs1 (0 + 1) (0 + 6) Q (F0 m 16 ls [.ref (q9)])
    refine lv_astore_n (lv' := [(3, .ref (q9)), (2, .int (-100000000)), (0, .ref (o)), (1, .int (nI (a)))]) S.1 S.2.1 dL_snuff_16 rfl hl (by decide) rfl (fun ls hl => ?_)
    refine lv_ldc S.1 S.2.1 S.2.2.2.1 (S.2.2.2.2 _ k324) dL_snuff_17 ?_
    exact z_wiw hQ S (Nat.le_of_ble_eq_true rfl) (Nat.le_of_ble_eq_true rfl) hr hlk (zn_int _) hSn hCn ⟨_, hPn, Or.inr ⟨h0, rfl, yNoc.no hI⟩⟩ dL_snuff_19
theorem ci_L_addWax : zCW yL_addWax cL_addWax 5 (some .int) [(3, 10, 13, 25), (3, 10, 18, 17), (3, 10, 23, 19)] 3 := ⟨k659, k0, by decide +kernel⟩
theorem cv_L_addWax : Cond.static yL_addWax ∈ GW := k658
set_option maxRecDepth 20000 in
set_option maxHeartbeats 4000000 in
/-- addWax -/
theorem c_L_addWax (l : Launch) (hl0 : l.stackTraces = false) (g : ZG) {B : Nat} {o : Nat} (hB : B ≤ o) (z : zSt) (hI : yIv z) (a : Nat) (ha : a < 2 ^ 31) (b : Nat) (hb : b < 2 ^ 31) : Met l yL_addWax (.codeWith yL_addWax cL_addWax 5 (some .int) [(3, 10, 13, 25), (3, 10, 18, 17), (3, 10, 23, 19)] :: GW) { frames := 9, cells := 1, slots := 6, locals := 171 } (va_Pc [.ref o, .int (nI a), .int (nI b)] (zPre g B (fun H => zSO g o z H))) (zX (fun w H => ∃ z9, zSO g o z9 H ∧ yAn z z9 (zVd (z 0) 3 a b 0) (zPf (z 0) 3 a b 0) w) o 152) 1 6 (zA B) := by
  refine zMetH (by decide) (Nat.le_of_ble_eq_true rfl) ?_
  intro p e R s m args below meth c Q ls hR hargs hQ S hr hlk hex hP hZ hS hl
  have hl : lv_has ls 5 [(0, .ref (o)), (1, .int (nI (a))), (2, .int (nI (b)))] := hl
  refine lv_ldc S.1 S.2.1 S.2.2.2.1 (S.2.2.2.2 _ k324) dL_addWax_0 ?_
  refine lv_istore_n (lv' := [(3, .int (-100000000)), (0, .ref (o)), (1, .int (nI (a))), (2, .int (nI (b)))]) S.1 S.2.1 dL_addWax_2 rfl hl (by decide) rfl (fun ls hl => ?_)
  refine lv_aload_n S.1 S.2.1 dL_addWax_3 rfl (lv_at hl 1 rfl) ?_
  refine lv_iload_n S.1 S.2.1 dL_addWax_4 rfl (lv_at hl 2 rfl) ?_
  refine lv_iload_n S.1 S.2.1 dL_addWax_5 rfl (lv_at hl 3 rfl) ?_
  by_cases h0 : (zVd (z 0) 3 a b 0).1 = 0
  · refine z_w1 (v0 := some (.int (nI (zPf (z 0) 3 a b 0).2))) (rest := []) (As := [.int (nI (a)), .int (nI (b))]) S hZ hS (c_addWax_ok l g hB z hI.1 a ha b hb h0) hB ci_X11_addWax cv_X11_addWax k660 ⟨rfl, rfl, by rw [hR]; exact Nat.le_of_ble_eq_true rfl, by rw [hR]; exact Nat.le_of_ble_eq_true rfl⟩ hP (hP.1.recv hZ.1 0 (by decide) rfl rfl rfl) hl.1 rfl (Nat.le_of_ble_eq_true rfl) dL_addWax_6 ⟨by rw [hR]; exact Nat.le_of_ble_eq_true rfl, by rw [hR]; exact Nat.le_of_ble_eq_true rfl⟩ rfl (fun H1 locs1 hPn hCn hSn => ?_)
    refine lv_istore_n (lv' := [(3, .int (nI ((zPf (z 0) 3 a b 0).2))), (0, .ref (o)), (1, .int (nI (a))), (2, .int (nI (b)))]) S.1 S.2.1 dL_addWax_9 rfl hl (by decide) rfl (fun ls hl => ?_)
    refine lv_goto (tgt := 28) S.1 S.2.1 dL_addWax_10 (by decide) ?_
    refine lv_iload_n S.1 S.2.1 dL_addWax_28 rfl (lv_at hl 0 rfl) ?_
    exact z_wiw hQ S (Nat.le_of_ble_eq_true rfl) (Nat.le_of_ble_eq_true rfl) hr hlk (zn_int _) hSn hCn ⟨_, hPn, Or.inl ⟨h0, rfl, yCh.cg hI (zPf_ok hI.ok h0)⟩⟩ dL_addWax_29
  · refine z_xV (rest := []) (As := [.int (nI (a)), .int (nI (b))]) S hZ hS (c_addWax_no l hl0 g hB z hI.1 a ha b hb h0) hB ci_X11_addWax cv_X11_addWax k660 ⟨rfl, rfl, by rw [hR]; exact Nat.le_of_ble_eq_true rfl, by rw [hR]; exact Nat.le_of_ble_eq_true rfl⟩ hP (hP.1.recv hZ.1 0 (by decide) rfl rfl rfl) hl.1 rfl (Nat.le_of_ble_eq_true rfl) dL_addWax_6 ⟨by rw [hR]; exact Nat.le_of_ble_eq_true rfl, by rw [hR]; exact Nat.le_of_ble_eq_true rfl⟩ (fun E ce q9 H1 locs1 hPx hCn hSn hce hcv hcl => ?_)
    obtain ⟨hE, hPn⟩ := hPx
    by_cases h9 : (zVd (z 0) 3 a b 0).1 = 9
    · have hE := hE.trans (show zXn (zVd (z 0) 3 a b 0) = "java/lang/IllegalArgumentException" from (by rw [zXn, if_pos h9]))
      subst hE
      refine z_ct (hh := [(3, 10, 13, 25), (3, 10, 18, 17), (3, 10, 23, 19)]) S hZ (by decide) [⟨3, 10, 13, 25⟩] ⟨3, 10, 18, 17⟩ [⟨3, 10, 23, 19⟩] hex rfl (fun x9 hx9 => by
          rcases List.mem_cons.mp hx9 with e9 | hx9
          · rw [e9]; exact Or.inr ⟨(by decide : (25 : Nat) ≠ 0), "java/lang/IndexOutOfBoundsException", k630, by decide⟩
          cases hx9) rfl (by decide : (17 : Nat) ≠ 0) k322 hce hcv hcl ?_
      show W p l e R s m args below meth c H1 locs1 (0 + 1) (0 + 6) Q (F0 m 18 ls [.ref (q9)])
      refine lv_astore (lv' := [(4, .ref (q9)), (3, .int (-100000000)), (0, .ref (o)), (1, .int (nI (a))), (2, .int (nI (b)))]) S.1 S.2.1 dL_addWax_18 hl (by decide) rfl (fun ls hl => ?_)
      refine lv_ldc S.1 S.2.1 S.2.2.2.1 (S.2.2.2.2 _ k324) dL_addWax_20 ?_
      exact z_wiw hQ S (Nat.le_of_ble_eq_true rfl) (Nat.le_of_ble_eq_true rfl) hr hlk (zn_int _) hSn hCn ⟨_, hPn, Or.inr ⟨h0, rfl, yNoc.no hI⟩⟩ dL_addWax_22
    by_cases h10 : (zVd (z 0) 3 a b 0).1 = 10
    · have hE := hE.trans (show zXn (zVd (z 0) 3 a b 0) = "java/lang/IndexOutOfBoundsException" from (by rw [zXn, if_neg h9, if_pos h10]))
      subst hE
      refine z_ct (hh := [(3, 10, 13, 25), (3, 10, 18, 17), (3, 10, 23, 19)]) S hZ (by decide) [] ⟨3, 10, 13, 25⟩ [⟨3, 10, 18, 17⟩, ⟨3, 10, 23, 19⟩] hex rfl (fun x9 hx9 => by cases hx9) rfl (by decide : (25 : Nat) ≠ 0) k630 hce hcv hcl ?_
      show W p l e R s m args below meth c H1 locs1 (0 + 1) (0 + 6) Q (F0 m 13 ls [.ref (q9)])
      refine lv_astore (lv' := [(4, .ref (q9)), (3, .int (-100000000)), (0, .ref (o)), (1, .int (nI (a))), (2, .int (nI (b)))]) S.1 S.2.1 dL_addWax_13 hl (by decide) rfl (fun ls hl => ?_)
      refine lv_ldc S.1 S.2.1 S.2.2.2.1 (S.2.2.2.2 _ k324) dL_addWax_15 ?_
      exact z_wiw hQ S (Nat.le_of_ble_eq_true rfl) (Nat.le_of_ble_eq_true rfl) hr hlk (zn_int _) hSn hCn ⟨_, hPn, Or.inr ⟨h0, rfl, yNoc.no hI⟩⟩ dL_addWax_17
    have hE := hE.trans (show zXn (zVd (z 0) 3 a b 0) = "java/lang/UnsupportedOperationException" from (by rw [zXn, if_neg h9, if_neg h10]))
    subst hE
    refine z_ct (hh := [(3, 10, 13, 25), (3, 10, 18, 17), (3, 10, 23, 19)]) S hZ (by decide) [⟨3, 10, 13, 25⟩, ⟨3, 10, 18, 17⟩] ⟨3, 10, 23, 19⟩ [] hex rfl (fun x9 hx9 => by
        rcases List.mem_cons.mp hx9 with e9 | hx9
        · rw [e9]; exact Or.inr ⟨(by decide : (25 : Nat) ≠ 0), "java/lang/IndexOutOfBoundsException", k630, by decide⟩
        rcases List.mem_cons.mp hx9 with e9 | hx9
        · rw [e9]; exact Or.inr ⟨(by decide : (17 : Nat) ≠ 0), "java/lang/IllegalArgumentException", k322, by decide⟩
        cases hx9) rfl (by decide : (19 : Nat) ≠ 0) k323 hce hcv hcl ?_
    show W p l e R s m args below meth c H1 locs1 (0 + 1) (0 + 6) Q (F0 m 23 ls [.ref (q9)])
    refine lv_astore (lv' := [(4, .ref (q9)), (3, .int (-100000000)), (0, .ref (o)), (1, .int (nI (a))), (2, .int (nI (b)))]) S.1 S.2.1 dL_addWax_23 hl (by decide) rfl (fun ls hl => ?_)
    refine lv_ldc S.1 S.2.1 S.2.2.2.1 (S.2.2.2.2 _ k324) dL_addWax_25 ?_
    exact z_wiw hQ S (Nat.le_of_ble_eq_true rfl) (Nat.le_of_ble_eq_true rfl) hr hlk (zn_int _) hSn hCn ⟨_, hPn, Or.inr ⟨h0, rfl, yNoc.no hI⟩⟩ dL_addWax_27
theorem ci_L_weave : zCW yL_weave cL_weave 4 (some .int) [(3, 9, 12, 17), (3, 9, 16, 19)] 2 := ⟨k668, k0, by decide +kernel⟩
theorem cv_L_weave : Cond.static yL_weave ∈ GW := k667
set_option maxRecDepth 20000 in
set_option maxHeartbeats 4000000 in
/-- weave -/
theorem c_L_weave (l : Launch) (hl0 : l.stackTraces = false) (g : ZG) {B : Nat} {o : Nat} (hB : B ≤ o) (z : zSt) (hI : yIv z) (a : Nat) (ha : a < 2 ^ 31) : Met l yL_weave (.codeWith yL_weave cL_weave 4 (some .int) [(3, 9, 12, 17), (3, 9, 16, 19)] :: GW) { frames := 9, cells := 1, slots := 6, locals := 170 } (va_Pc [.ref o, .int (nI a)] (zPre g B (fun H => zSO g o z H))) (zX (fun w H => ∃ z9, zSO g o z9 H ∧ yAn z z9 (zVd (z 0) 4 a 0 0) (zPf (z 0) 4 a 0 0) w) o 152) 1 6 (zA B) := by
  refine zMetH (by decide) (Nat.le_of_ble_eq_true rfl) ?_
  intro p e R s m args below meth c Q ls hR hargs hQ S hr hlk hex hP hZ hS hl
  have hl : lv_has ls 4 [(0, .ref (o)), (1, .int (nI (a)))] := hl
  refine lv_ldc S.1 S.2.1 S.2.2.2.1 (S.2.2.2.2 _ k324) dL_weave_0 ?_
  refine lv_istore_n (lv' := [(2, .int (-100000000)), (0, .ref (o)), (1, .int (nI (a)))]) S.1 S.2.1 dL_weave_2 rfl hl (by decide) rfl (fun ls hl => ?_)
  refine lv_aload_n S.1 S.2.1 dL_weave_3 rfl (lv_at hl 1 rfl) ?_
  refine lv_iload_n S.1 S.2.1 dL_weave_4 rfl (lv_at hl 2 rfl) ?_
  by_cases h0 : (zVd (z 0) 4 a 0 0).1 = 0
  · refine z_w1 (v0 := some (.int (nI (zPf (z 0) 4 a 0 0).2))) (rest := []) (As := [.int (nI (a))]) S hZ hS (c_weave_ok l g hB z hI.1 a ha h0) hB ci_X11_weave cv_X11_weave k669 ⟨rfl, rfl, by rw [hR]; exact Nat.le_of_ble_eq_true rfl, by rw [hR]; exact Nat.le_of_ble_eq_true rfl⟩ hP (hP.1.recv hZ.1 0 (by decide) rfl rfl rfl) hl.1 rfl (Nat.le_of_ble_eq_true rfl) dL_weave_5 ⟨by rw [hR]; exact Nat.le_of_ble_eq_true rfl, by rw [hR]; exact Nat.le_of_ble_eq_true rfl⟩ rfl (fun H1 locs1 hPn hCn hSn => ?_)
    refine lv_istore_n (lv' := [(2, .int (nI ((zPf (z 0) 4 a 0 0).2))), (0, .ref (o)), (1, .int (nI (a)))]) S.1 S.2.1 dL_weave_8 rfl hl (by decide) rfl (fun ls hl => ?_)
    refine lv_goto (tgt := 20) S.1 S.2.1 dL_weave_9 (by decide) ?_
    refine lv_iload_n S.1 S.2.1 dL_weave_20 rfl (lv_at hl 0 rfl) ?_
    exact z_wiw hQ S (Nat.le_of_ble_eq_true rfl) (Nat.le_of_ble_eq_true rfl) hr hlk (zn_int _) hSn hCn ⟨_, hPn, Or.inl ⟨h0, rfl, yCh.cg hI (zPf_ok hI.ok h0)⟩⟩ dL_weave_21
  · refine z_xV (rest := []) (As := [.int (nI (a))]) S hZ hS (c_weave_no l hl0 g hB z hI.1 a ha h0) hB ci_X11_weave cv_X11_weave k669 ⟨rfl, rfl, by rw [hR]; exact Nat.le_of_ble_eq_true rfl, by rw [hR]; exact Nat.le_of_ble_eq_true rfl⟩ hP (hP.1.recv hZ.1 0 (by decide) rfl rfl rfl) hl.1 rfl (Nat.le_of_ble_eq_true rfl) dL_weave_5 ⟨by rw [hR]; exact Nat.le_of_ble_eq_true rfl, by rw [hR]; exact Nat.le_of_ble_eq_true rfl⟩ (fun E ce q9 H1 locs1 hPx hCn hSn hce hcv hcl => ?_)
    obtain ⟨hE, hPn⟩ := hPx
    by_cases h9 : (zVd (z 0) 4 a 0 0).1 = 9
    · have hE := hE.trans (show zXn (zVd (z 0) 4 a 0 0) = "java/lang/IllegalArgumentException" from (by rw [zXn, if_pos h9]))
      subst hE
      refine z_ct (hh := [(3, 9, 12, 17), (3, 9, 16, 19)]) S hZ (by decide) [] ⟨3, 9, 12, 17⟩ [⟨3, 9, 16, 19⟩] hex rfl (fun x9 hx9 => by cases hx9) rfl (by decide : (17 : Nat) ≠ 0) k322 hce hcv hcl ?_
      show W p l e R s m args below meth c H1 locs1 (0 + 1) (0 + 6) Q (F0 m 12 ls [.ref (q9)])
      refine lv_astore_n (lv' := [(3, .ref (q9)), (2, .int (-100000000)), (0, .ref (o)), (1, .int (nI (a)))]) S.1 S.2.1 dL_weave_12 rfl hl (by decide) rfl (fun ls hl => ?_)
      refine lv_ldc S.1 S.2.1 S.2.2.2.1 (S.2.2.2.2 _ k324) dL_weave_13 ?_
      exact z_wiw hQ S (Nat.le_of_ble_eq_true rfl) (Nat.le_of_ble_eq_true rfl) hr hlk (zn_int _) hSn hCn ⟨_, hPn, Or.inr ⟨h0, rfl, yNoc.no hI⟩⟩ dL_weave_15
    have h10 := zVn_4 (z 0) a 0 0
    have hE := hE.trans (show zXn (zVd (z 0) 4 a 0 0) = "java/lang/UnsupportedOperationException" from (by rw [zXn, if_neg h9, if_neg h10]))
    subst hE
    refine z_ct (hh := [(3, 9, 12, 17), (3, 9, 16, 19)]) S hZ (by decide) [⟨3, 9, 12, 17⟩] ⟨3, 9, 16, 19⟩ [] hex rfl (fun x9 hx9 => by
        rcases List.mem_cons.mp hx9 with e9 | hx9
        · rw [e9]; exact Or.inr ⟨(by decide : (17 : Nat) ≠ 0), "java/lang/IllegalArgumentException", k322, by decide⟩
        cases hx9) rfl (by decide : (19 : Nat) ≠ 0) k323 hce hcv hcl ?_
    show W p l e R s m args below meth c H1 locs1 (0 + 1) (0 + 6) Q (F0 m 16 ls [.ref (q9)])
    refine lv_astore_n (lv' := [(3, .ref (q9)), (2, .int (-100000000)), (0, .ref (o)), (1, .int (nI (a)))]) S.1 S.2.1 dL_weave_16 rfl hl (by decide) rfl (fun ls hl => ?_)
    refine lv_ldc S.1 S.2.1 S.2.2.2.1 (S.2.2.2.2 _ k324) dL_weave_17 ?_
    exact z_wiw hQ S (Nat.le_of_ble_eq_true rfl) (Nat.le_of_ble_eq_true rfl) hr hlk (zn_int _) hSn hCn ⟨_, hPn, Or.inr ⟨h0, rfl, yNoc.no hI⟩⟩ dL_weave_19
theorem ci_L_ravel : zCW yL_ravel cL_ravel 4 (some .int) [(3, 9, 12, 17), (3, 9, 16, 19)] 2 := ⟨k908, k0, by decide +kernel⟩
theorem cv_L_ravel : Cond.static yL_ravel ∈ GW := k907
set_option maxRecDepth 20000 in
set_option maxHeartbeats 4000000 in
/-- ravel -/
theorem c_L_ravel (l : Launch) (hl0 : l.stackTraces = false) (g : ZG) {B : Nat} {o : Nat} (hB : B ≤ o) (z : zSt) (hI : yIv z) (a : Nat) (ha : a < 2 ^ 31) : Met l yL_ravel (.codeWith yL_ravel cL_ravel 4 (some .int) [(3, 9, 12, 17), (3, 9, 16, 19)] :: GW) { frames := 9, cells := 1, slots := 6, locals := 170 } (va_Pc [.ref o, .int (nI a)] (zPre g B (fun H => zSO g o z H))) (zX (fun w H => ∃ z9, zSO g o z9 H ∧ yAn z z9 (zVd (z 0) 5 a 0 0) (zPf (z 0) 5 a 0 0) w) o 152) 1 6 (zA B) := by
  refine zMetH (by decide) (Nat.le_of_ble_eq_true rfl) ?_
  intro p e R s m args below meth c Q ls hR hargs hQ S hr hlk hex hP hZ hS hl
  have hl : lv_has ls 4 [(0, .ref (o)), (1, .int (nI (a)))] := hl
  refine lv_ldc S.1 S.2.1 S.2.2.2.1 (S.2.2.2.2 _ k324) dL_ravel_0 ?_
  refine lv_istore_n (lv' := [(2, .int (-100000000)), (0, .ref (o)), (1, .int (nI (a)))]) S.1 S.2.1 dL_ravel_2 rfl hl (by decide) rfl (fun ls hl => ?_)
  refine lv_aload_n S.1 S.2.1 dL_ravel_3 rfl (lv_at hl 1 rfl) ?_
  refine lv_iload_n S.1 S.2.1 dL_ravel_4 rfl (lv_at hl 2 rfl) ?_
  by_cases h0 : (zVd (z 0) 5 a 0 0).1 = 0
  · refine z_w1 (v0 := some (.int (nI (zPf (z 0) 5 a 0 0).2))) (rest := []) (As := [.int (nI (a))]) S hZ hS (c_ravel_ok l g hB z hI.1 a ha h0) hB ci_X11_ravel cv_X11_ravel k909 ⟨rfl, rfl, by rw [hR]; exact Nat.le_of_ble_eq_true rfl, by rw [hR]; exact Nat.le_of_ble_eq_true rfl⟩ hP (hP.1.recv hZ.1 0 (by decide) rfl rfl rfl) hl.1 rfl (Nat.le_of_ble_eq_true rfl) dL_ravel_5 ⟨by rw [hR]; exact Nat.le_of_ble_eq_true rfl, by rw [hR]; exact Nat.le_of_ble_eq_true rfl⟩ rfl (fun H1 locs1 hPn hCn hSn => ?_)
    refine lv_istore_n (lv' := [(2, .int (nI ((zPf (z 0) 5 a 0 0).2))), (0, .ref (o)), (1, .int (nI (a)))]) S.1 S.2.1 dL_ravel_8 rfl hl (by decide) rfl (fun ls hl => ?_)
    refine lv_goto (tgt := 20) S.1 S.2.1 dL_ravel_9 (by decide) ?_
    refine lv_iload_n S.1 S.2.1 dL_ravel_20 rfl (lv_at hl 0 rfl) ?_
    exact z_wiw hQ S (Nat.le_of_ble_eq_true rfl) (Nat.le_of_ble_eq_true rfl) hr hlk (zn_int _) hSn hCn ⟨_, hPn, Or.inl ⟨h0, rfl, yCh.cg hI (zPf_ok hI.ok h0)⟩⟩ dL_ravel_21
  · refine z_xV (rest := []) (As := [.int (nI (a))]) S hZ hS (c_ravel_no l hl0 g hB z hI.1 a ha h0) hB ci_X11_ravel cv_X11_ravel k909 ⟨rfl, rfl, by rw [hR]; exact Nat.le_of_ble_eq_true rfl, by rw [hR]; exact Nat.le_of_ble_eq_true rfl⟩ hP (hP.1.recv hZ.1 0 (by decide) rfl rfl rfl) hl.1 rfl (Nat.le_of_ble_eq_true rfl) dL_ravel_5 ⟨by rw [hR]; exact Nat.le_of_ble_eq_true rfl, by rw [hR]; exact Nat.le_of_ble_eq_true rfl⟩ (fun E ce q9 H1 locs1 hPx hCn hSn hce hcv hcl => ?_)
    obtain ⟨hE, hPn⟩ := hPx
    by_cases h9 : (zVd (z 0) 5 a 0 0).1 = 9
    · have hE := hE.trans (show zXn (zVd (z 0) 5 a 0 0) = "java/lang/IllegalArgumentException" from (by rw [zXn, if_pos h9]))
      subst hE
      refine z_ct (hh := [(3, 9, 12, 17), (3, 9, 16, 19)]) S hZ (by decide) [] ⟨3, 9, 12, 17⟩ [⟨3, 9, 16, 19⟩] hex rfl (fun x9 hx9 => by cases hx9) rfl (by decide : (17 : Nat) ≠ 0) k322 hce hcv hcl ?_
      show W p l e R s m args below meth c H1 locs1 (0 + 1) (0 + 6) Q (F0 m 12 ls [.ref (q9)])
      refine lv_astore_n (lv' := [(3, .ref (q9)), (2, .int (-100000000)), (0, .ref (o)), (1, .int (nI (a)))]) S.1 S.2.1 dL_ravel_12 rfl hl (by decide) rfl (fun ls hl => ?_)
      refine lv_ldc S.1 S.2.1 S.2.2.2.1 (S.2.2.2.2 _ k324) dL_ravel_13 ?_
      exact z_wiw hQ S (Nat.le_of_ble_eq_true rfl) (Nat.le_of_ble_eq_true rfl) hr hlk (zn_int _) hSn hCn ⟨_, hPn, Or.inr ⟨h0, rfl, yNoc.no hI⟩⟩ dL_ravel_15
    have h10 := zVn_5 (z 0) a 0 0
    have hE := hE.trans (show zXn (zVd (z 0) 5 a 0 0) = "java/lang/UnsupportedOperationException" from (by rw [zXn, if_neg h9, if_neg h10]))
    subst hE
    refine z_ct (hh := [(3, 9, 12, 17), (3, 9, 16, 19)]) S hZ (by decide) [⟨3, 9, 12, 17⟩] ⟨3, 9, 16, 19⟩ [] hex rfl (fun x9 hx9 => by
        rcases List.mem_cons.mp hx9 with e9 | hx9
        · rw [e9]; exact Or.inr ⟨(by decide : (17 : Nat) ≠ 0), "java/lang/IllegalArgumentException", k322, by decide⟩
        cases hx9) rfl (by decide : (19 : Nat) ≠ 0) k323 hce hcv hcl ?_
    show W p l e R s m args below meth c H1 locs1 (0 + 1) (0 + 6) Q (F0 m 16 ls [.ref (q9)])
    refine lv_astore_n (lv' := [(3, .ref (q9)), (2, .int (-100000000)), (0, .ref (o)), (1, .int (nI (a)))]) S.1 S.2.1 dL_ravel_16 rfl hl (by decide) rfl (fun ls hl => ?_)
    refine lv_ldc S.1 S.2.1 S.2.2.2.1 (S.2.2.2.2 _ k324) dL_ravel_17 ?_
    exact z_wiw hQ S (Nat.le_of_ble_eq_true rfl) (Nat.le_of_ble_eq_true rfl) hr hlk (zn_int _) hSn hCn ⟨_, hPn, Or.inr ⟨h0, rfl, yNoc.no hI⟩⟩ dL_ravel_19
theorem ci_L_repeatLast : zCW yL_repeatLast cL_repeatLast 5 (some .int) [(3, 10, 13, 17), (3, 10, 18, 19)] 3 := ⟨k677, k0, by decide +kernel⟩
theorem cv_L_repeatLast : Cond.static yL_repeatLast ∈ GW := k676
set_option maxRecDepth 20000 in
set_option maxHeartbeats 4000000 in
/-- repeatLast -/
theorem c_L_repeatLast (l : Launch) (hl0 : l.stackTraces = false) (g : ZG) {B : Nat} {o : Nat} (hB : B ≤ o) (z : zSt) (hI : yIv z) (a : Nat) (ha : a < 2 ^ 31) (b : Nat) (hb : b < 2 ^ 31) : Met l yL_repeatLast (.codeWith yL_repeatLast cL_repeatLast 5 (some .int) [(3, 10, 13, 17), (3, 10, 18, 19)] :: GW) { frames := 9, cells := 1, slots := 6, locals := 171 } (va_Pc [.ref o, .int (nI a), .int (nI b)] (zPre g B (fun H => zSO g o z H))) (zX (fun w H => ∃ z9, zSO g o z9 H ∧ yAn z z9 (zVd (z 0) 6 a b 0) (zPf (z 0) 6 a b 0) w) o 152) 1 6 (zA B) := by
  refine zMetH (by decide) (Nat.le_of_ble_eq_true rfl) ?_
  intro p e R s m args below meth c Q ls hR hargs hQ S hr hlk hex hP hZ hS hl
  have hl : lv_has ls 5 [(0, .ref (o)), (1, .int (nI (a))), (2, .int (nI (b)))] := hl
  refine lv_ldc S.1 S.2.1 S.2.2.2.1 (S.2.2.2.2 _ k324) dL_repeatLast_0 ?_
  refine lv_istore_n (lv' := [(3, .int (-100000000)), (0, .ref (o)), (1, .int (nI (a))), (2, .int (nI (b)))]) S.1 S.2.1 dL_repeatLast_2 rfl hl (by decide) rfl (fun ls hl => ?_)
  refine lv_aload_n S.1 S.2.1 dL_repeatLast_3 rfl (lv_at hl 1 rfl) ?_
  refine lv_iload_n S.1 S.2.1 dL_repeatLast_4 rfl (lv_at hl 2 rfl) ?_
  refine lv_iload_n S.1 S.2.1 dL_repeatLast_5 rfl (lv_at hl 3 rfl) ?_
  by_cases h0 : (zVd (z 0) 6 a b 0).1 = 0
  · refine z_w1 (v0 := some (.int (nI (zPf (z 0) 6 a b 0).2))) (rest := []) (As := [.int (nI (a)), .int (nI (b))]) S hZ hS (c_repeatLast_ok l g hB z hI.1 a ha b hb h0) hB ci_X11_repeatLast cv_X11_repeatLast k678 ⟨rfl, rfl, by rw [hR]; exact Nat.le_of_ble_eq_true rfl, by rw [hR]; exact Nat.le_of_ble_eq_true rfl⟩ hP (hP.1.recv hZ.1 0 (by decide) rfl rfl rfl) hl.1 rfl (Nat.le_of_ble_eq_true rfl) dL_repeatLast_6 ⟨by rw [hR]; exact Nat.le_of_ble_eq_true rfl, by rw [hR]; exact Nat.le_of_ble_eq_true rfl⟩ rfl (fun H1 locs1 hPn hCn hSn => ?_)
    refine lv_istore_n (lv' := [(3, .int (nI ((zPf (z 0) 6 a b 0).2))), (0, .ref (o)), (1, .int (nI (a))), (2, .int (nI (b)))]) S.1 S.2.1 dL_repeatLast_9 rfl hl (by decide) rfl (fun ls hl => ?_)
    refine lv_goto (tgt := 23) S.1 S.2.1 dL_repeatLast_10 (by decide) ?_
    refine lv_iload_n S.1 S.2.1 dL_repeatLast_23 rfl (lv_at hl 0 rfl) ?_
    exact z_wiw hQ S (Nat.le_of_ble_eq_true rfl) (Nat.le_of_ble_eq_true rfl) hr hlk (zn_int _) hSn hCn ⟨_, hPn, Or.inl ⟨h0, rfl, yCh.cg hI (zPf_ok hI.ok h0)⟩⟩ dL_repeatLast_24
  · refine z_xV (rest := []) (As := [.int (nI (a)), .int (nI (b))]) S hZ hS (c_repeatLast_no l hl0 g hB z hI.1 a ha b hb h0) hB ci_X11_repeatLast cv_X11_repeatLast k678 ⟨rfl, rfl, by rw [hR]; exact Nat.le_of_ble_eq_true rfl, by rw [hR]; exact Nat.le_of_ble_eq_true rfl⟩ hP (hP.1.recv hZ.1 0 (by decide) rfl rfl rfl) hl.1 rfl (Nat.le_of_ble_eq_true rfl) dL_repeatLast_6 ⟨by rw [hR]; exact Nat.le_of_ble_eq_true rfl, by rw [hR]; exact Nat.le_of_ble_eq_true rfl⟩ (fun E ce q9 H1 locs1 hPx hCn hSn hce hcv hcl => ?_)
    obtain ⟨hE, hPn⟩ := hPx
    by_cases h9 : (zVd (z 0) 6 a b 0).1 = 9
    · have hE := hE.trans (show zXn (zVd (z 0) 6 a b 0) = "java/lang/IllegalArgumentException" from (by rw [zXn, if_pos h9]))
      subst hE
      refine z_ct (hh := [(3, 10, 13, 17), (3, 10, 18, 19)]) S hZ (by decide) [] ⟨3, 10, 13, 17⟩ [⟨3, 10, 18, 19⟩] hex rfl (fun x9 hx9 => by cases hx9) rfl (by decide : (17 : Nat) ≠ 0) k322 hce hcv hcl ?_
      show W p l e R s m args below meth c H1 locs1 (0 + 1) (0 + 6) Q (F0 m 13 ls [.ref (q9)])
      refine lv_astore (lv' := [(4, .ref (q9)), (3, .int (-100000000)), (0, .ref (o)), (1, .int (nI (a))), (2, .int (nI (b)))]) S.1 S.2.1 dL_repeatLast_13 hl (by decide) rfl (fun ls hl => ?_)
      refine lv_ldc S.1 S.2.1 S.2.2.2.1 (S.2.2.2.2 _ k324) dL_repeatLast_15 ?_
      exact z_wiw hQ S (Nat.le_of_ble_eq_true rfl) (Nat.le_of_ble_eq_true rfl) hr hlk (zn_int _) hSn hCn ⟨_, hPn, Or.inr ⟨h0, rfl, yNoc.no hI⟩⟩ dL_repeatLast_17
    have h10 := zVn_6 (z 0) a b 0
    have hE := hE.trans (show zXn (zVd (z 0) 6 a b 0) = "java/lang/UnsupportedOperationException" from (by rw [zXn, if_neg h9, if_neg h10]))
    subst hE
    refine z_ct (hh := [(3, 10, 13, 17), (3, 10, 18, 19)]) S hZ (by decide) [⟨3, 10, 13, 17⟩] ⟨3, 10, 18, 19⟩ [] hex rfl (fun x9 hx9 => by
        rcases List.mem_cons.mp hx9 with e9 | hx9
        · rw [e9]; exact Or.inr ⟨(by decide : (17 : Nat) ≠ 0), "java/lang/IllegalArgumentException", k322, by decide⟩
        cases hx9) rfl (by decide : (19 : Nat) ≠ 0) k323 hce hcv hcl ?_
    show W p l e R s m args below meth c H1 locs1 (0 + 1) (0 + 6) Q (F0 m 18 ls [.ref (q9)])
    refine lv_astore (lv' := [(4, .ref (q9)), (3, .int (-100000000)), (0, .ref (o)), (1, .int (nI (a))), (2, .int (nI (b)))]) S.1 S.2.1 dL_repeatLast_18 hl (by decide) rfl (fun ls hl => ?_)
    refine lv_ldc S.1 S.2.1 S.2.2.2.1 (S.2.2.2.2 _ k324) dL_repeatLast_20 ?_
    exact z_wiw hQ S (Nat.le_of_ble_eq_true rfl) (Nat.le_of_ble_eq_true rfl) hr hlk (zn_int _) hSn hCn ⟨_, hPn, Or.inr ⟨h0, rfl, yNoc.no hI⟩⟩ dL_repeatLast_22
theorem ci_L_knot : zCW yL_knot cL_knot 5 (some .int) [(3, 10, 13, 25), (3, 10, 18, 19)] 3 := ⟨k686, k0, by decide +kernel⟩
theorem cv_L_knot : Cond.static yL_knot ∈ GW := k685
set_option maxRecDepth 20000 in
set_option maxHeartbeats 4000000 in
/-- knot -/
theorem c_L_knot (l : Launch) (hl0 : l.stackTraces = false) (g : ZG) {B : Nat} {o : Nat} (hB : B ≤ o) (z : zSt) (hI : yIv z) (a : Nat) (ha : a < 2 ^ 31) (b : Nat) (hb : b < 2 ^ 31) : Met l yL_knot (.codeWith yL_knot cL_knot 5 (some .int) [(3, 10, 13, 25), (3, 10, 18, 19)] :: GW) { frames := 9, cells := 1, slots := 6, locals := 171 } (va_Pc [.ref o, .int (nI a), .int (nI b)] (zPre g B (fun H => zSO g o z H))) (zX (fun w H => ∃ z9, zSO g o z9 H ∧ yAn z z9 (zVd (z 0) 7 a b 0) (zPf (z 0) 7 a b 0) w) o 152) 1 6 (zA B) := by
  refine zMetH (by decide) (Nat.le_of_ble_eq_true rfl) ?_
  intro p e R s m args below meth c Q ls hR hargs hQ S hr hlk hex hP hZ hS hl
  have hl : lv_has ls 5 [(0, .ref (o)), (1, .int (nI (a))), (2, .int (nI (b)))] := hl
  refine lv_ldc S.1 S.2.1 S.2.2.2.1 (S.2.2.2.2 _ k324) dL_knot_0 ?_
  refine lv_istore_n (lv' := [(3, .int (-100000000)), (0, .ref (o)), (1, .int (nI (a))), (2, .int (nI (b)))]) S.1 S.2.1 dL_knot_2 rfl hl (by decide) rfl (fun ls hl => ?_)
  refine lv_aload_n S.1 S.2.1 dL_knot_3 rfl (lv_at hl 1 rfl) ?_
  refine lv_iload_n S.1 S.2.1 dL_knot_4 rfl (lv_at hl 2 rfl) ?_
  refine lv_iload_n S.1 S.2.1 dL_knot_5 rfl (lv_at hl 3 rfl) ?_
  by_cases h0 : (zVd (z 0) 7 a b 0).1 = 0
  · refine z_w1 (v0 := some (.int (nI (zPf (z 0) 7 a b 0).2))) (rest := []) (As := [.int (nI (a)), .int (nI (b))]) S hZ hS (c_knot_ok l g hB z hI.1 a ha b hb h0) hB ci_X11_knot cv_X11_knot k687 ⟨rfl, rfl, by rw [hR]; exact Nat.le_of_ble_eq_true rfl, by rw [hR]; exact Nat.le_of_ble_eq_true rfl⟩ hP (hP.1.recv hZ.1 0 (by decide) rfl rfl rfl) hl.1 rfl (Nat.le_of_ble_eq_true rfl) dL_knot_6 ⟨by rw [hR]; exact Nat.le_of_ble_eq_true rfl, by rw [hR]; exact Nat.le_of_ble_eq_true rfl⟩ rfl (fun H1 locs1 hPn hCn hSn => ?_)
    refine lv_istore_n (lv' := [(3, .int (nI ((zPf (z 0) 7 a b 0).2))), (0, .ref (o)), (1, .int (nI (a))), (2, .int (nI (b)))]) S.1 S.2.1 dL_knot_9 rfl hl (by decide) rfl (fun ls hl => ?_)
    refine lv_goto (tgt := 23) S.1 S.2.1 dL_knot_10 (by decide) ?_
    refine lv_iload_n S.1 S.2.1 dL_knot_23 rfl (lv_at hl 0 rfl) ?_
    exact z_wiw hQ S (Nat.le_of_ble_eq_true rfl) (Nat.le_of_ble_eq_true rfl) hr hlk (zn_int _) hSn hCn ⟨_, hPn, Or.inl ⟨h0, rfl, yCh.cg hI (zPf_ok hI.ok h0)⟩⟩ dL_knot_24
  · refine z_xV (rest := []) (As := [.int (nI (a)), .int (nI (b))]) S hZ hS (c_knot_no l hl0 g hB z hI.1 a ha b hb h0) hB ci_X11_knot cv_X11_knot k687 ⟨rfl, rfl, by rw [hR]; exact Nat.le_of_ble_eq_true rfl, by rw [hR]; exact Nat.le_of_ble_eq_true rfl⟩ hP (hP.1.recv hZ.1 0 (by decide) rfl rfl rfl) hl.1 rfl (Nat.le_of_ble_eq_true rfl) dL_knot_6 ⟨by rw [hR]; exact Nat.le_of_ble_eq_true rfl, by rw [hR]; exact Nat.le_of_ble_eq_true rfl⟩ (fun E ce q9 H1 locs1 hPx hCn hSn hce hcv hcl => ?_)
    obtain ⟨hE, hPn⟩ := hPx
    have h9 := zVn_7 (z 0) a b 0
    by_cases h10 : (zVd (z 0) 7 a b 0).1 = 10
    · have hE := hE.trans (show zXn (zVd (z 0) 7 a b 0) = "java/lang/IndexOutOfBoundsException" from (by rw [zXn, if_neg h9, if_pos h10]))
      subst hE
      refine z_ct (hh := [(3, 10, 13, 25), (3, 10, 18, 19)]) S hZ (by decide) [] ⟨3, 10, 13, 25⟩ [⟨3, 10, 18, 19⟩] hex rfl (fun x9 hx9 => by cases hx9) rfl (by decide : (25 : Nat) ≠ 0) k630 hce hcv hcl ?_
      show W p l e R s m args below meth c H1 locs1 (0 + 1) (0 + 6) Q (F0 m 13 ls [.ref (q9)])
      refine lv_astore (lv' := [(4, .ref (q9)), (3, .int (-100000000)), (0, .ref (o)), (1, .int (nI (a))), (2, .int (nI (b)))]) S.1 S.2.1 dL_knot_13 hl (by decide) rfl (fun ls hl => ?_)
      refine lv_ldc S.1 S.2.1 S.2.2.2.1 (S.2.2.2.2 _ k324) dL_knot_15 ?_
      exact z_wiw hQ S (Nat.le_of_ble_eq_true rfl) (Nat.le_of_ble_eq_true rfl) hr hlk (zn_int _) hSn hCn ⟨_, hPn, Or.inr ⟨h0, rfl, yNoc.no hI⟩⟩ dL_knot_17
    have hE := hE.trans (show zXn (zVd (z 0) 7 a b 0) = "java/lang/UnsupportedOperationException" from (by rw [zXn, if_neg h9, if_neg h10]))
    subst hE
    refine z_ct (hh := [(3, 10, 13, 25), (3, 10, 18, 19)]) S hZ (by decide) [⟨3, 10, 13, 25⟩] ⟨3, 10, 18, 19⟩ [] hex rfl (fun x9 hx9 => by
        rcases List.mem_cons.mp hx9 with e9 | hx9
        · rw [e9]; exact Or.inr ⟨(by decide : (25 : Nat) ≠ 0), "java/lang/IndexOutOfBoundsException", k630, by decide⟩
        cases hx9) rfl (by decide : (19 : Nat) ≠ 0) k323 hce hcv hcl ?_
    show W p l e R s m args below meth c H1 locs1 (0 + 1) (0 + 6) Q (F0 m 18 ls [.ref (q9)])
    refine lv_astore (lv' := [(4, .ref (q9)), (3, .int (-100000000)), (0, .ref (o)), (1, .int (nI (a))), (2, .int (nI (b)))]) S.1 S.2.1 dL_knot_18 hl (by decide) rfl (fun ls hl => ?_)
    refine lv_ldc S.1 S.2.1 S.2.2.2.1 (S.2.2.2.2 _ k324) dL_knot_20 ?_
    exact z_wiw hQ S (Nat.le_of_ble_eq_true rfl) (Nat.le_of_ble_eq_true rfl) hr hlk (zn_int _) hSn hCn ⟨_, hPn, Or.inr ⟨h0, rfl, yNoc.no hI⟩⟩ dL_knot_22
theorem ci_L_untie : zCW yL_untie cL_untie 5 (some .int) [(3, 10, 13, 25), (3, 10, 18, 19)] 3 := ⟨k917, k0, by decide +kernel⟩
theorem cv_L_untie : Cond.static yL_untie ∈ GW := k916
set_option maxRecDepth 20000 in
set_option maxHeartbeats 4000000 in
/-- untie -/
theorem c_L_untie (l : Launch) (hl0 : l.stackTraces = false) (g : ZG) {B : Nat} {o : Nat} (hB : B ≤ o) (z : zSt) (hI : yIv z) (a : Nat) (ha : a < 2 ^ 31) (b : Nat) (hb : b < 2 ^ 31) : Met l yL_untie (.codeWith yL_untie cL_untie 5 (some .int) [(3, 10, 13, 25), (3, 10, 18, 19)] :: GW) { frames := 9, cells := 1, slots := 6, locals := 171 } (va_Pc [.ref o, .int (nI a), .int (nI b)] (zPre g B (fun H => zSO g o z H))) (zX (fun w H => ∃ z9, zSO g o z9 H ∧ yAn z z9 (zVd (z 0) 8 a b 0) (zPf (z 0) 8 a b 0) w) o 152) 1 6 (zA B) := by
  refine zMetH (by decide) (Nat.le_of_ble_eq_true rfl) ?_
  intro p e R s m args below meth c Q ls hR hargs hQ S hr hlk hex hP hZ hS hl
  have hl : lv_has ls 5 [(0, .ref (o)), (1, .int (nI (a))), (2, .int (nI (b)))] := hl
  refine lv_ldc S.1 S.2.1 S.2.2.2.1 (S.2.2.2.2 _ k324) dL_untie_0 ?_
  refine lv_istore_n (lv' := [(3, .int (-100000000)), (0, .ref (o)), (1, .int (nI (a))), (2, .int (nI (b)))]) S.1 S.2.1 dL_untie_2 rfl hl (by decide) rfl (fun ls hl => ?_)
  refine lv_aload_n S.1 S.2.1 dL_untie_3 rfl (lv_at hl 1 rfl) ?_
  refine lv_iload_n S.1 S.2.1 dL_untie_4 rfl (lv_at hl 2 rfl) ?_
  refine lv_iload_n S.1 S.2.1 dL_untie_5 rfl (lv_at hl 3 rfl) ?_
  by_cases h0 : (zVd (z 0) 8 a b 0).1 = 0
  · refine z_w1 (v0 := some (.int (nI (zPf (z 0) 8 a b 0).2))) (rest := []) (As := [.int (nI (a)), .int (nI (b))]) S hZ hS (c_untie_ok l g hB z hI.1 a ha b hb h0) hB ci_X11_untie cv_X11_untie k918 ⟨rfl, rfl, by rw [hR]; exact Nat.le_of_ble_eq_true rfl, by rw [hR]; exact Nat.le_of_ble_eq_true rfl⟩ hP (hP.1.recv hZ.1 0 (by decide) rfl rfl rfl) hl.1 rfl (Nat.le_of_ble_eq_true rfl) dL_untie_6 ⟨by rw [hR]; exact Nat.le_of_ble_eq_true rfl, by rw [hR]; exact Nat.le_of_ble_eq_true rfl⟩ rfl (fun H1 locs1 hPn hCn hSn => ?_)
    refine lv_istore_n (lv' := [(3, .int (nI ((zPf (z 0) 8 a b 0).2))), (0, .ref (o)), (1, .int (nI (a))), (2, .int (nI (b)))]) S.1 S.2.1 dL_untie_9 rfl hl (by decide) rfl (fun ls hl => ?_)
    refine lv_goto (tgt := 23) S.1 S.2.1 dL_untie_10 (by decide) ?_
    refine lv_iload_n S.1 S.2.1 dL_untie_23 rfl (lv_at hl 0 rfl) ?_
    exact z_wiw hQ S (Nat.le_of_ble_eq_true rfl) (Nat.le_of_ble_eq_true rfl) hr hlk (zn_int _) hSn hCn ⟨_, hPn, Or.inl ⟨h0, rfl, yCh.cg hI (zPf_ok hI.ok h0)⟩⟩ dL_untie_24
  · refine z_xV (rest := []) (As := [.int (nI (a)), .int (nI (b))]) S hZ hS (c_untie_no l hl0 g hB z hI.1 a ha b hb h0) hB ci_X11_untie cv_X11_untie k918 ⟨rfl, rfl, by rw [hR]; exact Nat.le_of_ble_eq_true rfl, by rw [hR]; exact Nat.le_of_ble_eq_true rfl⟩ hP (hP.1.recv hZ.1 0 (by decide) rfl rfl rfl) hl.1 rfl (Nat.le_of_ble_eq_true rfl) dL_untie_6 ⟨by rw [hR]; exact Nat.le_of_ble_eq_true rfl, by rw [hR]; exact Nat.le_of_ble_eq_true rfl⟩ (fun E ce q9 H1 locs1 hPx hCn hSn hce hcv hcl => ?_)
    obtain ⟨hE, hPn⟩ := hPx
    have h9 := zVn_8 (z 0) a b 0
    by_cases h10 : (zVd (z 0) 8 a b 0).1 = 10
    · have hE := hE.trans (show zXn (zVd (z 0) 8 a b 0) = "java/lang/IndexOutOfBoundsException" from (by rw [zXn, if_neg h9, if_pos h10]))
      subst hE
      refine z_ct (hh := [(3, 10, 13, 25), (3, 10, 18, 19)]) S hZ (by decide) [] ⟨3, 10, 13, 25⟩ [⟨3, 10, 18, 19⟩] hex rfl (fun x9 hx9 => by cases hx9) rfl (by decide : (25 : Nat) ≠ 0) k630 hce hcv hcl ?_
      show W p l e R s m args below meth c H1 locs1 (0 + 1) (0 + 6) Q (F0 m 13 ls [.ref (q9)])
      refine lv_astore (lv' := [(4, .ref (q9)), (3, .int (-100000000)), (0, .ref (o)), (1, .int (nI (a))), (2, .int (nI (b)))]) S.1 S.2.1 dL_untie_13 hl (by decide) rfl (fun ls hl => ?_)
      refine lv_ldc S.1 S.2.1 S.2.2.2.1 (S.2.2.2.2 _ k324) dL_untie_15 ?_
      exact z_wiw hQ S (Nat.le_of_ble_eq_true rfl) (Nat.le_of_ble_eq_true rfl) hr hlk (zn_int _) hSn hCn ⟨_, hPn, Or.inr ⟨h0, rfl, yNoc.no hI⟩⟩ dL_untie_17
    have hE := hE.trans (show zXn (zVd (z 0) 8 a b 0) = "java/lang/UnsupportedOperationException" from (by rw [zXn, if_neg h9, if_neg h10]))
    subst hE
    refine z_ct (hh := [(3, 10, 13, 25), (3, 10, 18, 19)]) S hZ (by decide) [⟨3, 10, 13, 25⟩] ⟨3, 10, 18, 19⟩ [] hex rfl (fun x9 hx9 => by
        rcases List.mem_cons.mp hx9 with e9 | hx9
        · rw [e9]; exact Or.inr ⟨(by decide : (25 : Nat) ≠ 0), "java/lang/IndexOutOfBoundsException", k630, by decide⟩
        cases hx9) rfl (by decide : (19 : Nat) ≠ 0) k323 hce hcv hcl ?_
    show W p l e R s m args below meth c H1 locs1 (0 + 1) (0 + 6) Q (F0 m 18 ls [.ref (q9)])
    refine lv_astore (lv' := [(4, .ref (q9)), (3, .int (-100000000)), (0, .ref (o)), (1, .int (nI (a))), (2, .int (nI (b)))]) S.1 S.2.1 dL_untie_18 hl (by decide) rfl (fun ls hl => ?_)
    refine lv_ldc S.1 S.2.1 S.2.2.2.1 (S.2.2.2.2 _ k324) dL_untie_20 ?_
    exact z_wiw hQ S (Nat.le_of_ble_eq_true rfl) (Nat.le_of_ble_eq_true rfl) hr hlk (zn_int _) hSn hCn ⟨_, hPn, Or.inr ⟨h0, rfl, yNoc.no hI⟩⟩ dL_untie_22
theorem ci_L_mend : zCW yL_mend cL_mend 4 (some .int) [(3, 9, 12, 17), (3, 9, 16, 19)] 2 := ⟨k927, k0, by decide +kernel⟩
theorem cv_L_mend : Cond.static yL_mend ∈ GW := k926
set_option maxRecDepth 20000 in
set_option maxHeartbeats 4000000 in
/-- mend -/
theorem c_L_mend (l : Launch) (hl0 : l.stackTraces = false) (g : ZG) {B : Nat} {o : Nat} (hB : B ≤ o) (z : zSt) (hI : yIv z) (a : Nat) (ha : a < 65536) : Met l yL_mend (.codeWith yL_mend cL_mend 4 (some .int) [(3, 9, 12, 17), (3, 9, 16, 19)] :: GW) { frames := 9, cells := 1, slots := 6, locals := 170 } (va_Pc [.ref o, .int (nI a)] (zPre g B (fun H => zSO g o z H))) (zX (fun w H => ∃ z9, zSO g o z9 H ∧ yAn z z9 (zVd (z 0) 9 a 0 0) (zPf (z 0) 9 a 0 0) w) o 152) 1 6 (zA B) := by
  refine zMetH (by decide) (Nat.le_of_ble_eq_true rfl) ?_
  intro p e R s m args below meth c Q ls hR hargs hQ S hr hlk hex hP hZ hS hl
  have hl : lv_has ls 4 [(0, .ref (o)), (1, .int (nI (a)))] := hl
  refine lv_ldc S.1 S.2.1 S.2.2.2.1 (S.2.2.2.2 _ k324) dL_mend_0 ?_
  refine lv_istore_n (lv' := [(2, .int (-100000000)), (0, .ref (o)), (1, .int (nI (a)))]) S.1 S.2.1 dL_mend_2 rfl hl (by decide) rfl (fun ls hl => ?_)
  refine lv_aload_n S.1 S.2.1 dL_mend_3 rfl (lv_at hl 1 rfl) ?_
  refine lv_iload_n S.1 S.2.1 dL_mend_4 rfl (lv_at hl 2 rfl) ?_
  by_cases h0 : (zVd (z 0) 9 a 0 0).1 = 0
  · refine z_w1 (v0 := some (.int (nI (zPf (z 0) 9 a 0 0).2))) (rest := []) (As := [.int (nI (a))]) S hZ hS (c_mend_ok l g hB z hI.1 a ha h0) hB ci_X11_mend cv_X11_mend k928 ⟨rfl, rfl, by rw [hR]; exact Nat.le_of_ble_eq_true rfl, by rw [hR]; exact Nat.le_of_ble_eq_true rfl⟩ hP (hP.1.recv hZ.1 0 (by decide) rfl rfl rfl) hl.1 rfl (Nat.le_of_ble_eq_true rfl) dL_mend_5 ⟨by rw [hR]; exact Nat.le_of_ble_eq_true rfl, by rw [hR]; exact Nat.le_of_ble_eq_true rfl⟩ rfl (fun H1 locs1 hPn hCn hSn => ?_)
    refine lv_istore_n (lv' := [(2, .int (nI ((zPf (z 0) 9 a 0 0).2))), (0, .ref (o)), (1, .int (nI (a)))]) S.1 S.2.1 dL_mend_8 rfl hl (by decide) rfl (fun ls hl => ?_)
    refine lv_goto (tgt := 20) S.1 S.2.1 dL_mend_9 (by decide) ?_
    refine lv_iload_n S.1 S.2.1 dL_mend_20 rfl (lv_at hl 0 rfl) ?_
    exact z_wiw hQ S (Nat.le_of_ble_eq_true rfl) (Nat.le_of_ble_eq_true rfl) hr hlk (zn_int _) hSn hCn ⟨_, hPn, Or.inl ⟨h0, rfl, yCh.cg hI (zPf_ok hI.ok h0)⟩⟩ dL_mend_21
  · refine z_xV (rest := []) (As := [.int (nI (a))]) S hZ hS (c_mend_no l hl0 g hB z hI.1 a ha h0) hB ci_X11_mend cv_X11_mend k928 ⟨rfl, rfl, by rw [hR]; exact Nat.le_of_ble_eq_true rfl, by rw [hR]; exact Nat.le_of_ble_eq_true rfl⟩ hP (hP.1.recv hZ.1 0 (by decide) rfl rfl rfl) hl.1 rfl (Nat.le_of_ble_eq_true rfl) dL_mend_5 ⟨by rw [hR]; exact Nat.le_of_ble_eq_true rfl, by rw [hR]; exact Nat.le_of_ble_eq_true rfl⟩ (fun E ce q9 H1 locs1 hPx hCn hSn hce hcv hcl => ?_)
    obtain ⟨hE, hPn⟩ := hPx
    by_cases h9 : (zVd (z 0) 9 a 0 0).1 = 9
    · have hE := hE.trans (show zXn (zVd (z 0) 9 a 0 0) = "java/lang/IllegalArgumentException" from (by rw [zXn, if_pos h9]))
      subst hE
      refine z_ct (hh := [(3, 9, 12, 17), (3, 9, 16, 19)]) S hZ (by decide) [] ⟨3, 9, 12, 17⟩ [⟨3, 9, 16, 19⟩] hex rfl (fun x9 hx9 => by cases hx9) rfl (by decide : (17 : Nat) ≠ 0) k322 hce hcv hcl ?_
      show W p l e R s m args below meth c H1 locs1 (0 + 1) (0 + 6) Q (F0 m 12 ls [.ref (q9)])
      refine lv_astore_n (lv' := [(3, .ref (q9)), (2, .int (-100000000)), (0, .ref (o)), (1, .int (nI (a)))]) S.1 S.2.1 dL_mend_12 rfl hl (by decide) rfl (fun ls hl => ?_)
      refine lv_ldc S.1 S.2.1 S.2.2.2.1 (S.2.2.2.2 _ k324) dL_mend_13 ?_
      exact z_wiw hQ S (Nat.le_of_ble_eq_true rfl) (Nat.le_of_ble_eq_true rfl) hr hlk (zn_int _) hSn hCn ⟨_, hPn, Or.inr ⟨h0, rfl, yNoc.no hI⟩⟩ dL_mend_15
    have h10 := zVn_9 (z 0) a 0 0
    have hE := hE.trans (show zXn (zVd (z 0) 9 a 0 0) = "java/lang/UnsupportedOperationException" from (by rw [zXn, if_neg h9, if_neg h10]))
    subst hE
    refine z_ct (hh := [(3, 9, 12, 17), (3, 9, 16, 19)]) S hZ (by decide) [⟨3, 9, 12, 17⟩] ⟨3, 9, 16, 19⟩ [] hex rfl (fun x9 hx9 => by
        rcases List.mem_cons.mp hx9 with e9 | hx9
        · rw [e9]; exact Or.inr ⟨(by decide : (17 : Nat) ≠ 0), "java/lang/IllegalArgumentException", k322, by decide⟩
        cases hx9) rfl (by decide : (19 : Nat) ≠ 0) k323 hce hcv hcl ?_
    show W p l e R s m args below meth c H1 locs1 (0 + 1) (0 + 6) Q (F0 m 16 ls [.ref (q9)])
    refine lv_astore_n (lv' := [(3, .ref (q9)), (2, .int (-100000000)), (0, .ref (o)), (1, .int (nI (a)))]) S.1 S.2.1 dL_mend_16 rfl hl (by decide) rfl (fun ls hl => ?_)
    refine lv_ldc S.1 S.2.1 S.2.2.2.1 (S.2.2.2.2 _ k324) dL_mend_17 ?_
    exact z_wiw hQ S (Nat.le_of_ble_eq_true rfl) (Nat.le_of_ble_eq_true rfl) hr hlk (zn_int _) hSn hCn ⟨_, hPn, Or.inr ⟨h0, rfl, yNoc.no hI⟩⟩ dL_mend_19
theorem ci_L_wickByWax : zCW yL_wickByWax cL_wickByWax 4 (some .int) [(4, 10, 13, 56)] 2 := ⟨k1007, k0, by decide +kernel⟩
theorem cv_L_wickByWax : Cond.static yL_wickByWax ∈ GW := k1006
theorem ci_L_nextKnotRow : zCW yL_nextKnotRow cL_nextKnotRow 4 (some .int) [(4, 10, 13, 25), (4, 10, 18, 56)] 2 := ⟨k1223, k0, by decide +kernel⟩
theorem cv_L_nextKnotRow : Cond.static yL_nextKnotRow ∈ GW := k1222
theorem ci_L_nextKnotColumn : zCW yL_nextKnotColumn cL_nextKnotColumn 4 (some .int) [(4, 10, 13, 25), (4, 10, 18, 56)] 2 := ⟨k1238, k0, by decide +kernel⟩
theorem cv_L_nextKnotColumn : Cond.static yL_nextKnotColumn ∈ GW := k1237
theorem ci_L_period : zCW yL_period cL_period 3 (some .int) [(4, 9, 12, 56)] 1 := ⟨k1163, k0, by decide +kernel⟩
theorem cv_L_period : Cond.static yL_period ∈ GW := k1162
theorem ci_L_periodByBorders : zCW yL_periodByBorders cL_periodByBorders 3 (some .int) [(4, 9, 12, 56)] 1 := ⟨k1174, k0, by decide +kernel⟩
theorem cv_L_periodByBorders : Cond.static yL_periodByBorders ∈ GW := k1173
theorem ci_L_occurrences : zCW yL_occurrences cL_occurrences 4 (some .int) [(4, 10, 13, 17)] 2 := ⟨k1189, k0, by decide +kernel⟩
theorem cv_L_occurrences : Cond.static yL_occurrences ∈ GW := k1188
theorem ci_L_meanRaised : zCW yL_meanRaised cL_meanRaised 4 (some .double) [(4, 9, 12, 80)] 1 := ⟨k1120, k0, by decide +kernel⟩
theorem cv_L_meanRaised : Cond.static yL_meanRaised ∈ GW := k1119
theorem ci_L_knotShare : zCW yL_knotShare cL_knotShare 3 (some .float) [(3, 8, 11, 80)] 1 := ⟨k1152, k0, by decide +kernel⟩
theorem cv_L_knotShare : Cond.static yL_knotShare ∈ GW := k1151
theorem ci_L_denial : zCW yL_denial cL_denial 3 (some .int) [(4, 9, 12, 56)] 1 := ⟨k800, k0, by decide +kernel⟩
theorem cv_L_denial : Cond.static yL_denial ∈ GW := k799
theorem ci_L_denialCause : zCW yL_denialCause cL_denialCause 3 (some .int) [(4, 9, 12, 56)] 1 := ⟨k827, k0, by decide +kernel⟩
theorem cv_L_denialCause : Cond.static yL_denialCause ∈ GW := k826
theorem ci_L_undo : zCW yL_undo cL_undo 3 (some .int) [(3, 8, 11, 99)] 1 := ⟨k834, k0, by decide +kernel⟩
theorem cv_L_undo : Cond.static yL_undo ∈ GW := k833
theorem ci_L_restore : zCW yL_restore cL_restore 3 (some .int) [(3, 8, 11, 99)] 1 := ⟨k865, k0, by decide +kernel⟩
theorem cv_L_restore : Cond.static yL_restore ∈ GW := k864
theorem ci_L_execute : zCW yL_execute cL_execute 3 (some .int) [(3, 8, 11, 17), (3, 8, 15, 19)] 1 := ⟨k695, k0, by decide +kernel⟩
theorem cv_L_execute : Cond.static yL_execute ∈ GW := k694
theorem ci_L_put : zCW yL_put cL_put 3 (some .boolean) [(0, 6, 9, 99)] 2 := ⟨k881, k0, by decide +kernel⟩
theorem cv_L_put : Cond.static yL_put ∈ GW := k880
set_option maxRecDepth 20000 in
set_option maxHeartbeats 4000000 in
/-- wickByWax, it answers -/
theorem c_L_wickByWax (l : Launch) (hl0 : l.stackTraces = false) (g : ZG) {B : Nat} {o : Nat} (z : zSt) (hv : zOk (z 0)) (i : Nat) (hi : i < z 0 1 0 4) : Met l yL_wickByWax (.codeWith yL_wickByWax cL_wickByWax 4 (some .int) [(4, 10, 13, 56)] :: GW) { frames := 4, cells := 0, slots := 0, locals := 88 } (va_Pc [.ref o, .int (nI (i))] (zPre g B (fun H => zSO g o z H))) (zR (some (.int (nI (zAt (z 0 1) i))))) 0 0 (fun _ => False) := by
  refine zMetH (by decide) (Nat.le_of_ble_eq_true rfl) ?_
  intro p e R s m args below meth c Q ls hR hargs hQ S hr hlk hex hP hZ hS hl
  have hl : lv_has ls 4 [(0, .ref (o)), (1, .int (nI (i)))] := hl
  refine lv_sipush (v := -1000) S.1 S.2.1 dL_wickByWax_0 (by decide) ?_
  refine lv_istore_n (lv' := [(2, .int (-1000)), (0, .ref (o)), (1, .int (nI (i)))]) S.1 S.2.1 dL_wickByWax_3 rfl hl (by decide) rfl (fun ls hl => ?_)
  refine lv_aload_n S.1 S.2.1 dL_wickByWax_4 rfl (lv_at hl 1 rfl) ?_
  refine lv_iload_n S.1 S.2.1 dL_wickByWax_5 rfl (lv_at hl 2 rfl) ?_
  refine z_cV (v := some (.int (nI (zAt (z 0 1) i)))) (rest := []) (As := [.int (nI (i))]) S hZ hS (c_wickByWax l g z hv i hi) ci_X11_wickByWax cv_X11_wickByWax k1008 ⟨rfl, rfl, by rw [hR]; decide, by rw [hR]; decide⟩ hP (hP.1.recv hZ.1 0 (by decide) rfl rfl rfl) hl.1 rfl (Nat.le_of_ble_eq_true rfl) dL_wickByWax_6 ⟨by rw [hR]; decide, by rw [hR]; decide⟩ rfl ?_
  refine lv_istore_n (lv' := [(2, .int (nI (zAt (z 0 1) i))), (0, .ref (o)), (1, .int (nI (i)))]) S.1 S.2.1 dL_wickByWax_9 rfl hl (by decide) rfl (fun ls hl => ?_)
  refine lv_goto (tgt := 18) S.1 S.2.1 dL_wickByWax_10 (by decide) ?_
  refine lv_iload_n S.1 S.2.1 dL_wickByWax_18 rfl (lv_at hl 0 rfl) ?_
  exact z_ri hQ S hr hlk (zn_int _) rfl dL_wickByWax_19
set_option maxRecDepth 20000 in
set_option maxHeartbeats 4000000 in
/-- wickByWax, it has none -/
theorem c_L_wickByWax_no (l : Launch) (hl0 : l.stackTraces = false) (g : ZG) {B : Nat} {o : Nat} (hB : B ≤ o) (z : zSt) (hv : zOk (z 0)) (i : Nat) (hi : z 0 1 0 4 ≤ i) (hi2 : i < 2 ^ 31) : Met l yL_wickByWax (.codeWith yL_wickByWax cL_wickByWax 4 (some .int) [(4, 10, 13, 56)] :: GW) { frames := 9, cells := 1, slots := 6, locals := 167 } (va_Pc [.ref o, .int (nI (i))] (zPre g B (fun H => zSO g o z H))) (zX (fun w H => w = some (.int (-1000)) ∧ zSO g o z H) o 152) 1 6 (zA B) := by
  refine zMetH (by decide) (Nat.le_of_ble_eq_true rfl) ?_
  intro p e R s m args below meth c Q ls hR hargs hQ S hr hlk hex hP hZ hS hl
  have hl : lv_has ls 4 [(0, .ref (o)), (1, .int (nI (i)))] := hl
  refine lv_sipush (v := -1000) S.1 S.2.1 dL_wickByWax_0 (by decide) ?_
  refine lv_istore_n (lv' := [(2, .int (-1000)), (0, .ref (o)), (1, .int (nI (i)))]) S.1 S.2.1 dL_wickByWax_3 rfl hl (by decide) rfl (fun ls hl => ?_)
  refine lv_aload_n S.1 S.2.1 dL_wickByWax_4 rfl (lv_at hl 1 rfl) ?_
  refine lv_iload_n S.1 S.2.1 dL_wickByWax_5 rfl (lv_at hl 2 rfl) ?_
  refine z_xV (rest := []) (As := [.int (nI (i))]) S hZ hS (c_wickByWax_no l hl0 g z hv i hi hi2) (Nat.le_refl B) ci_X11_wickByWax cv_X11_wickByWax k1008 ⟨rfl, rfl, by rw [hR]; exact Nat.le_of_ble_eq_true rfl, by rw [hR]; exact Nat.le_of_ble_eq_true rfl⟩ hP (hP.1.recv hZ.1 0 (by decide) rfl rfl rfl) hl.1 rfl (Nat.le_of_ble_eq_true rfl) dL_wickByWax_6 ⟨by rw [hR]; exact Nat.le_of_ble_eq_true rfl, by rw [hR]; exact Nat.le_of_ble_eq_true rfl⟩ (fun E ce q9 H1 locs1 hPx hCn hSn hce hcv hcl => ?_)
  subst hPx
  refine z_ct (hh := [(4, 10, 13, 56)]) S hZ (by decide) [] ⟨4, 10, 13, 56⟩ [] hex rfl (fun x9 hx9 => by cases hx9) rfl (by decide : (56 : Nat) ≠ 0) k801 hce hcv hcl ?_
  show W p l e R s m args below meth c H1 locs1 (0 + 1) (0 + 6) Q (F0 m 13 ls [.ref (q9)])
  refine lv_astore_n (lv' := [(3, .ref (q9)), (2, .int (-1000)), (0, .ref (o)), (1, .int (nI (i)))]) S.1 S.2.1 dL_wickByWax_13 rfl hl (by decide) rfl (fun ls hl => ?_)
  refine lv_sipush (v := -1000) S.1 S.2.1 dL_wickByWax_14 (by decide) ?_
  exact z_wiw hQ S (Nat.le_of_ble_eq_true rfl) (Nat.le_of_ble_eq_true rfl) hr hlk (zn_int _) hSn hCn.z0 ⟨rfl, hP.kept hCn (by omega)⟩ dL_wickByWax_17
set_option maxRecDepth 20000 in
set_option maxHeartbeats 4000000 in
/-- wickByWax, it has none -/
theorem c_L_wickByWax_neg (l : Launch) (hl0 : l.stackTraces = false) (g : ZG) {B : Nat} {o : Nat} (hB : B ≤ o) (z : zSt) (hv : zOk (z 0))  : Met l yL_wickByWax (.codeWith yL_wickByWax cL_wickByWax 4 (some .int) [(4, 10, 13, 56)] :: GW) { frames := 9, cells := 1, slots := 6, locals := 167 } (va_Pc [.ref o, .int (-1)] (zPre g B (fun H => zSO g o z H))) (zX (fun w H => w = some (.int (-1000)) ∧ zSO g o z H) o 152) 1 6 (zA B) := by
  refine zMetH (by decide) (Nat.le_of_ble_eq_true rfl) ?_
  intro p e R s m args below meth c Q ls hR hargs hQ S hr hlk hex hP hZ hS hl
  have hl : lv_has ls 4 [(0, .ref (o)), (1, .int (-1))] := hl
  refine lv_sipush (v := -1000) S.1 S.2.1 dL_wickByWax_0 (by decide) ?_
  refine lv_istore_n (lv' := [(2, .int (-1000)), (0, .ref (o)), (1, .int (-1))]) S.1 S.2.1 dL_wickByWax_3 rfl hl (by decide) rfl (fun ls hl => ?_)
  refine lv_aload_n S.1 S.2.1 dL_wickByWax_4 rfl (lv_at hl 1 rfl) ?_
  refine lv_iload_n S.1 S.2.1 dL_wickByWax_5 rfl (lv_at hl 2 rfl) ?_
  refine z_xV (rest := []) (As := [.int (-1)]) S hZ hS (c_wickByWax_neg l hl0 g z hv) (Nat.le_refl B) ci_X11_wickByWax cv_X11_wickByWax k1008 ⟨rfl, rfl, by rw [hR]; exact Nat.le_of_ble_eq_true rfl, by rw [hR]; exact Nat.le_of_ble_eq_true rfl⟩ hP (hP.1.recv hZ.1 0 (by decide) rfl rfl rfl) hl.1 rfl (Nat.le_of_ble_eq_true rfl) dL_wickByWax_6 ⟨by rw [hR]; exact Nat.le_of_ble_eq_true rfl, by rw [hR]; exact Nat.le_of_ble_eq_true rfl⟩ (fun E ce q9 H1 locs1 hPx hCn hSn hce hcv hcl => ?_)
  subst hPx
  refine z_ct (hh := [(4, 10, 13, 56)]) S hZ (by decide) [] ⟨4, 10, 13, 56⟩ [] hex rfl (fun x9 hx9 => by cases hx9) rfl (by decide : (56 : Nat) ≠ 0) k801 hce hcv hcl ?_
  show W p l e R s m args below meth c H1 locs1 (0 + 1) (0 + 6) Q (F0 m 13 ls [.ref (q9)])
  refine lv_astore_n (lv' := [(3, .ref (q9)), (2, .int (-1000)), (0, .ref (o)), (1, .int (-1))]) S.1 S.2.1 dL_wickByWax_13 rfl hl (by decide) rfl (fun ls hl => ?_)
  refine lv_sipush (v := -1000) S.1 S.2.1 dL_wickByWax_14 (by decide) ?_
  exact z_wiw hQ S (Nat.le_of_ble_eq_true rfl) (Nat.le_of_ble_eq_true rfl) hr hlk (zn_int _) hSn hCn.z0 ⟨rfl, hP.kept hCn (by omega)⟩ dL_wickByWax_17
set_option maxRecDepth 20000 in
set_option maxHeartbeats 4000000 in
/-- nextKnotRow, it answers -/
theorem c_L_nextKnotRow (l : Launch) (hl0 : l.stackTraces = false) (g : ZG) {B : Nat} {o : Nat} (z : zSt) (hv : zOk (z 0)) (a b : Nat) (hab : a ≤ b) (hb : b < z 0 2 0 3) (hno : ∀ k, a ≤ k → k < b → z 0 2 3 k = 0) (hyes : ¬ z 0 2 3 b = 0) : Met l yL_nextKnotRow (.codeWith yL_nextKnotRow cL_nextKnotRow 4 (some .int) [(4, 10, 13, 25), (4, 10, 18, 56)] :: GW) { frames := 3, cells := 0, slots := 0, locals := 65 } (va_Pc [.ref o, .int (nI (a))] (zPre g B (fun H => zSO g o z H))) (zR (some (.int (nI (b))))) 0 0 (fun _ => False) := by
  refine zMetH (by decide) (Nat.le_of_ble_eq_true rfl) ?_
  intro p e R s m args below meth c Q ls hR hargs hQ S hr hlk hex hP hZ hS hl
  have hl : lv_has ls 4 [(0, .ref (o)), (1, .int (nI (a)))] := hl
  refine lv_sipush (v := -1000) S.1 S.2.1 dL_nextKnotRow_0 (by decide) ?_
  refine lv_istore_n (lv' := [(2, .int (-1000)), (0, .ref (o)), (1, .int (nI (a)))]) S.1 S.2.1 dL_nextKnotRow_3 rfl hl (by decide) rfl (fun ls hl => ?_)
  refine lv_aload_n S.1 S.2.1 dL_nextKnotRow_4 rfl (lv_at hl 1 rfl) ?_
  refine lv_iload_n S.1 S.2.1 dL_nextKnotRow_5 rfl (lv_at hl 2 rfl) ?_
  refine z_cV (v := some (.int (nI (b)))) (rest := []) (As := [.int (nI (a))]) S hZ hS (c_nextKnotRow l g z hv a b hab hb hno hyes) ci_X11_nextKnotRow cv_X11_nextKnotRow k1224 ⟨rfl, rfl, by rw [hR]; decide, by rw [hR]; decide⟩ hP (hP.1.recv hZ.1 0 (by decide) rfl rfl rfl) hl.1 rfl (Nat.le_of_ble_eq_true rfl) dL_nextKnotRow_6 ⟨by rw [hR]; decide, by rw [hR]; decide⟩ rfl ?_
  refine lv_istore_n (lv' := [(2, .int (nI (b))), (0, .ref (o)), (1, .int (nI (a)))]) S.1 S.2.1 dL_nextKnotRow_9 rfl hl (by decide) rfl (fun ls hl => ?_)
  refine lv_goto (tgt := 23) S.1 S.2.1 dL_nextKnotRow_10 (by decide) ?_
  refine lv_iload_n S.1 S.2.1 dL_nextKnotRow_23 rfl (lv_at hl 0 rfl) ?_
  exact z_ri hQ S hr hlk (zn_int _) rfl dL_nextKnotRow_24
set_option maxRecDepth 20000 in
set_option maxHeartbeats 4000000 in
/-- nextKnotRow, it has none -/
theorem c_L_nextKnotRow_out (l : Launch) (hl0 : l.stackTraces = false) (g : ZG) {B : Nat} {o : Nat} (hB : B ≤ o) (z : zSt) (hv : zOk (z 0)) (a : Nat) (ha : z 0 2 0 3 ≤ a) (ha2 : a < 2 ^ 31) : Met l yL_nextKnotRow (.codeWith yL_nextKnotRow cL_nextKnotRow 4 (some .int) [(4, 10, 13, 25), (4, 10, 18, 56)] :: GW) { frames := 10, cells := 1, slots := 6, locals := 192 } (va_Pc [.ref o, .int (nI (a))] (zPre g B (fun H => zSO g o z H))) (zX (fun w H => w = some (.int (-1000)) ∧ zSO g o z H) o 152) 1 6 (zA B) := by
  refine zMetH (by decide) (Nat.le_of_ble_eq_true rfl) ?_
  intro p e R s m args below meth c Q ls hR hargs hQ S hr hlk hex hP hZ hS hl
  have hl : lv_has ls 4 [(0, .ref (o)), (1, .int (nI (a)))] := hl
  refine lv_sipush (v := -1000) S.1 S.2.1 dL_nextKnotRow_0 (by decide) ?_
  refine lv_istore_n (lv' := [(2, .int (-1000)), (0, .ref (o)), (1, .int (nI (a)))]) S.1 S.2.1 dL_nextKnotRow_3 rfl hl (by decide) rfl (fun ls hl => ?_)
  refine lv_aload_n S.1 S.2.1 dL_nextKnotRow_4 rfl (lv_at hl 1 rfl) ?_
  refine lv_iload_n S.1 S.2.1 dL_nextKnotRow_5 rfl (lv_at hl 2 rfl) ?_
  refine z_xV (rest := []) (As := [.int (nI (a))]) S hZ hS (c_nextKnotRow_out l hl0 g z hv a ha ha2) (Nat.le_refl B) ci_X11_nextKnotRow cv_X11_nextKnotRow k1224 ⟨rfl, rfl, by rw [hR]; exact Nat.le_of_ble_eq_true rfl, by rw [hR]; exact Nat.le_of_ble_eq_true rfl⟩ hP (hP.1.recv hZ.1 0 (by decide) rfl rfl rfl) hl.1 rfl (Nat.le_of_ble_eq_true rfl) dL_nextKnotRow_6 ⟨by rw [hR]; exact Nat.le_of_ble_eq_true rfl, by rw [hR]; exact Nat.le_of_ble_eq_true rfl⟩ (fun E ce q9 H1 locs1 hPx hCn hSn hce hcv hcl => ?_)
  subst hPx
  refine z_ct (hh := [(4, 10, 13, 25), (4, 10, 18, 56)]) S hZ (by decide) [] ⟨4, 10, 13, 25⟩ [⟨4, 10, 18, 56⟩] hex rfl (fun x9 hx9 => by cases hx9) rfl (by decide : (25 : Nat) ≠ 0) k630 hce hcv hcl ?_
  show W p l e R s m args below meth c H1 locs1 (0 + 1) (0 + 6) Q (F0 m 13 ls [.ref (q9)])
  refine lv_astore_n (lv' := [(3, .ref (q9)), (2, .int (-1000)), (0, .ref (o)), (1, .int (nI (a)))]) S.1 S.2.1 dL_nextKnotRow_13 rfl hl (by decide) rfl (fun ls hl => ?_)
  refine lv_sipush (v := -1000) S.1 S.2.1 dL_nextKnotRow_14 (by decide) ?_
  exact z_wiw hQ S (Nat.le_of_ble_eq_true rfl) (Nat.le_of_ble_eq_true rfl) hr hlk (zn_int _) hSn hCn.z0 ⟨rfl, hP.kept hCn (by omega)⟩ dL_nextKnotRow_17
set_option maxRecDepth 20000 in
set_option maxHeartbeats 4000000 in
/-- nextKnotRow, it has none -/
theorem c_L_nextKnotRow_no (l : Launch) (hl0 : l.stackTraces = false) (g : ZG) {B : Nat} {o : Nat} (hB : B ≤ o) (z : zSt) (hv : zOk (z 0)) (a : Nat) (ha : a < z 0 2 0 3) (hno : ∀ k, a ≤ k → k < z 0 2 0 3 → z 0 2 3 k = 0) : Met l yL_nextKnotRow (.codeWith yL_nextKnotRow cL_nextKnotRow 4 (some .int) [(4, 10, 13, 25), (4, 10, 18, 56)] :: GW) { frames := 10, cells := 1, slots := 6, locals := 192 } (va_Pc [.ref o, .int (nI (a))] (zPre g B (fun H => zSO g o z H))) (zX (fun w H => w = some (.int (-1000)) ∧ zSO g o z H) o 152) 1 6 (zA B) := by
  refine zMetH (by decide) (Nat.le_of_ble_eq_true rfl) ?_
  intro p e R s m args below meth c Q ls hR hargs hQ S hr hlk hex hP hZ hS hl
  have hl : lv_has ls 4 [(0, .ref (o)), (1, .int (nI (a)))] := hl
  refine lv_sipush (v := -1000) S.1 S.2.1 dL_nextKnotRow_0 (by decide) ?_
  refine lv_istore_n (lv' := [(2, .int (-1000)), (0, .ref (o)), (1, .int (nI (a)))]) S.1 S.2.1 dL_nextKnotRow_3 rfl hl (by decide) rfl (fun ls hl => ?_)
  refine lv_aload_n S.1 S.2.1 dL_nextKnotRow_4 rfl (lv_at hl 1 rfl) ?_
  refine lv_iload_n S.1 S.2.1 dL_nextKnotRow_5 rfl (lv_at hl 2 rfl) ?_
  refine z_xV (rest := []) (As := [.int (nI (a))]) S hZ hS (c_nextKnotRow_no l hl0 g z hv a ha hno) (Nat.le_refl B) ci_X11_nextKnotRow cv_X11_nextKnotRow k1224 ⟨rfl, rfl, by rw [hR]; exact Nat.le_of_ble_eq_true rfl, by rw [hR]; exact Nat.le_of_ble_eq_true rfl⟩ hP (hP.1.recv hZ.1 0 (by decide) rfl rfl rfl) hl.1 rfl (Nat.le_of_ble_eq_true rfl) dL_nextKnotRow_6 ⟨by rw [hR]; exact Nat.le_of_ble_eq_true rfl, by rw [hR]; exact Nat.le_of_ble_eq_true rfl⟩ (fun E ce q9 H1 locs1 hPx hCn hSn hce hcv hcl => ?_)
  subst hPx
  refine z_ct (hh := [(4, 10, 13, 25), (4, 10, 18, 56)]) S hZ (by decide) [⟨4, 10, 13, 25⟩] ⟨4, 10, 18, 56⟩ [] hex rfl (fun x9 hx9 => by
      rcases List.mem_cons.mp hx9 with e9 | hx9
      · rw [e9]; exact Or.inr ⟨(by decide : (25 : Nat) ≠ 0), "java/lang/IndexOutOfBoundsException", k630, by decide⟩
      cases hx9) rfl (by decide : (56 : Nat) ≠ 0) k801 hce hcv hcl ?_
  show W p l e R s m args below meth c H1 locs1 (0 + 1) (0 + 6) Q (F0 m 18 ls [.ref (q9)])
  refine lv_astore_n (lv' := [(3, .ref (q9)), (2, .int (-1000)), (0, .ref (o)), (1, .int (nI (a)))]) S.1 S.2.1 dL_nextKnotRow_18 rfl hl (by decide) rfl (fun ls hl => ?_)
  refine lv_sipush (v := -1000) S.1 S.2.1 dL_nextKnotRow_19 (by decide) ?_
  exact z_wiw hQ S (Nat.le_of_ble_eq_true rfl) (Nat.le_of_ble_eq_true rfl) hr hlk (zn_int _) hSn hCn.z0 ⟨rfl, hP.kept hCn (by omega)⟩ dL_nextKnotRow_22
set_option maxRecDepth 20000 in
set_option maxHeartbeats 4000000 in
/-- nextKnotColumn, it answers -/
theorem c_L_nextKnotColumn (l : Launch) (hl0 : l.stackTraces = false) (g : ZG) {B : Nat} {o : Nat} (z : zSt) (hv : zOk (z 0)) (a b : Nat) (hab : a ≤ b) (hb : b < z 0 2 0 3) (hno : ∀ k, a ≤ k → k < b → z 0 2 3 k = 0) (hyes : ¬ z 0 2 3 b = 0) (c9 : Nat) (h15 : c9 ≤ 15) (hcn : ∀ k, k < c9 → zBt (z 0 2 3 b) k = false) (hcy : c9 < 15 → zBt (z 0 2 3 b) c9 = true) : Met l yL_nextKnotColumn (.codeWith yL_nextKnotColumn cL_nextKnotColumn 4 (some .int) [(4, 10, 13, 25), (4, 10, 18, 56)] :: GW) { frames := 3, cells := 0, slots := 0, locals := 65 } (va_Pc [.ref o, .int (nI (a))] (zPre g B (fun H => zSO g o z H))) (zR (some (.int (nI (c9))))) 0 0 (fun _ => False) := by
  refine zMetH (by decide) (Nat.le_of_ble_eq_true rfl) ?_
  intro p e R s m args below meth c Q ls hR hargs hQ S hr hlk hex hP hZ hS hl
  have hl : lv_has ls 4 [(0, .ref (o)), (1, .int (nI (a)))] := hl
  refine lv_sipush (v := -1000) S.1 S.2.1 dL_nextKnotColumn_0 (by decide) ?_
  refine lv_istore_n (lv' := [(2, .int (-1000)), (0, .ref (o)), (1, .int (nI (a)))]) S.1 S.2.1 dL_nextKnotColumn_3 rfl hl (by decide) rfl (fun ls hl => ?_)
  refine lv_aload_n S.1 S.2.1 dL_nextKnotColumn_4 rfl (lv_at hl 1 rfl) ?_
  refine lv_iload_n S.1 S.2.1 dL_nextKnotColumn_5 rfl (lv_at hl 2 rfl) ?_
  refine z_cV (v := some (.int (nI (c9)))) (rest := []) (As := [.int (nI (a))]) S hZ hS (c_nextKnotColumn l g z hv a b hab hb hno hyes c9 h15 hcn hcy) ci_X11_nextKnotColumn cv_X11_nextKnotColumn k1239 ⟨rfl, rfl, by rw [hR]; decide, by rw [hR]; decide⟩ hP (hP.1.recv hZ.1 0 (by decide) rfl rfl rfl) hl.1 rfl (Nat.le_of_ble_eq_true rfl) dL_nextKnotColumn_6 ⟨by rw [hR]; decide, by rw [hR]; decide⟩ rfl ?_
  refine lv_istore_n (lv' := [(2, .int (nI (c9))), (0, .ref (o)), (1, .int (nI (a)))]) S.1 S.2.1 dL_nextKnotColumn_9 rfl hl (by decide) rfl (fun ls hl => ?_)
  refine lv_goto (tgt := 23) S.1 S.2.1 dL_nextKnotColumn_10 (by decide) ?_
  refine lv_iload_n S.1 S.2.1 dL_nextKnotColumn_23 rfl (lv_at hl 0 rfl) ?_
  exact z_ri hQ S hr hlk (zn_int _) rfl dL_nextKnotColumn_24
set_option maxRecDepth 20000 in
set_option maxHeartbeats 4000000 in
/-- nextKnotColumn, it has none -/
theorem c_L_nextKnotColumn_neg (l : Launch) (hl0 : l.stackTraces = false) (g : ZG) {B : Nat} {o : Nat} (hB : B ≤ o) (z : zSt) (hv : zOk (z 0))  : Met l yL_nextKnotColumn (.codeWith yL_nextKnotColumn cL_nextKnotColumn 4 (some .int) [(4, 10, 13, 25), (4, 10, 18, 56)] :: GW) { frames := 10, cells := 1, slots := 6, locals := 192 } (va_Pc [.ref o, .int (-1)] (zPre g B (fun H => zSO g o z H))) (zX (fun w H => w = some (.int (-1000)) ∧ zSO g o z H) o 152) 1 6 (zA B) := by
  refine zMetH (by decide) (Nat.le_of_ble_eq_true rfl) ?_
  intro p e R s m args below meth c Q ls hR hargs hQ S hr hlk hex hP hZ hS hl
  have hl : lv_has ls 4 [(0, .ref (o)), (1, .int (-1))] := hl
  refine lv_sipush (v := -1000) S.1 S.2.1 dL_nextKnotColumn_0 (by decide) ?_
  refine lv_istore_n (lv' := [(2, .int (-1000)), (0, .ref (o)), (1, .int (-1))]) S.1 S.2.1 dL_nextKnotColumn_3 rfl hl (by decide) rfl (fun ls hl => ?_)
  refine lv_aload_n S.1 S.2.1 dL_nextKnotColumn_4 rfl (lv_at hl 1 rfl) ?_
  refine lv_iload_n S.1 S.2.1 dL_nextKnotColumn_5 rfl (lv_at hl 2 rfl) ?_
  refine z_xV (rest := []) (As := [.int (-1)]) S hZ hS (c_nextKnotColumn_neg l hl0 g z hv) (Nat.le_refl B) ci_X11_nextKnotColumn cv_X11_nextKnotColumn k1239 ⟨rfl, rfl, by rw [hR]; exact Nat.le_of_ble_eq_true rfl, by rw [hR]; exact Nat.le_of_ble_eq_true rfl⟩ hP (hP.1.recv hZ.1 0 (by decide) rfl rfl rfl) hl.1 rfl (Nat.le_of_ble_eq_true rfl) dL_nextKnotColumn_6 ⟨by rw [hR]; exact Nat.le_of_ble_eq_true rfl, by rw [hR]; exact Nat.le_of_ble_eq_true rfl⟩ (fun E ce q9 H1 locs1 hPx hCn hSn hce hcv hcl => ?_)
  subst hPx
  refine z_ct (hh := [(4, 10, 13, 25), (4, 10, 18, 56)]) S hZ (by decide) [] ⟨4, 10, 13, 25⟩ [⟨4, 10, 18, 56⟩] hex rfl (fun x9 hx9 => by cases hx9) rfl (by decide : (25 : Nat) ≠ 0) k630 hce hcv hcl ?_
  show W p l e R s m args below meth c H1 locs1 (0 + 1) (0 + 6) Q (F0 m 13 ls [.ref (q9)])
  refine lv_astore_n (lv' := [(3, .ref (q9)), (2, .int (-1000)), (0, .ref (o)), (1, .int (-1))]) S.1 S.2.1 dL_nextKnotColumn_13 rfl hl (by decide) rfl (fun ls hl => ?_)
  refine lv_sipush (v := -1000) S.1 S.2.1 dL_nextKnotColumn_14 (by decide) ?_
  exact z_wiw hQ S (Nat.le_of_ble_eq_true rfl) (Nat.le_of_ble_eq_true rfl) hr hlk (zn_int _) hSn hCn.z0 ⟨rfl, hP.kept hCn (by omega)⟩ dL_nextKnotColumn_17
set_option maxRecDepth 20000 in
set_option maxHeartbeats 4000000 in
/-- nextKnotColumn, it has none -/
theorem c_L_nextKnotColumn_no (l : Launch) (hl0 : l.stackTraces = false) (g : ZG) {B : Nat} {o : Nat} (hB : B ≤ o) (z : zSt) (hv : zOk (z 0)) (a : Nat) (ha : a < z 0 2 0 3) (hno : ∀ k, a ≤ k → k < z 0 2 0 3 → z 0 2 3 k = 0) : Met l yL_nextKnotColumn (.codeWith yL_nextKnotColumn cL_nextKnotColumn 4 (some .int) [(4, 10, 13, 25), (4, 10, 18, 56)] :: GW) { frames := 10, cells := 1, slots := 6, locals := 192 } (va_Pc [.ref o, .int (nI (a))] (zPre g B (fun H => zSO g o z H))) (zX (fun w H => w = some (.int (-1000)) ∧ zSO g o z H) o 152) 1 6 (zA B) := by
  refine zMetH (by decide) (Nat.le_of_ble_eq_true rfl) ?_
  intro p e R s m args below meth c Q ls hR hargs hQ S hr hlk hex hP hZ hS hl
  have hl : lv_has ls 4 [(0, .ref (o)), (1, .int (nI (a)))] := hl
  refine lv_sipush (v := -1000) S.1 S.2.1 dL_nextKnotColumn_0 (by decide) ?_
  refine lv_istore_n (lv' := [(2, .int (-1000)), (0, .ref (o)), (1, .int (nI (a)))]) S.1 S.2.1 dL_nextKnotColumn_3 rfl hl (by decide) rfl (fun ls hl => ?_)
  refine lv_aload_n S.1 S.2.1 dL_nextKnotColumn_4 rfl (lv_at hl 1 rfl) ?_
  refine lv_iload_n S.1 S.2.1 dL_nextKnotColumn_5 rfl (lv_at hl 2 rfl) ?_
  refine z_xV (rest := []) (As := [.int (nI (a))]) S hZ hS (c_nextKnotColumn_no l hl0 g z hv a ha hno) (Nat.le_refl B) ci_X11_nextKnotColumn cv_X11_nextKnotColumn k1239 ⟨rfl, rfl, by rw [hR]; exact Nat.le_of_ble_eq_true rfl, by rw [hR]; exact Nat.le_of_ble_eq_true rfl⟩ hP (hP.1.recv hZ.1 0 (by decide) rfl rfl rfl) hl.1 rfl (Nat.le_of_ble_eq_true rfl) dL_nextKnotColumn_6 ⟨by rw [hR]; exact Nat.le_of_ble_eq_true rfl, by rw [hR]; exact Nat.le_of_ble_eq_true rfl⟩ (fun E ce q9 H1 locs1 hPx hCn hSn hce hcv hcl => ?_)
  subst hPx
  refine z_ct (hh := [(4, 10, 13, 25), (4, 10, 18, 56)]) S hZ (by decide) [⟨4, 10, 13, 25⟩] ⟨4, 10, 18, 56⟩ [] hex rfl (fun x9 hx9 => by
      rcases List.mem_cons.mp hx9 with e9 | hx9
      · rw [e9]; exact Or.inr ⟨(by decide : (25 : Nat) ≠ 0), "java/lang/IndexOutOfBoundsException", k630, by decide⟩
      cases hx9) rfl (by decide : (56 : Nat) ≠ 0) k801 hce hcv hcl ?_
  show W p l e R s m args below meth c H1 locs1 (0 + 1) (0 + 6) Q (F0 m 18 ls [.ref (q9)])
  refine lv_astore_n (lv' := [(3, .ref (q9)), (2, .int (-1000)), (0, .ref (o)), (1, .int (nI (a)))]) S.1 S.2.1 dL_nextKnotColumn_18 rfl hl (by decide) rfl (fun ls hl => ?_)
  refine lv_sipush (v := -1000) S.1 S.2.1 dL_nextKnotColumn_19 (by decide) ?_
  exact z_wiw hQ S (Nat.le_of_ble_eq_true rfl) (Nat.le_of_ble_eq_true rfl) hr hlk (zn_int _) hSn hCn.z0 ⟨rfl, hP.kept hCn (by omega)⟩ dL_nextKnotColumn_22
set_option maxRecDepth 20000 in
set_option maxHeartbeats 4000000 in
/-- period, it answers -/
theorem c_L_period (l : Launch) (hl0 : l.stackTraces = false) (g : ZG) {B : Nat} {o : Nat} (z : zSt) (hv : zOk (z 0)) (b : Nat) (h1b : 1 ≤ b) (hb : b ≤ z 0 2 0 3) (hno : ∀ k, 1 ≤ k → k < b → zOv (z 0 2) k = false) (hyes : b < z 0 2 0 3 → zOv (z 0 2) b = true) : Met l yL_period (.codeWith yL_period cL_period 3 (some .int) [(4, 9, 12, 56)] :: GW) { frames := 3, cells := 0, slots := 0, locals := 65 } (va_Pc [.ref o] (zPre g B (fun H => zSO g o z H))) (zR (some (.int (nI (b))))) 0 0 (fun _ => False) := by
  refine zMetH (by decide) (Nat.le_of_ble_eq_true rfl) ?_
  intro p e R s m args below meth c Q ls hR hargs hQ S hr hlk hex hP hZ hS hl
  have hl : lv_has ls 3 [(0, .ref (o))] := hl
  refine lv_sipush (v := -1000) S.1 S.2.1 dL_period_0 (by decide) ?_
  refine lv_istore_n (lv' := [(1, .int (-1000)), (0, .ref (o))]) S.1 S.2.1 dL_period_3 rfl hl (by decide) rfl (fun ls hl => ?_)
  refine lv_aload_n S.1 S.2.1 dL_period_4 rfl (lv_at hl 1 rfl) ?_
  refine z_cV (v := some (.int (nI (b)))) (rest := []) (As := []) S hZ hS (c_period l g z hv b h1b hb hno hyes) ci_X11_period cv_X11_period k1164 ⟨rfl, rfl, by rw [hR]; decide, by rw [hR]; decide⟩ hP (hP.1.recv hZ.1 0 (by decide) rfl rfl rfl) hl.1 rfl (Nat.le_of_ble_eq_true rfl) dL_period_5 ⟨by rw [hR]; decide, by rw [hR]; decide⟩ rfl ?_
  refine lv_istore_n (lv' := [(1, .int (nI (b))), (0, .ref (o))]) S.1 S.2.1 dL_period_8 rfl hl (by decide) rfl (fun ls hl => ?_)
  refine lv_goto (tgt := 17) S.1 S.2.1 dL_period_9 (by decide) ?_
  refine lv_iload_n S.1 S.2.1 dL_period_17 rfl (lv_at hl 0 rfl) ?_
  exact z_ri hQ S hr hlk (zn_int _) rfl dL_period_18
set_option maxRecDepth 20000 in
set_option maxHeartbeats 4000000 in
/-- period, it has none -/
theorem c_L_period_no (l : Launch) (hl0 : l.stackTraces = false) (g : ZG) {B : Nat} {o : Nat} (hB : B ≤ o) (z : zSt) (hv : zOk (z 0)) (h0 : z 0 2 0 3 = 0) : Met l yL_period (.codeWith yL_period cL_period 3 (some .int) [(4, 9, 12, 56)] :: GW) { frames := 9, cells := 1, slots := 6, locals := 167 } (va_Pc [.ref o] (zPre g B (fun H => zSO g o z H))) (zX (fun w H => w = some (.int (-1000)) ∧ zSO g o z H) o 152) 1 6 (zA B) := by
  refine zMetH (by decide) (Nat.le_of_ble_eq_true rfl) ?_
  intro p e R s m args below meth c Q ls hR hargs hQ S hr hlk hex hP hZ hS hl
  have hl : lv_has ls 3 [(0, .ref (o))] := hl
  refine lv_sipush (v := -1000) S.1 S.2.1 dL_period_0 (by decide) ?_
  refine lv_istore_n (lv' := [(1, .int (-1000)), (0, .ref (o))]) S.1 S.2.1 dL_period_3 rfl hl (by decide) rfl (fun ls hl => ?_)
  refine lv_aload_n S.1 S.2.1 dL_period_4 rfl (lv_at hl 1 rfl) ?_
  refine z_xV (rest := []) (As := []) S hZ hS (c_period_no l hl0 g z hv h0) (Nat.le_refl B) ci_X11_period cv_X11_period k1164 ⟨rfl, rfl, by rw [hR]; exact Nat.le_of_ble_eq_true rfl, by rw [hR]; exact Nat.le_of_ble_eq_true rfl⟩ hP (hP.1.recv hZ.1 0 (by decide) rfl rfl rfl) hl.1 rfl (Nat.le_of_ble_eq_true rfl) dL_period_5 ⟨by rw [hR]; exact Nat.le_of_ble_eq_true rfl, by rw [hR]; exact Nat.le_of_ble_eq_true rfl⟩ (fun E ce q9 H1 locs1 hPx hCn hSn hce hcv hcl => ?_)
  subst hPx
  refine z_ct (hh := [(4, 9, 12, 56)]) S hZ (by decide) [] ⟨4, 9, 12, 56⟩ [] hex rfl (fun x9 hx9 => by cases hx9) rfl (by decide : (56 : Nat) ≠ 0) k801 hce hcv hcl ?_
  show W p l e R s m args below meth c H1 locs1 (0 + 1) (0 + 6) Q (F0 m 12 ls [.ref (q9)])
  refine lv_astore_n (lv' := [(2, .ref (q9)), (1, .int (-1000)), (0, .ref (o))]) S.1 S.2.1 dL_period_12 rfl hl (by decide) rfl (fun ls hl => ?_)
  refine lv_sipush (v := -1000) S.1 S.2.1 dL_period_13 (by decide) ?_
  exact z_wiw hQ S (Nat.le_of_ble_eq_true rfl) (Nat.le_of_ble_eq_true rfl) hr hlk (zn_int _) hSn hCn.z0 ⟨rfl, hP.kept hCn (by omega)⟩ dL_period_16
set_option maxRecDepth 20000 in
set_option maxHeartbeats 4000000 in
/-- periodByBorders, it answers -/
theorem c_L_periodByBorders (l : Launch) (hl0 : l.stackTraces = false) (g : ZG) {B : Nat} {o : Nat} (z : zSt) (hv : zOk (z 0)) (b : Nat) (hb : b < z 0 2 0 3) (hm : ∀ k, b < k → k < z 0 2 0 3 → zRs (z 0 2) 0 (z 0 2 0 3 - k) k = false) (he : b = 0 ∨ zRs (z 0 2) 0 (z 0 2 0 3 - b) b = true) : Met l yL_periodByBorders (.codeWith yL_periodByBorders cL_periodByBorders 3 (some .int) [(4, 9, 12, 56)] :: GW) { frames := 4, cells := 0, slots := 0, locals := 88 } (va_Pc [.ref o] (zPre g B (fun H => zSO g o z H))) (zR (some (.int (nI (z 0 2 0 3 - b))))) 0 0 (fun _ => False) := by
  refine zMetH (by decide) (Nat.le_of_ble_eq_true rfl) ?_
  intro p e R s m args below meth c Q ls hR hargs hQ S hr hlk hex hP hZ hS hl
  have hl : lv_has ls 3 [(0, .ref (o))] := hl
  refine lv_sipush (v := -1000) S.1 S.2.1 dL_periodByBorders_0 (by decide) ?_
  refine lv_istore_n (lv' := [(1, .int (-1000)), (0, .ref (o))]) S.1 S.2.1 dL_periodByBorders_3 rfl hl (by decide) rfl (fun ls hl => ?_)
  refine lv_aload_n S.1 S.2.1 dL_periodByBorders_4 rfl (lv_at hl 1 rfl) ?_
  refine z_cV (v := some (.int (nI (z 0 2 0 3 - b)))) (rest := []) (As := []) S hZ hS (c_periodByBorders l g z hv b hb hm he) ci_X11_periodByBorders cv_X11_periodByBorders k1175 ⟨rfl, rfl, by rw [hR]; decide, by rw [hR]; decide⟩ hP (hP.1.recv hZ.1 0 (by decide) rfl rfl rfl) hl.1 rfl (Nat.le_of_ble_eq_true rfl) dL_periodByBorders_5 ⟨by rw [hR]; decide, by rw [hR]; decide⟩ rfl ?_
  refine lv_istore_n (lv' := [(1, .int (nI (z 0 2 0 3 - b))), (0, .ref (o))]) S.1 S.2.1 dL_periodByBorders_8 rfl hl (by decide) rfl (fun ls hl => ?_)
  refine lv_goto (tgt := 17) S.1 S.2.1 dL_periodByBorders_9 (by decide) ?_
  refine lv_iload_n S.1 S.2.1 dL_periodByBorders_17 rfl (lv_at hl 0 rfl) ?_
  exact z_ri hQ S hr hlk (zn_int _) rfl dL_periodByBorders_18
set_option maxRecDepth 20000 in
set_option maxHeartbeats 4000000 in
/-- periodByBorders, it has none -/
theorem c_L_periodByBorders_no (l : Launch) (hl0 : l.stackTraces = false) (g : ZG) {B : Nat} {o : Nat} (hB : B ≤ o) (z : zSt) (hv : zOk (z 0)) (h0 : z 0 2 0 3 = 0) : Met l yL_periodByBorders (.codeWith yL_periodByBorders cL_periodByBorders 3 (some .int) [(4, 9, 12, 56)] :: GW) { frames := 9, cells := 1, slots := 6, locals := 167 } (va_Pc [.ref o] (zPre g B (fun H => zSO g o z H))) (zX (fun w H => w = some (.int (-1000)) ∧ zSO g o z H) o 152) 1 6 (zA B) := by
  refine zMetH (by decide) (Nat.le_of_ble_eq_true rfl) ?_
  intro p e R s m args below meth c Q ls hR hargs hQ S hr hlk hex hP hZ hS hl
  have hl : lv_has ls 3 [(0, .ref (o))] := hl
  refine lv_sipush (v := -1000) S.1 S.2.1 dL_periodByBorders_0 (by decide) ?_
  refine lv_istore_n (lv' := [(1, .int (-1000)), (0, .ref (o))]) S.1 S.2.1 dL_periodByBorders_3 rfl hl (by decide) rfl (fun ls hl => ?_)
  refine lv_aload_n S.1 S.2.1 dL_periodByBorders_4 rfl (lv_at hl 1 rfl) ?_
  refine z_xV (rest := []) (As := []) S hZ hS (c_periodByBorders_no l hl0 g z hv h0) (Nat.le_refl B) ci_X11_periodByBorders cv_X11_periodByBorders k1175 ⟨rfl, rfl, by rw [hR]; exact Nat.le_of_ble_eq_true rfl, by rw [hR]; exact Nat.le_of_ble_eq_true rfl⟩ hP (hP.1.recv hZ.1 0 (by decide) rfl rfl rfl) hl.1 rfl (Nat.le_of_ble_eq_true rfl) dL_periodByBorders_5 ⟨by rw [hR]; exact Nat.le_of_ble_eq_true rfl, by rw [hR]; exact Nat.le_of_ble_eq_true rfl⟩ (fun E ce q9 H1 locs1 hPx hCn hSn hce hcv hcl => ?_)
  subst hPx
  refine z_ct (hh := [(4, 9, 12, 56)]) S hZ (by decide) [] ⟨4, 9, 12, 56⟩ [] hex rfl (fun x9 hx9 => by cases hx9) rfl (by decide : (56 : Nat) ≠ 0) k801 hce hcv hcl ?_
  show W p l e R s m args below meth c H1 locs1 (0 + 1) (0 + 6) Q (F0 m 12 ls [.ref (q9)])
  refine lv_astore_n (lv' := [(2, .ref (q9)), (1, .int (-1000)), (0, .ref (o))]) S.1 S.2.1 dL_periodByBorders_12 rfl hl (by decide) rfl (fun ls hl => ?_)
  refine lv_sipush (v := -1000) S.1 S.2.1 dL_periodByBorders_13 (by decide) ?_
  exact z_wiw hQ S (Nat.le_of_ble_eq_true rfl) (Nat.le_of_ble_eq_true rfl) hr hlk (zn_int _) hSn hCn.z0 ⟨rfl, hP.kept hCn (by omega)⟩ dL_periodByBorders_16
set_option maxRecDepth 20000 in
set_option maxHeartbeats 4000000 in
/-- occurrences, it has none -/
theorem c_L_occurrences_0 (l : Launch) (hl0 : l.stackTraces = false) (g : ZG) {B : Nat} {o : Nat} (hB : B ≤ o) (z : zSt) (hv : zOk (z 0))  : Met l yL_occurrences (.codeWith yL_occurrences cL_occurrences 4 (some .int) [(4, 10, 13, 17)] :: GW) { frames := 9, cells := 1, slots := 6, locals := 167 } (va_Pc [.ref o, .int (nI (0))] (zPre g B (fun H => zSO g o z H))) (zX (fun w H => w = some (.int (-1000)) ∧ zSO g o z H) o 152) 1 6 (zA B) := by
  refine zMetH (by decide) (Nat.le_of_ble_eq_true rfl) ?_
  intro p e R s m args below meth c Q ls hR hargs hQ S hr hlk hex hP hZ hS hl
  have hl : lv_has ls 4 [(0, .ref (o)), (1, .int (nI (0)))] := hl
  refine lv_sipush (v := -1000) S.1 S.2.1 dL_occurrences_0 (by decide) ?_
  refine lv_istore_n (lv' := [(2, .int (-1000)), (0, .ref (o)), (1, .int (nI (0)))]) S.1 S.2.1 dL_occurrences_3 rfl hl (by decide) rfl (fun ls hl => ?_)
  refine lv_aload_n S.1 S.2.1 dL_occurrences_4 rfl (lv_at hl 1 rfl) ?_
  refine lv_iload_n S.1 S.2.1 dL_occurrences_5 rfl (lv_at hl 2 rfl) ?_
  refine z_xV (rest := []) (As := [.int (nI (0))]) S hZ hS (c_occurrences_0 l hl0 g z hv) (Nat.le_refl B) ci_X11_occurrences cv_X11_occurrences k1190 ⟨rfl, rfl, by rw [hR]; exact Nat.le_of_ble_eq_true rfl, by rw [hR]; exact Nat.le_of_ble_eq_true rfl⟩ hP (hP.1.recv hZ.1 0 (by decide) rfl rfl rfl) hl.1 rfl (Nat.le_of_ble_eq_true rfl) dL_occurrences_6 ⟨by rw [hR]; exact Nat.le_of_ble_eq_true rfl, by rw [hR]; exact Nat.le_of_ble_eq_true rfl⟩ (fun E ce q9 H1 locs1 hPx hCn hSn hce hcv hcl => ?_)
  subst hPx
  refine z_ct (hh := [(4, 10, 13, 17)]) S hZ (by decide) [] ⟨4, 10, 13, 17⟩ [] hex rfl (fun x9 hx9 => by cases hx9) rfl (by decide : (17 : Nat) ≠ 0) k322 hce hcv hcl ?_
  show W p l e R s m args below meth c H1 locs1 (0 + 1) (0 + 6) Q (F0 m 13 ls [.ref (q9)])
  refine lv_astore_n (lv' := [(3, .ref (q9)), (2, .int (-1000)), (0, .ref (o)), (1, .int (nI (0)))]) S.1 S.2.1 dL_occurrences_13 rfl hl (by decide) rfl (fun ls hl => ?_)
  refine lv_sipush (v := -1000) S.1 S.2.1 dL_occurrences_14 (by decide) ?_
  exact z_wiw hQ S (Nat.le_of_ble_eq_true rfl) (Nat.le_of_ble_eq_true rfl) hr hlk (zn_int _) hSn hCn.z0 ⟨rfl, hP.kept hCn (by omega)⟩ dL_occurrences_17
set_option maxRecDepth 20000 in
set_option maxHeartbeats 4000000 in
/-- occurrences, it has none -/
theorem c_L_occurrences_no (l : Launch) (hl0 : l.stackTraces = false) (g : ZG) {B : Nat} {o : Nat} (hB : B ≤ o) (z : zSt) (hv : zOk (z 0)) (i : Nat) (h1i : 1 ≤ i) (hi : z 0 2 0 3 < i) (hi2 : i < 2 ^ 31) : Met l yL_occurrences (.codeWith yL_occurrences cL_occurrences 4 (some .int) [(4, 10, 13, 17)] :: GW) { frames := 9, cells := 1, slots := 6, locals := 167 } (va_Pc [.ref o, .int (nI (i))] (zPre g B (fun H => zSO g o z H))) (zX (fun w H => w = some (.int (-1000)) ∧ zSO g o z H) o 152) 1 6 (zA B) := by
  refine zMetH (by decide) (Nat.le_of_ble_eq_true rfl) ?_
  intro p e R s m args below meth c Q ls hR hargs hQ S hr hlk hex hP hZ hS hl
  have hl : lv_has ls 4 [(0, .ref (o)), (1, .int (nI (i)))] := hl
  refine lv_sipush (v := -1000) S.1 S.2.1 dL_occurrences_0 (by decide) ?_
  refine lv_istore_n (lv' := [(2, .int (-1000)), (0, .ref (o)), (1, .int (nI (i)))]) S.1 S.2.1 dL_occurrences_3 rfl hl (by decide) rfl (fun ls hl => ?_)
  refine lv_aload_n S.1 S.2.1 dL_occurrences_4 rfl (lv_at hl 1 rfl) ?_
  refine lv_iload_n S.1 S.2.1 dL_occurrences_5 rfl (lv_at hl 2 rfl) ?_
  refine z_xV (rest := []) (As := [.int (nI (i))]) S hZ hS (c_occurrences_no l hl0 g z hv i h1i hi hi2) (Nat.le_refl B) ci_X11_occurrences cv_X11_occurrences k1190 ⟨rfl, rfl, by rw [hR]; exact Nat.le_of_ble_eq_true rfl, by rw [hR]; exact Nat.le_of_ble_eq_true rfl⟩ hP (hP.1.recv hZ.1 0 (by decide) rfl rfl rfl) hl.1 rfl (Nat.le_of_ble_eq_true rfl) dL_occurrences_6 ⟨by rw [hR]; exact Nat.le_of_ble_eq_true rfl, by rw [hR]; exact Nat.le_of_ble_eq_true rfl⟩ (fun E ce q9 H1 locs1 hPx hCn hSn hce hcv hcl => ?_)
  subst hPx
  refine z_ct (hh := [(4, 10, 13, 17)]) S hZ (by decide) [] ⟨4, 10, 13, 17⟩ [] hex rfl (fun x9 hx9 => by cases hx9) rfl (by decide : (17 : Nat) ≠ 0) k322 hce hcv hcl ?_
  show W p l e R s m args below meth c H1 locs1 (0 + 1) (0 + 6) Q (F0 m 13 ls [.ref (q9)])
  refine lv_astore_n (lv' := [(3, .ref (q9)), (2, .int (-1000)), (0, .ref (o)), (1, .int (nI (i)))]) S.1 S.2.1 dL_occurrences_13 rfl hl (by decide) rfl (fun ls hl => ?_)
  refine lv_sipush (v := -1000) S.1 S.2.1 dL_occurrences_14 (by decide) ?_
  exact z_wiw hQ S (Nat.le_of_ble_eq_true rfl) (Nat.le_of_ble_eq_true rfl) hr hlk (zn_int _) hSn hCn.z0 ⟨rfl, hP.kept hCn (by omega)⟩ dL_occurrences_17
set_option maxRecDepth 20000 in
set_option maxHeartbeats 4000000 in
/-- meanRaised, it answers -/
theorem c_L_meanRaised (l : Launch) (hl0 : l.stackTraces = false) (g : ZG) {B : Nat} {o : Nat} (z : zSt) (hv : zOk (z 0)) (h0 : 1 ≤ z 0 2 0 3) : Met l yL_meanRaised (.codeWith yL_meanRaised cL_meanRaised 4 (some .double) [(4, 9, 12, 80)] :: GW) { frames := 3, cells := 0, slots := 0, locals := 63 } (va_Pc [.ref o] (zPre g B (fun H => zSO g o z H))) (zR (some (.double (yDd (zRc (z 0 2)) (z 0 2 0 3))))) 0 0 (fun _ => False) := by
  refine zMetH (by decide) (Nat.le_of_ble_eq_true rfl) ?_
  intro p e R s m args below meth c Q ls hR hargs hQ S hr hlk hex hP hZ hS hl
  have hl : lv_has ls 4 [(0, .ref (o))] := hl
  refine lv_ldc2d S.1 S.2.1 S.2.2.2.1 (S.2.2.2.2 _ k1135) dL_meanRaised_0 ?_
  refine lv_dstore_n (lv' := [(1, .double (13830554455654793216 : UInt64)), (0, .ref (o))]) S.1 S.2.1 dL_meanRaised_3 rfl hl (by decide) rfl (fun ls hl => ?_)
  refine lv_aload_n S.1 S.2.1 dL_meanRaised_4 rfl (lv_at hl 1 rfl) ?_
  refine z_cV (v := some (.double (yDd (zRc (z 0 2)) (z 0 2 0 3)))) (rest := []) (As := []) S hZ hS (c_meanRaised l g z hv h0) ci_X11_meanRaised cv_X11_meanRaised k1136 ⟨rfl, rfl, by rw [hR]; decide, by rw [hR]; decide⟩ hP (hP.1.recv hZ.1 0 (by decide) rfl rfl rfl) hl.1 rfl (Nat.le_of_ble_eq_true rfl) dL_meanRaised_5 ⟨by rw [hR]; decide, by rw [hR]; decide⟩ rfl ?_
  refine lv_dstore_n (lv' := [(1, .double (yDd (zRc (z 0 2)) (z 0 2 0 3))), (0, .ref (o))]) S.1 S.2.1 dL_meanRaised_8 rfl hl (by decide) rfl (fun ls hl => ?_)
  refine lv_goto (tgt := 17) S.1 S.2.1 dL_meanRaised_9 (by decide) ?_
  refine lv_dload_n S.1 S.2.1 dL_meanRaised_17 rfl (lv_at hl 0 rfl) ?_
  exact z_rd hQ S hr hlk rfl dL_meanRaised_18
set_option maxRecDepth 20000 in
set_option maxHeartbeats 4000000 in
/-- meanRaised, it has none -/
theorem c_L_meanRaised_no (l : Launch) (hl0 : l.stackTraces = false) (g : ZG) {B : Nat} {o : Nat} (hB : B ≤ o) (z : zSt) (hv : zOk (z 0)) (h0 : z 0 2 0 3 = 0) : Met l yL_meanRaised (.codeWith yL_meanRaised cL_meanRaised 4 (some .double) [(4, 9, 12, 80)] :: GW) { frames := 9, cells := 1, slots := 6, locals := 167 } (va_Pc [.ref o] (zPre g B (fun H => zSO g o z H))) (zX (fun w H => w = some (.double (13830554455654793216)) ∧ zSO g o z H) o 152) 1 6 (zA B) := by
  refine zMetH (by decide) (Nat.le_of_ble_eq_true rfl) ?_
  intro p e R s m args below meth c Q ls hR hargs hQ S hr hlk hex hP hZ hS hl
  have hl : lv_has ls 4 [(0, .ref (o))] := hl
  refine lv_ldc2d S.1 S.2.1 S.2.2.2.1 (S.2.2.2.2 _ k1135) dL_meanRaised_0 ?_
  refine lv_dstore_n (lv' := [(1, .double (13830554455654793216 : UInt64)), (0, .ref (o))]) S.1 S.2.1 dL_meanRaised_3 rfl hl (by decide) rfl (fun ls hl => ?_)
  refine lv_aload_n S.1 S.2.1 dL_meanRaised_4 rfl (lv_at hl 1 rfl) ?_
  refine z_xV (rest := []) (As := []) S hZ hS (c_meanRaised_no l hl0 g z hv h0) (Nat.le_refl B) ci_X11_meanRaised cv_X11_meanRaised k1136 ⟨rfl, rfl, by rw [hR]; exact Nat.le_of_ble_eq_true rfl, by rw [hR]; exact Nat.le_of_ble_eq_true rfl⟩ hP (hP.1.recv hZ.1 0 (by decide) rfl rfl rfl) hl.1 rfl (Nat.le_of_ble_eq_true rfl) dL_meanRaised_5 ⟨by rw [hR]; exact Nat.le_of_ble_eq_true rfl, by rw [hR]; exact Nat.le_of_ble_eq_true rfl⟩ (fun E ce q9 H1 locs1 hPx hCn hSn hce hcv hcl => ?_)
  subst hPx
  refine z_ct (hh := [(4, 9, 12, 80)]) S hZ (by decide) [] ⟨4, 9, 12, 80⟩ [] hex rfl (fun x9 hx9 => by cases hx9) rfl (by decide : (80 : Nat) ≠ 0) k1121 hce hcv hcl ?_
  show W p l e R s m args below meth c H1 locs1 (0 + 1) (0 + 6) Q (F0 m 12 ls [.ref (q9)])
  refine lv_astore_n (lv' := [(3, .ref (q9)), (1, .double (13830554455654793216 : UInt64)), (0, .ref (o))]) S.1 S.2.1 dL_meanRaised_12 rfl hl (by decide) rfl (fun ls hl => ?_)
  refine lv_ldc2d S.1 S.2.1 S.2.2.2.1 (S.2.2.2.2 _ k1135) dL_meanRaised_13 ?_
  exact z_wdw hQ S (Nat.le_of_ble_eq_true rfl) (Nat.le_of_ble_eq_true rfl) hr hlk hSn hCn.z0 ⟨rfl, hP.kept hCn (by omega)⟩ dL_meanRaised_16
set_option maxRecDepth 20000 in
set_option maxHeartbeats 4000000 in
/-- knotShare, it answers -/
theorem c_L_knotShare (l : Launch) (hl0 : l.stackTraces = false) (g : ZG) {B : Nat} {o : Nat} (z : zSt) (hv : zOk (z 0)) (h0 : 1 ≤ z 0 2 0 3) : Met l yL_knotShare (.codeWith yL_knotShare cL_knotShare 3 (some .float) [(3, 8, 11, 80)] :: GW) { frames := 3, cells := 0, slots := 0, locals := 63 } (va_Pc [.ref o] (zPre g B (fun H => zSO g o z H))) (zR (some (.float (yFf (zKc (z 0 2)) (z 0 2 0 3 * 16))))) 0 0 (fun _ => False) := by
  refine zMetH (by decide) (Nat.le_of_ble_eq_true rfl) ?_
  intro p e R s m args below meth c Q ls hR hargs hQ S hr hlk hex hP hZ hS hl
  have hl : lv_has ls 3 [(0, .ref (o))] := hl
  refine lv_ldcf S.1 S.2.1 S.2.2.2.1 (S.2.2.2.2 _ k1153) dL_knotShare_0 ?_
  refine lv_fstore_n (lv' := [(1, .float (3212836864 : UInt32)), (0, .ref (o))]) S.1 S.2.1 dL_knotShare_2 rfl hl (by decide) rfl (fun ls hl => ?_)
  refine lv_aload_n S.1 S.2.1 dL_knotShare_3 rfl (lv_at hl 1 rfl) ?_
  refine z_cV (v := some (.float (yFf (zKc (z 0 2)) (z 0 2 0 3 * 16)))) (rest := []) (As := []) S hZ hS (c_knotShare l g z hv h0) ci_X11_knotShare cv_X11_knotShare k1154 ⟨rfl, rfl, by rw [hR]; decide, by rw [hR]; decide⟩ hP (hP.1.recv hZ.1 0 (by decide) rfl rfl rfl) hl.1 rfl (Nat.le_of_ble_eq_true rfl) dL_knotShare_4 ⟨by rw [hR]; decide, by rw [hR]; decide⟩ rfl ?_
  refine lv_fstore_n (lv' := [(1, .float (yFf (zKc (z 0 2)) (z 0 2 0 3 * 16))), (0, .ref (o))]) S.1 S.2.1 dL_knotShare_7 rfl hl (by decide) rfl (fun ls hl => ?_)
  refine lv_goto (tgt := 15) S.1 S.2.1 dL_knotShare_8 (by decide) ?_
  refine lv_fload_n S.1 S.2.1 dL_knotShare_15 rfl (lv_at hl 0 rfl) ?_
  exact z_rf hQ S hr hlk rfl dL_knotShare_16
set_option maxRecDepth 20000 in
set_option maxHeartbeats 4000000 in
/-- knotShare, it has none -/
theorem c_L_knotShare_no (l : Launch) (hl0 : l.stackTraces = false) (g : ZG) {B : Nat} {o : Nat} (hB : B ≤ o) (z : zSt) (hv : zOk (z 0)) (h0 : z 0 2 0 3 = 0) : Met l yL_knotShare (.codeWith yL_knotShare cL_knotShare 3 (some .float) [(3, 8, 11, 80)] :: GW) { frames := 9, cells := 1, slots := 6, locals := 167 } (va_Pc [.ref o] (zPre g B (fun H => zSO g o z H))) (zX (fun w H => w = some (.float (3212836864)) ∧ zSO g o z H) o 152) 1 6 (zA B) := by
  refine zMetH (by decide) (Nat.le_of_ble_eq_true rfl) ?_
  intro p e R s m args below meth c Q ls hR hargs hQ S hr hlk hex hP hZ hS hl
  have hl : lv_has ls 3 [(0, .ref (o))] := hl
  refine lv_ldcf S.1 S.2.1 S.2.2.2.1 (S.2.2.2.2 _ k1153) dL_knotShare_0 ?_
  refine lv_fstore_n (lv' := [(1, .float (3212836864 : UInt32)), (0, .ref (o))]) S.1 S.2.1 dL_knotShare_2 rfl hl (by decide) rfl (fun ls hl => ?_)
  refine lv_aload_n S.1 S.2.1 dL_knotShare_3 rfl (lv_at hl 1 rfl) ?_
  refine z_xV (rest := []) (As := []) S hZ hS (c_knotShare_no l hl0 g z hv h0) (Nat.le_refl B) ci_X11_knotShare cv_X11_knotShare k1154 ⟨rfl, rfl, by rw [hR]; exact Nat.le_of_ble_eq_true rfl, by rw [hR]; exact Nat.le_of_ble_eq_true rfl⟩ hP (hP.1.recv hZ.1 0 (by decide) rfl rfl rfl) hl.1 rfl (Nat.le_of_ble_eq_true rfl) dL_knotShare_4 ⟨by rw [hR]; exact Nat.le_of_ble_eq_true rfl, by rw [hR]; exact Nat.le_of_ble_eq_true rfl⟩ (fun E ce q9 H1 locs1 hPx hCn hSn hce hcv hcl => ?_)
  subst hPx
  refine z_ct (hh := [(3, 8, 11, 80)]) S hZ (by decide) [] ⟨3, 8, 11, 80⟩ [] hex rfl (fun x9 hx9 => by cases hx9) rfl (by decide : (80 : Nat) ≠ 0) k1121 hce hcv hcl ?_
  show W p l e R s m args below meth c H1 locs1 (0 + 1) (0 + 6) Q (F0 m 11 ls [.ref (q9)])
  refine lv_astore_n (lv' := [(2, .ref (q9)), (1, .float (3212836864 : UInt32)), (0, .ref (o))]) S.1 S.2.1 dL_knotShare_11 rfl hl (by decide) rfl (fun ls hl => ?_)
  refine lv_ldcf S.1 S.2.1 S.2.2.2.1 (S.2.2.2.2 _ k1153) dL_knotShare_12 ?_
  exact z_wfw hQ S (Nat.le_of_ble_eq_true rfl) (Nat.le_of_ble_eq_true rfl) hr hlk hSn hCn.z0 ⟨rfl, hP.kept hCn (by omega)⟩ dL_knotShare_14
set_option maxRecDepth 20000 in
set_option maxHeartbeats 4000000 in
/-- denial, it answers -/
theorem c_L_denial (l : Launch) (hl0 : l.stackTraces = false) (g : ZG) {B : Nat} {o : Nat} (z : zSt) (hv : zOk (z 0)) (hd : z 11 0 0 11 = 7) : Met l yL_denial (.codeWith yL_denial cL_denial 3 (some .int) [(4, 9, 12, 56)] :: GW) { frames := 2, cells := 0, slots := 0, locals := 41 } (va_Pc [.ref o] (zPre g B (fun H => zSO g o z H))) (zR (some (.int (nI (z 11 0 0 11))))) 0 0 (fun _ => False) := by
  refine zMetH (by decide) (Nat.le_of_ble_eq_true rfl) ?_
  intro p e R s m args below meth c Q ls hR hargs hQ S hr hlk hex hP hZ hS hl
  have hl : lv_has ls 3 [(0, .ref (o))] := hl
  refine lv_sipush (v := -1000) S.1 S.2.1 dL_denial_0 (by decide) ?_
  refine lv_istore_n (lv' := [(1, .int (-1000)), (0, .ref (o))]) S.1 S.2.1 dL_denial_3 rfl hl (by decide) rfl (fun ls hl => ?_)
  refine lv_aload_n S.1 S.2.1 dL_denial_4 rfl (lv_at hl 1 rfl) ?_
  refine z_cV (v := some (.int (nI (z 11 0 0 11)))) (rest := []) (As := []) S hZ hS (c_denial l g z hv hd) ci_X11_denial cv_X11_denial k802 ⟨rfl, rfl, by rw [hR]; decide, by rw [hR]; decide⟩ hP (hP.1.recv hZ.1 0 (by decide) rfl rfl rfl) hl.1 rfl (Nat.le_of_ble_eq_true rfl) dL_denial_5 ⟨by rw [hR]; decide, by rw [hR]; decide⟩ rfl ?_
  refine lv_istore_n (lv' := [(1, .int (nI (z 11 0 0 11))), (0, .ref (o))]) S.1 S.2.1 dL_denial_8 rfl hl (by decide) rfl (fun ls hl => ?_)
  refine lv_goto (tgt := 17) S.1 S.2.1 dL_denial_9 (by decide) ?_
  refine lv_iload_n S.1 S.2.1 dL_denial_17 rfl (lv_at hl 0 rfl) ?_
  exact z_ri hQ S hr hlk (zn_int _) rfl dL_denial_18
set_option maxRecDepth 20000 in
set_option maxHeartbeats 4000000 in
/-- denialCause, it answers -/
theorem c_L_denialCause (l : Launch) (hl0 : l.stackTraces = false) (g : ZG) {B : Nat} {o : Nat} (z : zSt) (hv : zOk (z 0)) (hd : z 11 0 0 11 = 7) : Met l yL_denialCause (.codeWith yL_denialCause cL_denialCause 3 (some .int) [(4, 9, 12, 56)] :: GW) { frames := 2, cells := 0, slots := 0, locals := 41 } (va_Pc [.ref o] (zPre g B (fun H => zSO g o z H))) (zR (some (.int (nI (z 11 0 0 13))))) 0 0 (fun _ => False) := by
  refine zMetH (by decide) (Nat.le_of_ble_eq_true rfl) ?_
  intro p e R s m args below meth c Q ls hR hargs hQ S hr hlk hex hP hZ hS hl
  have hl : lv_has ls 3 [(0, .ref (o))] := hl
  refine lv_sipush (v := -1000) S.1 S.2.1 dL_denialCause_0 (by decide) ?_
  refine lv_istore_n (lv' := [(1, .int (-1000)), (0, .ref (o))]) S.1 S.2.1 dL_denialCause_3 rfl hl (by decide) rfl (fun ls hl => ?_)
  refine lv_aload_n S.1 S.2.1 dL_denialCause_4 rfl (lv_at hl 1 rfl) ?_
  refine z_cV (v := some (.int (nI (z 11 0 0 13)))) (rest := []) (As := []) S hZ hS (c_denialCause l g z hv hd) ci_X11_denialCause cv_X11_denialCause k828 ⟨rfl, rfl, by rw [hR]; decide, by rw [hR]; decide⟩ hP (hP.1.recv hZ.1 0 (by decide) rfl rfl rfl) hl.1 rfl (Nat.le_of_ble_eq_true rfl) dL_denialCause_5 ⟨by rw [hR]; decide, by rw [hR]; decide⟩ rfl ?_
  refine lv_istore_n (lv' := [(1, .int (nI (z 11 0 0 13))), (0, .ref (o))]) S.1 S.2.1 dL_denialCause_8 rfl hl (by decide) rfl (fun ls hl => ?_)
  refine lv_goto (tgt := 17) S.1 S.2.1 dL_denialCause_9 (by decide) ?_
  refine lv_iload_n S.1 S.2.1 dL_denialCause_17 rfl (lv_at hl 0 rfl) ?_
  exact z_ri hQ S hr hlk (zn_int _) rfl dL_denialCause_18
set_option maxRecDepth 20000 in
set_option maxHeartbeats 4000000 in
/-- undo -/
theorem c_L_undo (l : Launch) (hl0 : l.stackTraces = false) (g : ZG) {B : Nat} {o : Nat} (hB : B ≤ o) (z : zSt) (hI : yIv z) (h1 : 1 ≤ yN z) : Met l yL_undo (.codeWith yL_undo cL_undo 3 (some .int) [(3, 8, 11, 99)] :: GW) { frames := 5, cells := 0, slots := 0, locals := 144 } (va_Pc [.ref o] (zPre g B (fun H => zSO g o z H))) (zX (fun w H => w = some (.int (nI (z 12 0 0 2 - 1))) ∧ ∃ z9, zSO g o z9 H ∧ yUd z z9) o 152) 0 0 (zA B) := by
  refine zMetH (by decide) (Nat.le_of_ble_eq_true rfl) ?_
  intro p e R s m args below meth c Q ls hR hargs hQ S hr hlk hex hP hZ hS hl
  have hl : lv_has ls 3 [(0, .ref (o))] := hl
  refine lv_ldc S.1 S.2.1 S.2.2.2.1 (S.2.2.2.2 _ k324) dL_undo_0 ?_
  refine lv_istore_n (lv' := [(1, .int (-100000000)), (0, .ref (o))]) S.1 S.2.1 dL_undo_2 rfl hl (by decide) rfl (fun ls hl => ?_)
  refine lv_aload_n S.1 S.2.1 dL_undo_3 rfl (lv_at hl 1 rfl) ?_
  refine z_w1 (v0 := some (.int (nI (z 12 0 0 2 - 1)))) (rest := []) (As := []) S hZ hS (c_undo_ok l g hB z hI.1 h1) hB ci_X11_undo cv_X11_undo k836 ⟨rfl, rfl, by rw [hR]; exact Nat.le_of_ble_eq_true rfl, by rw [hR]; exact Nat.le_of_ble_eq_true rfl⟩ hP (hP.1.recv hZ.1 0 (by decide) rfl rfl rfl) hl.1 rfl (Nat.le_of_ble_eq_true rfl) dL_undo_4 ⟨by rw [hR]; exact Nat.le_of_ble_eq_true rfl, by rw [hR]; exact Nat.le_of_ble_eq_true rfl⟩ rfl (fun H1 locs1 hPn hCn hSn => ?_)
  refine lv_istore_n (lv' := [(1, .int (nI (z 12 0 0 2 - 1))), (0, .ref (o))]) S.1 S.2.1 dL_undo_7 rfl hl (by decide) rfl (fun ls hl => ?_)
  refine lv_goto (tgt := 15) S.1 S.2.1 dL_undo_8 (by decide) ?_
  refine lv_iload_n S.1 S.2.1 dL_undo_15 rfl (lv_at hl 0 rfl) ?_
  exact z_wiw hQ S (Nat.le_of_ble_eq_true rfl) (Nat.le_of_ble_eq_true rfl) hr hlk (zn_int _) hSn hCn ⟨rfl, _, hPn, yUd.un hI h1⟩ dL_undo_16
set_option maxRecDepth 20000 in
set_option maxHeartbeats 4000000 in
/-- undo, it has none -/
theorem c_L_undo_no (l : Launch) (hl0 : l.stackTraces = false) (g : ZG) {B : Nat} {o : Nat} (hB : B ≤ o) (z : zSt) (hv : zOk (z 0)) (h0 : z 12 0 0 2 = 0) : Met l yL_undo (.codeWith yL_undo cL_undo 3 (some .int) [(3, 8, 11, 99)] :: GW) { frames := 9, cells := 1, slots := 6, locals := 167 } (va_Pc [.ref o] (zPre g B (fun H => zSO g o z H))) (zX (fun w H => w = some (.int (-100000000)) ∧ zSO g o z H) o 152) 1 6 (zA B) := by
  refine zMetH (by decide) (Nat.le_of_ble_eq_true rfl) ?_
  intro p e R s m args below meth c Q ls hR hargs hQ S hr hlk hex hP hZ hS hl
  have hl : lv_has ls 3 [(0, .ref (o))] := hl
  refine lv_ldc S.1 S.2.1 S.2.2.2.1 (S.2.2.2.2 _ k324) dL_undo_0 ?_
  refine lv_istore_n (lv' := [(1, .int (-100000000)), (0, .ref (o))]) S.1 S.2.1 dL_undo_2 rfl hl (by decide) rfl (fun ls hl => ?_)
  refine lv_aload_n S.1 S.2.1 dL_undo_3 rfl (lv_at hl 1 rfl) ?_
  refine z_xV (rest := []) (As := []) S hZ hS (c_undo_no l hl0 g z hv h0) (Nat.le_refl B) ci_X11_undo cv_X11_undo k836 ⟨rfl, rfl, by rw [hR]; exact Nat.le_of_ble_eq_true rfl, by rw [hR]; exact Nat.le_of_ble_eq_true rfl⟩ hP (hP.1.recv hZ.1 0 (by decide) rfl rfl rfl) hl.1 rfl (Nat.le_of_ble_eq_true rfl) dL_undo_4 ⟨by rw [hR]; exact Nat.le_of_ble_eq_true rfl, by rw [hR]; exact Nat.le_of_ble_eq_true rfl⟩ (fun E ce q9 H1 locs1 hPx hCn hSn hce hcv hcl => ?_)
  subst hPx
  refine z_ct (hh := [(3, 8, 11, 99)]) S hZ (by decide) [] ⟨3, 8, 11, 99⟩ [] hex rfl (fun x9 hx9 => by cases hx9) rfl (by decide : (99 : Nat) ≠ 0) k835 hce hcv hcl ?_
  show W p l e R s m args below meth c H1 locs1 (0 + 1) (0 + 6) Q (F0 m 11 ls [.ref (q9)])
  refine lv_astore_n (lv' := [(2, .ref (q9)), (1, .int (-100000000)), (0, .ref (o))]) S.1 S.2.1 dL_undo_11 rfl hl (by decide) rfl (fun ls hl => ?_)
  refine lv_ldc S.1 S.2.1 S.2.2.2.1 (S.2.2.2.2 _ k324) dL_undo_12 ?_
  exact z_wiw hQ S (Nat.le_of_ble_eq_true rfl) (Nat.le_of_ble_eq_true rfl) hr hlk (zn_int _) hSn hCn.z0 ⟨rfl, hP.kept hCn (by omega)⟩ dL_undo_14
set_option maxRecDepth 20000 in
set_option maxHeartbeats 4000000 in
/-- restore -/
theorem c_L_restore (l : Launch) (hl0 : l.stackTraces = false) (g : ZG) {B : Nat} {o : Nat} (hB : B ≤ o) (z : zSt) (hI : yIv z) (h1 : z 11 0 0 3 = 1) : Met l yL_restore (.codeWith yL_restore cL_restore 3 (some .int) [(3, 8, 11, 99)] :: GW) { frames := 4, cells := 0, slots := 0, locals := 123 } (va_Pc [.ref o] (zPre g B (fun H => zSO g o z H))) (zX (fun w H => w = some (.int (nI (z 2 2 0 3))) ∧ ∃ z9, zSO g o z9 H ∧ yIv z9 ∧ z9 0 = z 2 ∧ z9 2 = z 2 ∧ z9 11 0 0 3 = 1 ∧ yN z9 = 0) o 152) 0 0 (zA B) := by
  refine zMetH (by decide) (Nat.le_of_ble_eq_true rfl) ?_
  intro p e R s m args below meth c Q ls hR hargs hQ S hr hlk hex hP hZ hS hl
  have hl : lv_has ls 3 [(0, .ref (o))] := hl
  refine lv_ldc S.1 S.2.1 S.2.2.2.1 (S.2.2.2.2 _ k324) dL_restore_0 ?_
  refine lv_istore_n (lv' := [(1, .int (-100000000)), (0, .ref (o))]) S.1 S.2.1 dL_restore_2 rfl hl (by decide) rfl (fun ls hl => ?_)
  refine lv_aload_n S.1 S.2.1 dL_restore_3 rfl (lv_at hl 1 rfl) ?_
  refine z_w1 (v0 := some (.int (nI (z 2 2 0 3)))) (rest := []) (As := []) S hZ hS (c_restoreSnapshot_ok l g hB z hI.1 h1) hB ci_X11_restoreSnapshot cv_X11_restoreSnapshot k866 ⟨rfl, rfl, by rw [hR]; exact Nat.le_of_ble_eq_true rfl, by rw [hR]; exact Nat.le_of_ble_eq_true rfl⟩ hP (hP.1.recv hZ.1 0 (by decide) rfl rfl rfl) hl.1 rfl (Nat.le_of_ble_eq_true rfl) dL_restore_4 ⟨by rw [hR]; exact Nat.le_of_ble_eq_true rfl, by rw [hR]; exact Nat.le_of_ble_eq_true rfl⟩ rfl (fun H1 locs1 hPn hCn hSn => ?_)
  refine lv_istore_n (lv' := [(1, .int (nI (z 2 2 0 3))), (0, .ref (o))]) S.1 S.2.1 dL_restore_7 rfl hl (by decide) rfl (fun ls hl => ?_)
  refine lv_goto (tgt := 15) S.1 S.2.1 dL_restore_8 (by decide) ?_
  refine lv_iload_n S.1 S.2.1 dL_restore_15 rfl (lv_at hl 0 rfl) ?_
  exact z_wiw hQ S (Nat.le_of_ble_eq_true rfl) (Nat.le_of_ble_eq_true rfl) hr hlk (zn_int _) hSn hCn ⟨rfl, _, hPn, yRe_iv hI, rfl, rfl, h1, rfl⟩ dL_restore_16
set_option maxRecDepth 20000 in
set_option maxHeartbeats 4000000 in
/-- restore, it may not -/
theorem c_L_restore_no (l : Launch) (hl0 : l.stackTraces = false) (g : ZG) {B : Nat} {o : Nat} (hB : B ≤ o) (z : zSt) (hv : zOk (z 0)) (h0 : z 11 0 0 3 = 0) : Met l yL_restore (.codeWith yL_restore cL_restore 3 (some .int) [(3, 8, 11, 99)] :: GW) { frames := 9, cells := 1, slots := 6, locals := 167 } (va_Pc [.ref o] (zPre g B (fun H => zSO g o z H))) (zX (fun w H => w = some (.int (-100000000)) ∧ zSO g o z H) o 152) 1 6 (zA B) := by
  refine zMetH (by decide) (Nat.le_of_ble_eq_true rfl) ?_
  intro p e R s m args below meth c Q ls hR hargs hQ S hr hlk hex hP hZ hS hl
  have hl : lv_has ls 3 [(0, .ref (o))] := hl
  refine lv_ldc S.1 S.2.1 S.2.2.2.1 (S.2.2.2.2 _ k324) dL_restore_0 ?_
  refine lv_istore_n (lv' := [(1, .int (-100000000)), (0, .ref (o))]) S.1 S.2.1 dL_restore_2 rfl hl (by decide) rfl (fun ls hl => ?_)
  refine lv_aload_n S.1 S.2.1 dL_restore_3 rfl (lv_at hl 1 rfl) ?_
  refine z_xV (rest := []) (As := []) S hZ hS (c_restoreSnapshot_no l hl0 g z hv h0) (Nat.le_refl B) ci_X11_restoreSnapshot cv_X11_restoreSnapshot k866 ⟨rfl, rfl, by rw [hR]; exact Nat.le_of_ble_eq_true rfl, by rw [hR]; exact Nat.le_of_ble_eq_true rfl⟩ hP (hP.1.recv hZ.1 0 (by decide) rfl rfl rfl) hl.1 rfl (Nat.le_of_ble_eq_true rfl) dL_restore_4 ⟨by rw [hR]; exact Nat.le_of_ble_eq_true rfl, by rw [hR]; exact Nat.le_of_ble_eq_true rfl⟩ (fun E ce q9 H1 locs1 hPx hCn hSn hce hcv hcl => ?_)
  subst hPx
  refine z_ct (hh := [(3, 8, 11, 99)]) S hZ (by decide) [] ⟨3, 8, 11, 99⟩ [] hex rfl (fun x9 hx9 => by cases hx9) rfl (by decide : (99 : Nat) ≠ 0) k835 hce hcv hcl ?_
  show W p l e R s m args below meth c H1 locs1 (0 + 1) (0 + 6) Q (F0 m 11 ls [.ref (q9)])
  refine lv_astore_n (lv' := [(2, .ref (q9)), (1, .int (-100000000)), (0, .ref (o))]) S.1 S.2.1 dL_restore_11 rfl hl (by decide) rfl (fun ls hl => ?_)
  refine lv_ldc S.1 S.2.1 S.2.2.2.1 (S.2.2.2.2 _ k324) dL_restore_12 ?_
  exact z_wiw hQ S (Nat.le_of_ble_eq_true rfl) (Nat.le_of_ble_eq_true rfl) hr hlk (zn_int _) hSn hCn.z0 ⟨rfl, hP.kept hCn (by omega)⟩ dL_restore_14
set_option maxRecDepth 20000 in
set_option maxHeartbeats 4000000 in
/-- put -/
theorem c_L_put (l : Launch) (hl0 : l.stackTraces = false) (g : ZG) {B : Nat} {o : Nat} (hB : B ≤ o) (z : zSt) (x : Nat) (hx : x < 65536) (h60 : z 15 0 0 1 < 60) : Met l yL_put (.codeWith yL_put cL_put 3 (some .boolean) [(0, 6, 9, 99)] :: GW) { frames := 2, cells := 0, slots := 0, locals := 42 } (va_Pc [.ref o, .int (nI (x))] (zPre g B (fun H => zSO g o z H))) (zX (fun w H => w = some (.int (nI 1)) ∧ zSO g o (yFd z x) H) o 152) 0 0 (zA B) := by
  refine zMetH (by decide) (Nat.le_of_ble_eq_true rfl) ?_
  intro p e R s m args below meth c Q ls hR hargs hQ S hr hlk hex hP hZ hS hl
  have hl : lv_has ls 3 [(0, .ref (o)), (1, .int (nI (x)))] := hl
  refine lv_aload_n S.1 S.2.1 dL_put_0 rfl (lv_at hl 0 rfl) ?_
  refine lv_iload_n S.1 S.2.1 dL_put_1 rfl (lv_at hl 1 rfl) ?_
  refine z_w1 (v0 := some (.int (nI (z 15 0 0 1 + 1)))) (rest := []) (As := [.int (nI (x))]) S hZ hS (c_feed l g hB z x hx h60) hB ci_X11_feed cv_X11_feed k882 ⟨rfl, rfl, by rw [hR]; exact Nat.le_of_ble_eq_true rfl, by rw [hR]; exact Nat.le_of_ble_eq_true rfl⟩ hP (hP.1.recv hZ.1 0 (by decide) rfl rfl rfl) hl.1 rfl (Nat.le_of_ble_eq_true rfl) dL_put_2 ⟨by rw [hR]; exact Nat.le_of_ble_eq_true rfl, by rw [hR]; exact Nat.le_of_ble_eq_true rfl⟩ rfl (fun H1 locs1 hPn hCn hSn => ?_)
  refine lv_pop S.1 S.2.1 dL_put_5 rfl ?_
  refine lv_goto (tgt := 12) S.1 S.2.1 dL_put_6 (by decide) ?_
  refine z_ic S (k := 1) dL_put_12 (by decide) ?_
  exact z_wiw hQ S (Nat.le_of_ble_eq_true rfl) (Nat.le_of_ble_eq_true rfl) hr hlk rfl hSn hCn ⟨rfl, hPn⟩ dL_put_13
set_option maxRecDepth 20000 in
set_option maxHeartbeats 4000000 in
/-- execute, the empty buffer -/
theorem c_L_execute_e (l : Launch) (hl0 : l.stackTraces = false) (g : ZG) {B : Nat} {o : Nat} (hB : B ≤ o) (z : zSt) (hI : yIv z) : Met l yL_execute (.codeWith yL_execute cL_execute 3 (some .int) [(3, 8, 11, 17), (3, 8, 15, 19)] :: GW) { frames := 9, cells := 1, slots := 6, locals := 199 } (va_Pc [.ref o] (zPre g B (fun H => zSO g o z H))) (zX (fun w H => w = some (.int (-100000000)) ∧ ∃ z9, zSO g o z9 H ∧ yNoc z z9) o 152) 1 6 (zA B) := by
  refine zMetH (by decide) (Nat.le_of_ble_eq_true rfl) ?_
  intro p e R s m args below meth c Q ls hR hargs hQ S hr hlk hex hP hZ hS hl
  have hl : lv_has ls 3 [(0, .ref (o))] := hl
  refine lv_ldc S.1 S.2.1 S.2.2.2.1 (S.2.2.2.2 _ k324) dL_execute_0 ?_
  refine lv_istore_n (lv' := [(1, .int (-100000000)), (0, .ref (o))]) S.1 S.2.1 dL_execute_2 rfl hl (by decide) rfl (fun ls hl => ?_)
  refine lv_aload_n S.1 S.2.1 dL_execute_3 rfl (lv_at hl 1 rfl) ?_
  refine z_xV (rest := []) (As := []) S hZ hS (c_execute_e l hl0 g hB z hI.2.1) hB ci_X11_execute cv_X11_execute k696 ⟨rfl, rfl, by rw [hR]; exact Nat.le_of_ble_eq_true rfl, by rw [hR]; exact Nat.le_of_ble_eq_true rfl⟩ hP (hP.1.recv hZ.1 0 (by decide) rfl rfl rfl) hl.1 rfl (Nat.le_of_ble_eq_true rfl) dL_execute_4 ⟨by rw [hR]; exact Nat.le_of_ble_eq_true rfl, by rw [hR]; exact Nat.le_of_ble_eq_true rfl⟩ (fun E ce q9 H1 locs1 hPx hCn hSn hce hcv hcl => ?_)
  obtain ⟨rfl, z9, hPn, h0, h12, hk, h2, h16, h11, h15⟩ := hPx
  refine z_ct (hh := [(3, 8, 11, 17), (3, 8, 15, 19)]) S hZ (by decide) [] ⟨3, 8, 11, 17⟩ [⟨3, 8, 15, 19⟩] hex rfl (fun x9 hx9 => by cases hx9) rfl (by decide : (17 : Nat) ≠ 0) k322 hce hcv hcl ?_
  show W p l e R s m args below meth c H1 locs1 (0 + 1) (0 + 6) Q (F0 m 11 ls [.ref (q9)])
  refine lv_astore_n (lv' := [(2, .ref (q9)), (1, .int (-100000000)), (0, .ref (o))]) S.1 S.2.1 dL_execute_11 rfl hl (by decide) rfl (fun ls hl => ?_)
  refine lv_ldc S.1 S.2.1 S.2.2.2.1 (S.2.2.2.2 _ k324) dL_execute_12 ?_
  exact z_wiw hQ S (Nat.le_of_ble_eq_true rfl) (Nat.le_of_ble_eq_true rfl) hr hlk (zn_int _) hSn hCn ⟨rfl, z9, hPn, yNoc.of hI.1 h0 h2 h12 hk h11 hI.2.2 h15⟩ dL_execute_14
set_option maxRecDepth 20000 in
set_option maxHeartbeats 4000000 in
/-- execute, the k-th text -/
theorem c_L_execute (l : Launch) (hl0 : l.stackTraces = false) (g : ZG) {B : Nat} {o : Nat} (hB : B ≤ o) (z : zSt) (hI : zIv z) (h3 : z 11 0 0 3 ≤ 1) (k : Nat) (hk : k < 31) (hb : yBf (z 15 0) (17 + k)) : Met l yL_execute (.codeWith yL_execute cL_execute 3 (some .int) [(3, 8, 11, 17), (3, 8, 15, 19)] :: GW) { frames := 9, cells := 1, slots := 6, locals := 199 } (va_Pc [.ref o] (zPre g B (fun H => zSO g o z H))) (zX (fun w H => ∃ z9, zSO g o z9 H ∧ ((∃ n v2, n < 2 ^ 31 ∧ w = some (.int (nI n)) ∧ yCh z z9 v2) ∨ (w = some (.int (-100000000)) ∧ yNoc z z9 ∧ z9 11 0 0 11 = 7 ∧ 1 ≤ z9 11 0 0 13 ∧ z9 11 0 0 13 ≤ 10))) o 152) 1 6 (zA B) := by
  refine zMetH (by decide) (Nat.le_of_ble_eq_true rfl) ?_
  intro p e R s m args below meth c Q ls hR hargs hQ S hr hlk hex hP hZ hS hl
  have hl : lv_has ls 3 [(0, .ref (o))] := hl
  refine lv_ldc S.1 S.2.1 S.2.2.2.1 (S.2.2.2.2 _ k324) dL_execute_0 ?_
  refine lv_istore_n (lv' := [(1, .int (-100000000)), (0, .ref (o))]) S.1 S.2.1 dL_execute_2 rfl hl (by decide) rfl (fun ls hl => ?_)
  refine lv_aload_n S.1 S.2.1 dL_execute_3 rfl (lv_at hl 1 rfl) ?_
  obtain ⟨L, hL0, hn10, hrow⟩ := yPa_rows k hk
  cases he : yEx L (z 0) with
  | none =>
    refine z_xV (rest := []) (As := []) S hZ hS (c_execute_no l hl0 g hB z hI _ hb L hL0 hn10 hrow he) hB ci_X11_execute cv_X11_execute k696 ⟨rfl, rfl, by rw [hR]; exact Nat.le_of_ble_eq_true rfl, by rw [hR]; exact Nat.le_of_ble_eq_true rfl⟩ hP (hP.1.recv hZ.1 0 (by decide) rfl rfl rfl) hl.1 rfl (Nat.le_of_ble_eq_true rfl) dL_execute_4 ⟨by rw [hR]; exact Nat.le_of_ble_eq_true rfl, by rw [hR]; exact Nat.le_of_ble_eq_true rfl⟩ (fun E ce q9 H1 locs1 hPx hCn hSn hce hcv hcl => ?_)
    obtain ⟨rfl, z9, hPn, h0, h12, hk9, ⟨h2, h16, h11, h15⟩, h7, h13, h13b⟩ := hPx
    refine z_ct (hh := [(3, 8, 11, 17), (3, 8, 15, 19)]) S hZ (by decide) [⟨3, 8, 11, 17⟩] ⟨3, 8, 15, 19⟩ [] hex rfl (fun x9 hx9 => by
        rcases List.mem_cons.mp hx9 with e9 | hx9
        · rw [e9]; exact Or.inr ⟨(by decide : (17 : Nat) ≠ 0), "java/lang/IllegalArgumentException", k322, by decide⟩
        cases hx9) rfl (by decide : (19 : Nat) ≠ 0) k323 hce hcv hcl ?_
    show W p l e R s m args below meth c H1 locs1 (0 + 1) (0 + 6) Q (F0 m 15 ls [.ref (q9)])
    refine lv_astore_n (lv' := [(2, .ref (q9)), (1, .int (-100000000)), (0, .ref (o))]) S.1 S.2.1 dL_execute_15 rfl hl (by decide) rfl (fun ls hl => ?_)
    refine lv_ldc S.1 S.2.1 S.2.2.2.1 (S.2.2.2.2 _ k324) dL_execute_16 ?_
    exact z_wiw hQ S (Nat.le_of_ble_eq_true rfl) (Nat.le_of_ble_eq_true rfl) hr hlk (zn_int _) hSn hCn ⟨z9, hPn, Or.inr ⟨rfl, yNoc.of hI h0 h2 h12 hk9 h11 h3 h15, h7, h13, h13b⟩⟩ dL_execute_18
  | some v2 =>
    refine z_w1 (v0 := some (.int (nI (L.length)))) (rest := []) (As := []) S hZ hS (c_execute_ok l g hB z hI _ hb L hL0 hn10 hrow v2 he) hB ci_X11_execute cv_X11_execute k696 ⟨rfl, rfl, by rw [hR]; exact Nat.le_of_ble_eq_true rfl, by rw [hR]; exact Nat.le_of_ble_eq_true rfl⟩ hP (hP.1.recv hZ.1 0 (by decide) rfl rfl rfl) hl.1 rfl (Nat.le_of_ble_eq_true rfl) dL_execute_4 ⟨by rw [hR]; exact Nat.le_of_ble_eq_true rfl, by rw [hR]; exact Nat.le_of_ble_eq_true rfl⟩ rfl (fun H1 locs1 hPn hCn hSn => ?_)
    obtain ⟨z9, hPn, hv2, h0, h12, hk9, ⟨h2, h16, h11, h15⟩, -⟩ := hPn
    refine lv_istore_n (lv' := [(1, .int (nI (L.length))), (0, .ref (o))]) S.1 S.2.1 dL_execute_7 rfl hl (by decide) rfl (fun ls hl => ?_)
    refine lv_goto (tgt := 19) S.1 S.2.1 dL_execute_8 (by decide) ?_
    refine lv_iload_n S.1 S.2.1 dL_execute_19 rfl (lv_at hl 0 rfl) ?_
    exact z_wiw hQ S (Nat.le_of_ble_eq_true rfl) (Nat.le_of_ble_eq_true rfl) hr hlk (zn_int _) hSn hCn ⟨z9, hPn, Or.inl ⟨L.length, v2, by omega, rfl, yCh.of hI hv2 h0 h2 h12 hk9 h11 h3 h15⟩⟩ dL_execute_20
