/-! THE LAW: areRows -/
theorem yBand (b c : Bool) : b.toNat &&& c.toNat = (b && c).toNat := by cases b <;> cases c <;> rfl
theorem zRl_c (f q : Nat → Nat → Nat) (r c : Nat) (hc : c < 16) : zRl f q r 16 1 (2 + c) = zSg (zBt (q 1 r) c) (zBt (q 3 r) c) := by
  show (if 2 + c = 0 then _ else if 2 + c = 1 then _ else if 2 + c < 2 + 16 then zSg (zBt (q 1 r) (2 + c - 2)) (zBt (q 3 r) (2 + c - 2)) else _) = _
  rw [if_neg (by omega), if_neg (by omega), if_pos (by omega), show 2 + c - 2 = c by omega]
theorem zSg_lt (a b : Bool) : zSg a b < 128 := by cases a <;> cases b <;> decide
theorem zBc_bt {x : Nat} (hx : x < 65536) : zBc x = zSum (fun c => (zBt x c).toNat) 16 := by
  rw [zBc_sum hx]
  exact zSum_cg (fun c _ => zBt_mod x c)
theorem zAll_cg {p q : Nat → Bool} : ∀ {n : Nat}, (∀ i, i < n → p i = q i) → zAll p n = zAll q n
  | 0, _ => rfl
  | n + 1, h => by rw [zAll, zAll, zAll_cg (n := n) (fun i hi => h i (by omega)), h n (by omega)]
theorem zNw_sym (f : Nat → Nat → Nat) (i : Nat) : zNw f i = zAll (fun j => !zRw f i j) i := zAll_cg (fun j _ => by rw [zRw_sym])
theorem ci_L_areRows : zCI yL_areRows cL_areRows 12 (some .boolean) 1 := ⟨k1052, k0, by decide +kernel⟩
theorem cv_L_areRows : Cond.static yL_areRows ∈ GW := k1051
theorem yWr_iv {z : zSt} {r : Nat} (h : yIv z) : yIv (yWr z r) := ⟨⟨h.1.1, h.1.2.1, fun i hi => by rw [yWr_k z r i hi]; exact h.1.2.2.1 i hi, h.1.2.2.2.1, h.1.2.2.2.2⟩, h.2⟩
theorem yWr_no {z : zSt} {r : Nat} (h : yIv z) : yNoc z (yWr z r) := yNoc.of h.1 rfl rfl rfl (yWr_k z r) rfl h.2.2 h.2.1
set_option maxRecDepth 20000 in
set_option maxHeartbeats 4000000 in
/-- areRows -/
theorem c_areRows (l : Launch) (hl0 : l.stackTraces = false) (g : ZG) {B : Nat} {o : Nat} (hB : B ≤ o) (z : zSt) (hI : yIv z) : Met l yL_areRows (.code yL_areRows cL_areRows 12 (some .boolean) :: GW) { frames := 12, cells := 2, slots := 12, locals := 240 } (va_Pc [.ref o] (zPre g B (fun H => zSO g o z H))) (zX (fun w H => w = some (.int (nI 1)) ∧ ∃ z9, zSO g o z9 H ∧ yNoc z z9) o 152) 2 12 (zA B) := by
  refine zMet (by decide) (Nat.le_of_ble_eq_true rfl) ?_
  intro p e R s m args below meth c Q ls hR hargs hQ S hr hlk hP hZ hS hnm hl
  have hl : lv_has ls 12 [(0, .ref (o))] := hl
  have hk40 := hI.ok.2.1.1
  have hC : zCh1 o 152 s.heap s.heap := zCh1.rf
  refine lv_aload_n S.1 S.2.1 dL_areRows_0 rfl (lv_at hl 0 rfl) ?_
  refine z_cV (v := some (.int (nI (z 0 2 0 3)))) (rest := []) (As := []) S hZ hS (c_rowCount l g z hI.ok) ci_X11_rowCount cv_X11_rowCount k977 ⟨rfl, rfl, by rw [hR]; decide, by rw [hR]; decide⟩ hP (hP.1.recv hZ.1 0 (by decide) rfl rfl rfl) hl.1 rfl (Nat.le_of_ble_eq_true rfl) dL_areRows_1 ⟨by rw [hR]; decide, by rw [hR]; decide⟩ rfl ?_
  refine lv_istore_n (lv' := [(1, .int (nI (z 0 2 0 3))), (0, .ref (o))]) S.1 S.2.1 dL_areRows_4 rfl hl (by decide) rfl (fun ls hl => ?_)
  refine z_ic S (k := 0) dL_areRows_5 (by decide) ?_
  refine lv_istore_n (lv' := [(2, .int (nI (0))), (1, .int (nI (z 0 2 0 3))), (0, .ref (o))]) S.1 S.2.1 dL_areRows_6 rfl hl (by decide) rfl (fun ls hl => ?_)
  refine z_ic S (k := 0) dL_areRows_7 (by decide) ?_
  refine lv_istore_n (lv' := [(3, .int (nI (0))), (2, .int (nI (0))), (1, .int (nI (z 0 2 0 3))), (0, .ref (o))]) S.1 S.2.1 dL_areRows_8 rfl hl (by decide) rfl (fun ls hl => ?_)
  refine z_ic S (k := 0) dL_areRows_9 (by decide) ?_
  refine lv_istore (lv' := [(4, .int (nI (0))), (3, .int (nI (0))), (2, .int (nI (0))), (1, .int (nI (z 0 2 0 3))), (0, .ref (o))]) S.1 S.2.1 dL_areRows_10 hl (by decide) rfl (fun ls hl => ?_)
  refine z_ic S (k := 1) dL_areRows_12 (by decide) ?_
  refine lv_istore (lv' := [(5, .int (nI (1))), (4, .int (nI (0))), (3, .int (nI (0))), (2, .int (nI (0))), (1, .int (nI (z 0 2 0 3))), (0, .ref (o))]) S.1 S.2.1 dL_areRows_13 hl (by decide) rfl (fun ls hl => ?_)
  refine lv_iload_n S.1 S.2.1 dL_areRows_15 rfl (lv_at hl 4 rfl) ?_
  refine z_bi S (k := 40) dL_areRows_16 (by decide) ?_
  refine z_cgt (tgt := 25) S (by omega) (by omega) dL_areRows_18 (by decide) (fun h1 => ?_) (fun h1 => ?_)
  · exact absurd h1 (by omega)
  · refine z_ic S (k := 1) dL_areRows_21 (by decide) ?_
    refine lv_goto (tgt := 26) S.1 S.2.1 dL_areRows_22 (by decide) ?_
    refine lv_istore (lv' := [(6, .int (nI (1))), (5, .int (nI (1))), (4, .int (nI (0))), (3, .int (nI (0))), (2, .int (nI (0))), (1, .int (nI (z 0 2 0 3))), (0, .ref (o))]) S.1 S.2.1 dL_areRows_26 hl (by decide) rfl (fun ls hl => ?_)
    refine z_ic S (k := 0) dL_areRows_28 (by decide) ?_
    refine lv_istore (lv' := [(7, .int (nI (0))), (6, .int (nI (1))), (5, .int (nI (1))), (4, .int (nI (0))), (3, .int (nI (0))), (2, .int (nI (0))), (1, .int (nI (z 0 2 0 3))), (0, .ref (o))]) S.1 S.2.1 dL_areRows_29 hl (by decide) rfl (fun ls hl => ?_)
    have loop : ∀ (n : Nat) (row ra kn di : Nat) (sy : Bool) (y : zSt) (H : Heap) (locs : List Loc) (ls : Array Slot), (row ≤ y 0 2 0 3) → (y 0 2 0 3 < row + n) → (yIv y) → (yNoc z y) → (ra = zSum (fun i => zBc (y 0 2 1 i)) row) → (kn = zSum (fun i => zBc (y 0 2 3 i)) row) → (di = zSum (fun i => (zNw (y 0 2) i).toNat) row) → (sy = zAll (fun i => zRw (y 0 2) i (y 0 2 0 3 - 1 - i)) row) → (zSO g o y H) → (va_S (zA B) s.heap H locs) → (zCh1 o 152 s.heap H) → lv_has ls 12 [(0, .ref (o)), (1, .int (nI (y 0 2 0 3))), (2, .int (nI (ra))), (3, .int (nI (kn))), (4, .int (nI (di))), (5, .int (nI (sy).toNat)), (6, .int (nI (1))), (7, .int (nI (row)))] → W p l e R s m args below meth c H locs 0 0 Q (F0 m 31 ls []) := by
      intro n
      induction n with
      | zero => intro row ra kn di sy y H locs ls h1 h2 hIy hzy hra hkn hdi hsy hP hS hC hl; exact absurd h2 (by omega)
      | succ n ih =>
        intro row ra kn di sy y H locs ls h1 h2 hIy hzy hra hkn hdi hsy hP hS hC hl
        have hv : zOk (y 0) := hIy.ok
        have hk4 := hv.2.1.1
        refine lv_iload S.1 S.2.1 dL_areRows_31 (lv_at hl 6 rfl) ?_
        refine z_kie (tgt := 297) S (by decide) dL_areRows_33 (by decide) ?_
        refine lv_iload S.1 S.2.1 dL_areRows_36 (lv_at hl 7 rfl) ?_
        refine lv_iload_n S.1 S.2.1 dL_areRows_38 rfl (lv_at hl 1 rfl) ?_
        refine z_cge (tgt := 297) S (by omega) (by omega) dL_areRows_39 (by decide) (fun h4 => ?_) (fun h4 => ?_)
        · have er : row = y 0 2 0 3 := by omega
          rw [er] at hra hkn hdi hsy
          have hR6 := zRc_640 hv.2.1
          have hK6 := zKc_640 hv.2.1
          refine lv_iload S.1 S.2.1 dL_areRows_297 (lv_at hl 6 rfl) ?_
          refine z_kie (tgt := 380) S (by decide) dL_areRows_299 (by decide) ?_
          refine lv_aload_n S.1 S.2.1 dL_areRows_302 rfl (lv_at hl 0 rfl) ?_
          refine z_cV (v := some (.int (nI (zKc (y 0 2))))) (rest := []) (As := []) S hZ hS (c_knotCount l g y hv) ci_X11_knotCount cv_X11_knotCount k1089 ⟨rfl, rfl, by rw [hR]; decide, by rw [hR]; decide⟩ hP (hP.1.recv hZ.1 0 (by decide) rfl rfl rfl) hl.1 rfl (Nat.le_of_ble_eq_true rfl) dL_areRows_303 ⟨by rw [hR]; decide, by rw [hR]; decide⟩ rfl ?_
          refine lv_iload_n S.1 S.2.1 dL_areRows_306 rfl (lv_at hl 3 rfl) ?_
          refine z_kne (tgt := 380) S (by rw [hkn]; rfl) dL_areRows_307 (by decide) ?_
          refine lv_aload_n S.1 S.2.1 dL_areRows_310 rfl (lv_at hl 0 rfl) ?_
          refine z_cV (v := some (.int (nI (zCd (y 0 2))))) (rest := []) (As := []) S hZ hS (c_distinctRows l g y hv) ci_X11_distinctRows cv_X11_distinctRows k1094 ⟨rfl, rfl, by rw [hR]; decide, by rw [hR]; decide⟩ hP (hP.1.recv hZ.1 0 (by decide) rfl rfl rfl) hl.1 rfl (Nat.le_of_ble_eq_true rfl) dL_areRows_311 ⟨by rw [hR]; decide, by rw [hR]; decide⟩ rfl ?_
          refine lv_iload S.1 S.2.1 dL_areRows_314 (lv_at hl 4 rfl) ?_
          refine z_kne (tgt := 380) S (by rw [hdi]; rfl) dL_areRows_316 (by decide) ?_
          refine lv_aload_n S.1 S.2.1 dL_areRows_319 rfl (lv_at hl 0 rfl) ?_
          refine z_cV (v := some (.int (nI (zSy (y 0 2)).toNat))) (rest := []) (As := []) S hZ hS (c_isSymmetric l g y hv) ci_X11_isSymmetric cv_X11_isSymmetric k1110 ⟨rfl, rfl, by rw [hR]; decide, by rw [hR]; decide⟩ hP (hP.1.recv hZ.1 0 (by decide) rfl rfl rfl) hl.1 rfl (Nat.le_of_ble_eq_true rfl) dL_areRows_320 ⟨by rw [hR]; decide, by rw [hR]; decide⟩ rfl ?_
          refine lv_iload S.1 S.2.1 dL_areRows_323 (lv_at hl 5 rfl) ?_
          refine z_kne (tgt := 380) S (by rw [hsy]; rfl) dL_areRows_325 (by decide) ?_
          rcases Nat.eq_zero_or_pos (y 0 2 0 3) with hz | hz
          · refine lv_aload_n S.1 S.2.1 dL_areRows_328 rfl (lv_at hl 0 rfl) ?_
            refine z_w1SW (v0 := some (.double (13830554455654793216))) (rest := []) (As := [.ref (o)]) S hZ hS (c_L_meanRaised_no l hl0 g hB y hv hz) hB ci_L_meanRaised cv_L_meanRaised k1118 ⟨rfl, rfl, by rw [hR]; exact Nat.le_of_ble_eq_true rfl, by rw [hR]; exact Nat.le_of_ble_eq_true rfl⟩ hP hl.1 rfl (Nat.le_of_ble_eq_true rfl) dL_areRows_329 ⟨by rw [hR]; exact Nat.le_of_ble_eq_true rfl, by rw [hR]; exact Nat.le_of_ble_eq_true rfl⟩ rfl (fun H1 locs1 hPn hCn hSn => ?_)
            replace hS := hSn
            replace hC := hC.tr hCn
            replace hP := hPn
            clear hPn hCn hSn
            refine lv_iload_n S.1 S.2.1 dL_areRows_332 rfl (lv_at hl 1 rfl) ?_
            refine z_ine (tgt := 342) S (by omega) dL_areRows_333 (by decide) (fun h7 => ?_) (fun h7 => ?_)
            · exact absurd h7 (by omega)
            · refine lv_ldc2d S.1 S.2.1 S.2.2.2.1 (S.2.2.2.2 _ k1135) dL_areRows_336 ?_
              refine lv_goto (tgt := 347) S.1 S.2.1 dL_areRows_339 (by decide) ?_
              refine lv_dcmp S.1 S.2.1 dL_areRows_347 ?_
              refine z_kin (tgt := 380) S (by decide +kernel) dL_areRows_348 (by decide) ?_
              refine lv_aload_n S.1 S.2.1 dL_areRows_351 rfl (lv_at hl 0 rfl) ?_
              refine z_w1SW (v0 := some (.float (3212836864))) (rest := []) (As := [.ref (o)]) S hZ hS (c_L_knotShare_no l hl0 g hB y hv hz) hB ci_L_knotShare cv_L_knotShare k1150 ⟨rfl, rfl, by rw [hR]; exact Nat.le_of_ble_eq_true rfl, by rw [hR]; exact Nat.le_of_ble_eq_true rfl⟩ hP hl.1 rfl (Nat.le_of_ble_eq_true rfl) dL_areRows_352 ⟨by rw [hR]; exact Nat.le_of_ble_eq_true rfl, by rw [hR]; exact Nat.le_of_ble_eq_true rfl⟩ rfl (fun H1 locs1 hPn hCn hSn => ?_)
              replace hS := hSn
              replace hC := hC.tr hCn
              replace hP := hPn
              clear hPn hCn hSn
              refine lv_iload_n S.1 S.2.1 dL_areRows_355 rfl (lv_at hl 1 rfl) ?_
              refine z_ine (tgt := 364) S (by omega) dL_areRows_356 (by decide) (fun h8 => ?_) (fun h8 => ?_)
              · exact absurd h8 (by omega)
              · refine lv_ldcf S.1 S.2.1 S.2.2.2.1 (S.2.2.2.2 _ k1153) dL_areRows_359 ?_
                refine lv_goto (tgt := 372) S.1 S.2.1 dL_areRows_361 (by decide) ?_
                refine lv_fcmp S.1 S.2.1 dL_areRows_372 ?_
                refine z_kin (tgt := 380) S (by decide +kernel) dL_areRows_373 (by decide) ?_
                refine z_ic S (k := 1) dL_areRows_376 (by decide) ?_
                refine lv_goto (tgt := 381) S.1 S.2.1 dL_areRows_377 (by decide) ?_
                exact z_wiw hQ S (Nat.le_of_ble_eq_true rfl) (Nat.le_of_ble_eq_true rfl) hr hlk rfl hS hC ⟨rfl, y, hP, hzy⟩ dL_areRows_381
          · refine lv_aload_n S.1 S.2.1 dL_areRows_328 rfl (lv_at hl 0 rfl) ?_
            refine z_cSW (v := some (.double (yDd (zRc (y 0 2)) (y 0 2 0 3)))) (rest := []) (As := [.ref (o)]) S hZ hS (c_L_meanRaised l hl0 g y hv hz) ci_L_meanRaised cv_L_meanRaised k1118 ⟨rfl, rfl, by rw [hR]; exact Nat.le_of_ble_eq_true rfl, by rw [hR]; exact Nat.le_of_ble_eq_true rfl⟩ hP hl.1 rfl (Nat.le_of_ble_eq_true rfl) dL_areRows_329 ⟨by rw [hR]; exact Nat.le_of_ble_eq_true rfl, by rw [hR]; exact Nat.le_of_ble_eq_true rfl⟩ rfl ?_
            refine lv_iload_n S.1 S.2.1 dL_areRows_332 rfl (lv_at hl 1 rfl) ?_
            refine z_ine (tgt := 342) S (by omega) dL_areRows_333 (by decide) (fun h7 => ?_) (fun h7 => ?_)
            · refine lv_iload_n S.1 S.2.1 dL_areRows_342 rfl (lv_at hl 2 rfl) ?_
              refine lv_i2d S.1 S.2.1 dL_areRows_343 ?_
              refine lv_iload_n S.1 S.2.1 dL_areRows_344 rfl (lv_at hl 1 rfl) ?_
              refine lv_i2d S.1 S.2.1 dL_areRows_345 ?_
              rw [show ra = zRc (y 0 2) from hra]
              refine lv_ddiv S.1 S.2.1 dL_areRows_346 (vf64_of (yDd_n hR6 (by omega) (by omega))) ?_
              refine lv_dcmp S.1 S.2.1 dL_areRows_347 ?_
              refine z_kin (tgt := 380) S (by show Op.cmpValue (FP.dcmp (yDd (zRc (y 0 2)) (y 0 2 0 3)) (yDd (zRc (y 0 2)) (y 0 2 0 3))) _ = 0; rw [yDd_e hR6 (by omega) (by omega)]; rfl) dL_areRows_348 (by decide) ?_
              refine lv_aload_n S.1 S.2.1 dL_areRows_351 rfl (lv_at hl 0 rfl) ?_
              refine z_cSW (v := some (.float (yFf (zKc (y 0 2)) (y 0 2 0 3 * 16)))) (rest := []) (As := [.ref (o)]) S hZ hS (c_L_knotShare l hl0 g y hv hz) ci_L_knotShare cv_L_knotShare k1150 ⟨rfl, rfl, by rw [hR]; exact Nat.le_of_ble_eq_true rfl, by rw [hR]; exact Nat.le_of_ble_eq_true rfl⟩ hP hl.1 rfl (Nat.le_of_ble_eq_true rfl) dL_areRows_352 ⟨by rw [hR]; exact Nat.le_of_ble_eq_true rfl, by rw [hR]; exact Nat.le_of_ble_eq_true rfl⟩ rfl ?_
              refine lv_iload_n S.1 S.2.1 dL_areRows_355 rfl (lv_at hl 1 rfl) ?_
              refine z_ine (tgt := 364) S (by omega) dL_areRows_356 (by decide) (fun h8 => ?_) (fun h8 => ?_)
              · refine lv_iload_n S.1 S.2.1 dL_areRows_364 rfl (lv_at hl 3 rfl) ?_
                refine lv_i2f S.1 S.2.1 dL_areRows_365 ?_
                refine z_bi S (k := 16) dL_areRows_366 (by decide) ?_
                refine lv_iload_n S.1 S.2.1 dL_areRows_368 rfl (lv_at hl 1 rfl) ?_
                refine z_mul S dL_areRows_369 ?_
                refine lv_i2f S.1 S.2.1 dL_areRows_370 ?_
                rw [show kn = zKc (y 0 2) from hkn, Nat.mul_comm 16 (y 0 2 0 3)]
                refine lv_fdiv S.1 S.2.1 dL_areRows_371 (vf32_of (yFf_n hK6 (by omega) (by omega))) ?_
                refine lv_fcmp S.1 S.2.1 dL_areRows_372 ?_
                refine z_kin (tgt := 380) S (by show Op.cmpValue (FP.fcmp (yFf (zKc (y 0 2)) (y 0 2 0 3 * 16)) (yFf (zKc (y 0 2)) (y 0 2 0 3 * 16))) _ = 0; rw [yFf_e hK6 (by omega) (by omega)]; rfl) dL_areRows_373 (by decide) ?_
                refine z_ic S (k := 1) dL_areRows_376 (by decide) ?_
                refine lv_goto (tgt := 381) S.1 S.2.1 dL_areRows_377 (by decide) ?_
                exact z_wiw hQ S (Nat.le_of_ble_eq_true rfl) (Nat.le_of_ble_eq_true rfl) hr hlk rfl hS hC ⟨rfl, y, hP, hzy⟩ dL_areRows_381
              · exact absurd h8 (by omega)
            · exact absurd h7 (by omega)
        · refine z_ic S (k := 1) dL_areRows_42 (by decide) ?_
          refine lv_istore (lv' := [(8, .int (nI (1))), (0, .ref (o)), (1, .int (nI (y 0 2 0 3))), (2, .int (nI (ra))), (3, .int (nI (kn))), (4, .int (nI (di))), (5, .int (nI (sy).toNat)), (6, .int (nI (1))), (7, .int (nI (row)))]) S.1 S.2.1 dL_areRows_43 hl (by decide) rfl (fun ls hl => ?_)
          refine lv_aload_n S.1 S.2.1 dL_areRows_45 rfl (lv_at hl 1 rfl) ?_
          refine lv_iload S.1 S.2.1 dL_areRows_46 (lv_at hl 8 rfl) ?_
          refine z_w1 (v0 := some (.int (nI (18)))) (rest := []) (As := [.int (nI (row))]) S hZ hS (c_writeRow l g hB y hv row h4) hB ci_X11_writeRow cv_X11_writeRow k1053 ⟨rfl, rfl, by rw [hR]; exact Nat.le_of_ble_eq_true rfl, by rw [hR]; exact Nat.le_of_ble_eq_true rfl⟩ hP (hP.1.recv hZ.1 0 (by decide) rfl rfl rfl) hl.1 rfl (Nat.le_of_ble_eq_true rfl) dL_areRows_48 ⟨by rw [hR]; exact Nat.le_of_ble_eq_true rfl, by rw [hR]; exact Nat.le_of_ble_eq_true rfl⟩ rfl (fun H1 locs1 hPn hCn hSn => ?_)
          replace hS := hSn
          replace hC := hC.tr hCn
          replace hP := hPn
          clear hPn hCn hSn
          refine z_bi S (k := 18) dL_areRows_51 (by decide) ?_
          refine z_kne (tgt := 77) S rfl dL_areRows_53 (by decide) ?_
          have hcol := (hv.2.1.2 row).2.1
          refine lv_aload_n S.1 S.2.1 dL_areRows_56 rfl (lv_at hl 1 rfl) ?_
          refine z_ic S (k := 0) dL_areRows_57 (by decide) ?_
          refine z_cV (v := some (.int (nI (48 + y 0 2 2 row)))) (rest := []) (As := [.int (nI (0))]) S hZ hS (c_lineCharacter l g (yWr y row) hv 0 (by show (0 : Nat) < 2 + 16; omega) (by show 2 + 16 ≤ 48; omega) (by show 48 + y 0 2 2 row < 65536; omega)) ci_X11_lineCharacter cv_X11_lineCharacter k1077 ⟨rfl, rfl, by rw [hR]; decide, by rw [hR]; decide⟩ hP (hP.1.recv hZ.1 0 (by decide) rfl rfl rfl) hl.1 rfl (Nat.le_of_ble_eq_true rfl) dL_areRows_58 ⟨by rw [hR]; decide, by rw [hR]; decide⟩ rfl ?_
          refine z_bi S (k := 48) dL_areRows_61 (by decide) ?_
          refine lv_aload_n S.1 S.2.1 dL_areRows_63 rfl (lv_at hl 1 rfl) ?_
          refine lv_iload S.1 S.2.1 dL_areRows_64 (lv_at hl 8 rfl) ?_
          refine z_cV (v := some (.int (nI (y 0 2 2 row)))) (rest := [.int (nI (48)), .int (nI (48 + y 0 2 2 row))]) (As := [.int (nI (row))]) S hZ hS (c_rowColour l g (yWr y row) hv row h4) ci_X11_rowColour cv_X11_rowColour k992 ⟨rfl, rfl, by rw [hR]; decide, by rw [hR]; decide⟩ hP (hP.1.recv hZ.1 0 (by decide) rfl rfl rfl) hl.1 rfl (Nat.le_of_ble_eq_true rfl) dL_areRows_66 ⟨by rw [hR]; decide, by rw [hR]; decide⟩ rfl ?_
          refine z_add S dL_areRows_69 ?_
          refine z_kne (tgt := 77) S rfl dL_areRows_70 (by decide) ?_
          refine z_ic S (k := 1) dL_areRows_73 (by decide) ?_
          refine lv_goto (tgt := 78) S.1 S.2.1 dL_areRows_74 (by decide) ?_
          refine lv_istore (lv' := [(6, .int (nI (1))), (8, .int (nI (1))), (0, .ref (o)), (1, .int (nI (y 0 2 0 3))), (2, .int (nI (ra))), (3, .int (nI (kn))), (4, .int (nI (di))), (5, .int (nI (sy).toNat)), (7, .int (nI (row)))]) S.1 S.2.1 dL_areRows_78 hl (by decide) rfl (fun ls hl => ?_)
          refine z_ic S (k := 0) dL_areRows_80 (by decide) ?_
          refine lv_istore (lv' := [(9, .int (nI (0))), (6, .int (nI (1))), (8, .int (nI (1))), (0, .ref (o)), (1, .int (nI (y 0 2 0 3))), (2, .int (nI (ra))), (3, .int (nI (kn))), (4, .int (nI (di))), (5, .int (nI (sy).toNat)), (7, .int (nI (row)))]) S.1 S.2.1 dL_areRows_81 hl (by decide) rfl (fun ls hl => ?_)
          have hm := (hv.2.1.2 row).1
          have hk := (hv.2.1.2 row).2.2
          have cols : ∀ (n2 c9 ra2 kn2 : Nat) (ls : Array Slot), (c9 ≤ 16) → (16 < c9 + n2) → (ra2 = ra + zSum (fun c => (zBt (y 0 2 1 row) c).toNat) c9) → (kn2 = kn + zSum (fun c => (zBt (y 0 2 3 row) c).toNat) c9) → lv_has ls 12 [(0, .ref (o)), (1, .int (nI (y 0 2 0 3))), (2, .int (nI (ra2))), (3, .int (nI (kn2))), (4, .int (nI (di))), (5, .int (nI (sy).toNat)), (6, .int (nI (1))), (7, .int (nI (row))), (8, .int (nI (1))), (9, .int (nI (c9)))] → W p l e R s m args below meth c H1 locs1 (0 + 0) (0 + 0) Q (F0 m 83 ls []) := by
            intro n2
            induction n2 with
            | zero => intro c9 ra2 kn2 ls g1 g2 hra2 hkn2 hl; exact absurd g2 (by omega)
            | succ n2 ih2 =>
              intro c9 ra2 kn2 ls g1 g2 hra2 hkn2 hl
              refine lv_iload S.1 S.2.1 dL_areRows_83 (lv_at hl 6 rfl) ?_
              refine z_kie (tgt := 222) S (by decide) dL_areRows_85 (by decide) ?_
              refine lv_iload S.1 S.2.1 dL_areRows_88 (lv_at hl 9 rfl) ?_
              refine z_bi S (k := 16) dL_areRows_90 (by decide) ?_
              refine z_cge (tgt := 222) S (by omega) (by omega) dL_areRows_92 (by decide) (fun h5 => ?_) (fun h5 => ?_)
              · have e16 : c9 = 16 := by omega
                rw [e16, ← zBc_bt hm] at hra2
                rw [e16, ← zBc_bt hk] at hkn2
                refine z_ic S (k := 0) dL_areRows_222 (by decide) ?_
                refine lv_istore (lv' := [(9, .int (nI (0))), (0, .ref (o)), (1, .int (nI (y 0 2 0 3))), (2, .int (nI (ra2))), (3, .int (nI (kn2))), (4, .int (nI (di))), (5, .int (nI (sy).toNat)), (6, .int (nI (1))), (7, .int (nI (row))), (8, .int (nI (1)))]) S.1 S.2.1 dL_areRows_223 hl (by decide) rfl (fun ls hl => ?_)
                have others : ∀ (n3 j9 : Nat) (nw : Bool) (ls : Array Slot), (j9 ≤ row) → (row < j9 + n3) → (nw = zAll (fun j => !zRw (y 0 2) row j) j9) → lv_has ls 12 [(0, .ref (o)), (1, .int (nI (y 0 2 0 3))), (2, .int (nI (ra2))), (3, .int (nI (kn2))), (4, .int (nI (di))), (5, .int (nI (sy).toNat)), (6, .int (nI (1))), (7, .int (nI (row))), (8, .int (nI (nw).toNat)), (9, .int (nI (j9)))] → W p l e R s m args below meth c H1 locs1 (0 + 0) (0 + 0) Q (F0 m 225 ls []) := by
                  intro n3
                  induction n3 with
                  | zero => intro j9 nw ls g1 g2 hnw hl; exact absurd g2 (by omega)
                  | succ n3 ih3 =>
                    intro j9 nw ls g3 g4 hnw hl
                    refine lv_iload S.1 S.2.1 dL_areRows_225 (lv_at hl 9 rfl) ?_
                    refine lv_iload S.1 S.2.1 dL_areRows_227 (lv_at hl 7 rfl) ?_
                    refine z_cge (tgt := 259) S (by omega) (by omega) dL_areRows_229 (by decide) (fun h6 => ?_) (fun h6 => ?_)
                    · rw [show j9 = row by omega, ← zNw_sym] at hnw
                      refine lv_iload S.1 S.2.1 dL_areRows_259 (lv_at hl 4 rfl) ?_
                      refine lv_iload S.1 S.2.1 dL_areRows_261 (lv_at hl 8 rfl) ?_
                      have J_1 : ∀ x9 : Nat, x9 = (nw).toNat → W p l e R s m args below meth c H1 locs1 (0 + 0) (0 + 0) Q (F0 m 271 ls [.int (nI (x9)), .int (nI (di))]) := by
                        intro x9 hx9
                        subst hx9
                        refine z_add S dL_areRows_271 ?_
                        refine lv_istore (lv' := [(4, .int (nI (di + ((nw).toNat)))), (0, .ref (o)), (1, .int (nI (y 0 2 0 3))), (2, .int (nI (ra2))), (3, .int (nI (kn2))), (5, .int (nI (sy).toNat)), (6, .int (nI (1))), (7, .int (nI (row))), (8, .int (nI (nw).toNat)), (9, .int (nI (j9)))]) S.1 S.2.1 dL_areRows_272 hl (by decide) rfl (fun ls hl => ?_)
                        refine lv_iload S.1 S.2.1 dL_areRows_274 (lv_at hl 5 rfl) ?_
                        refine lv_aload_n S.1 S.2.1 dL_areRows_276 rfl (lv_at hl 1 rfl) ?_
                        refine lv_iload S.1 S.2.1 dL_areRows_277 (lv_at hl 7 rfl) ?_
                        refine lv_iload_n S.1 S.2.1 dL_areRows_279 rfl (lv_at hl 2 rfl) ?_
                        refine z_ic S (k := 1) dL_areRows_280 (by decide) ?_
                        refine z_sub S (by omega) dL_areRows_281 ?_
                        refine lv_iload S.1 S.2.1 dL_areRows_282 (lv_at hl 7 rfl) ?_
                        refine z_sub S (by omega) dL_areRows_284 ?_
                        refine z_cS (v := some (.int (nI (zRw (y 0 2) row (y 0 2 0 3 - 1 - row)).toNat))) (rest := [.int (nI (sy).toNat)]) (As := [.ref (o), .int (nI (row)), .int (nI (((y 0 2 0 3) - 1) - row))]) S hZ hS (c_areEqual l g (yWr y row) hv row (y 0 2 0 3 - 1 - row) h4 (by show y 0 2 0 3 - 1 - row < y 0 2 0 3; omega)) ci_L_areEqual cv_L_areEqual k1086 ⟨rfl, rfl, by rw [hR]; exact Nat.le_of_ble_eq_true rfl, by rw [hR]; exact Nat.le_of_ble_eq_true rfl⟩ hP hl.1 rfl (Nat.le_of_ble_eq_true rfl) dL_areRows_285 ⟨by rw [hR]; exact Nat.le_of_ble_eq_true rfl, by rw [hR]; exact Nat.le_of_ble_eq_true rfl⟩ rfl ?_
                        refine z_and S dL_areRows_288 ?_
                        rw [yBand]
                        refine lv_istore (lv' := [(5, .int (nI ((sy && zRw (y 0 2) row (y 0 2 0 3 - 1 - row))).toNat)), (4, .int (nI (di + ((nw).toNat)))), (0, .ref (o)), (1, .int (nI (y 0 2 0 3))), (2, .int (nI (ra2))), (3, .int (nI (kn2))), (6, .int (nI (1))), (7, .int (nI (row))), (8, .int (nI (nw).toNat)), (9, .int (nI (j9)))]) S.1 S.2.1 dL_areRows_289 hl (by decide) rfl (fun ls hl => ?_)
                        refine z_inc S (lv' := [(7, .int (nI (row + 1))), (5, .int (nI ((sy && zRw (y 0 2) row (y 0 2 0 3 - 1 - row))).toNat)), (4, .int (nI (di + ((nw).toNat)))), (0, .ref (o)), (1, .int (nI (y 0 2 0 3))), (2, .int (nI (ra2))), (3, .int (nI (kn2))), (6, .int (nI (1))), (8, .int (nI (nw).toNat)), (9, .int (nI (j9)))]) (k := 7) (b := 1) dL_areRows_291 hl rfl (by decide) (by decide) rfl (fun ls hl => ?_)
                        refine lv_goto (tgt := 31) S.1 S.2.1 dL_areRows_294 (by decide) ?_
                        exact ih (row + 1) ra2 kn2 _ (sy && zRw (y 0 2) row (y 0 2 0 3 - 1 - row)) (yWr y row) H1 locs1 ls (by show row + 1 ≤ y 0 2 0 3; omega) (by show y 0 2 0 3 < row + 1 + n; omega) (yWr_iv hIy) (hzy.tr (yWr_no hIy)) (by rw [hra2, hra]; rfl) (by rw [hkn2, hkn]; rfl) (by rw [hdi, hnw]; rfl) (by rw [hsy]; rfl) hP hS hC (lv_sub hl [3, 4, 5, 6, 2, 1, 7, 0] rfl)
                      refine z_beq (tgt := 270) S dL_areRows_263 (by decide) (fun h1 => ?_) (fun h1 => ?_)
                      · refine z_ic S (k := 0) dL_areRows_270 (by decide) ?_
                        exact J_1 _ (by rw [h1]; rfl)
                      · refine z_ic S (k := 1) dL_areRows_266 (by decide) ?_
                        refine lv_goto (tgt := 271) S.1 S.2.1 dL_areRows_267 (by decide) ?_
                        exact J_1 _ (by rw [h1]; rfl)
                    · refine lv_iload S.1 S.2.1 dL_areRows_232 (lv_at hl 8 rfl) ?_
                      refine lv_aload_n S.1 S.2.1 dL_areRows_234 rfl (lv_at hl 0 rfl) ?_
                      refine lv_iload S.1 S.2.1 dL_areRows_235 (lv_at hl 7 rfl) ?_
                      refine lv_iload S.1 S.2.1 dL_areRows_237 (lv_at hl 9 rfl) ?_
                      refine z_cS (v := some (.int (nI (zRw (y 0 2) row j9).toNat))) (rest := [.int (nI (nw).toNat)]) (As := [.ref (o), .int (nI (row)), .int (nI (j9))]) S hZ hS (c_areEqual l g (yWr y row) hv row j9 h4 (by show j9 < y 0 2 0 3; omega)) ci_L_areEqual cv_L_areEqual k1086 ⟨rfl, rfl, by rw [hR]; exact Nat.le_of_ble_eq_true rfl, by rw [hR]; exact Nat.le_of_ble_eq_true rfl⟩ hP hl.1 rfl (Nat.le_of_ble_eq_true rfl) dL_areRows_239 ⟨by rw [hR]; exact Nat.le_of_ble_eq_true rfl, by rw [hR]; exact Nat.le_of_ble_eq_true rfl⟩ rfl ?_
                      have J_2 : ∀ x9 : Nat, x9 = (!(zRw (y 0 2) row j9)).toNat → W p l e R s m args below meth c H1 locs1 (0 + 0) (0 + 0) Q (F0 m 250 ls [.int (nI (x9)), .int (nI (nw).toNat)]) := by
                        intro x9 hx9
                        subst hx9
                        refine z_and S dL_areRows_250 ?_
                        rw [yBand]
                        refine lv_istore (lv' := [(8, .int (nI ((nw && !(zRw (y 0 2) row j9))).toNat)), (0, .ref (o)), (1, .int (nI (y 0 2 0 3))), (2, .int (nI (ra2))), (3, .int (nI (kn2))), (4, .int (nI (di))), (5, .int (nI (sy).toNat)), (6, .int (nI (1))), (7, .int (nI (row))), (9, .int (nI (j9)))]) S.1 S.2.1 dL_areRows_251 hl (by decide) rfl (fun ls hl => ?_)
                        refine z_inc S (lv' := [(9, .int (nI (j9 + 1))), (8, .int (nI ((nw && !(zRw (y 0 2) row j9))).toNat)), (0, .ref (o)), (1, .int (nI (y 0 2 0 3))), (2, .int (nI (ra2))), (3, .int (nI (kn2))), (4, .int (nI (di))), (5, .int (nI (sy).toNat)), (6, .int (nI (1))), (7, .int (nI (row)))]) (k := 9) (b := 1) dL_areRows_253 hl rfl (by decide) (by decide) rfl (fun ls hl => ?_)
                        refine lv_goto (tgt := 225) S.1 S.2.1 dL_areRows_256 (by decide) ?_
                        exact ih3 (j9 + 1) _ ls (by omega) (by omega) (by rw [hnw]; rfl) (lv_sub hl [2, 3, 4, 5, 6, 7, 8, 9, 1, 0] rfl)
                      refine z_bne (tgt := 249) S dL_areRows_242 (by decide) (fun h1 => ?_) (fun h1 => ?_)
                      · refine z_ic S (k := 0) dL_areRows_249 (by decide) ?_
                        exact J_2 _ (by rw [h1]; rfl)
                      · refine z_ic S (k := 1) dL_areRows_245 (by decide) ?_
                        refine lv_goto (tgt := 250) S.1 S.2.1 dL_areRows_246 (by decide) ?_
                        exact J_2 _ (by rw [h1]; rfl)
                exact others (row + 1) 0 true ls (Nat.zero_le _) (by omega) rfl (lv_sub hl [1, 2, 3, 4, 5, 6, 7, 8, 9, 0] rfl)
              · have ht1 : (zBt (y 0 2 1 row) c9).toNat ≤ 1 := Bool.toNat_le _
                refine lv_aload_n S.1 S.2.1 dL_areRows_95 rfl (lv_at hl 0 rfl) ?_
                refine lv_iload S.1 S.2.1 dL_areRows_96 (lv_at hl 7 rfl) ?_
                refine z_cV (v := some (.int (nI (y 0 2 1 row)))) (rest := []) (As := [.int (nI (row))]) S hZ hS (c_rowMask l g (yWr y row) hv row h4) ci_X11_rowMask cv_X11_rowMask k987 ⟨rfl, rfl, by rw [hR]; decide, by rw [hR]; decide⟩ hP (hP.1.recv hZ.1 0 (by decide) rfl rfl rfl) hl.1 rfl (Nat.le_of_ble_eq_true rfl) dL_areRows_98 ⟨by rw [hR]; decide, by rw [hR]; decide⟩ rfl ?_
                refine lv_iload S.1 S.2.1 dL_areRows_101 (lv_at hl 9 rfl) ?_
                refine z_shr S (by omega) (by omega) dL_areRows_103 ?_
                refine z_ic S (k := 1) dL_areRows_104 (by decide) ?_
                refine z_and S dL_areRows_105 ?_
                rw [zBt_and]
                refine z_ic S (k := 1) dL_areRows_106 (by decide) ?_
                have J_3 : ∀ x9 : Nat, x9 = (zBt (y 0 2 1 row) c9).toNat → W p l e R s m args below meth c H1 locs1 (0 + 0) (0 + 0) Q (F0 m 115 ls [.int (nI (x9))]) := by
                  intro x9 hx9
                  subst hx9
                  refine lv_istore (lv' := [(10, .int (nI ((zBt (y 0 2 1 row) c9)).toNat)), (0, .ref (o)), (1, .int (nI (y 0 2 0 3))), (2, .int (nI (ra2))), (3, .int (nI (kn2))), (4, .int (nI (di))), (5, .int (nI (sy).toNat)), (6, .int (nI (1))), (7, .int (nI (row))), (8, .int (nI (1))), (9, .int (nI (c9)))]) S.1 S.2.1 dL_areRows_115 hl (by decide) rfl (fun ls hl => ?_)
                  refine lv_aload_n S.1 S.2.1 dL_areRows_117 rfl (lv_at hl 1 rfl) ?_
                  refine lv_iload S.1 S.2.1 dL_areRows_118 (lv_at hl 8 rfl) ?_
                  refine lv_iload S.1 S.2.1 dL_areRows_120 (lv_at hl 10 rfl) ?_
                  refine z_cV (v := some (.int (nI ((zBt (y 0 2 3 row) c9)).toNat))) (rest := []) (As := [.int (nI (row)), .int (nI (c9))]) S hZ hS (c_isKnotted l g (yWr y row) hv row c9 h4 h5) ci_X11_isKnotted cv_X11_isKnotted k996 ⟨rfl, rfl, by rw [hR]; decide, by rw [hR]; decide⟩ hP (hP.1.recv hZ.1 0 (by decide) rfl rfl rfl) hl.1 rfl (Nat.le_of_ble_eq_true rfl) dL_areRows_122 ⟨by rw [hR]; decide, by rw [hR]; decide⟩ rfl ?_
                  refine lv_istore (lv' := [(11, .int (nI ((zBt (y 0 2 3 row) c9)).toNat)), (10, .int (nI ((zBt (y 0 2 1 row) c9)).toNat)), (0, .ref (o)), (1, .int (nI (y 0 2 0 3))), (2, .int (nI (ra2))), (3, .int (nI (kn2))), (4, .int (nI (di))), (5, .int (nI (sy).toNat)), (6, .int (nI (1))), (7, .int (nI (row))), (8, .int (nI (1))), (9, .int (nI (c9)))]) S.1 S.2.1 dL_areRows_125 hl (by decide) rfl (fun ls hl => ?_)
                  refine lv_iload_n S.1 S.2.1 dL_areRows_127 rfl (lv_at hl 4 rfl) ?_
                  refine lv_iload S.1 S.2.1 dL_areRows_128 (lv_at hl 1 rfl) ?_
                  have J_4 : ∀ x9 : Nat, x9 = (zBt (y 0 2 1 row) c9).toNat → W p l e R s m args below meth c H1 locs1 (0 + 0) (0 + 0) Q (F0 m 138 ls [.int (nI (x9)), .int (nI (ra2))]) := by
                    intro x9 hx9
                    subst hx9
                    refine z_add S dL_areRows_138 ?_
                    refine lv_istore_n (lv' := [(2, .int (nI (ra2 + ((zBt (y 0 2 1 row) c9).toNat)))), (11, .int (nI ((zBt (y 0 2 3 row) c9)).toNat)), (10, .int (nI ((zBt (y 0 2 1 row) c9)).toNat)), (0, .ref (o)), (1, .int (nI (y 0 2 0 3))), (3, .int (nI (kn2))), (4, .int (nI (di))), (5, .int (nI (sy).toNat)), (6, .int (nI (1))), (7, .int (nI (row))), (8, .int (nI (1))), (9, .int (nI (c9)))]) S.1 S.2.1 dL_areRows_139 rfl hl (by decide) rfl (fun ls hl => ?_)
                    refine lv_iload_n S.1 S.2.1 dL_areRows_140 rfl (lv_at hl 5 rfl) ?_
                    refine lv_iload S.1 S.2.1 dL_areRows_141 (lv_at hl 1 rfl) ?_
                    have J_5 : ∀ x9 : Nat, x9 = (zBt (y 0 2 3 row) c9).toNat → W p l e R s m args below meth c H1 locs1 (0 + 0) (0 + 0) Q (F0 m 151 ls [.int (nI (x9)), .int (nI (kn2))]) := by
                      intro x9 hx9
                      subst hx9
                      refine z_add S dL_areRows_151 ?_
                      refine lv_istore_n (lv' := [(3, .int (nI (kn2 + ((zBt (y 0 2 3 row) c9).toNat)))), (2, .int (nI (ra2 + ((zBt (y 0 2 1 row) c9).toNat)))), (11, .int (nI ((zBt (y 0 2 3 row) c9)).toNat)), (10, .int (nI ((zBt (y 0 2 1 row) c9)).toNat)), (0, .ref (o)), (1, .int (nI (y 0 2 0 3))), (4, .int (nI (di))), (5, .int (nI (sy).toNat)), (6, .int (nI (1))), (7, .int (nI (row))), (8, .int (nI (1))), (9, .int (nI (c9)))]) S.1 S.2.1 dL_areRows_152 rfl hl (by decide) rfl (fun ls hl => ?_)
                      refine lv_aload_n S.1 S.2.1 dL_areRows_153 rfl (lv_at hl 4 rfl) ?_
                      refine lv_iload S.1 S.2.1 dL_areRows_154 (lv_at hl 9 rfl) ?_
                      refine lv_iload S.1 S.2.1 dL_areRows_156 (lv_at hl 11 rfl) ?_
                      refine z_cV (v := some (.int (nI ((zBt (y 0 2 1 row) c9)).toNat))) (rest := []) (As := [.int (nI (row)), .int (nI (c9))]) S hZ hS (c_isRaised l g (yWr y row) hv row c9 h4 h5) ci_X11_isRaised cv_X11_isRaised k1081 ⟨rfl, rfl, by rw [hR]; decide, by rw [hR]; decide⟩ hP (hP.1.recv hZ.1 0 (by decide) rfl rfl rfl) hl.1 rfl (Nat.le_of_ble_eq_true rfl) dL_areRows_158 ⟨by rw [hR]; decide, by rw [hR]; decide⟩ rfl ?_
                      refine lv_iload S.1 S.2.1 dL_areRows_161 (lv_at hl 3 rfl) ?_
                      refine z_kne (tgt := 213) S rfl dL_areRows_163 (by decide) ?_
                      have hsg := zSg_lt (zBt (y 0 2 1 row) c9) (zBt (y 0 2 3 row) c9)
                      refine lv_aload_n S.1 S.2.1 dL_areRows_166 rfl (lv_at hl 4 rfl) ?_
                      refine z_ic S (k := 2) dL_areRows_167 (by decide) ?_
                      refine lv_iload S.1 S.2.1 dL_areRows_168 (lv_at hl 11 rfl) ?_
                      refine z_add S dL_areRows_170 ?_
                      refine z_cV (v := some (.int (nI (zRl (y 16 0) (y 0 2) row 16 1 (2 + c9))))) (rest := []) (As := [.int (nI (2 + c9))]) S hZ hS (c_lineCharacter l g (yWr y row) hv (2 + c9) (by show 2 + c9 < 2 + 16; omega) (by show 2 + 16 ≤ 48; omega) (by show zRl (y 16 0) (y 0 2) row 16 1 (2 + c9) < 65536; rw [zRl_c _ _ _ _ h5]; omega)) ci_X11_lineCharacter cv_X11_lineCharacter k1077 ⟨rfl, rfl, by rw [hR]; decide, by rw [hR]; decide⟩ hP (hP.1.recv hZ.1 0 (by decide) rfl rfl rfl) hl.1 rfl (Nat.le_of_ble_eq_true rfl) dL_areRows_171 ⟨by rw [hR]; decide, by rw [hR]; decide⟩ rfl ?_
                      rw [zRl_c _ _ _ _ h5]
                      have J_6 : ∀ x9 : Nat, x9 = zSg (zBt (y 0 2 1 row) c9) (zBt (y 0 2 3 row) c9) → W p l e R s m args below meth c H1 locs1 (0 + 0) (0 + 0) Q (F0 m 206 ls [.int (nI (x9)), .int (nI (zSg (zBt (y 0 2 1 row) c9) (zBt (y 0 2 3 row) c9)))]) := by
                        intro x9 hx9
                        subst hx9
                        refine z_kne (tgt := 213) S rfl dL_areRows_206 (by decide) ?_
                        refine z_ic S (k := 1) dL_areRows_209 (by decide) ?_
                        refine lv_goto (tgt := 214) S.1 S.2.1 dL_areRows_210 (by decide) ?_
                        refine lv_istore (lv' := [(6, .int (nI (1))), (3, .int (nI (kn2 + ((zBt (y 0 2 3 row) c9).toNat)))), (2, .int (nI (ra2 + ((zBt (y 0 2 1 row) c9).toNat)))), (11, .int (nI ((zBt (y 0 2 3 row) c9)).toNat)), (10, .int (nI ((zBt (y 0 2 1 row) c9)).toNat)), (0, .ref (o)), (1, .int (nI (y 0 2 0 3))), (4, .int (nI (di))), (5, .int (nI (sy).toNat)), (7, .int (nI (row))), (8, .int (nI (1))), (9, .int (nI (c9)))]) S.1 S.2.1 dL_areRows_214 hl (by decide) rfl (fun ls hl => ?_)
                        refine z_inc S (lv' := [(9, .int (nI (c9 + 1))), (6, .int (nI (1))), (3, .int (nI (kn2 + ((zBt (y 0 2 3 row) c9).toNat)))), (2, .int (nI (ra2 + ((zBt (y 0 2 1 row) c9).toNat)))), (11, .int (nI ((zBt (y 0 2 3 row) c9)).toNat)), (10, .int (nI ((zBt (y 0 2 1 row) c9)).toNat)), (0, .ref (o)), (1, .int (nI (y 0 2 0 3))), (4, .int (nI (di))), (5, .int (nI (sy).toNat)), (7, .int (nI (row))), (8, .int (nI (1)))]) (k := 11) (b := 1) dL_areRows_216 hl rfl (by decide) (by decide) rfl (fun ls hl => ?_)
                        refine lv_goto (tgt := 83) S.1 S.2.1 dL_areRows_219 (by decide) ?_
                        exact ih2 (c9 + 1) _ _ ls (by omega) (by omega) (by rw [hra2, zSum]; omega) (by rw [hkn2, zSum]; omega) (lv_sub hl [6, 7, 3, 2, 8, 9, 1, 10, 11, 0] rfl)
                      refine lv_iload S.1 S.2.1 dL_areRows_174 (lv_at hl 3 rfl) ?_
                      refine z_beq (tgt := 194) S dL_areRows_176 (by decide) (fun h6 => ?_) (fun h6 => ?_)
                      · refine lv_iload S.1 S.2.1 dL_areRows_194 (lv_at hl 2 rfl) ?_
                        refine z_beq (tgt := 204) S dL_areRows_196 (by decide) (fun h7 => ?_) (fun h7 => ?_)
                        · refine z_bi S (k := 46) dL_areRows_204 (by decide) ?_
                          exact J_6 _ (by rw [zSg, h6, h7]; rfl)
                        · refine z_bi S (k := 111) dL_areRows_199 (by decide) ?_
                          refine lv_goto (tgt := 206) S.1 S.2.1 dL_areRows_201 (by decide) ?_
                          exact J_6 _ (by rw [zSg, h6, h7]; rfl)
                      · refine lv_iload S.1 S.2.1 dL_areRows_179 (lv_at hl 2 rfl) ?_
                        refine z_beq (tgt := 189) S dL_areRows_181 (by decide) (fun h7 => ?_) (fun h7 => ?_)
                        · refine z_bi S (k := 120) dL_areRows_189 (by decide) ?_
                          refine lv_goto (tgt := 206) S.1 S.2.1 dL_areRows_191 (by decide) ?_
                          exact J_6 _ (by rw [zSg, h6, h7]; rfl)
                        · refine z_bi S (k := 88) dL_areRows_184 (by decide) ?_
                          refine lv_goto (tgt := 206) S.1 S.2.1 dL_areRows_186 (by decide) ?_
                          exact J_6 _ (by rw [zSg, h6, h7]; rfl)
                    refine z_beq (tgt := 150) S dL_areRows_143 (by decide) (fun h1 => ?_) (fun h1 => ?_)
                    · refine z_ic S (k := 0) dL_areRows_150 (by decide) ?_
                      exact J_5 _ (by rw [h1]; rfl)
                    · refine z_ic S (k := 1) dL_areRows_146 (by decide) ?_
                      refine lv_goto (tgt := 151) S.1 S.2.1 dL_areRows_147 (by decide) ?_
                      exact J_5 _ (by rw [h1]; rfl)
                  refine z_beq (tgt := 137) S dL_areRows_130 (by decide) (fun h1 => ?_) (fun h1 => ?_)
                  · refine z_ic S (k := 0) dL_areRows_137 (by decide) ?_
                    exact J_4 _ (by rw [h1]; rfl)
                  · refine z_ic S (k := 1) dL_areRows_133 (by decide) ?_
                    refine lv_goto (tgt := 138) S.1 S.2.1 dL_areRows_134 (by decide) ?_
                    exact J_4 _ (by rw [h1]; rfl)
                refine z_cne (tgt := 114) S (by omega) (by omega) dL_areRows_107 (by decide) (fun h1 => ?_) (fun h1 => ?_)
                · refine z_ic S (k := 0) dL_areRows_114 (by decide) ?_
                  exact J_3 _ (by omega)
                · refine z_ic S (k := 1) dL_areRows_110 (by decide) ?_
                  refine lv_goto (tgt := 115) S.1 S.2.1 dL_areRows_111 (by decide) ?_
                  exact J_3 _ h1.symm
          exact cols 17 0 ra kn ls (by omega) (by omega) rfl rfl (lv_sub hl [3, 4, 5, 6, 7, 8, 1, 9, 2, 0] rfl)
    exact loop (z 0 2 0 3 + 1) 0 0 0 0 true z _ _ ls (Nat.zero_le _) (by omega) hI (yNoc.rf hI) rfl rfl rfl rfl hP hS hC (lv_sub hl [7, 6, 5, 4, 3, 2, 1, 0] rfl)
