/-! CHANGES: change(command), and the ten calls that make one -/
abbrev zVq (z : zSt) : Nat × Nat := zVd (z 0) (z 14 0 0 0) (z 14 0 0 1) (z 14 0 0 2) (z 14 0 0 3)
abbrev zPq (z : zSt) : zL × Nat := zPf (z 0) (z 14 0 0 0) (z 14 0 0 1) (z 14 0 0 2) (z 14 0 0 3)
/-- a request is written down -/
def zRq (z : zSt) (k a b c : Nat) : zSt := fun i => if i = 14 then (fun _ => va_up (z 14 0) 0 (zCb k a b c)) else z i
theorem zNo_k (z : zSt) (d : Nat × Nat) (i : Nat) (hi : i < 8) : zNo z d (3 + i) = z (3 + i) := by unfold zNo; rw [if_neg (by omega), if_neg (by omega)]
theorem zRq_k (z : zSt) (k a b c : Nat) (i : Nat) (hi : i < 8) : zRq z k a b c (3 + i) = z (3 + i) := by unfold zRq; rw [if_neg (by omega)]
theorem zRq_iv {z : zSt} (h : zIv z) (k a b c : Nat) : zIv (zRq z k a b c) := ⟨h.1, h.2.1, fun i hi => by rw [zRq_k z k a b c i hi]; exact h.2.2.1 i hi, h.2.2.2⟩
theorem zJd_0 {f : Nat → Nat → Nat} {d : Nat × Nat} (h : d.1 = 0) : zJd f d = f := by unfold zJd; rw [if_pos (Or.inl h)]
theorem zJd_d {f : Nat → Nat → Nat} {d : Nat × Nat} (h : d.1 ≠ 0) (h9 : d.1 < 9) : zJd f d 0 0 = d.2 := by unfold zJd; rw [if_neg (by omega)]; rfl
theorem zNo_r {g : ZG} {o : Nat} {z : zSt} {d : Nat × Nat} {H : Heap} (h : zPm g o 1 TRo (z 11 0) H) (h9 : ¬ d.1 < 9) : zPm g o 1 TRo (zNo z d 11 0) H := by
  show zPm g o 1 TRo (if d.1 < 9 then zDn (z 11 0) d.1 d.2 else z 11 0) H
  rw [if_neg h9]; exact h
theorem zNo_d {g : ZG} {o : Nat} {z : zSt} {d : Nat × Nat} {H : Heap} (h : zPm g o 1 TRo (zDn (z 11 0) d.1 d.2) H) (h9 : d.1 < 9) : zPm g o 1 TRo (zNo z d 11 0) H := by
  show zPm g o 1 TRo (if d.1 < 9 then zDn (z 11 0) d.1 d.2 else z 11 0) H
  rw [if_pos h9]; exact h
theorem ci_X11_change : zCI yX11_change cX11_change 3 (some .int) 1 := ⟨k337, k1, by decide +kernel⟩
theorem cv_X11_change : Cond.instanceMethod yX11_change ∈ GW ∧ Cond.selects (yX11_change).cls yX11_change yX11_change ∈ GW := ⟨k336, kp0⟩
set_option maxRecDepth 20000 in
set_option maxHeartbeats 4000000 in
/-- change(the request), allowed -/
theorem c_change_ok (l : Launch) (g : ZG) {B : Nat} {o : Nat} (hB : B ≤ o) (z : zSt) (hIv : zIv z) (hk10 : z 14 0 0 0 < 10) (h1 : z 14 0 0 1 < 2 ^ 31) (h2 : z 14 0 0 2 < 2 ^ 31) (h3 : z 14 0 0 3 < 2 ^ 31) (h9 : z 14 0 0 0 = 9 → z 14 0 0 1 < 65536) (h0 : (zVq z).1 = 0) : Met l yX11_change (.code yX11_change cX11_change 3 (some .int) :: GW) { frames := 5, cells := 0, slots := 0, locals := 127 } (va_Pc [.ref o, .ref (o + 136)] (zPre g B (fun H => zSO g o z H))) (zX (fun w H => w = some (.int (nI (zPq z).2)) ∧ zSO g o (zCg z (zPq z).1) H) o 152) 0 0 (zA B) := by
  refine zMet (by decide) (Nat.le_of_ble_eq_true rfl) ?_
  intro p e R s m args below meth c Q ls hR hargs hQ S hr hlk hP hZ hS hnm hl
  have hl : lv_has ls 3 [(0, .ref (o)), (1, .ref (o + 136))] := hl
  obtain ⟨hRo, hL, hF, hN, hHi, hJ, hQ0, hSc, hLn⟩ := hP
  have hC : zCh1 o 152 s.heap s.heap := zCh1.rf
  have hv10 : (zVq z).1 ≤ 10 := zVd_le (z 0) (z 14 0 0 0) (z 14 0 0 1) (z 14 0 0 2) (z 14 0 0 3)
  refine lv_aload_n S.1 S.2.1 dX11_change_0 rfl (lv_at hl 0 rfl) ?_
  refine z_get (v := .ref (o + 135)) S hZ.1 hRo 0 (by decide) rfl rfl rfl 5 (by decide) rfl k250 dX11_change_1 ?_
  refine lv_aload_n S.1 S.2.1 dX11_change_4 rfl (lv_at hl 1 rfl) ?_
  refine lv_aload_n S.1 S.2.1 dX11_change_5 rfl (lv_at hl 0 rfl) ?_
  refine z_get (v := .ref (o + 1)) S hZ.1 hRo 0 (by decide) rfl rfl rfl 0 (by decide) rfl k245 dX11_change_6 ?_
  refine z_w1 (v0 := some (.int (nI ((zVq z).1)))) (rest := []) (As := [.ref (o + 136), .ref (o + 1)]) S hZ hS (c_verdictOn l g (o := o + 1) (oc := o + 136) (oj := o + 135) (by omega) (z 13 0) (z 0) hIv.1 (z 14 0) h1 h2 h3 (z 14 0 0 0) rfl hk10 h9) (by omega) ci_X5_verdictOn cv_X5_verdictOn k338 ⟨rfl, rfl, by rw [hR]; exact Nat.le_of_ble_eq_true rfl, by rw [hR]; exact Nat.le_of_ble_eq_true rfl⟩ ⟨hJ, hL, hQ0⟩ (hJ.recv hZ.1 0 (by decide) rfl rfl rfl) hl.1 rfl (Nat.le_of_ble_eq_true rfl) dX11_change_9 ⟨by rw [hR]; exact Nat.le_of_ble_eq_true rfl, by rw [hR]; exact Nat.le_of_ble_eq_true rfl⟩ rfl (fun H1 locs1 hPn hCn hSn => ?_)
  have hS := hSn
  have hRo := hRo.kept hCn (by omega)
  have hL := hL.kept hCn (by omega)
  have hF := hF.kept hCn (by omega)
  have hN := hN.kept hCn (by omega)
  have hHi := hHi.kept hCn (by omega)
  have hJ := hPn
  have hQ0 := hQ0.kept hCn (by omega)
  have hSc := hSc.kept hCn (by omega)
  have hLn := hLn.kept hCn (by omega)
  have hC := hC.tr (hCn.mono (b := o) (k := 152) (by omega) (by omega))
  have hJ : zPm g (o + 135) 1 TJu (z 13 0) H1 := hJ.eq (zJd_0 h0)
  rw [h0]
  refine lv_istore_n (lv' := [(2, .int (nI (0))), (0, .ref (o)), (1, .ref (o + 136))]) S.1 S.2.1 dX11_change_12 rfl hl (by decide) rfl (fun ls hl => ?_)
  refine lv_iload_n S.1 S.2.1 dX11_change_13 rfl (lv_at hl 0 rfl) ?_
  refine z_bi S (k := 9) dX11_change_14 (by decide) ?_
  refine z_ceq (tgt := 23) S (by omega) (by omega) dX11_change_16 (by decide) (fun h7 => ?_) (fun h7 => ?_)
  · exact absurd h7 (by omega)
  · refine z_ic S (k := 1) dX11_change_19 (by decide) ?_
    refine lv_goto (tgt := 24) S.1 S.2.1 dX11_change_20 (by decide) ?_
    refine z_cS (v := none) (rest := []) (As := [.int (nI (1))]) S hZ hS (c_requireRange_t l g true rfl (PH := fun _ => True)) ci_X11_requireRange cv_X11_requireRange k425 ⟨rfl, rfl, by rw [hR]; decide, by rw [hR]; decide⟩ trivial hl.1 rfl (Nat.le_of_ble_eq_true rfl) dX11_change_24 ⟨by rw [hR]; decide, by rw [hR]; decide⟩ rfl ?_
    refine lv_iload_n S.1 S.2.1 dX11_change_27 rfl (lv_at hl 0 rfl) ?_
    refine z_bi S (k := 10) dX11_change_28 (by decide) ?_
    refine z_ceq (tgt := 37) S (by omega) (by omega) dX11_change_30 (by decide) (fun h7 => ?_) (fun h7 => ?_)
    · exact absurd h7 (by omega)
    · refine z_ic S (k := 1) dX11_change_33 (by decide) ?_
      refine lv_goto (tgt := 38) S.1 S.2.1 dX11_change_34 (by decide) ?_
      refine z_cS (v := none) (rest := []) (As := [.int (nI (1))]) S hZ hS (c_requireIndex_t l g true rfl (PH := fun _ => True)) ci_X11_requireIndex cv_X11_requireIndex k500 ⟨rfl, rfl, by rw [hR]; decide, by rw [hR]; decide⟩ trivial hl.1 rfl (Nat.le_of_ble_eq_true rfl) dX11_change_38 ⟨by rw [hR]; decide, by rw [hR]; decide⟩ rfl ?_
      refine lv_iload_n S.1 S.2.1 dX11_change_41 rfl (lv_at hl 0 rfl) ?_
      refine z_ieq (tgt := 57) S (by omega) dX11_change_42 (by decide) (fun h7 => ?_) (fun h7 => ?_)
      · refine lv_aload_n S.1 S.2.1 dX11_change_57 rfl (lv_at hl 1 rfl) ?_
        refine z_get (v := .ref (o + 37)) S hZ.1 hRo 0 (by decide) rfl rfl rfl 4 (by decide) rfl k249 dX11_change_58 ?_
        refine lv_aload_n S.1 S.2.1 dX11_change_61 rfl (lv_at hl 1 rfl) ?_
        refine z_get (v := .ref (o + 1)) S hZ.1 hRo 0 (by decide) rfl rfl rfl 0 (by decide) rfl k245 dX11_change_62 ?_
        refine z_w1 (v0 := none) (rest := []) (As := [.ref (o + 1)]) S hZ hS (c_X4_keep l g (oh := o + 37) (o := o + 1) (by omega) (by omega) (z 12 0) hIv.2.2.2.1 hIv.2.2.2.2 (fun i => z (3 + i)) (z 0) hIv.1) (by omega) ci_X4_keep cv_X4_keep k539 ⟨rfl, rfl, by rw [hR]; exact Nat.le_of_ble_eq_true rfl, by rw [hR]; exact Nat.le_of_ble_eq_true rfl⟩ ⟨hHi, hL⟩ (hHi.1.recv hZ.1 0 (by decide) rfl rfl rfl) hl.1 rfl (Nat.le_of_ble_eq_true rfl) dX11_change_65 ⟨by rw [hR]; exact Nat.le_of_ble_eq_true rfl, by rw [hR]; exact Nat.le_of_ble_eq_true rfl⟩ rfl (fun H1 locs1 hPn hCn hSn => ?_)
        have hS := hSn
        have hRo := hRo.kept hCn (by omega)
        have hL := hL.kept hCn (by omega)
        have hF := hF.kept hCn (by omega)
        have hN := hN.kept hCn (by omega)
        have hHi := hPn
        have hJ := hJ.kept hCn (by omega)
        have hQ0 := hQ0.kept hCn (by omega)
        have hSc := hSc.kept hCn (by omega)
        have hLn := hLn.kept hCn (by omega)
        have hC := hC.tr (hCn.mono (b := o) (k := 152) (by omega) (by omega))
        refine lv_aload_n S.1 S.2.1 dX11_change_68 rfl (lv_at hl 1 rfl) ?_
        refine z_get (v := .ref (o + 1)) S hZ.1 hRo 0 (by decide) rfl rfl rfl 0 (by decide) rfl k245 dX11_change_69 ?_
        refine lv_aload_n S.1 S.2.1 dX11_change_72 rfl (lv_at hl 2 rfl) ?_
        refine z_w1 (v0 := some (.int (nI ((zPq z).2)))) (rest := []) (As := [.ref (o + 136)]) S hZ hS (c_perform l g (o := o + 1) (oc := o + 136) (by omega) (z 0) hIv.1 (z 14 0) (z 14 0 0 0) rfl hk10 h0) (by omega) ci_X8_perform cv_X8_perform k544 ⟨rfl, rfl, by rw [hR]; exact Nat.le_of_ble_eq_true rfl, by rw [hR]; exact Nat.le_of_ble_eq_true rfl⟩ ⟨hL, hQ0⟩ (hL.1.recv hZ.1 0 (by decide) rfl rfl rfl) hl.1 rfl (Nat.le_of_ble_eq_true rfl) dX11_change_73 ⟨by rw [hR]; exact Nat.le_of_ble_eq_true rfl, by rw [hR]; exact Nat.le_of_ble_eq_true rfl⟩ rfl (fun H1 locs1 hPn hCn hSn => ?_)
        have hS := hSn
        have hRo := hRo.kept hCn (by omega)
        have hL := hPn
        have hF := hF.kept hCn (by omega)
        have hN := hN.kept hCn (by omega)
        have hHi := hHi.kept hCn (by omega)
        have hJ := hJ.kept hCn (by omega)
        have hQ0 := hQ0.kept hCn (by omega)
        have hSc := hSc.kept hCn (by omega)
        have hLn := hLn.kept hCn (by omega)
        have hC := hC.tr (hCn.mono (b := o) (k := 152) (by omega) (by omega))
        exact z_wi hQ S hr hlk (zn_int _) hS hC ⟨rfl, hRo, hL, hF, hN, hHi.cgk (zCg_k z _), hJ, hQ0, hSc, hLn⟩ dX11_change_76
      · exact absurd rfl h7
set_option maxRecDepth 20000 in
set_option maxHeartbeats 4000000 in
/-- change(the request), not allowed -/
theorem c_change_no (l : Launch) (hl0 : l.stackTraces = false) (g : ZG) {B : Nat} {o : Nat} (hB : B ≤ o) (z : zSt) (hIv : zIv z) (hk10 : z 14 0 0 0 < 10) (h1 : z 14 0 0 1 < 2 ^ 31) (h2 : z 14 0 0 2 < 2 ^ 31) (h3 : z 14 0 0 3 < 2 ^ 31) (h9 : z 14 0 0 0 = 9 → z 14 0 0 1 < 65536) (h0 : (zVq z).1 ≠ 0) : vx_Met l yX11_change (.code yX11_change cX11_change 3 (some .int) :: GW) { frames := 7, cells := 1, slots := 6, locals := 104 } (va_Pc [.ref o, .ref (o + 136)] (zPre g B (fun H => zSO g o z H))) (fun _ _ _ _ => False) (zXT (fun E H => E = zXn (zVq z) ∧ zSO g o (zNo z (zVq z)) H) o 152) 1 6 (zA B) := by
  refine zMetX (by decide) (Nat.le_of_ble_eq_true rfl) ?_
  intro p e R s m args below meth c Q ls hR hargs hQ S hr hlk hex hP hZ hS hl
  have hl : lv_has ls 3 [(0, .ref (o)), (1, .ref (o + 136))] := hl
  subst hQ
  obtain ⟨hRo, hL, hF, hN, hHi, hJ, hQ0, hSc, hLn⟩ := hP
  have hC : zCh1 o 152 s.heap s.heap := zCh1.rf
  have hv10 : (zVq z).1 ≤ 10 := zVd_le (z 0) (z 14 0 0 0) (z 14 0 0 1) (z 14 0 0 2) (z 14 0 0 3)
  refine lv_aload_n S.1 S.2.1 dX11_change_0 rfl (lv_at hl 0 rfl) ?_
  refine z_get (v := .ref (o + 135)) S hZ.1 hRo 0 (by decide) rfl rfl rfl 5 (by decide) rfl k250 dX11_change_1 ?_
  refine lv_aload_n S.1 S.2.1 dX11_change_4 rfl (lv_at hl 1 rfl) ?_
  refine lv_aload_n S.1 S.2.1 dX11_change_5 rfl (lv_at hl 0 rfl) ?_
  refine z_get (v := .ref (o + 1)) S hZ.1 hRo 0 (by decide) rfl rfl rfl 0 (by decide) rfl k245 dX11_change_6 ?_
  refine z_w1 (v0 := some (.int (nI ((zVq z).1)))) (rest := []) (As := [.ref (o + 136), .ref (o + 1)]) S hZ hS (c_verdictOn l g (o := o + 1) (oc := o + 136) (oj := o + 135) (by omega) (z 13 0) (z 0) hIv.1 (z 14 0) h1 h2 h3 (z 14 0 0 0) rfl hk10 h9) (by omega) ci_X5_verdictOn cv_X5_verdictOn k338 ⟨rfl, rfl, by rw [hR]; exact Nat.le_of_ble_eq_true rfl, by rw [hR]; exact Nat.le_of_ble_eq_true rfl⟩ ⟨hJ, hL, hQ0⟩ (hJ.recv hZ.1 0 (by decide) rfl rfl rfl) hl.1 rfl (Nat.le_of_ble_eq_true rfl) dX11_change_9 ⟨by rw [hR]; exact Nat.le_of_ble_eq_true rfl, by rw [hR]; exact Nat.le_of_ble_eq_true rfl⟩ rfl (fun H1 locs1 hPn hCn hSn => ?_)
  have hS := hSn
  have hRo := hRo.kept hCn (by omega)
  have hL := hL.kept hCn (by omega)
  have hF := hF.kept hCn (by omega)
  have hN := hN.kept hCn (by omega)
  have hHi := hHi.kept hCn (by omega)
  have hJ := hPn
  have hQ0 := hQ0.kept hCn (by omega)
  have hSc := hSc.kept hCn (by omega)
  have hLn := hLn.kept hCn (by omega)
  have hC := hC.tr (hCn.mono (b := o) (k := 152) (by omega) (by omega))
  refine lv_istore_n (lv' := [(2, .int (nI ((zVq z).1))), (0, .ref (o)), (1, .ref (o + 136))]) S.1 S.2.1 dX11_change_12 rfl hl (by decide) rfl (fun ls hl => ?_)
  refine lv_iload_n S.1 S.2.1 dX11_change_13 rfl (lv_at hl 0 rfl) ?_
  refine z_bi S (k := 9) dX11_change_14 (by decide) ?_
  refine z_ceq (tgt := 23) S (by omega) (by omega) dX11_change_16 (by decide) (fun h7 => ?_) (fun h7 => ?_)
  · refine z_ic S (k := 0) dX11_change_23 (by decide) ?_
    refine z_xS (rest := []) (As := [.int (nI (0))]) S hZ hS (c_requireRange_f l hl0 g (B := B) false rfl (PH := fun _ => True)) (Nat.le_refl B) ci_X11_requireRange cv_X11_requireRange k425 ⟨rfl, rfl, by rw [hR]; exact Nat.le_of_ble_eq_true rfl, by rw [hR]; exact Nat.le_of_ble_eq_true rfl⟩ trivial hl.1 rfl (Nat.le_of_ble_eq_true rfl) dX11_change_24 ⟨by rw [hR]; exact Nat.le_of_ble_eq_true rfl, by rw [hR]; exact Nat.le_of_ble_eq_true rfl⟩ (fun E ce q9 H1 locs1 hPx hCn hSn hce hcv hcl => ?_)
    have hS := hSn
    have hRo := hRo.kept hCn (by omega)
    have hL := hL.kept hCn (by omega)
    have hF := hF.kept hCn (by omega)
    have hN := hN.kept hCn (by omega)
    have hHi := hHi.kept hCn (by omega)
    have hJ := hJ.kept hCn (by omega)
    have hQ0 := hQ0.kept hCn (by omega)
    have hSc := hSc.kept hCn (by omega)
    have hLn := hLn.kept hCn (by omega)
    have hC := hC.tr hCn.z0
    exact z_xo hex hlk hce hcv hcl hS hC ⟨by rw [hPx, zXn, if_pos (by omega)], zNo_r hRo (by omega), hL, hF, hN, hHi.cgk (zNo_k z _), hJ, hQ0, hSc, hLn⟩ (Nat.le_of_ble_eq_true rfl) (Nat.le_of_ble_eq_true rfl)
  · refine z_ic S (k := 1) dX11_change_19 (by decide) ?_
    refine lv_goto (tgt := 24) S.1 S.2.1 dX11_change_20 (by decide) ?_
    refine z_cS (v := none) (rest := []) (As := [.int (nI (1))]) S hZ hS (c_requireRange_t l g true rfl (PH := fun _ => True)) ci_X11_requireRange cv_X11_requireRange k425 ⟨rfl, rfl, by rw [hR]; decide, by rw [hR]; decide⟩ trivial hl.1 rfl (Nat.le_of_ble_eq_true rfl) dX11_change_24 ⟨by rw [hR]; decide, by rw [hR]; decide⟩ rfl ?_
    refine lv_iload_n S.1 S.2.1 dX11_change_27 rfl (lv_at hl 0 rfl) ?_
    refine z_bi S (k := 10) dX11_change_28 (by decide) ?_
    refine z_ceq (tgt := 37) S (by omega) (by omega) dX11_change_30 (by decide) (fun h7 => ?_) (fun h7 => ?_)
    · refine z_ic S (k := 0) dX11_change_37 (by decide) ?_
      refine z_xS (rest := []) (As := [.int (nI (0))]) S hZ hS (c_requireIndex_f l hl0 g (B := B) false rfl (PH := fun _ => True)) (Nat.le_refl B) ci_X11_requireIndex cv_X11_requireIndex k500 ⟨rfl, rfl, by rw [hR]; exact Nat.le_of_ble_eq_true rfl, by rw [hR]; exact Nat.le_of_ble_eq_true rfl⟩ trivial hl.1 rfl (Nat.le_of_ble_eq_true rfl) dX11_change_38 ⟨by rw [hR]; exact Nat.le_of_ble_eq_true rfl, by rw [hR]; exact Nat.le_of_ble_eq_true rfl⟩ (fun E ce q9 H1 locs1 hPx hCn hSn hce hcv hcl => ?_)
      have hS := hSn
      have hRo := hRo.kept hCn (by omega)
      have hL := hL.kept hCn (by omega)
      have hF := hF.kept hCn (by omega)
      have hN := hN.kept hCn (by omega)
      have hHi := hHi.kept hCn (by omega)
      have hJ := hJ.kept hCn (by omega)
      have hQ0 := hQ0.kept hCn (by omega)
      have hSc := hSc.kept hCn (by omega)
      have hLn := hLn.kept hCn (by omega)
      have hC := hC.tr hCn.z0
      exact z_xo hex hlk hce hcv hcl hS hC ⟨by rw [hPx, zXn, if_neg (by omega), if_pos (by omega)], zNo_r hRo (by omega), hL, hF, hN, hHi.cgk (zNo_k z _), hJ, hQ0, hSc, hLn⟩ (Nat.le_of_ble_eq_true rfl) (Nat.le_of_ble_eq_true rfl)
    · refine z_ic S (k := 1) dX11_change_33 (by decide) ?_
      refine lv_goto (tgt := 38) S.1 S.2.1 dX11_change_34 (by decide) ?_
      refine z_cS (v := none) (rest := []) (As := [.int (nI (1))]) S hZ hS (c_requireIndex_t l g true rfl (PH := fun _ => True)) ci_X11_requireIndex cv_X11_requireIndex k500 ⟨rfl, rfl, by rw [hR]; decide, by rw [hR]; decide⟩ trivial hl.1 rfl (Nat.le_of_ble_eq_true rfl) dX11_change_38 ⟨by rw [hR]; decide, by rw [hR]; decide⟩ rfl ?_
      refine lv_iload_n S.1 S.2.1 dX11_change_41 rfl (lv_at hl 0 rfl) ?_
      refine z_ieq (tgt := 57) S (by omega) dX11_change_42 (by decide) (fun h8 => ?_) (fun h8 => ?_)
      · exact absurd h8 h0
      · refine lv_aload_n S.1 S.2.1 dX11_change_45 rfl (lv_at hl 1 rfl) ?_
        refine lv_iload_n S.1 S.2.1 dX11_change_46 rfl (lv_at hl 0 rfl) ?_
        refine lv_aload_n S.1 S.2.1 dX11_change_47 rfl (lv_at hl 1 rfl) ?_
        refine z_get (v := .ref (o + 135)) S hZ.1 hRo 0 (by decide) rfl rfl rfl 5 (by decide) rfl k250 dX11_change_48 ?_
        refine z_get (v := .int (nI ((zJd (z 13 0) (zVq z)) 0 0))) S hZ.1 hJ 0 (by decide) rfl rfl rfl 0 (by decide) rfl k168 dX11_change_51 ?_
        have h79 : (zVq z).1 < 9 := by omega
        rw [show (zJd (z 13 0) (zVq z)) 0 0 = (zVq z).2 from zJd_d h0 h79]
        refine z_xV (rest := []) (As := [.int (nI ((zVq z).1)), .int (nI ((zVq z).2))]) S hZ hS (c_throwDenial l hl0 g hB (z 11 0) (zVq z).1 (zVq z).2) hB ci_X11_throwDenial cv_X11_throwDenial k519 ⟨rfl, rfl, by rw [hR]; exact Nat.le_of_ble_eq_true rfl, by rw [hR]; exact Nat.le_of_ble_eq_true rfl⟩ hRo (hRo.recv hZ.1 0 (by decide) rfl rfl rfl) hl.1 rfl (Nat.le_of_ble_eq_true rfl) dX11_change_54 ⟨by rw [hR]; exact Nat.le_of_ble_eq_true rfl, by rw [hR]; exact Nat.le_of_ble_eq_true rfl⟩ (fun E ce q9 H1 locs1 hPx hCn hSn hce hcv hcl => ?_)
        obtain ⟨hE, hPn⟩ := hPx
        have hS := hSn
        have hRo := hPn
        have hL := hL.kept hCn (by omega)
        have hF := hF.kept hCn (by omega)
        have hN := hN.kept hCn (by omega)
        have hHi := hHi.kept hCn (by omega)
        have hJ := hJ.kept hCn (by omega)
        have hQ0 := hQ0.kept hCn (by omega)
        have hSc := hSc.kept hCn (by omega)
        have hLn := hLn.kept hCn (by omega)
        have hC := hC.tr (hCn.mono (b := o) (k := 152) (by omega) (by omega))
        exact z_xo hex hlk hce hcv hcl hS hC ⟨by rw [hE, zXn, if_neg (by omega), if_neg (by omega)], zNo_d hRo h79, hL, hF, hN, hHi.cgk (zNo_k z _), hJ, hQ0, hSc, hLn⟩ (Nat.le_of_ble_eq_true rfl) (Nat.le_of_ble_eq_true rfl)
theorem ci_X11_addWick : zCI yX11_addWick cX11_addWick 4 (some .int) 3 := ⟨k328, k1, by decide +kernel⟩
theorem cv_X11_addWick : Cond.instanceMethod yX11_addWick ∈ GW ∧ Cond.selects (yX11_addWick).cls yX11_addWick yX11_addWick ∈ GW := ⟨k326, k327⟩
set_option maxRecDepth 20000 in
set_option maxHeartbeats 4000000 in
/-- addWick, allowed -/
theorem c_addWick_ok (l : Launch) (g : ZG) {B : Nat} {o : Nat} (hB : B ≤ o) (z : zSt) (hIv : zIv z) (a : Nat) (ha : a < 2 ^ 31) (b : Nat) (hb : b < 2 ^ 31) (c9 : Nat) (hc9 : c9 < 2 ^ 31) (h0 : (zVd (z 0) 0 a b c9).1 = 0) : Met l yX11_addWick (.code yX11_addWick cX11_addWick 4 (some .int) :: GW) { frames := 6, cells := 0, slots := 0, locals := 149 } (va_Pc [.ref o, .int (nI a), .int (nI b), .int (nI c9)] (zPre g B (fun H => zSO g o z H))) (zX (fun w H => w = some (.int (nI (zPf (z 0) 0 a b c9).2)) ∧ zSO g o (zCg (zRq z 0 a b c9) (zPf (z 0) 0 a b c9).1) H) o 152) 0 0 (zA B) := by
  refine zMet (by decide) (Nat.le_of_ble_eq_true rfl) ?_
  intro p e R s m args below meth c Q ls hR hargs hQ S hr hlk hP hZ hS hnm hl
  have hl : lv_has ls 4 [(0, .ref (o)), (1, .int (nI (a))), (2, .int (nI (b))), (3, .int (nI (c9)))] := hl
  obtain ⟨hRo, hL, hF, hN, hHi, hJ, hQ0, hSc, hLn⟩ := hP
  have hC : zCh1 o 152 s.heap s.heap := zCh1.rf
  refine lv_aload_n S.1 S.2.1 dX11_addWick_0 rfl (lv_at hl 0 rfl) ?_
  refine lv_aload_n S.1 S.2.1 dX11_addWick_1 rfl (lv_at hl 0 rfl) ?_
  refine z_get (v := .ref (o + 136)) S hZ.1 hRo 0 (by decide) rfl rfl rfl 6 (by decide) rfl k251 dX11_addWick_2 ?_
  refine va_gets (A := zA B) S.1 S.2.1 (hZ.en.1 0 (by decide)).1 hS S.2.2.2.1 (S.2.2.2.2 _ k329) (fun _ h => h) dX11_addWick_5 ?_
  refine lv_iload_n S.1 S.2.1 dX11_addWick_8 rfl (lv_at hl 1 rfl) ?_
  refine lv_iload_n S.1 S.2.1 dX11_addWick_9 rfl (lv_at hl 2 rfl) ?_
  refine lv_iload_n S.1 S.2.1 dX11_addWick_10 rfl (lv_at hl 3 rfl) ?_
  refine z_w1 (v0 := some (.ref (o + 136))) (rest := [.ref (o)]) (As := [.ref (g.2 1 0), .int (nI (a)), .int (nI (b)), .int (nI (c9))]) S hZ hS (c_X2_become l g (by omega) (z 14 0) 0 a b c9) (by omega) ci_X2_become cv_X2_become k330 ⟨rfl, rfl, by rw [hR]; exact Nat.le_of_ble_eq_true rfl, by rw [hR]; exact Nat.le_of_ble_eq_true rfl⟩ hQ0 (hQ0.recv hZ.1 0 (by decide) rfl rfl rfl) hl.1 rfl (Nat.le_of_ble_eq_true rfl) dX11_addWick_11 ⟨by rw [hR]; exact Nat.le_of_ble_eq_true rfl, by rw [hR]; exact Nat.le_of_ble_eq_true rfl⟩ rfl (fun H1 locs1 hPn hCn hSn => ?_)
  have hS := hSn
  have hRo := hRo.kept hCn (by omega)
  have hL := hL.kept hCn (by omega)
  have hF := hF.kept hCn (by omega)
  have hN := hN.kept hCn (by omega)
  have hHi := hHi.kept hCn (by omega)
  have hJ := hJ.kept hCn (by omega)
  have hQ0 := hPn
  have hSc := hSc.kept hCn (by omega)
  have hLn := hLn.kept hCn (by omega)
  have hC := hC.tr (hCn.mono (b := o) (k := 152) (by omega) (by omega))
  have hP1 : zSO g o (zRq z 0 a b c9) H1 := ⟨hRo, hL, hF, hN, hHi.cgk (zRq_k z 0 a b c9), hJ, hQ0, hSc, hLn⟩
  refine z_w1 (v0 := some (.int (nI (zPf (z 0) 0 a b c9).2))) (rest := []) (As := [.ref (o + 136)]) S hZ hS (c_change_ok l g (hB := hB) (z := (zRq z 0 a b c9)) (hIv := zRq_iv hIv 0 a b c9) (hk10 := (by show (0 : Nat) < 10; decide)) (h1 := (by show (a : Nat) < 2 ^ 31; omega)) (h2 := (by show (b : Nat) < 2 ^ 31; omega)) (h3 := (by show (c9 : Nat) < 2 ^ 31; omega)) (h9 := (fun q => absurd (show (0 : Nat) = 9 from q) (by decide))) (h0 := h0)) hB ci_X11_change cv_X11_change k334 ⟨rfl, rfl, by rw [hR]; exact Nat.le_of_ble_eq_true rfl, by rw [hR]; exact Nat.le_of_ble_eq_true rfl⟩ hP1 (hRo.recv hZ.1 0 (by decide) rfl rfl rfl) hl.1 rfl (Nat.le_of_ble_eq_true rfl) dX11_addWick_14 ⟨by rw [hR]; exact Nat.le_of_ble_eq_true rfl, by rw [hR]; exact Nat.le_of_ble_eq_true rfl⟩ rfl (fun H1 locs1 hPn hCn hSn => ?_)
  exact z_wi hQ S hr hlk (zn_int _) hSn (hC.tr hCn) ⟨rfl, hPn⟩ dX11_addWick_17
set_option maxRecDepth 20000 in
set_option maxHeartbeats 4000000 in
/-- addWick, not allowed -/
theorem c_addWick_no (l : Launch) (hl0 : l.stackTraces = false) (g : ZG) {B : Nat} {o : Nat} (hB : B ≤ o) (z : zSt) (hIv : zIv z) (a : Nat) (ha : a < 2 ^ 31) (b : Nat) (hb : b < 2 ^ 31) (c9 : Nat) (hc9 : c9 < 2 ^ 31) (h0 : (zVd (z 0) 0 a b c9).1 ≠ 0) : vx_Met l yX11_addWick (.code yX11_addWick cX11_addWick 4 (some .int) :: GW) { frames := 8, cells := 1, slots := 6, locals := 126 } (va_Pc [.ref o, .int (nI a), .int (nI b), .int (nI c9)] (zPre g B (fun H => zSO g o z H))) (fun _ _ _ _ => False) (zXT (fun E H => E = zXn (zVd (z 0) 0 a b c9) ∧ zSO g o (zNo (zRq z 0 a b c9) (zVd (z 0) 0 a b c9)) H) o 152) 1 6 (zA B) := by
  refine zMetX (by decide) (Nat.le_of_ble_eq_true rfl) ?_
  intro p e R s m args below meth c Q ls hR hargs hQ S hr hlk hex hP hZ hS hl
  have hl : lv_has ls 4 [(0, .ref (o)), (1, .int (nI (a))), (2, .int (nI (b))), (3, .int (nI (c9)))] := hl
  subst hQ
  obtain ⟨hRo, hL, hF, hN, hHi, hJ, hQ0, hSc, hLn⟩ := hP
  have hC : zCh1 o 152 s.heap s.heap := zCh1.rf
  refine lv_aload_n S.1 S.2.1 dX11_addWick_0 rfl (lv_at hl 0 rfl) ?_
  refine lv_aload_n S.1 S.2.1 dX11_addWick_1 rfl (lv_at hl 0 rfl) ?_
  refine z_get (v := .ref (o + 136)) S hZ.1 hRo 0 (by decide) rfl rfl rfl 6 (by decide) rfl k251 dX11_addWick_2 ?_
  refine va_gets (A := zA B) S.1 S.2.1 (hZ.en.1 0 (by decide)).1 hS S.2.2.2.1 (S.2.2.2.2 _ k329) (fun _ h => h) dX11_addWick_5 ?_
  refine lv_iload_n S.1 S.2.1 dX11_addWick_8 rfl (lv_at hl 1 rfl) ?_
  refine lv_iload_n S.1 S.2.1 dX11_addWick_9 rfl (lv_at hl 2 rfl) ?_
  refine lv_iload_n S.1 S.2.1 dX11_addWick_10 rfl (lv_at hl 3 rfl) ?_
  refine z_w1 (v0 := some (.ref (o + 136))) (rest := [.ref (o)]) (As := [.ref (g.2 1 0), .int (nI (a)), .int (nI (b)), .int (nI (c9))]) S hZ hS (c_X2_become l g (by omega) (z 14 0) 0 a b c9) (by omega) ci_X2_become cv_X2_become k330 ⟨rfl, rfl, by rw [hR]; exact Nat.le_of_ble_eq_true rfl, by rw [hR]; exact Nat.le_of_ble_eq_true rfl⟩ hQ0 (hQ0.recv hZ.1 0 (by decide) rfl rfl rfl) hl.1 rfl (Nat.le_of_ble_eq_true rfl) dX11_addWick_11 ⟨by rw [hR]; exact Nat.le_of_ble_eq_true rfl, by rw [hR]; exact Nat.le_of_ble_eq_true rfl⟩ rfl (fun H1 locs1 hPn hCn hSn => ?_)
  have hS := hSn
  have hRo := hRo.kept hCn (by omega)
  have hL := hL.kept hCn (by omega)
  have hF := hF.kept hCn (by omega)
  have hN := hN.kept hCn (by omega)
  have hHi := hHi.kept hCn (by omega)
  have hJ := hJ.kept hCn (by omega)
  have hQ0 := hPn
  have hSc := hSc.kept hCn (by omega)
  have hLn := hLn.kept hCn (by omega)
  have hC := hC.tr (hCn.mono (b := o) (k := 152) (by omega) (by omega))
  have hP1 : zSO g o (zRq z 0 a b c9) H1 := ⟨hRo, hL, hF, hN, hHi.cgk (zRq_k z 0 a b c9), hJ, hQ0, hSc, hLn⟩
  refine z_xV (rest := []) (As := [.ref (o + 136)]) S hZ hS (c_change_no l hl0 g (hB := hB) (z := (zRq z 0 a b c9)) (hIv := zRq_iv hIv 0 a b c9) (hk10 := (by show (0 : Nat) < 10; decide)) (h1 := (by show (a : Nat) < 2 ^ 31; omega)) (h2 := (by show (b : Nat) < 2 ^ 31; omega)) (h3 := (by show (c9 : Nat) < 2 ^ 31; omega)) (h9 := (fun q => absurd (show (0 : Nat) = 9 from q) (by decide))) (h0 := h0)) hB ci_X11_change cv_X11_change k334 ⟨rfl, rfl, by rw [hR]; exact Nat.le_of_ble_eq_true rfl, by rw [hR]; exact Nat.le_of_ble_eq_true rfl⟩ hP1 (hRo.recv hZ.1 0 (by decide) rfl rfl rfl) hl.1 rfl (Nat.le_of_ble_eq_true rfl) dX11_addWick_14 ⟨by rw [hR]; exact Nat.le_of_ble_eq_true rfl, by rw [hR]; exact Nat.le_of_ble_eq_true rfl⟩ (fun E ce q9 H1 locs1 hPx hCn hSn hce hcv hcl => ?_)
  exact z_xo hex hlk hce hcv hcl hSn (hC.tr hCn) hPx (Nat.le_of_ble_eq_true rfl) (Nat.le_of_ble_eq_true rfl)
theorem ci_X11_light : zCI yX11_light cX11_light 2 (some .int) 1 := ⟨k654, k1, by decide +kernel⟩
theorem cv_X11_light : Cond.instanceMethod yX11_light ∈ GW ∧ Cond.selects (yX11_light).cls yX11_light yX11_light ∈ GW := ⟨k652, k653⟩
set_option maxRecDepth 20000 in
set_option maxHeartbeats 4000000 in
/-- light, allowed -/
theorem c_light_ok (l : Launch) (g : ZG) {B : Nat} {o : Nat} (hB : B ≤ o) (z : zSt) (hIv : zIv z) (a : Nat) (ha : a < 2 ^ 31) (h0 : (zVd (z 0) 1 a 0 0).1 = 0) : Met l yX11_light (.code yX11_light cX11_light 2 (some .int) :: GW) { frames := 6, cells := 0, slots := 0, locals := 149 } (va_Pc [.ref o, .int (nI a)] (zPre g B (fun H => zSO g o z H))) (zX (fun w H => w = some (.int (nI (zPf (z 0) 1 a 0 0).2)) ∧ zSO g o (zCg (zRq z 1 a 0 0) (zPf (z 0) 1 a 0 0).1) H) o 152) 0 0 (zA B) := by
  refine zMet (by decide) (Nat.le_of_ble_eq_true rfl) ?_
  intro p e R s m args below meth c Q ls hR hargs hQ S hr hlk hP hZ hS hnm hl
  have hl : lv_has ls 2 [(0, .ref (o)), (1, .int (nI (a)))] := hl
  obtain ⟨hRo, hL, hF, hN, hHi, hJ, hQ0, hSc, hLn⟩ := hP
  have hC : zCh1 o 152 s.heap s.heap := zCh1.rf
  refine lv_aload_n S.1 S.2.1 dX11_light_0 rfl (lv_at hl 0 rfl) ?_
  refine lv_aload_n S.1 S.2.1 dX11_light_1 rfl (lv_at hl 0 rfl) ?_
  refine z_get (v := .ref (o + 136)) S hZ.1 hRo 0 (by decide) rfl rfl rfl 6 (by decide) rfl k251 dX11_light_2 ?_
  refine va_gets (A := zA B) S.1 S.2.1 (hZ.en.1 1 (by decide)).1 hS S.2.2.2.1 (S.2.2.2.2 _ k655) (fun _ h => h) dX11_light_5 ?_
  refine lv_iload_n S.1 S.2.1 dX11_light_8 rfl (lv_at hl 1 rfl) ?_
  refine z_ic S (k := 0) dX11_light_9 (by decide) ?_
  refine z_ic S (k := 0) dX11_light_10 (by decide) ?_
  refine z_w1 (v0 := some (.ref (o + 136))) (rest := [.ref (o)]) (As := [.ref (g.2 1 1), .int (nI (a)), .int (nI (0)), .int (nI (0))]) S hZ hS (c_X2_become l g (by omega) (z 14 0) 1 a 0 0) (by omega) ci_X2_become cv_X2_become k330 ⟨rfl, rfl, by rw [hR]; exact Nat.le_of_ble_eq_true rfl, by rw [hR]; exact Nat.le_of_ble_eq_true rfl⟩ hQ0 (hQ0.recv hZ.1 0 (by decide) rfl rfl rfl) hl.1 rfl (Nat.le_of_ble_eq_true rfl) dX11_light_11 ⟨by rw [hR]; exact Nat.le_of_ble_eq_true rfl, by rw [hR]; exact Nat.le_of_ble_eq_true rfl⟩ rfl (fun H1 locs1 hPn hCn hSn => ?_)
  have hS := hSn
  have hRo := hRo.kept hCn (by omega)
  have hL := hL.kept hCn (by omega)
  have hF := hF.kept hCn (by omega)
  have hN := hN.kept hCn (by omega)
  have hHi := hHi.kept hCn (by omega)
  have hJ := hJ.kept hCn (by omega)
  have hQ0 := hPn
  have hSc := hSc.kept hCn (by omega)
  have hLn := hLn.kept hCn (by omega)
  have hC := hC.tr (hCn.mono (b := o) (k := 152) (by omega) (by omega))
  have hP1 : zSO g o (zRq z 1 a 0 0) H1 := ⟨hRo, hL, hF, hN, hHi.cgk (zRq_k z 1 a 0 0), hJ, hQ0, hSc, hLn⟩
  refine z_w1 (v0 := some (.int (nI (zPf (z 0) 1 a 0 0).2))) (rest := []) (As := [.ref (o + 136)]) S hZ hS (c_change_ok l g (hB := hB) (z := (zRq z 1 a 0 0)) (hIv := zRq_iv hIv 1 a 0 0) (hk10 := (by show (1 : Nat) < 10; decide)) (h1 := (by show (a : Nat) < 2 ^ 31; omega)) (h2 := (by show (0 : Nat) < 2 ^ 31; omega)) (h3 := (by show (0 : Nat) < 2 ^ 31; omega)) (h9 := (fun q => absurd (show (1 : Nat) = 9 from q) (by decide))) (h0 := h0)) hB ci_X11_change cv_X11_change k334 ⟨rfl, rfl, by rw [hR]; exact Nat.le_of_ble_eq_true rfl, by rw [hR]; exact Nat.le_of_ble_eq_true rfl⟩ hP1 (hRo.recv hZ.1 0 (by decide) rfl rfl rfl) hl.1 rfl (Nat.le_of_ble_eq_true rfl) dX11_light_14 ⟨by rw [hR]; exact Nat.le_of_ble_eq_true rfl, by rw [hR]; exact Nat.le_of_ble_eq_true rfl⟩ rfl (fun H1 locs1 hPn hCn hSn => ?_)
  exact z_wi hQ S hr hlk (zn_int _) hSn (hC.tr hCn) ⟨rfl, hPn⟩ dX11_light_17
set_option maxRecDepth 20000 in
set_option maxHeartbeats 4000000 in
/-- light, not allowed -/
theorem c_light_no (l : Launch) (hl0 : l.stackTraces = false) (g : ZG) {B : Nat} {o : Nat} (hB : B ≤ o) (z : zSt) (hIv : zIv z) (a : Nat) (ha : a < 2 ^ 31) (h0 : (zVd (z 0) 1 a 0 0).1 ≠ 0) : vx_Met l yX11_light (.code yX11_light cX11_light 2 (some .int) :: GW) { frames := 8, cells := 1, slots := 6, locals := 126 } (va_Pc [.ref o, .int (nI a)] (zPre g B (fun H => zSO g o z H))) (fun _ _ _ _ => False) (zXT (fun E H => E = zXn (zVd (z 0) 1 a 0 0) ∧ zSO g o (zNo (zRq z 1 a 0 0) (zVd (z 0) 1 a 0 0)) H) o 152) 1 6 (zA B) := by
  refine zMetX (by decide) (Nat.le_of_ble_eq_true rfl) ?_
  intro p e R s m args below meth c Q ls hR hargs hQ S hr hlk hex hP hZ hS hl
  have hl : lv_has ls 2 [(0, .ref (o)), (1, .int (nI (a)))] := hl
  subst hQ
  obtain ⟨hRo, hL, hF, hN, hHi, hJ, hQ0, hSc, hLn⟩ := hP
  have hC : zCh1 o 152 s.heap s.heap := zCh1.rf
  refine lv_aload_n S.1 S.2.1 dX11_light_0 rfl (lv_at hl 0 rfl) ?_
  refine lv_aload_n S.1 S.2.1 dX11_light_1 rfl (lv_at hl 0 rfl) ?_
  refine z_get (v := .ref (o + 136)) S hZ.1 hRo 0 (by decide) rfl rfl rfl 6 (by decide) rfl k251 dX11_light_2 ?_
  refine va_gets (A := zA B) S.1 S.2.1 (hZ.en.1 1 (by decide)).1 hS S.2.2.2.1 (S.2.2.2.2 _ k655) (fun _ h => h) dX11_light_5 ?_
  refine lv_iload_n S.1 S.2.1 dX11_light_8 rfl (lv_at hl 1 rfl) ?_
  refine z_ic S (k := 0) dX11_light_9 (by decide) ?_
  refine z_ic S (k := 0) dX11_light_10 (by decide) ?_
  refine z_w1 (v0 := some (.ref (o + 136))) (rest := [.ref (o)]) (As := [.ref (g.2 1 1), .int (nI (a)), .int (nI (0)), .int (nI (0))]) S hZ hS (c_X2_become l g (by omega) (z 14 0) 1 a 0 0) (by omega) ci_X2_become cv_X2_become k330 ⟨rfl, rfl, by rw [hR]; exact Nat.le_of_ble_eq_true rfl, by rw [hR]; exact Nat.le_of_ble_eq_true rfl⟩ hQ0 (hQ0.recv hZ.1 0 (by decide) rfl rfl rfl) hl.1 rfl (Nat.le_of_ble_eq_true rfl) dX11_light_11 ⟨by rw [hR]; exact Nat.le_of_ble_eq_true rfl, by rw [hR]; exact Nat.le_of_ble_eq_true rfl⟩ rfl (fun H1 locs1 hPn hCn hSn => ?_)
  have hS := hSn
  have hRo := hRo.kept hCn (by omega)
  have hL := hL.kept hCn (by omega)
  have hF := hF.kept hCn (by omega)
  have hN := hN.kept hCn (by omega)
  have hHi := hHi.kept hCn (by omega)
  have hJ := hJ.kept hCn (by omega)
  have hQ0 := hPn
  have hSc := hSc.kept hCn (by omega)
  have hLn := hLn.kept hCn (by omega)
  have hC := hC.tr (hCn.mono (b := o) (k := 152) (by omega) (by omega))
  have hP1 : zSO g o (zRq z 1 a 0 0) H1 := ⟨hRo, hL, hF, hN, hHi.cgk (zRq_k z 1 a 0 0), hJ, hQ0, hSc, hLn⟩
  refine z_xV (rest := []) (As := [.ref (o + 136)]) S hZ hS (c_change_no l hl0 g (hB := hB) (z := (zRq z 1 a 0 0)) (hIv := zRq_iv hIv 1 a 0 0) (hk10 := (by show (1 : Nat) < 10; decide)) (h1 := (by show (a : Nat) < 2 ^ 31; omega)) (h2 := (by show (0 : Nat) < 2 ^ 31; omega)) (h3 := (by show (0 : Nat) < 2 ^ 31; omega)) (h9 := (fun q => absurd (show (1 : Nat) = 9 from q) (by decide))) (h0 := h0)) hB ci_X11_change cv_X11_change k334 ⟨rfl, rfl, by rw [hR]; exact Nat.le_of_ble_eq_true rfl, by rw [hR]; exact Nat.le_of_ble_eq_true rfl⟩ hP1 (hRo.recv hZ.1 0 (by decide) rfl rfl rfl) hl.1 rfl (Nat.le_of_ble_eq_true rfl) dX11_light_14 ⟨by rw [hR]; exact Nat.le_of_ble_eq_true rfl, by rw [hR]; exact Nat.le_of_ble_eq_true rfl⟩ (fun E ce q9 H1 locs1 hPx hCn hSn hce hcv hcl => ?_)
  exact z_xo hex hlk hce hcv hcl hSn (hC.tr hCn) hPx (Nat.le_of_ble_eq_true rfl) (Nat.le_of_ble_eq_true rfl)
theorem ci_X11_snuff : zCI yX11_snuff cX11_snuff 2 (some .int) 1 := ⟨k903, k1, by decide +kernel⟩
theorem cv_X11_snuff : Cond.instanceMethod yX11_snuff ∈ GW ∧ Cond.selects (yX11_snuff).cls yX11_snuff yX11_snuff ∈ GW := ⟨k901, k902⟩
set_option maxRecDepth 20000 in
set_option maxHeartbeats 4000000 in
/-- snuff, allowed -/
theorem c_snuff_ok (l : Launch) (g : ZG) {B : Nat} {o : Nat} (hB : B ≤ o) (z : zSt) (hIv : zIv z) (a : Nat) (ha : a < 2 ^ 31) (h0 : (zVd (z 0) 2 a 0 0).1 = 0) : Met l yX11_snuff (.code yX11_snuff cX11_snuff 2 (some .int) :: GW) { frames := 6, cells := 0, slots := 0, locals := 149 } (va_Pc [.ref o, .int (nI a)] (zPre g B (fun H => zSO g o z H))) (zX (fun w H => w = some (.int (nI (zPf (z 0) 2 a 0 0).2)) ∧ zSO g o (zCg (zRq z 2 a 0 0) (zPf (z 0) 2 a 0 0).1) H) o 152) 0 0 (zA B) := by
  refine zMet (by decide) (Nat.le_of_ble_eq_true rfl) ?_
  intro p e R s m args below meth c Q ls hR hargs hQ S hr hlk hP hZ hS hnm hl
  have hl : lv_has ls 2 [(0, .ref (o)), (1, .int (nI (a)))] := hl
  obtain ⟨hRo, hL, hF, hN, hHi, hJ, hQ0, hSc, hLn⟩ := hP
  have hC : zCh1 o 152 s.heap s.heap := zCh1.rf
  refine lv_aload_n S.1 S.2.1 dX11_snuff_0 rfl (lv_at hl 0 rfl) ?_
  refine lv_aload_n S.1 S.2.1 dX11_snuff_1 rfl (lv_at hl 0 rfl) ?_
  refine z_get (v := .ref (o + 136)) S hZ.1 hRo 0 (by decide) rfl rfl rfl 6 (by decide) rfl k251 dX11_snuff_2 ?_
  refine va_gets (A := zA B) S.1 S.2.1 (hZ.en.1 2 (by decide)).1 hS S.2.2.2.1 (S.2.2.2.2 _ k904) (fun _ h => h) dX11_snuff_5 ?_
  refine lv_iload_n S.1 S.2.1 dX11_snuff_8 rfl (lv_at hl 1 rfl) ?_
  refine z_ic S (k := 0) dX11_snuff_9 (by decide) ?_
  refine z_ic S (k := 0) dX11_snuff_10 (by decide) ?_
  refine z_w1 (v0 := some (.ref (o + 136))) (rest := [.ref (o)]) (As := [.ref (g.2 1 2), .int (nI (a)), .int (nI (0)), .int (nI (0))]) S hZ hS (c_X2_become l g (by omega) (z 14 0) 2 a 0 0) (by omega) ci_X2_become cv_X2_become k330 ⟨rfl, rfl, by rw [hR]; exact Nat.le_of_ble_eq_true rfl, by rw [hR]; exact Nat.le_of_ble_eq_true rfl⟩ hQ0 (hQ0.recv hZ.1 0 (by decide) rfl rfl rfl) hl.1 rfl (Nat.le_of_ble_eq_true rfl) dX11_snuff_11 ⟨by rw [hR]; exact Nat.le_of_ble_eq_true rfl, by rw [hR]; exact Nat.le_of_ble_eq_true rfl⟩ rfl (fun H1 locs1 hPn hCn hSn => ?_)
  have hS := hSn
  have hRo := hRo.kept hCn (by omega)
  have hL := hL.kept hCn (by omega)
  have hF := hF.kept hCn (by omega)
  have hN := hN.kept hCn (by omega)
  have hHi := hHi.kept hCn (by omega)
  have hJ := hJ.kept hCn (by omega)
  have hQ0 := hPn
  have hSc := hSc.kept hCn (by omega)
  have hLn := hLn.kept hCn (by omega)
  have hC := hC.tr (hCn.mono (b := o) (k := 152) (by omega) (by omega))
  have hP1 : zSO g o (zRq z 2 a 0 0) H1 := ⟨hRo, hL, hF, hN, hHi.cgk (zRq_k z 2 a 0 0), hJ, hQ0, hSc, hLn⟩
  refine z_w1 (v0 := some (.int (nI (zPf (z 0) 2 a 0 0).2))) (rest := []) (As := [.ref (o + 136)]) S hZ hS (c_change_ok l g (hB := hB) (z := (zRq z 2 a 0 0)) (hIv := zRq_iv hIv 2 a 0 0) (hk10 := (by show (2 : Nat) < 10; decide)) (h1 := (by show (a : Nat) < 2 ^ 31; omega)) (h2 := (by show (0 : Nat) < 2 ^ 31; omega)) (h3 := (by show (0 : Nat) < 2 ^ 31; omega)) (h9 := (fun q => absurd (show (2 : Nat) = 9 from q) (by decide))) (h0 := h0)) hB ci_X11_change cv_X11_change k334 ⟨rfl, rfl, by rw [hR]; exact Nat.le_of_ble_eq_true rfl, by rw [hR]; exact Nat.le_of_ble_eq_true rfl⟩ hP1 (hRo.recv hZ.1 0 (by decide) rfl rfl rfl) hl.1 rfl (Nat.le_of_ble_eq_true rfl) dX11_snuff_14 ⟨by rw [hR]; exact Nat.le_of_ble_eq_true rfl, by rw [hR]; exact Nat.le_of_ble_eq_true rfl⟩ rfl (fun H1 locs1 hPn hCn hSn => ?_)
  exact z_wi hQ S hr hlk (zn_int _) hSn (hC.tr hCn) ⟨rfl, hPn⟩ dX11_snuff_17
set_option maxRecDepth 20000 in
set_option maxHeartbeats 4000000 in
/-- snuff, not allowed -/
theorem c_snuff_no (l : Launch) (hl0 : l.stackTraces = false) (g : ZG) {B : Nat} {o : Nat} (hB : B ≤ o) (z : zSt) (hIv : zIv z) (a : Nat) (ha : a < 2 ^ 31) (h0 : (zVd (z 0) 2 a 0 0).1 ≠ 0) : vx_Met l yX11_snuff (.code yX11_snuff cX11_snuff 2 (some .int) :: GW) { frames := 8, cells := 1, slots := 6, locals := 126 } (va_Pc [.ref o, .int (nI a)] (zPre g B (fun H => zSO g o z H))) (fun _ _ _ _ => False) (zXT (fun E H => E = zXn (zVd (z 0) 2 a 0 0) ∧ zSO g o (zNo (zRq z 2 a 0 0) (zVd (z 0) 2 a 0 0)) H) o 152) 1 6 (zA B) := by
  refine zMetX (by decide) (Nat.le_of_ble_eq_true rfl) ?_
  intro p e R s m args below meth c Q ls hR hargs hQ S hr hlk hex hP hZ hS hl
  have hl : lv_has ls 2 [(0, .ref (o)), (1, .int (nI (a)))] := hl
  subst hQ
  obtain ⟨hRo, hL, hF, hN, hHi, hJ, hQ0, hSc, hLn⟩ := hP
  have hC : zCh1 o 152 s.heap s.heap := zCh1.rf
  refine lv_aload_n S.1 S.2.1 dX11_snuff_0 rfl (lv_at hl 0 rfl) ?_
  refine lv_aload_n S.1 S.2.1 dX11_snuff_1 rfl (lv_at hl 0 rfl) ?_
  refine z_get (v := .ref (o + 136)) S hZ.1 hRo 0 (by decide) rfl rfl rfl 6 (by decide) rfl k251 dX11_snuff_2 ?_
  refine va_gets (A := zA B) S.1 S.2.1 (hZ.en.1 2 (by decide)).1 hS S.2.2.2.1 (S.2.2.2.2 _ k904) (fun _ h => h) dX11_snuff_5 ?_
  refine lv_iload_n S.1 S.2.1 dX11_snuff_8 rfl (lv_at hl 1 rfl) ?_
  refine z_ic S (k := 0) dX11_snuff_9 (by decide) ?_
  refine z_ic S (k := 0) dX11_snuff_10 (by decide) ?_
  refine z_w1 (v0 := some (.ref (o + 136))) (rest := [.ref (o)]) (As := [.ref (g.2 1 2), .int (nI (a)), .int (nI (0)), .int (nI (0))]) S hZ hS (c_X2_become l g (by omega) (z 14 0) 2 a 0 0) (by omega) ci_X2_become cv_X2_become k330 ⟨rfl, rfl, by rw [hR]; exact Nat.le_of_ble_eq_true rfl, by rw [hR]; exact Nat.le_of_ble_eq_true rfl⟩ hQ0 (hQ0.recv hZ.1 0 (by decide) rfl rfl rfl) hl.1 rfl (Nat.le_of_ble_eq_true rfl) dX11_snuff_11 ⟨by rw [hR]; exact Nat.le_of_ble_eq_true rfl, by rw [hR]; exact Nat.le_of_ble_eq_true rfl⟩ rfl (fun H1 locs1 hPn hCn hSn => ?_)
  have hS := hSn
  have hRo := hRo.kept hCn (by omega)
  have hL := hL.kept hCn (by omega)
  have hF := hF.kept hCn (by omega)
  have hN := hN.kept hCn (by omega)
  have hHi := hHi.kept hCn (by omega)
  have hJ := hJ.kept hCn (by omega)
  have hQ0 := hPn
  have hSc := hSc.kept hCn (by omega)
  have hLn := hLn.kept hCn (by omega)
  have hC := hC.tr (hCn.mono (b := o) (k := 152) (by omega) (by omega))
  have hP1 : zSO g o (zRq z 2 a 0 0) H1 := ⟨hRo, hL, hF, hN, hHi.cgk (zRq_k z 2 a 0 0), hJ, hQ0, hSc, hLn⟩
  refine z_xV (rest := []) (As := [.ref (o + 136)]) S hZ hS (c_change_no l hl0 g (hB := hB) (z := (zRq z 2 a 0 0)) (hIv := zRq_iv hIv 2 a 0 0) (hk10 := (by show (2 : Nat) < 10; decide)) (h1 := (by show (a : Nat) < 2 ^ 31; omega)) (h2 := (by show (0 : Nat) < 2 ^ 31; omega)) (h3 := (by show (0 : Nat) < 2 ^ 31; omega)) (h9 := (fun q => absurd (show (2 : Nat) = 9 from q) (by decide))) (h0 := h0)) hB ci_X11_change cv_X11_change k334 ⟨rfl, rfl, by rw [hR]; exact Nat.le_of_ble_eq_true rfl, by rw [hR]; exact Nat.le_of_ble_eq_true rfl⟩ hP1 (hRo.recv hZ.1 0 (by decide) rfl rfl rfl) hl.1 rfl (Nat.le_of_ble_eq_true rfl) dX11_snuff_14 ⟨by rw [hR]; exact Nat.le_of_ble_eq_true rfl, by rw [hR]; exact Nat.le_of_ble_eq_true rfl⟩ (fun E ce q9 H1 locs1 hPx hCn hSn hce hcv hcl => ?_)
  exact z_xo hex hlk hce hcv hcl hSn (hC.tr hCn) hPx (Nat.le_of_ble_eq_true rfl) (Nat.le_of_ble_eq_true rfl)
theorem ci_X11_addWax : zCI yX11_addWax cX11_addWax 3 (some .int) 2 := ⟨k663, k1, by decide +kernel⟩
theorem cv_X11_addWax : Cond.instanceMethod yX11_addWax ∈ GW ∧ Cond.selects (yX11_addWax).cls yX11_addWax yX11_addWax ∈ GW := ⟨k661, k662⟩
set_option maxRecDepth 20000 in
set_option maxHeartbeats 4000000 in
/-- addWax, allowed -/
theorem c_addWax_ok (l : Launch) (g : ZG) {B : Nat} {o : Nat} (hB : B ≤ o) (z : zSt) (hIv : zIv z) (a : Nat) (ha : a < 2 ^ 31) (b : Nat) (hb : b < 2 ^ 31) (h0 : (zVd (z 0) 3 a b 0).1 = 0) : Met l yX11_addWax (.code yX11_addWax cX11_addWax 3 (some .int) :: GW) { frames := 6, cells := 0, slots := 0, locals := 149 } (va_Pc [.ref o, .int (nI a), .int (nI b)] (zPre g B (fun H => zSO g o z H))) (zX (fun w H => w = some (.int (nI (zPf (z 0) 3 a b 0).2)) ∧ zSO g o (zCg (zRq z 3 a b 0) (zPf (z 0) 3 a b 0).1) H) o 152) 0 0 (zA B) := by
  refine zMet (by decide) (Nat.le_of_ble_eq_true rfl) ?_
  intro p e R s m args below meth c Q ls hR hargs hQ S hr hlk hP hZ hS hnm hl
  have hl : lv_has ls 3 [(0, .ref (o)), (1, .int (nI (a))), (2, .int (nI (b)))] := hl
  obtain ⟨hRo, hL, hF, hN, hHi, hJ, hQ0, hSc, hLn⟩ := hP
  have hC : zCh1 o 152 s.heap s.heap := zCh1.rf
  refine lv_aload_n S.1 S.2.1 dX11_addWax_0 rfl (lv_at hl 0 rfl) ?_
  refine lv_aload_n S.1 S.2.1 dX11_addWax_1 rfl (lv_at hl 0 rfl) ?_
  refine z_get (v := .ref (o + 136)) S hZ.1 hRo 0 (by decide) rfl rfl rfl 6 (by decide) rfl k251 dX11_addWax_2 ?_
  refine va_gets (A := zA B) S.1 S.2.1 (hZ.en.1 3 (by decide)).1 hS S.2.2.2.1 (S.2.2.2.2 _ k664) (fun _ h => h) dX11_addWax_5 ?_
  refine lv_iload_n S.1 S.2.1 dX11_addWax_8 rfl (lv_at hl 1 rfl) ?_
  refine lv_iload_n S.1 S.2.1 dX11_addWax_9 rfl (lv_at hl 2 rfl) ?_
  refine z_ic S (k := 0) dX11_addWax_10 (by decide) ?_
  refine z_w1 (v0 := some (.ref (o + 136))) (rest := [.ref (o)]) (As := [.ref (g.2 1 3), .int (nI (a)), .int (nI (b)), .int (nI (0))]) S hZ hS (c_X2_become l g (by omega) (z 14 0) 3 a b 0) (by omega) ci_X2_become cv_X2_become k330 ⟨rfl, rfl, by rw [hR]; exact Nat.le_of_ble_eq_true rfl, by rw [hR]; exact Nat.le_of_ble_eq_true rfl⟩ hQ0 (hQ0.recv hZ.1 0 (by decide) rfl rfl rfl) hl.1 rfl (Nat.le_of_ble_eq_true rfl) dX11_addWax_11 ⟨by rw [hR]; exact Nat.le_of_ble_eq_true rfl, by rw [hR]; exact Nat.le_of_ble_eq_true rfl⟩ rfl (fun H1 locs1 hPn hCn hSn => ?_)
  have hS := hSn
  have hRo := hRo.kept hCn (by omega)
  have hL := hL.kept hCn (by omega)
  have hF := hF.kept hCn (by omega)
  have hN := hN.kept hCn (by omega)
  have hHi := hHi.kept hCn (by omega)
  have hJ := hJ.kept hCn (by omega)
  have hQ0 := hPn
  have hSc := hSc.kept hCn (by omega)
  have hLn := hLn.kept hCn (by omega)
  have hC := hC.tr (hCn.mono (b := o) (k := 152) (by omega) (by omega))
  have hP1 : zSO g o (zRq z 3 a b 0) H1 := ⟨hRo, hL, hF, hN, hHi.cgk (zRq_k z 3 a b 0), hJ, hQ0, hSc, hLn⟩
  refine z_w1 (v0 := some (.int (nI (zPf (z 0) 3 a b 0).2))) (rest := []) (As := [.ref (o + 136)]) S hZ hS (c_change_ok l g (hB := hB) (z := (zRq z 3 a b 0)) (hIv := zRq_iv hIv 3 a b 0) (hk10 := (by show (3 : Nat) < 10; decide)) (h1 := (by show (a : Nat) < 2 ^ 31; omega)) (h2 := (by show (b : Nat) < 2 ^ 31; omega)) (h3 := (by show (0 : Nat) < 2 ^ 31; omega)) (h9 := (fun q => absurd (show (3 : Nat) = 9 from q) (by decide))) (h0 := h0)) hB ci_X11_change cv_X11_change k334 ⟨rfl, rfl, by rw [hR]; exact Nat.le_of_ble_eq_true rfl, by rw [hR]; exact Nat.le_of_ble_eq_true rfl⟩ hP1 (hRo.recv hZ.1 0 (by decide) rfl rfl rfl) hl.1 rfl (Nat.le_of_ble_eq_true rfl) dX11_addWax_14 ⟨by rw [hR]; exact Nat.le_of_ble_eq_true rfl, by rw [hR]; exact Nat.le_of_ble_eq_true rfl⟩ rfl (fun H1 locs1 hPn hCn hSn => ?_)
  exact z_wi hQ S hr hlk (zn_int _) hSn (hC.tr hCn) ⟨rfl, hPn⟩ dX11_addWax_17
set_option maxRecDepth 20000 in
set_option maxHeartbeats 4000000 in
/-- addWax, not allowed -/
theorem c_addWax_no (l : Launch) (hl0 : l.stackTraces = false) (g : ZG) {B : Nat} {o : Nat} (hB : B ≤ o) (z : zSt) (hIv : zIv z) (a : Nat) (ha : a < 2 ^ 31) (b : Nat) (hb : b < 2 ^ 31) (h0 : (zVd (z 0) 3 a b 0).1 ≠ 0) : vx_Met l yX11_addWax (.code yX11_addWax cX11_addWax 3 (some .int) :: GW) { frames := 8, cells := 1, slots := 6, locals := 126 } (va_Pc [.ref o, .int (nI a), .int (nI b)] (zPre g B (fun H => zSO g o z H))) (fun _ _ _ _ => False) (zXT (fun E H => E = zXn (zVd (z 0) 3 a b 0) ∧ zSO g o (zNo (zRq z 3 a b 0) (zVd (z 0) 3 a b 0)) H) o 152) 1 6 (zA B) := by
  refine zMetX (by decide) (Nat.le_of_ble_eq_true rfl) ?_
  intro p e R s m args below meth c Q ls hR hargs hQ S hr hlk hex hP hZ hS hl
  have hl : lv_has ls 3 [(0, .ref (o)), (1, .int (nI (a))), (2, .int (nI (b)))] := hl
  subst hQ
  obtain ⟨hRo, hL, hF, hN, hHi, hJ, hQ0, hSc, hLn⟩ := hP
  have hC : zCh1 o 152 s.heap s.heap := zCh1.rf
  refine lv_aload_n S.1 S.2.1 dX11_addWax_0 rfl (lv_at hl 0 rfl) ?_
  refine lv_aload_n S.1 S.2.1 dX11_addWax_1 rfl (lv_at hl 0 rfl) ?_
  refine z_get (v := .ref (o + 136)) S hZ.1 hRo 0 (by decide) rfl rfl rfl 6 (by decide) rfl k251 dX11_addWax_2 ?_
  refine va_gets (A := zA B) S.1 S.2.1 (hZ.en.1 3 (by decide)).1 hS S.2.2.2.1 (S.2.2.2.2 _ k664) (fun _ h => h) dX11_addWax_5 ?_
  refine lv_iload_n S.1 S.2.1 dX11_addWax_8 rfl (lv_at hl 1 rfl) ?_
  refine lv_iload_n S.1 S.2.1 dX11_addWax_9 rfl (lv_at hl 2 rfl) ?_
  refine z_ic S (k := 0) dX11_addWax_10 (by decide) ?_
  refine z_w1 (v0 := some (.ref (o + 136))) (rest := [.ref (o)]) (As := [.ref (g.2 1 3), .int (nI (a)), .int (nI (b)), .int (nI (0))]) S hZ hS (c_X2_become l g (by omega) (z 14 0) 3 a b 0) (by omega) ci_X2_become cv_X2_become k330 ⟨rfl, rfl, by rw [hR]; exact Nat.le_of_ble_eq_true rfl, by rw [hR]; exact Nat.le_of_ble_eq_true rfl⟩ hQ0 (hQ0.recv hZ.1 0 (by decide) rfl rfl rfl) hl.1 rfl (Nat.le_of_ble_eq_true rfl) dX11_addWax_11 ⟨by rw [hR]; exact Nat.le_of_ble_eq_true rfl, by rw [hR]; exact Nat.le_of_ble_eq_true rfl⟩ rfl (fun H1 locs1 hPn hCn hSn => ?_)
  have hS := hSn
  have hRo := hRo.kept hCn (by omega)
  have hL := hL.kept hCn (by omega)
  have hF := hF.kept hCn (by omega)
  have hN := hN.kept hCn (by omega)
  have hHi := hHi.kept hCn (by omega)
  have hJ := hJ.kept hCn (by omega)
  have hQ0 := hPn
  have hSc := hSc.kept hCn (by omega)
  have hLn := hLn.kept hCn (by omega)
  have hC := hC.tr (hCn.mono (b := o) (k := 152) (by omega) (by omega))
  have hP1 : zSO g o (zRq z 3 a b 0) H1 := ⟨hRo, hL, hF, hN, hHi.cgk (zRq_k z 3 a b 0), hJ, hQ0, hSc, hLn⟩
  refine z_xV (rest := []) (As := [.ref (o + 136)]) S hZ hS (c_change_no l hl0 g (hB := hB) (z := (zRq z 3 a b 0)) (hIv := zRq_iv hIv 3 a b 0) (hk10 := (by show (3 : Nat) < 10; decide)) (h1 := (by show (a : Nat) < 2 ^ 31; omega)) (h2 := (by show (b : Nat) < 2 ^ 31; omega)) (h3 := (by show (0 : Nat) < 2 ^ 31; omega)) (h9 := (fun q => absurd (show (3 : Nat) = 9 from q) (by decide))) (h0 := h0)) hB ci_X11_change cv_X11_change k334 ⟨rfl, rfl, by rw [hR]; exact Nat.le_of_ble_eq_true rfl, by rw [hR]; exact Nat.le_of_ble_eq_true rfl⟩ hP1 (hRo.recv hZ.1 0 (by decide) rfl rfl rfl) hl.1 rfl (Nat.le_of_ble_eq_true rfl) dX11_addWax_14 ⟨by rw [hR]; exact Nat.le_of_ble_eq_true rfl, by rw [hR]; exact Nat.le_of_ble_eq_true rfl⟩ (fun E ce q9 H1 locs1 hPx hCn hSn hce hcv hcl => ?_)
  exact z_xo hex hlk hce hcv hcl hSn (hC.tr hCn) hPx (Nat.le_of_ble_eq_true rfl) (Nat.le_of_ble_eq_true rfl)
theorem ci_X11_weave : zCI yX11_weave cX11_weave 2 (some .int) 1 := ⟨k672, k1, by decide +kernel⟩
theorem cv_X11_weave : Cond.instanceMethod yX11_weave ∈ GW ∧ Cond.selects (yX11_weave).cls yX11_weave yX11_weave ∈ GW := ⟨k670, k671⟩
set_option maxRecDepth 20000 in
set_option maxHeartbeats 4000000 in
/-- weave, allowed -/
theorem c_weave_ok (l : Launch) (g : ZG) {B : Nat} {o : Nat} (hB : B ≤ o) (z : zSt) (hIv : zIv z) (a : Nat) (ha : a < 2 ^ 31) (h0 : (zVd (z 0) 4 a 0 0).1 = 0) : Met l yX11_weave (.code yX11_weave cX11_weave 2 (some .int) :: GW) { frames := 6, cells := 0, slots := 0, locals := 149 } (va_Pc [.ref o, .int (nI a)] (zPre g B (fun H => zSO g o z H))) (zX (fun w H => w = some (.int (nI (zPf (z 0) 4 a 0 0).2)) ∧ zSO g o (zCg (zRq z 4 a 0 0) (zPf (z 0) 4 a 0 0).1) H) o 152) 0 0 (zA B) := by
  refine zMet (by decide) (Nat.le_of_ble_eq_true rfl) ?_
  intro p e R s m args below meth c Q ls hR hargs hQ S hr hlk hP hZ hS hnm hl
  have hl : lv_has ls 2 [(0, .ref (o)), (1, .int (nI (a)))] := hl
  obtain ⟨hRo, hL, hF, hN, hHi, hJ, hQ0, hSc, hLn⟩ := hP
  have hC : zCh1 o 152 s.heap s.heap := zCh1.rf
  refine lv_aload_n S.1 S.2.1 dX11_weave_0 rfl (lv_at hl 0 rfl) ?_
  refine lv_aload_n S.1 S.2.1 dX11_weave_1 rfl (lv_at hl 0 rfl) ?_
  refine z_get (v := .ref (o + 136)) S hZ.1 hRo 0 (by decide) rfl rfl rfl 6 (by decide) rfl k251 dX11_weave_2 ?_
  refine va_gets (A := zA B) S.1 S.2.1 (hZ.en.1 4 (by decide)).1 hS S.2.2.2.1 (S.2.2.2.2 _ k673) (fun _ h => h) dX11_weave_5 ?_
  refine lv_iload_n S.1 S.2.1 dX11_weave_8 rfl (lv_at hl 1 rfl) ?_
  refine z_ic S (k := 0) dX11_weave_9 (by decide) ?_
  refine z_ic S (k := 0) dX11_weave_10 (by decide) ?_
  refine z_w1 (v0 := some (.ref (o + 136))) (rest := [.ref (o)]) (As := [.ref (g.2 1 4), .int (nI (a)), .int (nI (0)), .int (nI (0))]) S hZ hS (c_X2_become l g (by omega) (z 14 0) 4 a 0 0) (by omega) ci_X2_become cv_X2_become k330 ⟨rfl, rfl, by rw [hR]; exact Nat.le_of_ble_eq_true rfl, by rw [hR]; exact Nat.le_of_ble_eq_true rfl⟩ hQ0 (hQ0.recv hZ.1 0 (by decide) rfl rfl rfl) hl.1 rfl (Nat.le_of_ble_eq_true rfl) dX11_weave_11 ⟨by rw [hR]; exact Nat.le_of_ble_eq_true rfl, by rw [hR]; exact Nat.le_of_ble_eq_true rfl⟩ rfl (fun H1 locs1 hPn hCn hSn => ?_)
  have hS := hSn
  have hRo := hRo.kept hCn (by omega)
  have hL := hL.kept hCn (by omega)
  have hF := hF.kept hCn (by omega)
  have hN := hN.kept hCn (by omega)
  have hHi := hHi.kept hCn (by omega)
  have hJ := hJ.kept hCn (by omega)
  have hQ0 := hPn
  have hSc := hSc.kept hCn (by omega)
  have hLn := hLn.kept hCn (by omega)
  have hC := hC.tr (hCn.mono (b := o) (k := 152) (by omega) (by omega))
  have hP1 : zSO g o (zRq z 4 a 0 0) H1 := ⟨hRo, hL, hF, hN, hHi.cgk (zRq_k z 4 a 0 0), hJ, hQ0, hSc, hLn⟩
  refine z_w1 (v0 := some (.int (nI (zPf (z 0) 4 a 0 0).2))) (rest := []) (As := [.ref (o + 136)]) S hZ hS (c_change_ok l g (hB := hB) (z := (zRq z 4 a 0 0)) (hIv := zRq_iv hIv 4 a 0 0) (hk10 := (by show (4 : Nat) < 10; decide)) (h1 := (by show (a : Nat) < 2 ^ 31; omega)) (h2 := (by show (0 : Nat) < 2 ^ 31; omega)) (h3 := (by show (0 : Nat) < 2 ^ 31; omega)) (h9 := (fun q => absurd (show (4 : Nat) = 9 from q) (by decide))) (h0 := h0)) hB ci_X11_change cv_X11_change k334 ⟨rfl, rfl, by rw [hR]; exact Nat.le_of_ble_eq_true rfl, by rw [hR]; exact Nat.le_of_ble_eq_true rfl⟩ hP1 (hRo.recv hZ.1 0 (by decide) rfl rfl rfl) hl.1 rfl (Nat.le_of_ble_eq_true rfl) dX11_weave_14 ⟨by rw [hR]; exact Nat.le_of_ble_eq_true rfl, by rw [hR]; exact Nat.le_of_ble_eq_true rfl⟩ rfl (fun H1 locs1 hPn hCn hSn => ?_)
  exact z_wi hQ S hr hlk (zn_int _) hSn (hC.tr hCn) ⟨rfl, hPn⟩ dX11_weave_17
set_option maxRecDepth 20000 in
set_option maxHeartbeats 4000000 in
/-- weave, not allowed -/
theorem c_weave_no (l : Launch) (hl0 : l.stackTraces = false) (g : ZG) {B : Nat} {o : Nat} (hB : B ≤ o) (z : zSt) (hIv : zIv z) (a : Nat) (ha : a < 2 ^ 31) (h0 : (zVd (z 0) 4 a 0 0).1 ≠ 0) : vx_Met l yX11_weave (.code yX11_weave cX11_weave 2 (some .int) :: GW) { frames := 8, cells := 1, slots := 6, locals := 126 } (va_Pc [.ref o, .int (nI a)] (zPre g B (fun H => zSO g o z H))) (fun _ _ _ _ => False) (zXT (fun E H => E = zXn (zVd (z 0) 4 a 0 0) ∧ zSO g o (zNo (zRq z 4 a 0 0) (zVd (z 0) 4 a 0 0)) H) o 152) 1 6 (zA B) := by
  refine zMetX (by decide) (Nat.le_of_ble_eq_true rfl) ?_
  intro p e R s m args below meth c Q ls hR hargs hQ S hr hlk hex hP hZ hS hl
  have hl : lv_has ls 2 [(0, .ref (o)), (1, .int (nI (a)))] := hl
  subst hQ
  obtain ⟨hRo, hL, hF, hN, hHi, hJ, hQ0, hSc, hLn⟩ := hP
  have hC : zCh1 o 152 s.heap s.heap := zCh1.rf
  refine lv_aload_n S.1 S.2.1 dX11_weave_0 rfl (lv_at hl 0 rfl) ?_
  refine lv_aload_n S.1 S.2.1 dX11_weave_1 rfl (lv_at hl 0 rfl) ?_
  refine z_get (v := .ref (o + 136)) S hZ.1 hRo 0 (by decide) rfl rfl rfl 6 (by decide) rfl k251 dX11_weave_2 ?_
  refine va_gets (A := zA B) S.1 S.2.1 (hZ.en.1 4 (by decide)).1 hS S.2.2.2.1 (S.2.2.2.2 _ k673) (fun _ h => h) dX11_weave_5 ?_
  refine lv_iload_n S.1 S.2.1 dX11_weave_8 rfl (lv_at hl 1 rfl) ?_
  refine z_ic S (k := 0) dX11_weave_9 (by decide) ?_
  refine z_ic S (k := 0) dX11_weave_10 (by decide) ?_
  refine z_w1 (v0 := some (.ref (o + 136))) (rest := [.ref (o)]) (As := [.ref (g.2 1 4), .int (nI (a)), .int (nI (0)), .int (nI (0))]) S hZ hS (c_X2_become l g (by omega) (z 14 0) 4 a 0 0) (by omega) ci_X2_become cv_X2_become k330 ⟨rfl, rfl, by rw [hR]; exact Nat.le_of_ble_eq_true rfl, by rw [hR]; exact Nat.le_of_ble_eq_true rfl⟩ hQ0 (hQ0.recv hZ.1 0 (by decide) rfl rfl rfl) hl.1 rfl (Nat.le_of_ble_eq_true rfl) dX11_weave_11 ⟨by rw [hR]; exact Nat.le_of_ble_eq_true rfl, by rw [hR]; exact Nat.le_of_ble_eq_true rfl⟩ rfl (fun H1 locs1 hPn hCn hSn => ?_)
  have hS := hSn
  have hRo := hRo.kept hCn (by omega)
  have hL := hL.kept hCn (by omega)
  have hF := hF.kept hCn (by omega)
  have hN := hN.kept hCn (by omega)
  have hHi := hHi.kept hCn (by omega)
  have hJ := hJ.kept hCn (by omega)
  have hQ0 := hPn
  have hSc := hSc.kept hCn (by omega)
  have hLn := hLn.kept hCn (by omega)
  have hC := hC.tr (hCn.mono (b := o) (k := 152) (by omega) (by omega))
  have hP1 : zSO g o (zRq z 4 a 0 0) H1 := ⟨hRo, hL, hF, hN, hHi.cgk (zRq_k z 4 a 0 0), hJ, hQ0, hSc, hLn⟩
  refine z_xV (rest := []) (As := [.ref (o + 136)]) S hZ hS (c_change_no l hl0 g (hB := hB) (z := (zRq z 4 a 0 0)) (hIv := zRq_iv hIv 4 a 0 0) (hk10 := (by show (4 : Nat) < 10; decide)) (h1 := (by show (a : Nat) < 2 ^ 31; omega)) (h2 := (by show (0 : Nat) < 2 ^ 31; omega)) (h3 := (by show (0 : Nat) < 2 ^ 31; omega)) (h9 := (fun q => absurd (show (4 : Nat) = 9 from q) (by decide))) (h0 := h0)) hB ci_X11_change cv_X11_change k334 ⟨rfl, rfl, by rw [hR]; exact Nat.le_of_ble_eq_true rfl, by rw [hR]; exact Nat.le_of_ble_eq_true rfl⟩ hP1 (hRo.recv hZ.1 0 (by decide) rfl rfl rfl) hl.1 rfl (Nat.le_of_ble_eq_true rfl) dX11_weave_14 ⟨by rw [hR]; exact Nat.le_of_ble_eq_true rfl, by rw [hR]; exact Nat.le_of_ble_eq_true rfl⟩ (fun E ce q9 H1 locs1 hPx hCn hSn hce hcv hcl => ?_)
  exact z_xo hex hlk hce hcv hcl hSn (hC.tr hCn) hPx (Nat.le_of_ble_eq_true rfl) (Nat.le_of_ble_eq_true rfl)
theorem ci_X11_ravel : zCI yX11_ravel cX11_ravel 2 (some .int) 1 := ⟨k912, k1, by decide +kernel⟩
theorem cv_X11_ravel : Cond.instanceMethod yX11_ravel ∈ GW ∧ Cond.selects (yX11_ravel).cls yX11_ravel yX11_ravel ∈ GW := ⟨k910, k911⟩
set_option maxRecDepth 20000 in
set_option maxHeartbeats 4000000 in
/-- ravel, allowed -/
theorem c_ravel_ok (l : Launch) (g : ZG) {B : Nat} {o : Nat} (hB : B ≤ o) (z : zSt) (hIv : zIv z) (a : Nat) (ha : a < 2 ^ 31) (h0 : (zVd (z 0) 5 a 0 0).1 = 0) : Met l yX11_ravel (.code yX11_ravel cX11_ravel 2 (some .int) :: GW) { frames := 6, cells := 0, slots := 0, locals := 149 } (va_Pc [.ref o, .int (nI a)] (zPre g B (fun H => zSO g o z H))) (zX (fun w H => w = some (.int (nI (zPf (z 0) 5 a 0 0).2)) ∧ zSO g o (zCg (zRq z 5 a 0 0) (zPf (z 0) 5 a 0 0).1) H) o 152) 0 0 (zA B) := by
  refine zMet (by decide) (Nat.le_of_ble_eq_true rfl) ?_
  intro p e R s m args below meth c Q ls hR hargs hQ S hr hlk hP hZ hS hnm hl
  have hl : lv_has ls 2 [(0, .ref (o)), (1, .int (nI (a)))] := hl
  obtain ⟨hRo, hL, hF, hN, hHi, hJ, hQ0, hSc, hLn⟩ := hP
  have hC : zCh1 o 152 s.heap s.heap := zCh1.rf
  refine lv_aload_n S.1 S.2.1 dX11_ravel_0 rfl (lv_at hl 0 rfl) ?_
  refine lv_aload_n S.1 S.2.1 dX11_ravel_1 rfl (lv_at hl 0 rfl) ?_
  refine z_get (v := .ref (o + 136)) S hZ.1 hRo 0 (by decide) rfl rfl rfl 6 (by decide) rfl k251 dX11_ravel_2 ?_
  refine va_gets (A := zA B) S.1 S.2.1 (hZ.en.1 5 (by decide)).1 hS S.2.2.2.1 (S.2.2.2.2 _ k913) (fun _ h => h) dX11_ravel_5 ?_
  refine lv_iload_n S.1 S.2.1 dX11_ravel_8 rfl (lv_at hl 1 rfl) ?_
  refine z_ic S (k := 0) dX11_ravel_9 (by decide) ?_
  refine z_ic S (k := 0) dX11_ravel_10 (by decide) ?_
  refine z_w1 (v0 := some (.ref (o + 136))) (rest := [.ref (o)]) (As := [.ref (g.2 1 5), .int (nI (a)), .int (nI (0)), .int (nI (0))]) S hZ hS (c_X2_become l g (by omega) (z 14 0) 5 a 0 0) (by omega) ci_X2_become cv_X2_become k330 ⟨rfl, rfl, by rw [hR]; exact Nat.le_of_ble_eq_true rfl, by rw [hR]; exact Nat.le_of_ble_eq_true rfl⟩ hQ0 (hQ0.recv hZ.1 0 (by decide) rfl rfl rfl) hl.1 rfl (Nat.le_of_ble_eq_true rfl) dX11_ravel_11 ⟨by rw [hR]; exact Nat.le_of_ble_eq_true rfl, by rw [hR]; exact Nat.le_of_ble_eq_true rfl⟩ rfl (fun H1 locs1 hPn hCn hSn => ?_)
  have hS := hSn
  have hRo := hRo.kept hCn (by omega)
  have hL := hL.kept hCn (by omega)
  have hF := hF.kept hCn (by omega)
  have hN := hN.kept hCn (by omega)
  have hHi := hHi.kept hCn (by omega)
  have hJ := hJ.kept hCn (by omega)
  have hQ0 := hPn
  have hSc := hSc.kept hCn (by omega)
  have hLn := hLn.kept hCn (by omega)
  have hC := hC.tr (hCn.mono (b := o) (k := 152) (by omega) (by omega))
  have hP1 : zSO g o (zRq z 5 a 0 0) H1 := ⟨hRo, hL, hF, hN, hHi.cgk (zRq_k z 5 a 0 0), hJ, hQ0, hSc, hLn⟩
  refine z_w1 (v0 := some (.int (nI (zPf (z 0) 5 a 0 0).2))) (rest := []) (As := [.ref (o + 136)]) S hZ hS (c_change_ok l g (hB := hB) (z := (zRq z 5 a 0 0)) (hIv := zRq_iv hIv 5 a 0 0) (hk10 := (by show (5 : Nat) < 10; decide)) (h1 := (by show (a : Nat) < 2 ^ 31; omega)) (h2 := (by show (0 : Nat) < 2 ^ 31; omega)) (h3 := (by show (0 : Nat) < 2 ^ 31; omega)) (h9 := (fun q => absurd (show (5 : Nat) = 9 from q) (by decide))) (h0 := h0)) hB ci_X11_change cv_X11_change k334 ⟨rfl, rfl, by rw [hR]; exact Nat.le_of_ble_eq_true rfl, by rw [hR]; exact Nat.le_of_ble_eq_true rfl⟩ hP1 (hRo.recv hZ.1 0 (by decide) rfl rfl rfl) hl.1 rfl (Nat.le_of_ble_eq_true rfl) dX11_ravel_14 ⟨by rw [hR]; exact Nat.le_of_ble_eq_true rfl, by rw [hR]; exact Nat.le_of_ble_eq_true rfl⟩ rfl (fun H1 locs1 hPn hCn hSn => ?_)
  exact z_wi hQ S hr hlk (zn_int _) hSn (hC.tr hCn) ⟨rfl, hPn⟩ dX11_ravel_17
set_option maxRecDepth 20000 in
set_option maxHeartbeats 4000000 in
/-- ravel, not allowed -/
theorem c_ravel_no (l : Launch) (hl0 : l.stackTraces = false) (g : ZG) {B : Nat} {o : Nat} (hB : B ≤ o) (z : zSt) (hIv : zIv z) (a : Nat) (ha : a < 2 ^ 31) (h0 : (zVd (z 0) 5 a 0 0).1 ≠ 0) : vx_Met l yX11_ravel (.code yX11_ravel cX11_ravel 2 (some .int) :: GW) { frames := 8, cells := 1, slots := 6, locals := 126 } (va_Pc [.ref o, .int (nI a)] (zPre g B (fun H => zSO g o z H))) (fun _ _ _ _ => False) (zXT (fun E H => E = zXn (zVd (z 0) 5 a 0 0) ∧ zSO g o (zNo (zRq z 5 a 0 0) (zVd (z 0) 5 a 0 0)) H) o 152) 1 6 (zA B) := by
  refine zMetX (by decide) (Nat.le_of_ble_eq_true rfl) ?_
  intro p e R s m args below meth c Q ls hR hargs hQ S hr hlk hex hP hZ hS hl
  have hl : lv_has ls 2 [(0, .ref (o)), (1, .int (nI (a)))] := hl
  subst hQ
  obtain ⟨hRo, hL, hF, hN, hHi, hJ, hQ0, hSc, hLn⟩ := hP
  have hC : zCh1 o 152 s.heap s.heap := zCh1.rf
  refine lv_aload_n S.1 S.2.1 dX11_ravel_0 rfl (lv_at hl 0 rfl) ?_
  refine lv_aload_n S.1 S.2.1 dX11_ravel_1 rfl (lv_at hl 0 rfl) ?_
  refine z_get (v := .ref (o + 136)) S hZ.1 hRo 0 (by decide) rfl rfl rfl 6 (by decide) rfl k251 dX11_ravel_2 ?_
  refine va_gets (A := zA B) S.1 S.2.1 (hZ.en.1 5 (by decide)).1 hS S.2.2.2.1 (S.2.2.2.2 _ k913) (fun _ h => h) dX11_ravel_5 ?_
  refine lv_iload_n S.1 S.2.1 dX11_ravel_8 rfl (lv_at hl 1 rfl) ?_
  refine z_ic S (k := 0) dX11_ravel_9 (by decide) ?_
  refine z_ic S (k := 0) dX11_ravel_10 (by decide) ?_
  refine z_w1 (v0 := some (.ref (o + 136))) (rest := [.ref (o)]) (As := [.ref (g.2 1 5), .int (nI (a)), .int (nI (0)), .int (nI (0))]) S hZ hS (c_X2_become l g (by omega) (z 14 0) 5 a 0 0) (by omega) ci_X2_become cv_X2_become k330 ⟨rfl, rfl, by rw [hR]; exact Nat.le_of_ble_eq_true rfl, by rw [hR]; exact Nat.le_of_ble_eq_true rfl⟩ hQ0 (hQ0.recv hZ.1 0 (by decide) rfl rfl rfl) hl.1 rfl (Nat.le_of_ble_eq_true rfl) dX11_ravel_11 ⟨by rw [hR]; exact Nat.le_of_ble_eq_true rfl, by rw [hR]; exact Nat.le_of_ble_eq_true rfl⟩ rfl (fun H1 locs1 hPn hCn hSn => ?_)
  have hS := hSn
  have hRo := hRo.kept hCn (by omega)
  have hL := hL.kept hCn (by omega)
  have hF := hF.kept hCn (by omega)
  have hN := hN.kept hCn (by omega)
  have hHi := hHi.kept hCn (by omega)
  have hJ := hJ.kept hCn (by omega)
  have hQ0 := hPn
  have hSc := hSc.kept hCn (by omega)
  have hLn := hLn.kept hCn (by omega)
  have hC := hC.tr (hCn.mono (b := o) (k := 152) (by omega) (by omega))
  have hP1 : zSO g o (zRq z 5 a 0 0) H1 := ⟨hRo, hL, hF, hN, hHi.cgk (zRq_k z 5 a 0 0), hJ, hQ0, hSc, hLn⟩
  refine z_xV (rest := []) (As := [.ref (o + 136)]) S hZ hS (c_change_no l hl0 g (hB := hB) (z := (zRq z 5 a 0 0)) (hIv := zRq_iv hIv 5 a 0 0) (hk10 := (by show (5 : Nat) < 10; decide)) (h1 := (by show (a : Nat) < 2 ^ 31; omega)) (h2 := (by show (0 : Nat) < 2 ^ 31; omega)) (h3 := (by show (0 : Nat) < 2 ^ 31; omega)) (h9 := (fun q => absurd (show (5 : Nat) = 9 from q) (by decide))) (h0 := h0)) hB ci_X11_change cv_X11_change k334 ⟨rfl, rfl, by rw [hR]; exact Nat.le_of_ble_eq_true rfl, by rw [hR]; exact Nat.le_of_ble_eq_true rfl⟩ hP1 (hRo.recv hZ.1 0 (by decide) rfl rfl rfl) hl.1 rfl (Nat.le_of_ble_eq_true rfl) dX11_ravel_14 ⟨by rw [hR]; exact Nat.le_of_ble_eq_true rfl, by rw [hR]; exact Nat.le_of_ble_eq_true rfl⟩ (fun E ce q9 H1 locs1 hPx hCn hSn hce hcv hcl => ?_)
  exact z_xo hex hlk hce hcv hcl hSn (hC.tr hCn) hPx (Nat.le_of_ble_eq_true rfl) (Nat.le_of_ble_eq_true rfl)
theorem ci_X11_repeatLast : zCI yX11_repeatLast cX11_repeatLast 3 (some .int) 2 := ⟨k681, k1, by decide +kernel⟩
theorem cv_X11_repeatLast : Cond.instanceMethod yX11_repeatLast ∈ GW ∧ Cond.selects (yX11_repeatLast).cls yX11_repeatLast yX11_repeatLast ∈ GW := ⟨k679, k680⟩
set_option maxRecDepth 20000 in
set_option maxHeartbeats 4000000 in
/-- repeatLast, allowed -/
theorem c_repeatLast_ok (l : Launch) (g : ZG) {B : Nat} {o : Nat} (hB : B ≤ o) (z : zSt) (hIv : zIv z) (a : Nat) (ha : a < 2 ^ 31) (b : Nat) (hb : b < 2 ^ 31) (h0 : (zVd (z 0) 6 a b 0).1 = 0) : Met l yX11_repeatLast (.code yX11_repeatLast cX11_repeatLast 3 (some .int) :: GW) { frames := 6, cells := 0, slots := 0, locals := 149 } (va_Pc [.ref o, .int (nI a), .int (nI b)] (zPre g B (fun H => zSO g o z H))) (zX (fun w H => w = some (.int (nI (zPf (z 0) 6 a b 0).2)) ∧ zSO g o (zCg (zRq z 6 a b 0) (zPf (z 0) 6 a b 0).1) H) o 152) 0 0 (zA B) := by
  refine zMet (by decide) (Nat.le_of_ble_eq_true rfl) ?_
  intro p e R s m args below meth c Q ls hR hargs hQ S hr hlk hP hZ hS hnm hl
  have hl : lv_has ls 3 [(0, .ref (o)), (1, .int (nI (a))), (2, .int (nI (b)))] := hl
  obtain ⟨hRo, hL, hF, hN, hHi, hJ, hQ0, hSc, hLn⟩ := hP
  have hC : zCh1 o 152 s.heap s.heap := zCh1.rf
  refine lv_aload_n S.1 S.2.1 dX11_repeatLast_0 rfl (lv_at hl 0 rfl) ?_
  refine lv_aload_n S.1 S.2.1 dX11_repeatLast_1 rfl (lv_at hl 0 rfl) ?_
  refine z_get (v := .ref (o + 136)) S hZ.1 hRo 0 (by decide) rfl rfl rfl 6 (by decide) rfl k251 dX11_repeatLast_2 ?_
  refine va_gets (A := zA B) S.1 S.2.1 (hZ.en.1 6 (by decide)).1 hS S.2.2.2.1 (S.2.2.2.2 _ k682) (fun _ h => h) dX11_repeatLast_5 ?_
  refine lv_iload_n S.1 S.2.1 dX11_repeatLast_8 rfl (lv_at hl 1 rfl) ?_
  refine lv_iload_n S.1 S.2.1 dX11_repeatLast_9 rfl (lv_at hl 2 rfl) ?_
  refine z_ic S (k := 0) dX11_repeatLast_10 (by decide) ?_
  refine z_w1 (v0 := some (.ref (o + 136))) (rest := [.ref (o)]) (As := [.ref (g.2 1 6), .int (nI (a)), .int (nI (b)), .int (nI (0))]) S hZ hS (c_X2_become l g (by omega) (z 14 0) 6 a b 0) (by omega) ci_X2_become cv_X2_become k330 ⟨rfl, rfl, by rw [hR]; exact Nat.le_of_ble_eq_true rfl, by rw [hR]; exact Nat.le_of_ble_eq_true rfl⟩ hQ0 (hQ0.recv hZ.1 0 (by decide) rfl rfl rfl) hl.1 rfl (Nat.le_of_ble_eq_true rfl) dX11_repeatLast_11 ⟨by rw [hR]; exact Nat.le_of_ble_eq_true rfl, by rw [hR]; exact Nat.le_of_ble_eq_true rfl⟩ rfl (fun H1 locs1 hPn hCn hSn => ?_)
  have hS := hSn
  have hRo := hRo.kept hCn (by omega)
  have hL := hL.kept hCn (by omega)
  have hF := hF.kept hCn (by omega)
  have hN := hN.kept hCn (by omega)
  have hHi := hHi.kept hCn (by omega)
  have hJ := hJ.kept hCn (by omega)
  have hQ0 := hPn
  have hSc := hSc.kept hCn (by omega)
  have hLn := hLn.kept hCn (by omega)
  have hC := hC.tr (hCn.mono (b := o) (k := 152) (by omega) (by omega))
  have hP1 : zSO g o (zRq z 6 a b 0) H1 := ⟨hRo, hL, hF, hN, hHi.cgk (zRq_k z 6 a b 0), hJ, hQ0, hSc, hLn⟩
  refine z_w1 (v0 := some (.int (nI (zPf (z 0) 6 a b 0).2))) (rest := []) (As := [.ref (o + 136)]) S hZ hS (c_change_ok l g (hB := hB) (z := (zRq z 6 a b 0)) (hIv := zRq_iv hIv 6 a b 0) (hk10 := (by show (6 : Nat) < 10; decide)) (h1 := (by show (a : Nat) < 2 ^ 31; omega)) (h2 := (by show (b : Nat) < 2 ^ 31; omega)) (h3 := (by show (0 : Nat) < 2 ^ 31; omega)) (h9 := (fun q => absurd (show (6 : Nat) = 9 from q) (by decide))) (h0 := h0)) hB ci_X11_change cv_X11_change k334 ⟨rfl, rfl, by rw [hR]; exact Nat.le_of_ble_eq_true rfl, by rw [hR]; exact Nat.le_of_ble_eq_true rfl⟩ hP1 (hRo.recv hZ.1 0 (by decide) rfl rfl rfl) hl.1 rfl (Nat.le_of_ble_eq_true rfl) dX11_repeatLast_14 ⟨by rw [hR]; exact Nat.le_of_ble_eq_true rfl, by rw [hR]; exact Nat.le_of_ble_eq_true rfl⟩ rfl (fun H1 locs1 hPn hCn hSn => ?_)
  exact z_wi hQ S hr hlk (zn_int _) hSn (hC.tr hCn) ⟨rfl, hPn⟩ dX11_repeatLast_17
set_option maxRecDepth 20000 in
set_option maxHeartbeats 4000000 in
/-- repeatLast, not allowed -/
theorem c_repeatLast_no (l : Launch) (hl0 : l.stackTraces = false) (g : ZG) {B : Nat} {o : Nat} (hB : B ≤ o) (z : zSt) (hIv : zIv z) (a : Nat) (ha : a < 2 ^ 31) (b : Nat) (hb : b < 2 ^ 31) (h0 : (zVd (z 0) 6 a b 0).1 ≠ 0) : vx_Met l yX11_repeatLast (.code yX11_repeatLast cX11_repeatLast 3 (some .int) :: GW) { frames := 8, cells := 1, slots := 6, locals := 126 } (va_Pc [.ref o, .int (nI a), .int (nI b)] (zPre g B (fun H => zSO g o z H))) (fun _ _ _ _ => False) (zXT (fun E H => E = zXn (zVd (z 0) 6 a b 0) ∧ zSO g o (zNo (zRq z 6 a b 0) (zVd (z 0) 6 a b 0)) H) o 152) 1 6 (zA B) := by
  refine zMetX (by decide) (Nat.le_of_ble_eq_true rfl) ?_
  intro p e R s m args below meth c Q ls hR hargs hQ S hr hlk hex hP hZ hS hl
  have hl : lv_has ls 3 [(0, .ref (o)), (1, .int (nI (a))), (2, .int (nI (b)))] := hl
  subst hQ
  obtain ⟨hRo, hL, hF, hN, hHi, hJ, hQ0, hSc, hLn⟩ := hP
  have hC : zCh1 o 152 s.heap s.heap := zCh1.rf
  refine lv_aload_n S.1 S.2.1 dX11_repeatLast_0 rfl (lv_at hl 0 rfl) ?_
  refine lv_aload_n S.1 S.2.1 dX11_repeatLast_1 rfl (lv_at hl 0 rfl) ?_
  refine z_get (v := .ref (o + 136)) S hZ.1 hRo 0 (by decide) rfl rfl rfl 6 (by decide) rfl k251 dX11_repeatLast_2 ?_
  refine va_gets (A := zA B) S.1 S.2.1 (hZ.en.1 6 (by decide)).1 hS S.2.2.2.1 (S.2.2.2.2 _ k682) (fun _ h => h) dX11_repeatLast_5 ?_
  refine lv_iload_n S.1 S.2.1 dX11_repeatLast_8 rfl (lv_at hl 1 rfl) ?_
  refine lv_iload_n S.1 S.2.1 dX11_repeatLast_9 rfl (lv_at hl 2 rfl) ?_
  refine z_ic S (k := 0) dX11_repeatLast_10 (by decide) ?_
  refine z_w1 (v0 := some (.ref (o + 136))) (rest := [.ref (o)]) (As := [.ref (g.2 1 6), .int (nI (a)), .int (nI (b)), .int (nI (0))]) S hZ hS (c_X2_become l g (by omega) (z 14 0) 6 a b 0) (by omega) ci_X2_become cv_X2_become k330 ⟨rfl, rfl, by rw [hR]; exact Nat.le_of_ble_eq_true rfl, by rw [hR]; exact Nat.le_of_ble_eq_true rfl⟩ hQ0 (hQ0.recv hZ.1 0 (by decide) rfl rfl rfl) hl.1 rfl (Nat.le_of_ble_eq_true rfl) dX11_repeatLast_11 ⟨by rw [hR]; exact Nat.le_of_ble_eq_true rfl, by rw [hR]; exact Nat.le_of_ble_eq_true rfl⟩ rfl (fun H1 locs1 hPn hCn hSn => ?_)
  have hS := hSn
  have hRo := hRo.kept hCn (by omega)
  have hL := hL.kept hCn (by omega)
  have hF := hF.kept hCn (by omega)
  have hN := hN.kept hCn (by omega)
  have hHi := hHi.kept hCn (by omega)
  have hJ := hJ.kept hCn (by omega)
  have hQ0 := hPn
  have hSc := hSc.kept hCn (by omega)
  have hLn := hLn.kept hCn (by omega)
  have hC := hC.tr (hCn.mono (b := o) (k := 152) (by omega) (by omega))
  have hP1 : zSO g o (zRq z 6 a b 0) H1 := ⟨hRo, hL, hF, hN, hHi.cgk (zRq_k z 6 a b 0), hJ, hQ0, hSc, hLn⟩
  refine z_xV (rest := []) (As := [.ref (o + 136)]) S hZ hS (c_change_no l hl0 g (hB := hB) (z := (zRq z 6 a b 0)) (hIv := zRq_iv hIv 6 a b 0) (hk10 := (by show (6 : Nat) < 10; decide)) (h1 := (by show (a : Nat) < 2 ^ 31; omega)) (h2 := (by show (b : Nat) < 2 ^ 31; omega)) (h3 := (by show (0 : Nat) < 2 ^ 31; omega)) (h9 := (fun q => absurd (show (6 : Nat) = 9 from q) (by decide))) (h0 := h0)) hB ci_X11_change cv_X11_change k334 ⟨rfl, rfl, by rw [hR]; exact Nat.le_of_ble_eq_true rfl, by rw [hR]; exact Nat.le_of_ble_eq_true rfl⟩ hP1 (hRo.recv hZ.1 0 (by decide) rfl rfl rfl) hl.1 rfl (Nat.le_of_ble_eq_true rfl) dX11_repeatLast_14 ⟨by rw [hR]; exact Nat.le_of_ble_eq_true rfl, by rw [hR]; exact Nat.le_of_ble_eq_true rfl⟩ (fun E ce q9 H1 locs1 hPx hCn hSn hce hcv hcl => ?_)
  exact z_xo hex hlk hce hcv hcl hSn (hC.tr hCn) hPx (Nat.le_of_ble_eq_true rfl) (Nat.le_of_ble_eq_true rfl)
theorem ci_X11_knot : zCI yX11_knot cX11_knot 3 (some .int) 2 := ⟨k690, k1, by decide +kernel⟩
theorem cv_X11_knot : Cond.instanceMethod yX11_knot ∈ GW ∧ Cond.selects (yX11_knot).cls yX11_knot yX11_knot ∈ GW := ⟨k688, k689⟩
set_option maxRecDepth 20000 in
set_option maxHeartbeats 4000000 in
/-- knot, allowed -/
theorem c_knot_ok (l : Launch) (g : ZG) {B : Nat} {o : Nat} (hB : B ≤ o) (z : zSt) (hIv : zIv z) (a : Nat) (ha : a < 2 ^ 31) (b : Nat) (hb : b < 2 ^ 31) (h0 : (zVd (z 0) 7 a b 0).1 = 0) : Met l yX11_knot (.code yX11_knot cX11_knot 3 (some .int) :: GW) { frames := 6, cells := 0, slots := 0, locals := 149 } (va_Pc [.ref o, .int (nI a), .int (nI b)] (zPre g B (fun H => zSO g o z H))) (zX (fun w H => w = some (.int (nI (zPf (z 0) 7 a b 0).2)) ∧ zSO g o (zCg (zRq z 7 a b 0) (zPf (z 0) 7 a b 0).1) H) o 152) 0 0 (zA B) := by
  refine zMet (by decide) (Nat.le_of_ble_eq_true rfl) ?_
  intro p e R s m args below meth c Q ls hR hargs hQ S hr hlk hP hZ hS hnm hl
  have hl : lv_has ls 3 [(0, .ref (o)), (1, .int (nI (a))), (2, .int (nI (b)))] := hl
  obtain ⟨hRo, hL, hF, hN, hHi, hJ, hQ0, hSc, hLn⟩ := hP
  have hC : zCh1 o 152 s.heap s.heap := zCh1.rf
  refine lv_aload_n S.1 S.2.1 dX11_knot_0 rfl (lv_at hl 0 rfl) ?_
  refine lv_aload_n S.1 S.2.1 dX11_knot_1 rfl (lv_at hl 0 rfl) ?_
  refine z_get (v := .ref (o + 136)) S hZ.1 hRo 0 (by decide) rfl rfl rfl 6 (by decide) rfl k251 dX11_knot_2 ?_
  refine va_gets (A := zA B) S.1 S.2.1 (hZ.en.1 7 (by decide)).1 hS S.2.2.2.1 (S.2.2.2.2 _ k691) (fun _ h => h) dX11_knot_5 ?_
  refine lv_iload_n S.1 S.2.1 dX11_knot_8 rfl (lv_at hl 1 rfl) ?_
  refine lv_iload_n S.1 S.2.1 dX11_knot_9 rfl (lv_at hl 2 rfl) ?_
  refine z_ic S (k := 0) dX11_knot_10 (by decide) ?_
  refine z_w1 (v0 := some (.ref (o + 136))) (rest := [.ref (o)]) (As := [.ref (g.2 1 7), .int (nI (a)), .int (nI (b)), .int (nI (0))]) S hZ hS (c_X2_become l g (by omega) (z 14 0) 7 a b 0) (by omega) ci_X2_become cv_X2_become k330 ⟨rfl, rfl, by rw [hR]; exact Nat.le_of_ble_eq_true rfl, by rw [hR]; exact Nat.le_of_ble_eq_true rfl⟩ hQ0 (hQ0.recv hZ.1 0 (by decide) rfl rfl rfl) hl.1 rfl (Nat.le_of_ble_eq_true rfl) dX11_knot_11 ⟨by rw [hR]; exact Nat.le_of_ble_eq_true rfl, by rw [hR]; exact Nat.le_of_ble_eq_true rfl⟩ rfl (fun H1 locs1 hPn hCn hSn => ?_)
  have hS := hSn
  have hRo := hRo.kept hCn (by omega)
  have hL := hL.kept hCn (by omega)
  have hF := hF.kept hCn (by omega)
  have hN := hN.kept hCn (by omega)
  have hHi := hHi.kept hCn (by omega)
  have hJ := hJ.kept hCn (by omega)
  have hQ0 := hPn
  have hSc := hSc.kept hCn (by omega)
  have hLn := hLn.kept hCn (by omega)
  have hC := hC.tr (hCn.mono (b := o) (k := 152) (by omega) (by omega))
  have hP1 : zSO g o (zRq z 7 a b 0) H1 := ⟨hRo, hL, hF, hN, hHi.cgk (zRq_k z 7 a b 0), hJ, hQ0, hSc, hLn⟩
  refine z_w1 (v0 := some (.int (nI (zPf (z 0) 7 a b 0).2))) (rest := []) (As := [.ref (o + 136)]) S hZ hS (c_change_ok l g (hB := hB) (z := (zRq z 7 a b 0)) (hIv := zRq_iv hIv 7 a b 0) (hk10 := (by show (7 : Nat) < 10; decide)) (h1 := (by show (a : Nat) < 2 ^ 31; omega)) (h2 := (by show (b : Nat) < 2 ^ 31; omega)) (h3 := (by show (0 : Nat) < 2 ^ 31; omega)) (h9 := (fun q => absurd (show (7 : Nat) = 9 from q) (by decide))) (h0 := h0)) hB ci_X11_change cv_X11_change k334 ⟨rfl, rfl, by rw [hR]; exact Nat.le_of_ble_eq_true rfl, by rw [hR]; exact Nat.le_of_ble_eq_true rfl⟩ hP1 (hRo.recv hZ.1 0 (by decide) rfl rfl rfl) hl.1 rfl (Nat.le_of_ble_eq_true rfl) dX11_knot_14 ⟨by rw [hR]; exact Nat.le_of_ble_eq_true rfl, by rw [hR]; exact Nat.le_of_ble_eq_true rfl⟩ rfl (fun H1 locs1 hPn hCn hSn => ?_)
  exact z_wi hQ S hr hlk (zn_int _) hSn (hC.tr hCn) ⟨rfl, hPn⟩ dX11_knot_17
set_option maxRecDepth 20000 in
set_option maxHeartbeats 4000000 in
/-- knot, not allowed -/
theorem c_knot_no (l : Launch) (hl0 : l.stackTraces = false) (g : ZG) {B : Nat} {o : Nat} (hB : B ≤ o) (z : zSt) (hIv : zIv z) (a : Nat) (ha : a < 2 ^ 31) (b : Nat) (hb : b < 2 ^ 31) (h0 : (zVd (z 0) 7 a b 0).1 ≠ 0) : vx_Met l yX11_knot (.code yX11_knot cX11_knot 3 (some .int) :: GW) { frames := 8, cells := 1, slots := 6, locals := 126 } (va_Pc [.ref o, .int (nI a), .int (nI b)] (zPre g B (fun H => zSO g o z H))) (fun _ _ _ _ => False) (zXT (fun E H => E = zXn (zVd (z 0) 7 a b 0) ∧ zSO g o (zNo (zRq z 7 a b 0) (zVd (z 0) 7 a b 0)) H) o 152) 1 6 (zA B) := by
  refine zMetX (by decide) (Nat.le_of_ble_eq_true rfl) ?_
  intro p e R s m args below meth c Q ls hR hargs hQ S hr hlk hex hP hZ hS hl
  have hl : lv_has ls 3 [(0, .ref (o)), (1, .int (nI (a))), (2, .int (nI (b)))] := hl
  subst hQ
  obtain ⟨hRo, hL, hF, hN, hHi, hJ, hQ0, hSc, hLn⟩ := hP
  have hC : zCh1 o 152 s.heap s.heap := zCh1.rf
  refine lv_aload_n S.1 S.2.1 dX11_knot_0 rfl (lv_at hl 0 rfl) ?_
  refine lv_aload_n S.1 S.2.1 dX11_knot_1 rfl (lv_at hl 0 rfl) ?_
  refine z_get (v := .ref (o + 136)) S hZ.1 hRo 0 (by decide) rfl rfl rfl 6 (by decide) rfl k251 dX11_knot_2 ?_
  refine va_gets (A := zA B) S.1 S.2.1 (hZ.en.1 7 (by decide)).1 hS S.2.2.2.1 (S.2.2.2.2 _ k691) (fun _ h => h) dX11_knot_5 ?_
  refine lv_iload_n S.1 S.2.1 dX11_knot_8 rfl (lv_at hl 1 rfl) ?_
  refine lv_iload_n S.1 S.2.1 dX11_knot_9 rfl (lv_at hl 2 rfl) ?_
  refine z_ic S (k := 0) dX11_knot_10 (by decide) ?_
  refine z_w1 (v0 := some (.ref (o + 136))) (rest := [.ref (o)]) (As := [.ref (g.2 1 7), .int (nI (a)), .int (nI (b)), .int (nI (0))]) S hZ hS (c_X2_become l g (by omega) (z 14 0) 7 a b 0) (by omega) ci_X2_become cv_X2_become k330 ⟨rfl, rfl, by rw [hR]; exact Nat.le_of_ble_eq_true rfl, by rw [hR]; exact Nat.le_of_ble_eq_true rfl⟩ hQ0 (hQ0.recv hZ.1 0 (by decide) rfl rfl rfl) hl.1 rfl (Nat.le_of_ble_eq_true rfl) dX11_knot_11 ⟨by rw [hR]; exact Nat.le_of_ble_eq_true rfl, by rw [hR]; exact Nat.le_of_ble_eq_true rfl⟩ rfl (fun H1 locs1 hPn hCn hSn => ?_)
  have hS := hSn
  have hRo := hRo.kept hCn (by omega)
  have hL := hL.kept hCn (by omega)
  have hF := hF.kept hCn (by omega)
  have hN := hN.kept hCn (by omega)
  have hHi := hHi.kept hCn (by omega)
  have hJ := hJ.kept hCn (by omega)
  have hQ0 := hPn
  have hSc := hSc.kept hCn (by omega)
  have hLn := hLn.kept hCn (by omega)
  have hC := hC.tr (hCn.mono (b := o) (k := 152) (by omega) (by omega))
  have hP1 : zSO g o (zRq z 7 a b 0) H1 := ⟨hRo, hL, hF, hN, hHi.cgk (zRq_k z 7 a b 0), hJ, hQ0, hSc, hLn⟩
  refine z_xV (rest := []) (As := [.ref (o + 136)]) S hZ hS (c_change_no l hl0 g (hB := hB) (z := (zRq z 7 a b 0)) (hIv := zRq_iv hIv 7 a b 0) (hk10 := (by show (7 : Nat) < 10; decide)) (h1 := (by show (a : Nat) < 2 ^ 31; omega)) (h2 := (by show (b : Nat) < 2 ^ 31; omega)) (h3 := (by show (0 : Nat) < 2 ^ 31; omega)) (h9 := (fun q => absurd (show (7 : Nat) = 9 from q) (by decide))) (h0 := h0)) hB ci_X11_change cv_X11_change k334 ⟨rfl, rfl, by rw [hR]; exact Nat.le_of_ble_eq_true rfl, by rw [hR]; exact Nat.le_of_ble_eq_true rfl⟩ hP1 (hRo.recv hZ.1 0 (by decide) rfl rfl rfl) hl.1 rfl (Nat.le_of_ble_eq_true rfl) dX11_knot_14 ⟨by rw [hR]; exact Nat.le_of_ble_eq_true rfl, by rw [hR]; exact Nat.le_of_ble_eq_true rfl⟩ (fun E ce q9 H1 locs1 hPx hCn hSn hce hcv hcl => ?_)
  exact z_xo hex hlk hce hcv hcl hSn (hC.tr hCn) hPx (Nat.le_of_ble_eq_true rfl) (Nat.le_of_ble_eq_true rfl)
theorem ci_X11_untie : zCI yX11_untie cX11_untie 3 (some .int) 2 := ⟨k921, k1, by decide +kernel⟩
theorem cv_X11_untie : Cond.instanceMethod yX11_untie ∈ GW ∧ Cond.selects (yX11_untie).cls yX11_untie yX11_untie ∈ GW := ⟨k919, k920⟩
set_option maxRecDepth 20000 in
set_option maxHeartbeats 4000000 in
/-- untie, allowed -/
theorem c_untie_ok (l : Launch) (g : ZG) {B : Nat} {o : Nat} (hB : B ≤ o) (z : zSt) (hIv : zIv z) (a : Nat) (ha : a < 2 ^ 31) (b : Nat) (hb : b < 2 ^ 31) (h0 : (zVd (z 0) 8 a b 0).1 = 0) : Met l yX11_untie (.code yX11_untie cX11_untie 3 (some .int) :: GW) { frames := 6, cells := 0, slots := 0, locals := 149 } (va_Pc [.ref o, .int (nI a), .int (nI b)] (zPre g B (fun H => zSO g o z H))) (zX (fun w H => w = some (.int (nI (zPf (z 0) 8 a b 0).2)) ∧ zSO g o (zCg (zRq z 8 a b 0) (zPf (z 0) 8 a b 0).1) H) o 152) 0 0 (zA B) := by
  refine zMet (by decide) (Nat.le_of_ble_eq_true rfl) ?_
  intro p e R s m args below meth c Q ls hR hargs hQ S hr hlk hP hZ hS hnm hl
  have hl : lv_has ls 3 [(0, .ref (o)), (1, .int (nI (a))), (2, .int (nI (b)))] := hl
  obtain ⟨hRo, hL, hF, hN, hHi, hJ, hQ0, hSc, hLn⟩ := hP
  have hC : zCh1 o 152 s.heap s.heap := zCh1.rf
  refine lv_aload_n S.1 S.2.1 dX11_untie_0 rfl (lv_at hl 0 rfl) ?_
  refine lv_aload_n S.1 S.2.1 dX11_untie_1 rfl (lv_at hl 0 rfl) ?_
  refine z_get (v := .ref (o + 136)) S hZ.1 hRo 0 (by decide) rfl rfl rfl 6 (by decide) rfl k251 dX11_untie_2 ?_
  refine va_gets (A := zA B) S.1 S.2.1 (hZ.en.1 8 (by decide)).1 hS S.2.2.2.1 (S.2.2.2.2 _ k922) (fun _ h => h) dX11_untie_5 ?_
  refine lv_iload_n S.1 S.2.1 dX11_untie_8 rfl (lv_at hl 1 rfl) ?_
  refine lv_iload_n S.1 S.2.1 dX11_untie_9 rfl (lv_at hl 2 rfl) ?_
  refine z_ic S (k := 0) dX11_untie_10 (by decide) ?_
  refine z_w1 (v0 := some (.ref (o + 136))) (rest := [.ref (o)]) (As := [.ref (g.2 1 8), .int (nI (a)), .int (nI (b)), .int (nI (0))]) S hZ hS (c_X2_become l g (by omega) (z 14 0) 8 a b 0) (by omega) ci_X2_become cv_X2_become k330 ⟨rfl, rfl, by rw [hR]; exact Nat.le_of_ble_eq_true rfl, by rw [hR]; exact Nat.le_of_ble_eq_true rfl⟩ hQ0 (hQ0.recv hZ.1 0 (by decide) rfl rfl rfl) hl.1 rfl (Nat.le_of_ble_eq_true rfl) dX11_untie_11 ⟨by rw [hR]; exact Nat.le_of_ble_eq_true rfl, by rw [hR]; exact Nat.le_of_ble_eq_true rfl⟩ rfl (fun H1 locs1 hPn hCn hSn => ?_)
  have hS := hSn
  have hRo := hRo.kept hCn (by omega)
  have hL := hL.kept hCn (by omega)
  have hF := hF.kept hCn (by omega)
  have hN := hN.kept hCn (by omega)
  have hHi := hHi.kept hCn (by omega)
  have hJ := hJ.kept hCn (by omega)
  have hQ0 := hPn
  have hSc := hSc.kept hCn (by omega)
  have hLn := hLn.kept hCn (by omega)
  have hC := hC.tr (hCn.mono (b := o) (k := 152) (by omega) (by omega))
  have hP1 : zSO g o (zRq z 8 a b 0) H1 := ⟨hRo, hL, hF, hN, hHi.cgk (zRq_k z 8 a b 0), hJ, hQ0, hSc, hLn⟩
  refine z_w1 (v0 := some (.int (nI (zPf (z 0) 8 a b 0).2))) (rest := []) (As := [.ref (o + 136)]) S hZ hS (c_change_ok l g (hB := hB) (z := (zRq z 8 a b 0)) (hIv := zRq_iv hIv 8 a b 0) (hk10 := (by show (8 : Nat) < 10; decide)) (h1 := (by show (a : Nat) < 2 ^ 31; omega)) (h2 := (by show (b : Nat) < 2 ^ 31; omega)) (h3 := (by show (0 : Nat) < 2 ^ 31; omega)) (h9 := (fun q => absurd (show (8 : Nat) = 9 from q) (by decide))) (h0 := h0)) hB ci_X11_change cv_X11_change k334 ⟨rfl, rfl, by rw [hR]; exact Nat.le_of_ble_eq_true rfl, by rw [hR]; exact Nat.le_of_ble_eq_true rfl⟩ hP1 (hRo.recv hZ.1 0 (by decide) rfl rfl rfl) hl.1 rfl (Nat.le_of_ble_eq_true rfl) dX11_untie_14 ⟨by rw [hR]; exact Nat.le_of_ble_eq_true rfl, by rw [hR]; exact Nat.le_of_ble_eq_true rfl⟩ rfl (fun H1 locs1 hPn hCn hSn => ?_)
  exact z_wi hQ S hr hlk (zn_int _) hSn (hC.tr hCn) ⟨rfl, hPn⟩ dX11_untie_17
set_option maxRecDepth 20000 in
set_option maxHeartbeats 4000000 in
/-- untie, not allowed -/
theorem c_untie_no (l : Launch) (hl0 : l.stackTraces = false) (g : ZG) {B : Nat} {o : Nat} (hB : B ≤ o) (z : zSt) (hIv : zIv z) (a : Nat) (ha : a < 2 ^ 31) (b : Nat) (hb : b < 2 ^ 31) (h0 : (zVd (z 0) 8 a b 0).1 ≠ 0) : vx_Met l yX11_untie (.code yX11_untie cX11_untie 3 (some .int) :: GW) { frames := 8, cells := 1, slots := 6, locals := 126 } (va_Pc [.ref o, .int (nI a), .int (nI b)] (zPre g B (fun H => zSO g o z H))) (fun _ _ _ _ => False) (zXT (fun E H => E = zXn (zVd (z 0) 8 a b 0) ∧ zSO g o (zNo (zRq z 8 a b 0) (zVd (z 0) 8 a b 0)) H) o 152) 1 6 (zA B) := by
  refine zMetX (by decide) (Nat.le_of_ble_eq_true rfl) ?_
  intro p e R s m args below meth c Q ls hR hargs hQ S hr hlk hex hP hZ hS hl
  have hl : lv_has ls 3 [(0, .ref (o)), (1, .int (nI (a))), (2, .int (nI (b)))] := hl
  subst hQ
  obtain ⟨hRo, hL, hF, hN, hHi, hJ, hQ0, hSc, hLn⟩ := hP
  have hC : zCh1 o 152 s.heap s.heap := zCh1.rf
  refine lv_aload_n S.1 S.2.1 dX11_untie_0 rfl (lv_at hl 0 rfl) ?_
  refine lv_aload_n S.1 S.2.1 dX11_untie_1 rfl (lv_at hl 0 rfl) ?_
  refine z_get (v := .ref (o + 136)) S hZ.1 hRo 0 (by decide) rfl rfl rfl 6 (by decide) rfl k251 dX11_untie_2 ?_
  refine va_gets (A := zA B) S.1 S.2.1 (hZ.en.1 8 (by decide)).1 hS S.2.2.2.1 (S.2.2.2.2 _ k922) (fun _ h => h) dX11_untie_5 ?_
  refine lv_iload_n S.1 S.2.1 dX11_untie_8 rfl (lv_at hl 1 rfl) ?_
  refine lv_iload_n S.1 S.2.1 dX11_untie_9 rfl (lv_at hl 2 rfl) ?_
  refine z_ic S (k := 0) dX11_untie_10 (by decide) ?_
  refine z_w1 (v0 := some (.ref (o + 136))) (rest := [.ref (o)]) (As := [.ref (g.2 1 8), .int (nI (a)), .int (nI (b)), .int (nI (0))]) S hZ hS (c_X2_become l g (by omega) (z 14 0) 8 a b 0) (by omega) ci_X2_become cv_X2_become k330 ⟨rfl, rfl, by rw [hR]; exact Nat.le_of_ble_eq_true rfl, by rw [hR]; exact Nat.le_of_ble_eq_true rfl⟩ hQ0 (hQ0.recv hZ.1 0 (by decide) rfl rfl rfl) hl.1 rfl (Nat.le_of_ble_eq_true rfl) dX11_untie_11 ⟨by rw [hR]; exact Nat.le_of_ble_eq_true rfl, by rw [hR]; exact Nat.le_of_ble_eq_true rfl⟩ rfl (fun H1 locs1 hPn hCn hSn => ?_)
  have hS := hSn
  have hRo := hRo.kept hCn (by omega)
  have hL := hL.kept hCn (by omega)
  have hF := hF.kept hCn (by omega)
  have hN := hN.kept hCn (by omega)
  have hHi := hHi.kept hCn (by omega)
  have hJ := hJ.kept hCn (by omega)
  have hQ0 := hPn
  have hSc := hSc.kept hCn (by omega)
  have hLn := hLn.kept hCn (by omega)
  have hC := hC.tr (hCn.mono (b := o) (k := 152) (by omega) (by omega))
  have hP1 : zSO g o (zRq z 8 a b 0) H1 := ⟨hRo, hL, hF, hN, hHi.cgk (zRq_k z 8 a b 0), hJ, hQ0, hSc, hLn⟩
  refine z_xV (rest := []) (As := [.ref (o + 136)]) S hZ hS (c_change_no l hl0 g (hB := hB) (z := (zRq z 8 a b 0)) (hIv := zRq_iv hIv 8 a b 0) (hk10 := (by show (8 : Nat) < 10; decide)) (h1 := (by show (a : Nat) < 2 ^ 31; omega)) (h2 := (by show (b : Nat) < 2 ^ 31; omega)) (h3 := (by show (0 : Nat) < 2 ^ 31; omega)) (h9 := (fun q => absurd (show (8 : Nat) = 9 from q) (by decide))) (h0 := h0)) hB ci_X11_change cv_X11_change k334 ⟨rfl, rfl, by rw [hR]; exact Nat.le_of_ble_eq_true rfl, by rw [hR]; exact Nat.le_of_ble_eq_true rfl⟩ hP1 (hRo.recv hZ.1 0 (by decide) rfl rfl rfl) hl.1 rfl (Nat.le_of_ble_eq_true rfl) dX11_untie_14 ⟨by rw [hR]; exact Nat.le_of_ble_eq_true rfl, by rw [hR]; exact Nat.le_of_ble_eq_true rfl⟩ (fun E ce q9 H1 locs1 hPx hCn hSn hce hcv hcl => ?_)
  exact z_xo hex hlk hce hcv hcl hSn (hC.tr hCn) hPx (Nat.le_of_ble_eq_true rfl) (Nat.le_of_ble_eq_true rfl)
theorem ci_X11_mend : zCI yX11_mend cX11_mend 2 (some .int) 1 := ⟨k931, k1, by decide +kernel⟩
theorem cv_X11_mend : Cond.instanceMethod yX11_mend ∈ GW ∧ Cond.selects (yX11_mend).cls yX11_mend yX11_mend ∈ GW := ⟨k929, k930⟩
set_option maxRecDepth 20000 in
set_option maxHeartbeats 4000000 in
/-- mend, allowed -/
theorem c_mend_ok (l : Launch) (g : ZG) {B : Nat} {o : Nat} (hB : B ≤ o) (z : zSt) (hIv : zIv z) (a : Nat) (ha : a < 65536) (h0 : (zVd (z 0) 9 a 0 0).1 = 0) : Met l yX11_mend (.code yX11_mend cX11_mend 2 (some .int) :: GW) { frames := 6, cells := 0, slots := 0, locals := 149 } (va_Pc [.ref o, .int (nI a)] (zPre g B (fun H => zSO g o z H))) (zX (fun w H => w = some (.int (nI (zPf (z 0) 9 a 0 0).2)) ∧ zSO g o (zCg (zRq z 9 a 0 0) (zPf (z 0) 9 a 0 0).1) H) o 152) 0 0 (zA B) := by
  refine zMet (by decide) (Nat.le_of_ble_eq_true rfl) ?_
  intro p e R s m args below meth c Q ls hR hargs hQ S hr hlk hP hZ hS hnm hl
  have hl : lv_has ls 2 [(0, .ref (o)), (1, .int (nI (a)))] := hl
  obtain ⟨hRo, hL, hF, hN, hHi, hJ, hQ0, hSc, hLn⟩ := hP
  have hC : zCh1 o 152 s.heap s.heap := zCh1.rf
  refine lv_aload_n S.1 S.2.1 dX11_mend_0 rfl (lv_at hl 0 rfl) ?_
  refine lv_aload_n S.1 S.2.1 dX11_mend_1 rfl (lv_at hl 0 rfl) ?_
  refine z_get (v := .ref (o + 136)) S hZ.1 hRo 0 (by decide) rfl rfl rfl 6 (by decide) rfl k251 dX11_mend_2 ?_
  refine va_gets (A := zA B) S.1 S.2.1 (hZ.en.1 9 (by decide)).1 hS S.2.2.2.1 (S.2.2.2.2 _ k932) (fun _ h => h) dX11_mend_5 ?_
  refine lv_iload_n S.1 S.2.1 dX11_mend_8 rfl (lv_at hl 1 rfl) ?_
  refine z_ic S (k := 0) dX11_mend_9 (by decide) ?_
  refine z_ic S (k := 0) dX11_mend_10 (by decide) ?_
  refine z_w1 (v0 := some (.ref (o + 136))) (rest := [.ref (o)]) (As := [.ref (g.2 1 9), .int (nI (a)), .int (nI (0)), .int (nI (0))]) S hZ hS (c_X2_become l g (by omega) (z 14 0) 9 a 0 0) (by omega) ci_X2_become cv_X2_become k330 ⟨rfl, rfl, by rw [hR]; exact Nat.le_of_ble_eq_true rfl, by rw [hR]; exact Nat.le_of_ble_eq_true rfl⟩ hQ0 (hQ0.recv hZ.1 0 (by decide) rfl rfl rfl) hl.1 rfl (Nat.le_of_ble_eq_true rfl) dX11_mend_11 ⟨by rw [hR]; exact Nat.le_of_ble_eq_true rfl, by rw [hR]; exact Nat.le_of_ble_eq_true rfl⟩ rfl (fun H1 locs1 hPn hCn hSn => ?_)
  have hS := hSn
  have hRo := hRo.kept hCn (by omega)
  have hL := hL.kept hCn (by omega)
  have hF := hF.kept hCn (by omega)
  have hN := hN.kept hCn (by omega)
  have hHi := hHi.kept hCn (by omega)
  have hJ := hJ.kept hCn (by omega)
  have hQ0 := hPn
  have hSc := hSc.kept hCn (by omega)
  have hLn := hLn.kept hCn (by omega)
  have hC := hC.tr (hCn.mono (b := o) (k := 152) (by omega) (by omega))
  have hP1 : zSO g o (zRq z 9 a 0 0) H1 := ⟨hRo, hL, hF, hN, hHi.cgk (zRq_k z 9 a 0 0), hJ, hQ0, hSc, hLn⟩
  refine z_w1 (v0 := some (.int (nI (zPf (z 0) 9 a 0 0).2))) (rest := []) (As := [.ref (o + 136)]) S hZ hS (c_change_ok l g (hB := hB) (z := (zRq z 9 a 0 0)) (hIv := zRq_iv hIv 9 a 0 0) (hk10 := (by show (9 : Nat) < 10; decide)) (h1 := (by show (a : Nat) < 2 ^ 31; omega)) (h2 := (by show (0 : Nat) < 2 ^ 31; omega)) (h3 := (by show (0 : Nat) < 2 ^ 31; omega)) (h9 := (fun _ => ha)) (h0 := h0)) hB ci_X11_change cv_X11_change k334 ⟨rfl, rfl, by rw [hR]; exact Nat.le_of_ble_eq_true rfl, by rw [hR]; exact Nat.le_of_ble_eq_true rfl⟩ hP1 (hRo.recv hZ.1 0 (by decide) rfl rfl rfl) hl.1 rfl (Nat.le_of_ble_eq_true rfl) dX11_mend_14 ⟨by rw [hR]; exact Nat.le_of_ble_eq_true rfl, by rw [hR]; exact Nat.le_of_ble_eq_true rfl⟩ rfl (fun H1 locs1 hPn hCn hSn => ?_)
  exact z_wi hQ S hr hlk (zn_int _) hSn (hC.tr hCn) ⟨rfl, hPn⟩ dX11_mend_17
set_option maxRecDepth 20000 in
set_option maxHeartbeats 4000000 in
/-- mend, not allowed -/
theorem c_mend_no (l : Launch) (hl0 : l.stackTraces = false) (g : ZG) {B : Nat} {o : Nat} (hB : B ≤ o) (z : zSt) (hIv : zIv z) (a : Nat) (ha : a < 65536) (h0 : (zVd (z 0) 9 a 0 0).1 ≠ 0) : vx_Met l yX11_mend (.code yX11_mend cX11_mend 2 (some .int) :: GW) { frames := 8, cells := 1, slots := 6, locals := 126 } (va_Pc [.ref o, .int (nI a)] (zPre g B (fun H => zSO g o z H))) (fun _ _ _ _ => False) (zXT (fun E H => E = zXn (zVd (z 0) 9 a 0 0) ∧ zSO g o (zNo (zRq z 9 a 0 0) (zVd (z 0) 9 a 0 0)) H) o 152) 1 6 (zA B) := by
  refine zMetX (by decide) (Nat.le_of_ble_eq_true rfl) ?_
  intro p e R s m args below meth c Q ls hR hargs hQ S hr hlk hex hP hZ hS hl
  have hl : lv_has ls 2 [(0, .ref (o)), (1, .int (nI (a)))] := hl
  subst hQ
  obtain ⟨hRo, hL, hF, hN, hHi, hJ, hQ0, hSc, hLn⟩ := hP
  have hC : zCh1 o 152 s.heap s.heap := zCh1.rf
  refine lv_aload_n S.1 S.2.1 dX11_mend_0 rfl (lv_at hl 0 rfl) ?_
  refine lv_aload_n S.1 S.2.1 dX11_mend_1 rfl (lv_at hl 0 rfl) ?_
  refine z_get (v := .ref (o + 136)) S hZ.1 hRo 0 (by decide) rfl rfl rfl 6 (by decide) rfl k251 dX11_mend_2 ?_
  refine va_gets (A := zA B) S.1 S.2.1 (hZ.en.1 9 (by decide)).1 hS S.2.2.2.1 (S.2.2.2.2 _ k932) (fun _ h => h) dX11_mend_5 ?_
  refine lv_iload_n S.1 S.2.1 dX11_mend_8 rfl (lv_at hl 1 rfl) ?_
  refine z_ic S (k := 0) dX11_mend_9 (by decide) ?_
  refine z_ic S (k := 0) dX11_mend_10 (by decide) ?_
  refine z_w1 (v0 := some (.ref (o + 136))) (rest := [.ref (o)]) (As := [.ref (g.2 1 9), .int (nI (a)), .int (nI (0)), .int (nI (0))]) S hZ hS (c_X2_become l g (by omega) (z 14 0) 9 a 0 0) (by omega) ci_X2_become cv_X2_become k330 ⟨rfl, rfl, by rw [hR]; exact Nat.le_of_ble_eq_true rfl, by rw [hR]; exact Nat.le_of_ble_eq_true rfl⟩ hQ0 (hQ0.recv hZ.1 0 (by decide) rfl rfl rfl) hl.1 rfl (Nat.le_of_ble_eq_true rfl) dX11_mend_11 ⟨by rw [hR]; exact Nat.le_of_ble_eq_true rfl, by rw [hR]; exact Nat.le_of_ble_eq_true rfl⟩ rfl (fun H1 locs1 hPn hCn hSn => ?_)
  have hS := hSn
  have hRo := hRo.kept hCn (by omega)
  have hL := hL.kept hCn (by omega)
  have hF := hF.kept hCn (by omega)
  have hN := hN.kept hCn (by omega)
  have hHi := hHi.kept hCn (by omega)
  have hJ := hJ.kept hCn (by omega)
  have hQ0 := hPn
  have hSc := hSc.kept hCn (by omega)
  have hLn := hLn.kept hCn (by omega)
  have hC := hC.tr (hCn.mono (b := o) (k := 152) (by omega) (by omega))
  have hP1 : zSO g o (zRq z 9 a 0 0) H1 := ⟨hRo, hL, hF, hN, hHi.cgk (zRq_k z 9 a 0 0), hJ, hQ0, hSc, hLn⟩
  refine z_xV (rest := []) (As := [.ref (o + 136)]) S hZ hS (c_change_no l hl0 g (hB := hB) (z := (zRq z 9 a 0 0)) (hIv := zRq_iv hIv 9 a 0 0) (hk10 := (by show (9 : Nat) < 10; decide)) (h1 := (by show (a : Nat) < 2 ^ 31; omega)) (h2 := (by show (0 : Nat) < 2 ^ 31; omega)) (h3 := (by show (0 : Nat) < 2 ^ 31; omega)) (h9 := (fun _ => ha)) (h0 := h0)) hB ci_X11_change cv_X11_change k334 ⟨rfl, rfl, by rw [hR]; exact Nat.le_of_ble_eq_true rfl, by rw [hR]; exact Nat.le_of_ble_eq_true rfl⟩ hP1 (hRo.recv hZ.1 0 (by decide) rfl rfl rfl) hl.1 rfl (Nat.le_of_ble_eq_true rfl) dX11_mend_14 ⟨by rw [hR]; exact Nat.le_of_ble_eq_true rfl, by rw [hR]; exact Nat.le_of_ble_eq_true rfl⟩ (fun E ce q9 H1 locs1 hPx hCn hSn hce hcv hcl => ?_)
  exact z_xo hex hlk hce hcv hcl hSn (hC.tr hCn) hPx (Nat.le_of_ble_eq_true rfl) (Nat.le_of_ble_eq_true rfl)
