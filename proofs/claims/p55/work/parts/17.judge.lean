/-! THE JUDGE: its verdicts: 0 allowed, 1 to 6 a denial (with its detail), 9 out of range, 10 no such index -/
def dJu : ZD := fun _ _ f => .inr (4, [.int (nI (f 0))])
def TJu : Nat → ZD := fun _ => dJu
/-- the last row with a knot, and one; 0 if there is none -/
def zLk (f : Nat → Nat → Nat) : Nat → Nat
  | 0 => 0
  | n + 1 => if f 3 n = 0 then zLk f n else n + 1
theorem zLk_le (f : Nat → Nat → Nat) : ∀ n, zLk f n ≤ n
  | 0 => Nat.le_refl 0
  | n + 1 => by have h := zLk_le f n; rw [zLk]; split <;> omega
theorem zLk_no {f : Nat → Nat → Nat} : ∀ {n k : Nat}, zLk f n ≤ k → k < n → f 3 k = 0
  | 0, k, _, h => absurd h (Nat.not_lt_zero k)
  | n + 1, k, h1, h2 => by
    rw [zLk] at h1
    by_cases e : f 3 n = 0
    · rw [if_pos e] at h1
      rcases (show k < n ∨ k = n by omega) with z | z
      · exact zLk_no h1 z
      · rw [z]; exact e
    · rw [if_neg e] at h1; omega
theorem zLk_yes {f : Nat → Nat → Nat} : ∀ {n : Nat}, 0 < zLk f n → ¬ f 3 (zLk f n - 1) = 0
  | 0, h => absurd h (Nat.lt_irrefl 0)
  | n + 1, h => by
    rw [zLk] at h ⊢
    by_cases e : f 3 n = 0
    · rw [if_pos e] at h ⊢; exact zLk_yes h
    · rw [if_neg e]; exact e
def zV0 (f : Nat → Nat → Nat) (a b c : Nat) : Nat × Nat := if 7 < a ∨ b < 1 ∨ 65535 < b ∨ 99 < c then (9, 0) else if 8 ≤ f 0 4 then (1, 8) else (0, 0)
def zV1 (f : Nat → Nat → Nat) (a : Nat) : Nat × Nat := if f 0 4 ≤ a then (10, 0) else if f 4 a = 0 then (if f 3 a = 0 then (6, a) else (0, 0)) else (5, 1)
def zV2 (f : Nat → Nat → Nat) (a : Nat) : Nat × Nat := if f 0 4 ≤ a then (10, 0) else if f 4 a = 0 then (5, 0) else (0, 0)
def zV3 (f : Nat → Nat → Nat) (a b : Nat) : Nat × Nat := if f 0 4 ≤ a then (10, 0) else if b < 1 ∨ 50 < b then (9, 0) else if 99 < f 3 a + b then (1, 99) else (0, 0)
def zV4 (v : zL) (a : Nat) : Nat × Nat := if a < 1 ∨ 10 < a then (9, 0) else if zLt v = 0 then (2, v 1 0 4) else if 40 < v 2 0 3 + a then (1, 40) else (0, 0)
def zV5 (f : Nat → Nat → Nat) (a : Nat) : Nat × Nat := if a < 1 ∨ 10 < a then (9, 0) else if f 0 3 < a then (4, f 0 3) else if f 0 3 - a < zLk f (f 0 3) then (3, zLk f (f 0 3) - 1) else (0, 0)
def zV6 (f : Nat → Nat → Nat) (a b : Nat) : Nat × Nat := if a < 1 ∨ 20 < a ∨ b < 1 ∨ 9 < b then (9, 0) else if f 0 3 < a then (4, f 0 3) else if 40 < f 0 3 + a * b then (1, 40) else (0, 0)
def zV7 (f : Nat → Nat → Nat) (a b : Nat) (w : Bool) : Nat × Nat := if a < f 0 3 ∧ b < 16 then (if zBt (f 3 a) b = w then (5, w.toNat) else (0, 0)) else (10, 0)
def zV9 (v : zL) (a : Nat) : Nat × Nat := if a = 108 then (if v 3 0 1 = 0 then (5, 0) else (0, 0)) else if a = 114 then (if v 4 0 1 = 0 then (5, 0) else (0, 0)) else (9, 0)
def zVd (v : zL) (k a b c : Nat) : Nat × Nat := match k with
  | 0 => zV0 (v 1) a b c
  | 1 => zV1 (v 1) a
  | 2 => zV2 (v 1) a
  | 3 => zV3 (v 1) a b
  | 4 => zV4 v a
  | 5 => zV5 (v 2) a
  | 6 => zV6 (v 2) a b
  | 7 => zV7 (v 2) a b true
  | 8 => zV7 (v 2) a b false
  | _ => zV9 v a
/-- the judge's own cell behind a verdict -/
def zJd (f : Nat → Nat → Nat) (d : Nat × Nat) : Nat → Nat → Nat := if d.1 = 0 ∨ 9 ≤ d.1 then f else va_up f 0 (va_up (f 0) 0 d.2)
theorem ci_X5_deny : zCI yX5_deny cX5_deny 3 (some .int) 2 := ⟨k358, k7, by decide +kernel⟩
theorem cv_X5_deny : Cond.instanceMethod yX5_deny ∈ GW ∧ Cond.selects (yX5_deny).cls yX5_deny yX5_deny ∈ GW := ⟨k357, kp2⟩
set_option maxRecDepth 20000 in
set_option maxHeartbeats 4000000 in
/-- Judge.deny(k, q) -/
theorem c_X5_deny (l : Launch) (g : ZG) {B : Nat} {oj : Nat} (hB : B ≤ oj) (fj : Nat → Nat → Nat) (k q : Nat) : Met l yX5_deny (.code yX5_deny cX5_deny 3 (some .int) :: GW) { frames := 0, cells := 0, slots := 0, locals := 0 } (va_Pc [.ref oj, .int (nI k), .int (nI q)] (zPre g B (fun H => zPm g oj 1 TJu fj H))) (zX (fun w H => w = some (.int (nI k)) ∧ zPm g oj 1 TJu (va_up fj 0 (va_up (fj 0) 0 q)) H) oj 1) 0 0 (zA B) := by
  refine zMet (by decide) (Nat.le_of_ble_eq_true rfl) ?_
  intro p e R s m args below meth c Q ls hR hargs hQ S hr hlk hP hZ hS hnm hl
  have hl : lv_has ls 3 [(0, .ref (oj)), (1, .int (nI (k))), (2, .int (nI (q)))] := hl
  have hJ := hP
  have hC : zCh1 oj 1 s.heap s.heap := zCh1.rf
  refine lv_aload_n S.1 S.2.1 dX5_deny_0 rfl (lv_at hl 0 rfl) ?_
  refine lv_iload_n S.1 S.2.1 dX5_deny_1 rfl (lv_at hl 2 rfl) ?_
  refine z_put (v := .int (nI (q))) (ty := .int) S hZ.1 hJ hS hB 0 (by decide) rfl rfl rfl 0 (by decide) (va_up (fj 0) 0 q) rfl k167 rfl (by decide +kernel) rfl rfl (Nat.le_of_ble_eq_true rfl) dX5_deny_2 (fun H1 locs1 hPn hCn hSn => ?_)
  have hS := hSn
  have hJ := hPn
  have hC := hC.tr (hCn.mono (b := oj) (k := 1) (by omega) (by omega))
  refine lv_iload_n S.1 S.2.1 dX5_deny_5 rfl (lv_at hl 1 rfl) ?_
  exact z_wi hQ S hr hlk (zn_int _) hS hC ⟨rfl, hJ⟩ dX5_deny_6
theorem ci_X5_onNewWick : zCI yX5_onNewWick cX5_onNewWick 5 (some .int) 4 := ⟨k353, k7, by decide +kernel⟩
theorem cv_X5_onNewWick : Cond.instanceMethod yX5_onNewWick ∈ GW ∧ Cond.selects (yX5_onNewWick).cls yX5_onNewWick yX5_onNewWick ∈ GW := ⟨k352, kp1⟩
set_option maxRecDepth 20000 in
set_option maxHeartbeats 4000000 in
/-- Judge.onNewWick -/
theorem c_X5_onNewWick (l : Launch) (g : ZG) {B : Nat} {oj : Nat} (hB : B ≤ oj) (fj : Nat → Nat → Nat) {ow : Nat} (f : Nat → Nat → Nat) (hw : zWo f) (a b c9 : Nat) (ha : a < 2 ^ 31) (hb : b < 2 ^ 31) (hc : c9 < 2 ^ 31) : Met l yX5_onNewWick (.code yX5_onNewWick cX5_onNewWick 5 (some .int) :: GW) { frames := 1, cells := 0, slots := 0, locals := 22 } (va_Pc [.ref oj, .ref ow, .int (nI a), .int (nI b), .int (nI c9)] (zPre g B (fun H => zPm g oj 1 TJu fj H ∧ zPm g ow 5 TW f H))) (zX (fun w H => w = some (.int (nI (zV0 f a b c9).1)) ∧ zPm g oj 1 TJu (zJd fj (zV0 f a b c9)) H) oj 1) 0 0 (zA B) := by
  refine zMet (by decide) (Nat.le_of_ble_eq_true rfl) ?_
  intro p e R s m args below meth c Q ls hR hargs hQ S hr hlk hP hZ hS hnm hl
  have hl : lv_has ls 5 [(0, .ref (oj)), (1, .ref (ow)), (2, .int (nI (a))), (3, .int (nI (b))), (4, .int (nI (c9)))] := hl
  have hC : zCh1 oj 1 s.heap s.heap := zCh1.rf
  obtain ⟨hJ, hW⟩ := hP
  refine lv_iload_n S.1 S.2.1 dX5_onNewWick_0 rfl (lv_at hl 2 rfl) ?_
  refine z_ilt (tgt := 33) S ha dX5_onNewWick_1 (by decide) ?_
  refine lv_iload_n S.1 S.2.1 dX5_onNewWick_4 rfl (lv_at hl 2 rfl) ?_
  refine z_bi S (k := 7) dX5_onNewWick_5 (by decide) ?_
  refine z_cgt (tgt := 33) S ha (by omega) dX5_onNewWick_7 (by decide) (fun h2 => ?_) (fun h2 => ?_)
  · refine z_bi S (k := 9) dX5_onNewWick_33 (by decide) ?_
    have e9 : zV0 f a b c9 = (9, 0) := by unfold zV0; rw [if_pos (by omega)]
    exact z_wi hQ S hr hlk (zn_int _) hS hC (by rw [e9]; exact ⟨rfl, hJ⟩) dX5_onNewWick_35
  · refine lv_iload_n S.1 S.2.1 dX5_onNewWick_10 rfl (lv_at hl 3 rfl) ?_
    refine z_ic S (k := 1) dX5_onNewWick_11 (by decide) ?_
    refine z_clt (tgt := 33) S hb (by omega) dX5_onNewWick_12 (by decide) (fun h3 => ?_) (fun h3 => ?_)
    · refine z_bi S (k := 9) dX5_onNewWick_33 (by decide) ?_
      have e9 : zV0 f a b c9 = (9, 0) := by unfold zV0; rw [if_pos (by omega)]
      exact z_wi hQ S hr hlk (zn_int _) hS hC (by rw [e9]; exact ⟨rfl, hJ⟩) dX5_onNewWick_35
    · refine lv_iload_n S.1 S.2.1 dX5_onNewWick_15 rfl (lv_at hl 3 rfl) ?_
      refine lv_ldc S.1 S.2.1 S.2.2.2.1 (S.2.2.2.2 _ k354) dX5_onNewWick_16 ?_
      rw [show (65535 : Int32) = nI 65535 from rfl]
      refine z_cgt (tgt := 33) S hb (by omega) dX5_onNewWick_18 (by decide) (fun h4 => ?_) (fun h4 => ?_)
      · refine z_bi S (k := 9) dX5_onNewWick_33 (by decide) ?_
        have e9 : zV0 f a b c9 = (9, 0) := by unfold zV0; rw [if_pos (by omega)]
        exact z_wi hQ S hr hlk (zn_int _) hS hC (by rw [e9]; exact ⟨rfl, hJ⟩) dX5_onNewWick_35
      · refine lv_iload S.1 S.2.1 dX5_onNewWick_21 (lv_at hl 4 rfl) ?_
        refine z_ilt (tgt := 33) S hc dX5_onNewWick_23 (by decide) ?_
        refine lv_iload S.1 S.2.1 dX5_onNewWick_26 (lv_at hl 4 rfl) ?_
        refine z_bi S (k := 99) dX5_onNewWick_28 (by decide) ?_
        refine z_cle (tgt := 36) S hc (by omega) dX5_onNewWick_30 (by decide) (fun h5 => ?_) (fun h5 => ?_)
        · refine lv_aload_n S.1 S.2.1 dX5_onNewWick_36 rfl (lv_at hl 1 rfl) ?_
          refine z_get (v := .int (nI (f 0 4))) S hZ.1 hW 0 (by decide) rfl rfl rfl 4 (by decide) rfl k60 dX5_onNewWick_37 ?_
          refine z_bi S (k := 8) dX5_onNewWick_40 (by decide) ?_
          refine z_clt (tgt := 55) S hw.c (by omega) dX5_onNewWick_42 (by decide) (fun h6 => ?_) (fun h6 => ?_)
          · refine z_ic S (k := 0) dX5_onNewWick_55 (by decide) ?_
            have e9 : zV0 f a b c9 = (0, 0) := by unfold zV0; rw [if_neg (by omega), if_neg (by omega)]
            exact z_wi hQ S hr hlk (zn_int _) hS hC (by rw [e9]; exact ⟨rfl, hJ⟩) dX5_onNewWick_56
          · refine lv_aload_n S.1 S.2.1 dX5_onNewWick_45 rfl (lv_at hl 0 rfl) ?_
            refine z_ic S (k := 1) dX5_onNewWick_46 (by decide) ?_
            refine z_bi S (k := 8) dX5_onNewWick_47 (by decide) ?_
            refine z_w1 (v0 := some (.int (nI 1))) (rest := []) (As := [.int (nI 1), .int (nI (8))]) S hZ hS (c_X5_deny l g hB fj 1 (8)) hB ci_X5_deny cv_X5_deny k355 ⟨rfl, rfl, by rw [hR]; exact Nat.le_of_ble_eq_true rfl, by rw [hR]; exact Nat.le_of_ble_eq_true rfl⟩ hJ (hJ.recv hZ.1 0 (by decide) rfl rfl rfl) hl.1 rfl (Nat.le_of_ble_eq_true rfl) dX5_onNewWick_49 ⟨by rw [hR]; exact Nat.le_of_ble_eq_true rfl, by rw [hR]; exact Nat.le_of_ble_eq_true rfl⟩ rfl (fun H1 locs1 hPn hCn hSn => ?_)
            have hS := hSn
            have hJ := hPn
            have hC := hC.tr (hCn.mono (b := oj) (k := 1) (by omega) (by omega))
            refine lv_goto (tgt := 56) S.1 S.2.1 dX5_onNewWick_52 (by decide) ?_
            have e9 : zV0 f a b c9 = (1, 8) := by unfold zV0; rw [if_neg (by omega), if_pos (by omega)]
            exact z_wi hQ S hr hlk (zn_int _) hS hC (by rw [e9]; exact ⟨rfl, hJ⟩) dX5_onNewWick_56
        · refine z_bi S (k := 9) dX5_onNewWick_33 (by decide) ?_
          have e9 : zV0 f a b c9 = (9, 0) := by unfold zV0; rw [if_pos (by omega)]
          exact z_wi hQ S hr hlk (zn_int _) hS hC (by rw [e9]; exact ⟨rfl, hJ⟩) dX5_onNewWick_35
theorem ci_X5_onLighting : zCI yX5_onLighting cX5_onLighting 3 (some .int) 2 := ⟨k362, k7, by decide +kernel⟩
theorem cv_X5_onLighting : Cond.instanceMethod yX5_onLighting ∈ GW ∧ Cond.selects (yX5_onLighting).cls yX5_onLighting yX5_onLighting ∈ GW := ⟨k361, kp3⟩
set_option maxRecDepth 20000 in
set_option maxHeartbeats 4000000 in
/-- Judge.onLighting -/
theorem c_X5_onLighting (l : Launch) (g : ZG) {B : Nat} {oj : Nat} (hB : B ≤ oj) (fj : Nat → Nat → Nat) {ow : Nat} (f : Nat → Nat → Nat) (hw : zWo f) (a : Nat) (ha : a < 2 ^ 31) : Met l yX5_onLighting (.code yX5_onLighting cX5_onLighting 3 (some .int) :: GW) { frames := 1, cells := 0, slots := 0, locals := 22 } (va_Pc [.ref oj, .ref ow, .int (nI a)] (zPre g B (fun H => zPm g oj 1 TJu fj H ∧ zPm g ow 5 TW f H))) (zX (fun w H => w = some (.int (nI (zV1 f a).1)) ∧ zPm g oj 1 TJu (zJd fj (zV1 f a)) H) oj 1) 0 0 (zA B) := by
  refine zMet (by decide) (Nat.le_of_ble_eq_true rfl) ?_
  intro p e R s m args below meth c Q ls hR hargs hQ S hr hlk hP hZ hS hnm hl
  have hl : lv_has ls 3 [(0, .ref (oj)), (1, .ref (ow)), (2, .int (nI (a)))] := hl
  have hC : zCh1 oj 1 s.heap s.heap := zCh1.rf
  obtain ⟨hJ, hW⟩ := hP
  refine lv_aload_n S.1 S.2.1 dX5_onLighting_0 rfl (lv_at hl 1 rfl) ?_
  refine lv_iload_n S.1 S.2.1 dX5_onLighting_1 rfl (lv_at hl 2 rfl) ?_
  refine z_cV (v := some (.int (nI (decide (a < f 0 4)).toNat))) (rest := []) (As := [.int (nI (a))]) S hZ hS (c_X10_has l g f hw a ha) ci_X10_has cv_X10_has k363 ⟨rfl, rfl, by rw [hR]; decide, by rw [hR]; decide⟩ hW (hW.recv hZ.1 0 (by decide) rfl rfl rfl) hl.1 rfl (Nat.le_of_ble_eq_true rfl) dX5_onLighting_2 ⟨by rw [hR]; decide, by rw [hR]; decide⟩ rfl ?_
  refine z_bne (tgt := 11) S dX5_onLighting_5 (by decide) (fun h1 => ?_) (fun h1 => ?_)
  · have ha8 : a < f 0 4 := of_decide_eq_true h1
    have ha9 : a < 8 := by have := hw.1; omega
    refine lv_aload_n S.1 S.2.1 dX5_onLighting_11 rfl (lv_at hl 1 rfl) ?_
    refine z_get (v := .ref (ow + 4)) S hZ.1 hW 0 (by decide) rfl rfl rfl 3 (by decide) rfl k57 dX5_onLighting_12 ?_
    refine lv_iload_n S.1 S.2.1 dX5_onLighting_15 rfl (lv_at hl 2 rfl) ?_
    refine z_zald S hZ.1 hW 4 (by decide) rfl rfl (i := a) ha9 (by decide) dX5_onLighting_16 ?_
    refine z_ieq (tgt := 27) S (hw.l a) dX5_onLighting_17 (by decide) (fun h2 => ?_) (fun h2 => ?_)
    · refine lv_aload_n S.1 S.2.1 dX5_onLighting_27 rfl (lv_at hl 1 rfl) ?_
      refine z_get (v := .ref (ow + 3)) S hZ.1 hW 0 (by decide) rfl rfl rfl 2 (by decide) rfl k54 dX5_onLighting_28 ?_
      refine lv_iload_n S.1 S.2.1 dX5_onLighting_31 rfl (lv_at hl 2 rfl) ?_
      refine z_iald S hZ.1 hW 3 (by decide) rfl rfl (i := a) ha9 (by decide) dX5_onLighting_32 ?_
      refine z_ine (tgt := 46) S (hw.x a) dX5_onLighting_33 (by decide) (fun h3 => ?_) (fun h3 => ?_)
      · refine z_ic S (k := 0) dX5_onLighting_46 (by decide) ?_
        have e9 : zV1 f a = (0, 0) := by unfold zV1; rw [if_neg (by omega), if_pos (by omega), if_neg (by omega)]
        exact z_wi hQ S hr hlk (zn_int _) hS hC (by rw [e9]; exact ⟨rfl, hJ⟩) dX5_onLighting_47
      · refine lv_aload_n S.1 S.2.1 dX5_onLighting_36 rfl (lv_at hl 0 rfl) ?_
        refine z_bi S (k := 6) dX5_onLighting_37 (by decide) ?_
        refine lv_iload_n S.1 S.2.1 dX5_onLighting_39 rfl (lv_at hl 2 rfl) ?_
        refine z_w1 (v0 := some (.int (nI 6))) (rest := []) (As := [.int (nI 6), .int (nI (a))]) S hZ hS (c_X5_deny l g hB fj 6 (a)) hB ci_X5_deny cv_X5_deny k355 ⟨rfl, rfl, by rw [hR]; exact Nat.le_of_ble_eq_true rfl, by rw [hR]; exact Nat.le_of_ble_eq_true rfl⟩ hJ (hJ.recv hZ.1 0 (by decide) rfl rfl rfl) hl.1 rfl (Nat.le_of_ble_eq_true rfl) dX5_onLighting_40 ⟨by rw [hR]; exact Nat.le_of_ble_eq_true rfl, by rw [hR]; exact Nat.le_of_ble_eq_true rfl⟩ rfl (fun H1 locs1 hPn hCn hSn => ?_)
        have hS := hSn
        have hJ := hPn
        have hC := hC.tr (hCn.mono (b := oj) (k := 1) (by omega) (by omega))
        refine lv_goto (tgt := 47) S.1 S.2.1 dX5_onLighting_43 (by decide) ?_
        have e9 : zV1 f a = (6, a) := by unfold zV1; rw [if_neg (by omega), if_pos (by omega), if_pos (by omega)]
        exact z_wi hQ S hr hlk (zn_int _) hS hC (by rw [e9]; exact ⟨rfl, hJ⟩) dX5_onLighting_47
    · refine lv_aload_n S.1 S.2.1 dX5_onLighting_20 rfl (lv_at hl 0 rfl) ?_
      refine z_ic S (k := 5) dX5_onLighting_21 (by decide) ?_
      refine z_ic S (k := 1) dX5_onLighting_22 (by decide) ?_
      refine z_w1 (v0 := some (.int (nI 5))) (rest := []) (As := [.int (nI 5), .int (nI (1))]) S hZ hS (c_X5_deny l g hB fj 5 (1)) hB ci_X5_deny cv_X5_deny k355 ⟨rfl, rfl, by rw [hR]; exact Nat.le_of_ble_eq_true rfl, by rw [hR]; exact Nat.le_of_ble_eq_true rfl⟩ hJ (hJ.recv hZ.1 0 (by decide) rfl rfl rfl) hl.1 rfl (Nat.le_of_ble_eq_true rfl) dX5_onLighting_23 ⟨by rw [hR]; exact Nat.le_of_ble_eq_true rfl, by rw [hR]; exact Nat.le_of_ble_eq_true rfl⟩ rfl (fun H1 locs1 hPn hCn hSn => ?_)
      have hS := hSn
      have hJ := hPn
      have hC := hC.tr (hCn.mono (b := oj) (k := 1) (by omega) (by omega))
      have e9 : zV1 f a = (5, 1) := by unfold zV1; rw [if_neg (by omega), if_neg (by omega)]
      exact z_wi hQ S hr hlk (zn_int _) hS hC (by rw [e9]; exact ⟨rfl, hJ⟩) dX5_onLighting_26
  · refine z_bi S (k := 10) dX5_onLighting_8 (by decide) ?_
    have e9 : zV1 f a = (10, 0) := by unfold zV1; rw [if_pos (by have := of_decide_eq_false h1; omega)]
    exact z_wi hQ S hr hlk (zn_int _) hS hC (by rw [e9]; exact ⟨rfl, hJ⟩) dX5_onLighting_10
theorem ci_X5_onSnuffing : zCI yX5_onSnuffing cX5_onSnuffing 3 (some .int) 2 := ⟨k370, k7, by decide +kernel⟩
theorem cv_X5_onSnuffing : Cond.instanceMethod yX5_onSnuffing ∈ GW ∧ Cond.selects (yX5_onSnuffing).cls yX5_onSnuffing yX5_onSnuffing ∈ GW := ⟨k369, kp4⟩
set_option maxRecDepth 20000 in
set_option maxHeartbeats 4000000 in
/-- Judge.onSnuffing -/
theorem c_X5_onSnuffing (l : Launch) (g : ZG) {B : Nat} {oj : Nat} (hB : B ≤ oj) (fj : Nat → Nat → Nat) {ow : Nat} (f : Nat → Nat → Nat) (hw : zWo f) (a : Nat) (ha : a < 2 ^ 31) : Met l yX5_onSnuffing (.code yX5_onSnuffing cX5_onSnuffing 3 (some .int) :: GW) { frames := 1, cells := 0, slots := 0, locals := 22 } (va_Pc [.ref oj, .ref ow, .int (nI a)] (zPre g B (fun H => zPm g oj 1 TJu fj H ∧ zPm g ow 5 TW f H))) (zX (fun w H => w = some (.int (nI (zV2 f a).1)) ∧ zPm g oj 1 TJu (zJd fj (zV2 f a)) H) oj 1) 0 0 (zA B) := by
  refine zMet (by decide) (Nat.le_of_ble_eq_true rfl) ?_
  intro p e R s m args below meth c Q ls hR hargs hQ S hr hlk hP hZ hS hnm hl
  have hl : lv_has ls 3 [(0, .ref (oj)), (1, .ref (ow)), (2, .int (nI (a)))] := hl
  have hC : zCh1 oj 1 s.heap s.heap := zCh1.rf
  obtain ⟨hJ, hW⟩ := hP
  refine lv_aload_n S.1 S.2.1 dX5_onSnuffing_0 rfl (lv_at hl 1 rfl) ?_
  refine lv_iload_n S.1 S.2.1 dX5_onSnuffing_1 rfl (lv_at hl 2 rfl) ?_
  refine z_cV (v := some (.int (nI (decide (a < f 0 4)).toNat))) (rest := []) (As := [.int (nI (a))]) S hZ hS (c_X10_has l g f hw a ha) ci_X10_has cv_X10_has k363 ⟨rfl, rfl, by rw [hR]; decide, by rw [hR]; decide⟩ hW (hW.recv hZ.1 0 (by decide) rfl rfl rfl) hl.1 rfl (Nat.le_of_ble_eq_true rfl) dX5_onSnuffing_2 ⟨by rw [hR]; decide, by rw [hR]; decide⟩ rfl ?_
  refine z_bne (tgt := 11) S dX5_onSnuffing_5 (by decide) (fun h1 => ?_) (fun h1 => ?_)
  · have ha8 : a < f 0 4 := of_decide_eq_true h1
    have ha9 : a < 8 := by have := hw.1; omega
    refine lv_aload_n S.1 S.2.1 dX5_onSnuffing_11 rfl (lv_at hl 1 rfl) ?_
    refine z_get (v := .ref (ow + 4)) S hZ.1 hW 0 (by decide) rfl rfl rfl 3 (by decide) rfl k57 dX5_onSnuffing_12 ?_
    refine lv_iload_n S.1 S.2.1 dX5_onSnuffing_15 rfl (lv_at hl 2 rfl) ?_
    refine z_zald S hZ.1 hW 4 (by decide) rfl rfl (i := a) ha9 (by decide) dX5_onSnuffing_16 ?_
    refine z_ieq (tgt := 24) S (hw.l a) dX5_onSnuffing_17 (by decide) (fun h2 => ?_) (fun h2 => ?_)
    · refine lv_aload_n S.1 S.2.1 dX5_onSnuffing_24 rfl (lv_at hl 0 rfl) ?_
      refine z_ic S (k := 5) dX5_onSnuffing_25 (by decide) ?_
      refine z_ic S (k := 0) dX5_onSnuffing_26 (by decide) ?_
      refine z_w1 (v0 := some (.int (nI 5))) (rest := []) (As := [.int (nI 5), .int (nI (0))]) S hZ hS (c_X5_deny l g hB fj 5 (0)) hB ci_X5_deny cv_X5_deny k355 ⟨rfl, rfl, by rw [hR]; exact Nat.le_of_ble_eq_true rfl, by rw [hR]; exact Nat.le_of_ble_eq_true rfl⟩ hJ (hJ.recv hZ.1 0 (by decide) rfl rfl rfl) hl.1 rfl (Nat.le_of_ble_eq_true rfl) dX5_onSnuffing_27 ⟨by rw [hR]; exact Nat.le_of_ble_eq_true rfl, by rw [hR]; exact Nat.le_of_ble_eq_true rfl⟩ rfl (fun H1 locs1 hPn hCn hSn => ?_)
      have hS := hSn
      have hJ := hPn
      have hC := hC.tr (hCn.mono (b := oj) (k := 1) (by omega) (by omega))
      have e9 : zV2 f a = (5, 0) := by unfold zV2; rw [if_neg (by omega), if_pos (by omega)]
      exact z_wi hQ S hr hlk (zn_int _) hS hC (by rw [e9]; exact ⟨rfl, hJ⟩) dX5_onSnuffing_30
    · refine z_ic S (k := 0) dX5_onSnuffing_20 (by decide) ?_
      refine lv_goto (tgt := 30) S.1 S.2.1 dX5_onSnuffing_21 (by decide) ?_
      have e9 : zV2 f a = (0, 0) := by unfold zV2; rw [if_neg (by omega), if_neg (by omega)]
      exact z_wi hQ S hr hlk (zn_int _) hS hC (by rw [e9]; exact ⟨rfl, hJ⟩) dX5_onSnuffing_30
  · refine z_bi S (k := 10) dX5_onSnuffing_8 (by decide) ?_
    have e9 : zV2 f a = (10, 0) := by unfold zV2; rw [if_pos (by have := of_decide_eq_false h1; omega)]
    exact z_wi hQ S hr hlk (zn_int _) hS hC (by rw [e9]; exact ⟨rfl, hJ⟩) dX5_onSnuffing_10
theorem ci_X5_onMoreWax : zCI yX5_onMoreWax cX5_onMoreWax 4 (some .int) 3 := ⟨k374, k7, by decide +kernel⟩
theorem cv_X5_onMoreWax : Cond.instanceMethod yX5_onMoreWax ∈ GW ∧ Cond.selects (yX5_onMoreWax).cls yX5_onMoreWax yX5_onMoreWax ∈ GW := ⟨k373, kp5⟩
set_option maxRecDepth 20000 in
set_option maxHeartbeats 4000000 in
/-- Judge.onMoreWax -/
theorem c_X5_onMoreWax (l : Launch) (g : ZG) {B : Nat} {oj : Nat} (hB : B ≤ oj) (fj : Nat → Nat → Nat) {ow : Nat} (f : Nat → Nat → Nat) (hw : zWo f) (a b : Nat) (ha : a < 2 ^ 31) (hb : b < 2 ^ 31) : Met l yX5_onMoreWax (.code yX5_onMoreWax cX5_onMoreWax 4 (some .int) :: GW) { frames := 1, cells := 0, slots := 0, locals := 22 } (va_Pc [.ref oj, .ref ow, .int (nI a), .int (nI b)] (zPre g B (fun H => zPm g oj 1 TJu fj H ∧ zPm g ow 5 TW f H))) (zX (fun w H => w = some (.int (nI (zV3 f a b).1)) ∧ zPm g oj 1 TJu (zJd fj (zV3 f a b)) H) oj 1) 0 0 (zA B) := by
  refine zMet (by decide) (Nat.le_of_ble_eq_true rfl) ?_
  intro p e R s m args below meth c Q ls hR hargs hQ S hr hlk hP hZ hS hnm hl
  have hl : lv_has ls 4 [(0, .ref (oj)), (1, .ref (ow)), (2, .int (nI (a))), (3, .int (nI (b)))] := hl
  have hC : zCh1 oj 1 s.heap s.heap := zCh1.rf
  obtain ⟨hJ, hW⟩ := hP
  refine lv_aload_n S.1 S.2.1 dX5_onMoreWax_0 rfl (lv_at hl 1 rfl) ?_
  refine lv_iload_n S.1 S.2.1 dX5_onMoreWax_1 rfl (lv_at hl 2 rfl) ?_
  refine z_cV (v := some (.int (nI (decide (a < f 0 4)).toNat))) (rest := []) (As := [.int (nI (a))]) S hZ hS (c_X10_has l g f hw a ha) ci_X10_has cv_X10_has k363 ⟨rfl, rfl, by rw [hR]; decide, by rw [hR]; decide⟩ hW (hW.recv hZ.1 0 (by decide) rfl rfl rfl) hl.1 rfl (Nat.le_of_ble_eq_true rfl) dX5_onMoreWax_2 ⟨by rw [hR]; decide, by rw [hR]; decide⟩ rfl ?_
  refine z_bne (tgt := 11) S dX5_onMoreWax_5 (by decide) (fun h1 => ?_) (fun h1 => ?_)
  · have ha8 : a < f 0 4 := of_decide_eq_true h1
    have ha9 : a < 8 := by have := hw.1; omega
    refine lv_iload_n S.1 S.2.1 dX5_onMoreWax_11 rfl (lv_at hl 3 rfl) ?_
    refine z_ic S (k := 1) dX5_onMoreWax_12 (by decide) ?_
    refine z_clt (tgt := 22) S hb (by omega) dX5_onMoreWax_13 (by decide) (fun h2 => ?_) (fun h2 => ?_)
    · refine z_bi S (k := 9) dX5_onMoreWax_22 (by decide) ?_
      have e9 : zV3 f a b = (9, 0) := by unfold zV3; rw [if_neg (by omega), if_pos (by omega)]
      exact z_wi hQ S hr hlk (zn_int _) hS hC (by rw [e9]; exact ⟨rfl, hJ⟩) dX5_onMoreWax_24
    · refine lv_iload_n S.1 S.2.1 dX5_onMoreWax_16 rfl (lv_at hl 3 rfl) ?_
      refine z_bi S (k := 50) dX5_onMoreWax_17 (by decide) ?_
      refine z_cle (tgt := 25) S hb (by omega) dX5_onMoreWax_19 (by decide) (fun h3 => ?_) (fun h3 => ?_)
      · have hx9 := (hw.2 a).2.2.1
        refine lv_aload_n S.1 S.2.1 dX5_onMoreWax_25 rfl (lv_at hl 1 rfl) ?_
        refine z_get (v := .ref (ow + 3)) S hZ.1 hW 0 (by decide) rfl rfl rfl 2 (by decide) rfl k54 dX5_onMoreWax_26 ?_
        refine lv_iload_n S.1 S.2.1 dX5_onMoreWax_29 rfl (lv_at hl 2 rfl) ?_
        refine z_iald S hZ.1 hW 3 (by decide) rfl rfl (i := a) ha9 (by decide) dX5_onMoreWax_30 ?_
        refine lv_iload_n S.1 S.2.1 dX5_onMoreWax_31 rfl (lv_at hl 3 rfl) ?_
        refine z_add S dX5_onMoreWax_32 ?_
        refine z_bi S (k := 99) dX5_onMoreWax_33 (by decide) ?_
        refine z_cle (tgt := 48) S (by omega) (by omega) dX5_onMoreWax_35 (by decide) (fun h4 => ?_) (fun h4 => ?_)
        · refine z_ic S (k := 0) dX5_onMoreWax_48 (by decide) ?_
          have e9 : zV3 f a b = (0, 0) := by unfold zV3; rw [if_neg (by omega), if_neg (by omega), if_neg (by omega)]
          exact z_wi hQ S hr hlk (zn_int _) hS hC (by rw [e9]; exact ⟨rfl, hJ⟩) dX5_onMoreWax_49
        · refine lv_aload_n S.1 S.2.1 dX5_onMoreWax_38 rfl (lv_at hl 0 rfl) ?_
          refine z_ic S (k := 1) dX5_onMoreWax_39 (by decide) ?_
          refine z_bi S (k := 99) dX5_onMoreWax_40 (by decide) ?_
          refine z_w1 (v0 := some (.int (nI 1))) (rest := []) (As := [.int (nI 1), .int (nI (99))]) S hZ hS (c_X5_deny l g hB fj 1 (99)) hB ci_X5_deny cv_X5_deny k355 ⟨rfl, rfl, by rw [hR]; exact Nat.le_of_ble_eq_true rfl, by rw [hR]; exact Nat.le_of_ble_eq_true rfl⟩ hJ (hJ.recv hZ.1 0 (by decide) rfl rfl rfl) hl.1 rfl (Nat.le_of_ble_eq_true rfl) dX5_onMoreWax_42 ⟨by rw [hR]; exact Nat.le_of_ble_eq_true rfl, by rw [hR]; exact Nat.le_of_ble_eq_true rfl⟩ rfl (fun H1 locs1 hPn hCn hSn => ?_)
          have hS := hSn
          have hJ := hPn
          have hC := hC.tr (hCn.mono (b := oj) (k := 1) (by omega) (by omega))
          refine lv_goto (tgt := 49) S.1 S.2.1 dX5_onMoreWax_45 (by decide) ?_
          have e9 : zV3 f a b = (1, 99) := by unfold zV3; rw [if_neg (by omega), if_neg (by omega), if_pos (by omega)]
          exact z_wi hQ S hr hlk (zn_int _) hS hC (by rw [e9]; exact ⟨rfl, hJ⟩) dX5_onMoreWax_49
      · refine z_bi S (k := 9) dX5_onMoreWax_22 (by decide) ?_
        have e9 : zV3 f a b = (9, 0) := by unfold zV3; rw [if_neg (by omega), if_pos (by omega)]
        exact z_wi hQ S hr hlk (zn_int _) hS hC (by rw [e9]; exact ⟨rfl, hJ⟩) dX5_onMoreWax_24
  · refine z_bi S (k := 10) dX5_onMoreWax_8 (by decide) ?_
    have e9 : zV3 f a b = (10, 0) := by unfold zV3; rw [if_pos (by have := of_decide_eq_false h1; omega)]
    exact z_wi hQ S hr hlk (zn_int _) hS hC (by rw [e9]; exact ⟨rfl, hJ⟩) dX5_onMoreWax_10
theorem ci_X5_onWeaving : zCI yX5_onWeaving cX5_onWeaving 3 (some .int) 2 := ⟨k378, k7, by decide +kernel⟩
theorem cv_X5_onWeaving : Cond.instanceMethod yX5_onWeaving ∈ GW ∧ Cond.selects (yX5_onWeaving).cls yX5_onWeaving yX5_onWeaving ∈ GW := ⟨k377, kp6⟩
set_option maxRecDepth 20000 in
set_option maxHeartbeats 4000000 in
/-- Judge.onWeaving -/
theorem c_X5_onWeaving (l : Launch) (g : ZG) {B : Nat} {oj : Nat} (hB : B ≤ oj) (fj : Nat → Nat → Nat) {o : Nat} (v : zL) (hv : zOk v) (a : Nat) (ha : a < 2 ^ 31) : Met l yX5_onWeaving (.code yX5_onWeaving cX5_onWeaving 3 (some .int) :: GW) { frames := 1, cells := 0, slots := 0, locals := 22 } (va_Pc [.ref oj, .ref o, .int (nI a)] (zPre g B (fun H => zPm g oj 1 TJu fj H ∧ zLo g o v H))) (zX (fun w H => w = some (.int (nI (zV4 v a).1)) ∧ zPm g oj 1 TJu (zJd fj (zV4 v a)) H) oj 1) 0 0 (zA B) := by
  refine zMet (by decide) (Nat.le_of_ble_eq_true rfl) ?_
  intro p e R s m args below meth c Q ls hR hargs hQ S hr hlk hP hZ hS hnm hl
  have hl : lv_has ls 3 [(0, .ref (oj)), (1, .ref (o)), (2, .int (nI (a)))] := hl
  have hC : zCh1 oj 1 s.heap s.heap := zCh1.rf
  obtain ⟨hJ, hPL⟩ := hP
  obtain ⟨hP0, hP1, hP2, hP3, hP4⟩ := id hPL
  have hlt8 := zLt_le hv
  have hk40 := hv.2.1.1
  refine lv_iload_n S.1 S.2.1 dX5_onWeaving_0 rfl (lv_at hl 2 rfl) ?_
  refine z_ic S (k := 1) dX5_onWeaving_1 (by decide) ?_
  refine z_clt (tgt := 11) S ha (by omega) dX5_onWeaving_2 (by decide) (fun h1 => ?_) (fun h1 => ?_)
  · refine z_bi S (k := 9) dX5_onWeaving_11 (by decide) ?_
    have e9 : zV4 v a = (9, 0) := by unfold zV4; rw [if_pos (by omega)]
    exact z_wi hQ S hr hlk (zn_int _) hS hC (by rw [e9]; exact ⟨rfl, hJ⟩) dX5_onWeaving_13
  · refine lv_iload_n S.1 S.2.1 dX5_onWeaving_5 rfl (lv_at hl 2 rfl) ?_
    refine z_bi S (k := 10) dX5_onWeaving_6 (by decide) ?_
    refine z_cle (tgt := 14) S ha (by omega) dX5_onWeaving_8 (by decide) (fun h2 => ?_) (fun h2 => ?_)
    · refine lv_aload_n S.1 S.2.1 dX5_onWeaving_14 rfl (lv_at hl 1 rfl) ?_
      refine z_get (v := .ref (o + 1)) S hZ.1 hP0 0 (by decide) rfl rfl rfl 0 (by decide) rfl k117 dX5_onWeaving_15 ?_
      refine z_cV (v := some (.int (nI (zLt v)))) (rest := []) (As := []) S hZ hS (c_X10_countLit l g (v 1) hv.1) ci_X10_countLit cv_X10_countLit k379 ⟨rfl, rfl, by rw [hR]; decide, by rw [hR]; decide⟩ hP1 (hP1.recv hZ.1 0 (by decide) rfl rfl rfl) hl.1 rfl (Nat.le_of_ble_eq_true rfl) dX5_onWeaving_18 ⟨by rw [hR]; decide, by rw [hR]; decide⟩ rfl ?_
      refine z_ine (tgt := 37) S (by omega) dX5_onWeaving_21 (by decide) (fun h3 => ?_) (fun h3 => ?_)
      · refine lv_aload_n S.1 S.2.1 dX5_onWeaving_37 rfl (lv_at hl 1 rfl) ?_
        refine z_get (v := .ref (o + 6)) S hZ.1 hP0 0 (by decide) rfl rfl rfl 1 (by decide) rfl k120 dX5_onWeaving_38 ?_
        refine z_get (v := .int (nI ((v 2) 0 3))) S hZ.1 hP2 0 (by decide) rfl rfl rfl 3 (by decide) rfl k88 dX5_onWeaving_41 ?_
        refine lv_iload_n S.1 S.2.1 dX5_onWeaving_44 rfl (lv_at hl 2 rfl) ?_
        refine z_add S dX5_onWeaving_45 ?_
        refine z_bi S (k := 40) dX5_onWeaving_46 (by decide) ?_
        refine z_cle (tgt := 61) S (by omega) (by omega) dX5_onWeaving_48 (by decide) (fun h4 => ?_) (fun h4 => ?_)
        · refine z_ic S (k := 0) dX5_onWeaving_61 (by decide) ?_
          have e9 : zV4 v a = (0, 0) := by unfold zV4; rw [if_neg (by omega), if_neg (by omega), if_neg (by omega)]
          exact z_wi hQ S hr hlk (zn_int _) hS hC (by rw [e9]; exact ⟨rfl, hJ⟩) dX5_onWeaving_62
        · refine lv_aload_n S.1 S.2.1 dX5_onWeaving_51 rfl (lv_at hl 0 rfl) ?_
          refine z_ic S (k := 1) dX5_onWeaving_52 (by decide) ?_
          refine z_bi S (k := 40) dX5_onWeaving_53 (by decide) ?_
          refine z_w1 (v0 := some (.int (nI 1))) (rest := []) (As := [.int (nI 1), .int (nI (40))]) S hZ hS (c_X5_deny l g hB fj 1 (40)) hB ci_X5_deny cv_X5_deny k355 ⟨rfl, rfl, by rw [hR]; exact Nat.le_of_ble_eq_true rfl, by rw [hR]; exact Nat.le_of_ble_eq_true rfl⟩ hJ (hJ.recv hZ.1 0 (by decide) rfl rfl rfl) hl.1 rfl (Nat.le_of_ble_eq_true rfl) dX5_onWeaving_55 ⟨by rw [hR]; exact Nat.le_of_ble_eq_true rfl, by rw [hR]; exact Nat.le_of_ble_eq_true rfl⟩ rfl (fun H1 locs1 hPn hCn hSn => ?_)
          have hS := hSn
          have hJ := hPn
          have hC := hC.tr (hCn.mono (b := oj) (k := 1) (by omega) (by omega))
          refine lv_goto (tgt := 62) S.1 S.2.1 dX5_onWeaving_58 (by decide) ?_
          have e9 : zV4 v a = (1, 40) := by unfold zV4; rw [if_neg (by omega), if_neg (by omega), if_pos (by omega)]
          exact z_wi hQ S hr hlk (zn_int _) hS hC (by rw [e9]; exact ⟨rfl, hJ⟩) dX5_onWeaving_62
      · refine lv_aload_n S.1 S.2.1 dX5_onWeaving_24 rfl (lv_at hl 0 rfl) ?_
        refine z_ic S (k := 2) dX5_onWeaving_25 (by decide) ?_
        refine lv_aload_n S.1 S.2.1 dX5_onWeaving_26 rfl (lv_at hl 1 rfl) ?_
        refine z_get (v := .ref (o + 1)) S hZ.1 hP0 0 (by decide) rfl rfl rfl 0 (by decide) rfl k117 dX5_onWeaving_27 ?_
        refine z_get (v := .int (nI ((v 1) 0 4))) S hZ.1 hP1 0 (by decide) rfl rfl rfl 4 (by decide) rfl k60 dX5_onWeaving_30 ?_
        refine z_w1 (v0 := some (.int (nI 2))) (rest := []) (As := [.int (nI 2), .int (nI (v 1 0 4))]) S hZ hS (c_X5_deny l g hB fj 2 (v 1 0 4)) hB ci_X5_deny cv_X5_deny k355 ⟨rfl, rfl, by rw [hR]; exact Nat.le_of_ble_eq_true rfl, by rw [hR]; exact Nat.le_of_ble_eq_true rfl⟩ hJ (hJ.recv hZ.1 0 (by decide) rfl rfl rfl) hl.1 rfl (Nat.le_of_ble_eq_true rfl) dX5_onWeaving_33 ⟨by rw [hR]; exact Nat.le_of_ble_eq_true rfl, by rw [hR]; exact Nat.le_of_ble_eq_true rfl⟩ rfl (fun H1 locs1 hPn hCn hSn => ?_)
        have hS := hSn
        have hJ := hPn
        have hC := hC.tr (hCn.mono (b := oj) (k := 1) (by omega) (by omega))
        have e9 : zV4 v a = (2, v 1 0 4) := by unfold zV4; rw [if_neg (by omega), if_pos (by omega)]
        exact z_wi hQ S hr hlk (zn_int _) hS hC (by rw [e9]; exact ⟨rfl, hJ⟩) dX5_onWeaving_36
    · refine z_bi S (k := 9) dX5_onWeaving_11 (by decide) ?_
      have e9 : zV4 v a = (9, 0) := by unfold zV4; rw [if_pos (by omega)]
      exact z_wi hQ S hr hlk (zn_int _) hS hC (by rw [e9]; exact ⟨rfl, hJ⟩) dX5_onWeaving_13
theorem ci_X5_onRavelling : zCI yX5_onRavelling cX5_onRavelling 4 (some .int) 2 := ⟨k386, k7, by decide +kernel⟩
theorem cv_X5_onRavelling : Cond.instanceMethod yX5_onRavelling ∈ GW ∧ Cond.selects (yX5_onRavelling).cls yX5_onRavelling yX5_onRavelling ∈ GW := ⟨k385, kp7⟩
set_option maxRecDepth 20000 in
set_option maxHeartbeats 4000000 in
/-- Judge.onRavelling -/
theorem c_X5_onRavelling (l : Launch) (g : ZG) {B : Nat} {oj : Nat} (hB : B ≤ oj) (fj : Nat → Nat → Nat) {ow : Nat} (f : Nat → Nat → Nat) (hw : zKo f) (a : Nat) (ha : a < 2 ^ 31) : Met l yX5_onRavelling (.code yX5_onRavelling cX5_onRavelling 4 (some .int) :: GW) { frames := 1, cells := 0, slots := 0, locals := 22 } (va_Pc [.ref oj, .ref ow, .int (nI a)] (zPre g B (fun H => zPm g oj 1 TJu fj H ∧ zPm g ow 4 TC f H))) (zX (fun w H => w = some (.int (nI (zV5 f a).1)) ∧ zPm g oj 1 TJu (zJd fj (zV5 f a)) H) oj 1) 0 0 (zA B) := by
  refine zMet (by decide) (Nat.le_of_ble_eq_true rfl) ?_
  intro p e R s m args below meth c Q ls hR hargs hQ S hr hlk hP hZ hS hnm hl
  have hl : lv_has ls 4 [(0, .ref (oj)), (1, .ref (ow)), (2, .int (nI (a)))] := hl
  have hC : zCh1 oj 1 s.heap s.heap := zCh1.rf
  obtain ⟨hJ, hW⟩ := hP
  have hk40 := hw.1
  have hlk9 := zLk_le f (f 0 3)
  refine lv_iload_n S.1 S.2.1 dX5_onRavelling_0 rfl (lv_at hl 2 rfl) ?_
  refine z_ic S (k := 1) dX5_onRavelling_1 (by decide) ?_
  refine z_clt (tgt := 11) S ha (by omega) dX5_onRavelling_2 (by decide) (fun h1 => ?_) (fun h1 => ?_)
  · refine z_bi S (k := 9) dX5_onRavelling_11 (by decide) ?_
    have e9 : zV5 f a = (9, 0) := by unfold zV5; rw [if_pos (by omega)]
    exact z_wi hQ S hr hlk (zn_int _) hS hC (by rw [e9]; exact ⟨rfl, hJ⟩) dX5_onRavelling_13
  · refine lv_iload_n S.1 S.2.1 dX5_onRavelling_5 rfl (lv_at hl 2 rfl) ?_
    refine z_bi S (k := 10) dX5_onRavelling_6 (by decide) ?_
    refine z_cle (tgt := 14) S ha (by omega) dX5_onRavelling_8 (by decide) (fun h2 => ?_) (fun h2 => ?_)
    · refine lv_iload_n S.1 S.2.1 dX5_onRavelling_14 rfl (lv_at hl 2 rfl) ?_
      refine lv_aload_n S.1 S.2.1 dX5_onRavelling_15 rfl (lv_at hl 1 rfl) ?_
      refine z_get (v := .int (nI (f 0 3))) S hZ.1 hW 0 (by decide) rfl rfl rfl 3 (by decide) rfl k88 dX5_onRavelling_16 ?_
      refine z_cle (tgt := 32) S ha hw.c dX5_onRavelling_19 (by decide) (fun h3 => ?_) (fun h3 => ?_)
      · refine lv_aload_n S.1 S.2.1 dX5_onRavelling_32 rfl (lv_at hl 1 rfl) ?_
        refine z_cV (v := some (.int (nI (zLk f (f 0 3)) - 1))) (rest := []) (As := []) S hZ hS (c_X1_lastKnottedRow l g f hw (zLk f (f 0 3)) hlk9 (fun k => zLk_no) zLk_yes) ci_X1_lastKnottedRow cv_X1_lastKnottedRow k387 ⟨rfl, rfl, by rw [hR]; decide, by rw [hR]; decide⟩ hW (hW.recv hZ.1 0 (by decide) rfl rfl rfl) hl.1 rfl (Nat.le_of_ble_eq_true rfl) dX5_onRavelling_33 ⟨by rw [hR]; decide, by rw [hR]; decide⟩ rfl ?_
        generalize hq : zLk f (f 0 3) = q at *
        refine lv_istore_n (lv' := [(3, .int (nI q - 1)), (0, .ref (oj)), (1, .ref (ow)), (2, .int (nI (a)))]) S.1 S.2.1 dX5_onRavelling_36 rfl hl (by decide) rfl (fun ls hl => ?_)
        cases q with
        | zero =>
          refine lv_iload_n S.1 S.2.1 dX5_onRavelling_37 rfl (lv_at hl 0 rfl) ?_
          refine lv_aload_n S.1 S.2.1 dX5_onRavelling_38 rfl (lv_at hl 2 rfl) ?_
          refine z_get (v := .int (nI (f 0 3))) S hZ.1 hW 0 (by decide) rfl rfl rfl 3 (by decide) rfl k88 dX5_onRavelling_39 ?_
          refine lv_iload_n S.1 S.2.1 dX5_onRavelling_42 rfl (lv_at hl 3 rfl) ?_
          refine z_sub S (by omega) dX5_onRavelling_43 ?_
          refine lv_icmp_lt (tgt := 56) S.1 S.2.1 dX5_onRavelling_44 (by decide) (fun _ => ?_) (fun h => absurd (Int32.lt_of_lt_of_le (show nI 0 - 1 < nI 0 by decide) ((nI_leI (by omega) (by omega)).mpr (Nat.zero_le _))) h)
          refine z_ic S (k := 0) dX5_onRavelling_56 (by decide) ?_
          have e9 : zV5 f a = (0, 0) := by unfold zV5; rw [if_neg (by omega), if_neg (by omega), if_neg (by omega)]
          exact z_wi hQ S hr hlk (zn_int _) hS hC (by rw [e9]; exact ⟨rfl, hJ⟩) dX5_onRavelling_57
        | succ q =>
          rw [nI_pred] at hl
          refine lv_iload_n S.1 S.2.1 dX5_onRavelling_37 rfl (lv_at hl 0 rfl) ?_
          refine lv_aload_n S.1 S.2.1 dX5_onRavelling_38 rfl (lv_at hl 2 rfl) ?_
          refine z_get (v := .int (nI (f 0 3))) S hZ.1 hW 0 (by decide) rfl rfl rfl 3 (by decide) rfl k88 dX5_onRavelling_39 ?_
          refine lv_iload_n S.1 S.2.1 dX5_onRavelling_42 rfl (lv_at hl 3 rfl) ?_
          refine z_sub S (by omega) dX5_onRavelling_43 ?_
          refine z_clt (tgt := 56) S (by omega) (by omega) dX5_onRavelling_44 (by decide) (fun h4 => ?_) (fun h4 => ?_)
          · refine z_ic S (k := 0) dX5_onRavelling_56 (by decide) ?_
            have e9 : zV5 f a = (0, 0) := by unfold zV5; rw [if_neg (by omega), if_neg (by omega), if_neg (by omega)]
            exact z_wi hQ S hr hlk (zn_int _) hS hC (by rw [e9]; exact ⟨rfl, hJ⟩) dX5_onRavelling_57
          · refine lv_aload_n S.1 S.2.1 dX5_onRavelling_47 rfl (lv_at hl 1 rfl) ?_
            refine z_ic S (k := 3) dX5_onRavelling_48 (by decide) ?_
            refine lv_iload_n S.1 S.2.1 dX5_onRavelling_49 rfl (lv_at hl 0 rfl) ?_
            refine z_w1 (v0 := some (.int (nI 3))) (rest := []) (As := [.int (nI 3), .int (nI (q))]) S hZ hS (c_X5_deny l g hB fj 3 (q)) hB ci_X5_deny cv_X5_deny k355 ⟨rfl, rfl, by rw [hR]; exact Nat.le_of_ble_eq_true rfl, by rw [hR]; exact Nat.le_of_ble_eq_true rfl⟩ hJ (hJ.recv hZ.1 0 (by decide) rfl rfl rfl) hl.1 rfl (Nat.le_of_ble_eq_true rfl) dX5_onRavelling_50 ⟨by rw [hR]; exact Nat.le_of_ble_eq_true rfl, by rw [hR]; exact Nat.le_of_ble_eq_true rfl⟩ rfl (fun H1 locs1 hPn hCn hSn => ?_)
            have hS := hSn
            have hJ := hPn
            have hC := hC.tr (hCn.mono (b := oj) (k := 1) (by omega) (by omega))
            refine lv_goto (tgt := 57) S.1 S.2.1 dX5_onRavelling_53 (by decide) ?_
            have e9 : zV5 f a = (3, q) := by unfold zV5; rw [if_neg (by omega), if_neg (by omega), if_pos (by omega), hq]; rfl
            exact z_wi hQ S hr hlk (zn_int _) hS hC (by rw [e9]; exact ⟨rfl, hJ⟩) dX5_onRavelling_57
      · refine lv_aload_n S.1 S.2.1 dX5_onRavelling_22 rfl (lv_at hl 0 rfl) ?_
        refine z_ic S (k := 4) dX5_onRavelling_23 (by decide) ?_
        refine lv_aload_n S.1 S.2.1 dX5_onRavelling_24 rfl (lv_at hl 1 rfl) ?_
        refine z_get (v := .int (nI (f 0 3))) S hZ.1 hW 0 (by decide) rfl rfl rfl 3 (by decide) rfl k88 dX5_onRavelling_25 ?_
        refine z_w1 (v0 := some (.int (nI 4))) (rest := []) (As := [.int (nI 4), .int (nI (f 0 3))]) S hZ hS (c_X5_deny l g hB fj 4 (f 0 3)) hB ci_X5_deny cv_X5_deny k355 ⟨rfl, rfl, by rw [hR]; exact Nat.le_of_ble_eq_true rfl, by rw [hR]; exact Nat.le_of_ble_eq_true rfl⟩ hJ (hJ.recv hZ.1 0 (by decide) rfl rfl rfl) hl.1 rfl (Nat.le_of_ble_eq_true rfl) dX5_onRavelling_28 ⟨by rw [hR]; exact Nat.le_of_ble_eq_true rfl, by rw [hR]; exact Nat.le_of_ble_eq_true rfl⟩ rfl (fun H1 locs1 hPn hCn hSn => ?_)
        have hS := hSn
        have hJ := hPn
        have hC := hC.tr (hCn.mono (b := oj) (k := 1) (by omega) (by omega))
        have e9 : zV5 f a = (4, f 0 3) := by unfold zV5; rw [if_neg (by omega), if_pos (by omega)]
        exact z_wi hQ S hr hlk (zn_int _) hS hC (by rw [e9]; exact ⟨rfl, hJ⟩) dX5_onRavelling_31
    · refine z_bi S (k := 9) dX5_onRavelling_11 (by decide) ?_
      have e9 : zV5 f a = (9, 0) := by unfold zV5; rw [if_pos (by omega)]
      exact z_wi hQ S hr hlk (zn_int _) hS hC (by rw [e9]; exact ⟨rfl, hJ⟩) dX5_onRavelling_13
theorem ci_X5_onRepeating : zCI yX5_onRepeating cX5_onRepeating 4 (some .int) 3 := ⟨k394, k7, by decide +kernel⟩
theorem cv_X5_onRepeating : Cond.instanceMethod yX5_onRepeating ∈ GW ∧ Cond.selects (yX5_onRepeating).cls yX5_onRepeating yX5_onRepeating ∈ GW := ⟨k393, kp8⟩
set_option maxRecDepth 20000 in
set_option maxHeartbeats 4000000 in
/-- Judge.onRepeating -/
theorem c_X5_onRepeating (l : Launch) (g : ZG) {B : Nat} {oj : Nat} (hB : B ≤ oj) (fj : Nat → Nat → Nat) {ow : Nat} (f : Nat → Nat → Nat) (hw : zKo f) (a b : Nat) (ha : a < 2 ^ 31) (hb : b < 2 ^ 31) : Met l yX5_onRepeating (.code yX5_onRepeating cX5_onRepeating 4 (some .int) :: GW) { frames := 1, cells := 0, slots := 0, locals := 22 } (va_Pc [.ref oj, .ref ow, .int (nI a), .int (nI b)] (zPre g B (fun H => zPm g oj 1 TJu fj H ∧ zPm g ow 4 TC f H))) (zX (fun w H => w = some (.int (nI (zV6 f a b).1)) ∧ zPm g oj 1 TJu (zJd fj (zV6 f a b)) H) oj 1) 0 0 (zA B) := by
  refine zMet (by decide) (Nat.le_of_ble_eq_true rfl) ?_
  intro p e R s m args below meth c Q ls hR hargs hQ S hr hlk hP hZ hS hnm hl
  have hl : lv_has ls 4 [(0, .ref (oj)), (1, .ref (ow)), (2, .int (nI (a))), (3, .int (nI (b)))] := hl
  have hC : zCh1 oj 1 s.heap s.heap := zCh1.rf
  obtain ⟨hJ, hW⟩ := hP
  have hk40 := hw.1
  refine lv_iload_n S.1 S.2.1 dX5_onRepeating_0 rfl (lv_at hl 2 rfl) ?_
  refine z_ic S (k := 1) dX5_onRepeating_1 (by decide) ?_
  refine z_clt (tgt := 22) S ha (by omega) dX5_onRepeating_2 (by decide) (fun h1 => ?_) (fun h1 => ?_)
  · refine z_bi S (k := 9) dX5_onRepeating_22 (by decide) ?_
    have e9 : zV6 f a b = (9, 0) := by unfold zV6; rw [if_pos (by omega)]
    exact z_wi hQ S hr hlk (zn_int _) hS hC (by rw [e9]; exact ⟨rfl, hJ⟩) dX5_onRepeating_24
  · refine lv_iload_n S.1 S.2.1 dX5_onRepeating_5 rfl (lv_at hl 2 rfl) ?_
    refine z_bi S (k := 20) dX5_onRepeating_6 (by decide) ?_
    refine z_cgt (tgt := 22) S ha (by omega) dX5_onRepeating_8 (by decide) (fun h2 => ?_) (fun h2 => ?_)
    · refine z_bi S (k := 9) dX5_onRepeating_22 (by decide) ?_
      have e9 : zV6 f a b = (9, 0) := by unfold zV6; rw [if_pos (by omega)]
      exact z_wi hQ S hr hlk (zn_int _) hS hC (by rw [e9]; exact ⟨rfl, hJ⟩) dX5_onRepeating_24
    · refine lv_iload_n S.1 S.2.1 dX5_onRepeating_11 rfl (lv_at hl 3 rfl) ?_
      refine z_ic S (k := 1) dX5_onRepeating_12 (by decide) ?_
      refine z_clt (tgt := 22) S hb (by omega) dX5_onRepeating_13 (by decide) (fun h3 => ?_) (fun h3 => ?_)
      · refine z_bi S (k := 9) dX5_onRepeating_22 (by decide) ?_
        have e9 : zV6 f a b = (9, 0) := by unfold zV6; rw [if_pos (by omega)]
        exact z_wi hQ S hr hlk (zn_int _) hS hC (by rw [e9]; exact ⟨rfl, hJ⟩) dX5_onRepeating_24
      · refine lv_iload_n S.1 S.2.1 dX5_onRepeating_16 rfl (lv_at hl 3 rfl) ?_
        refine z_bi S (k := 9) dX5_onRepeating_17 (by decide) ?_
        refine z_cle (tgt := 25) S hb (by omega) dX5_onRepeating_19 (by decide) (fun h4 => ?_) (fun h4 => ?_)
        · have hab : a * b ≤ 180 := Nat.le_trans (Nat.mul_le_mul (show a ≤ 20 by omega) (show b ≤ 9 by omega)) (by omega)
          refine lv_iload_n S.1 S.2.1 dX5_onRepeating_25 rfl (lv_at hl 2 rfl) ?_
          refine lv_aload_n S.1 S.2.1 dX5_onRepeating_26 rfl (lv_at hl 1 rfl) ?_
          refine z_get (v := .int (nI (f 0 3))) S hZ.1 hW 0 (by decide) rfl rfl rfl 3 (by decide) rfl k88 dX5_onRepeating_27 ?_
          refine z_cle (tgt := 43) S ha hw.c dX5_onRepeating_30 (by decide) (fun h5 => ?_) (fun h5 => ?_)
          · refine lv_aload_n S.1 S.2.1 dX5_onRepeating_43 rfl (lv_at hl 1 rfl) ?_
            refine z_get (v := .int (nI (f 0 3))) S hZ.1 hW 0 (by decide) rfl rfl rfl 3 (by decide) rfl k88 dX5_onRepeating_44 ?_
            refine lv_iload_n S.1 S.2.1 dX5_onRepeating_47 rfl (lv_at hl 2 rfl) ?_
            refine lv_iload_n S.1 S.2.1 dX5_onRepeating_48 rfl (lv_at hl 3 rfl) ?_
            refine z_mul S dX5_onRepeating_49 ?_
            refine z_add S dX5_onRepeating_50 ?_
            refine z_bi S (k := 40) dX5_onRepeating_51 (by decide) ?_
            refine z_cle (tgt := 66) S (by omega) (by omega) dX5_onRepeating_53 (by decide) (fun h6 => ?_) (fun h6 => ?_)
            · refine z_ic S (k := 0) dX5_onRepeating_66 (by decide) ?_
              have e9 : zV6 f a b = (0, 0) := by unfold zV6; rw [if_neg (by omega), if_neg (by omega), if_neg (by omega)]
              exact z_wi hQ S hr hlk (zn_int _) hS hC (by rw [e9]; exact ⟨rfl, hJ⟩) dX5_onRepeating_67
            · refine lv_aload_n S.1 S.2.1 dX5_onRepeating_56 rfl (lv_at hl 0 rfl) ?_
              refine z_ic S (k := 1) dX5_onRepeating_57 (by decide) ?_
              refine z_bi S (k := 40) dX5_onRepeating_58 (by decide) ?_
              refine z_w1 (v0 := some (.int (nI 1))) (rest := []) (As := [.int (nI 1), .int (nI (40))]) S hZ hS (c_X5_deny l g hB fj 1 (40)) hB ci_X5_deny cv_X5_deny k355 ⟨rfl, rfl, by rw [hR]; exact Nat.le_of_ble_eq_true rfl, by rw [hR]; exact Nat.le_of_ble_eq_true rfl⟩ hJ (hJ.recv hZ.1 0 (by decide) rfl rfl rfl) hl.1 rfl (Nat.le_of_ble_eq_true rfl) dX5_onRepeating_60 ⟨by rw [hR]; exact Nat.le_of_ble_eq_true rfl, by rw [hR]; exact Nat.le_of_ble_eq_true rfl⟩ rfl (fun H1 locs1 hPn hCn hSn => ?_)
              have hS := hSn
              have hJ := hPn
              have hC := hC.tr (hCn.mono (b := oj) (k := 1) (by omega) (by omega))
              refine lv_goto (tgt := 67) S.1 S.2.1 dX5_onRepeating_63 (by decide) ?_
              have e9 : zV6 f a b = (1, 40) := by unfold zV6; rw [if_neg (by omega), if_neg (by omega), if_pos (by omega)]
              exact z_wi hQ S hr hlk (zn_int _) hS hC (by rw [e9]; exact ⟨rfl, hJ⟩) dX5_onRepeating_67
          · refine lv_aload_n S.1 S.2.1 dX5_onRepeating_33 rfl (lv_at hl 0 rfl) ?_
            refine z_ic S (k := 4) dX5_onRepeating_34 (by decide) ?_
            refine lv_aload_n S.1 S.2.1 dX5_onRepeating_35 rfl (lv_at hl 1 rfl) ?_
            refine z_get (v := .int (nI (f 0 3))) S hZ.1 hW 0 (by decide) rfl rfl rfl 3 (by decide) rfl k88 dX5_onRepeating_36 ?_
            refine z_w1 (v0 := some (.int (nI 4))) (rest := []) (As := [.int (nI 4), .int (nI (f 0 3))]) S hZ hS (c_X5_deny l g hB fj 4 (f 0 3)) hB ci_X5_deny cv_X5_deny k355 ⟨rfl, rfl, by rw [hR]; exact Nat.le_of_ble_eq_true rfl, by rw [hR]; exact Nat.le_of_ble_eq_true rfl⟩ hJ (hJ.recv hZ.1 0 (by decide) rfl rfl rfl) hl.1 rfl (Nat.le_of_ble_eq_true rfl) dX5_onRepeating_39 ⟨by rw [hR]; exact Nat.le_of_ble_eq_true rfl, by rw [hR]; exact Nat.le_of_ble_eq_true rfl⟩ rfl (fun H1 locs1 hPn hCn hSn => ?_)
            have hS := hSn
            have hJ := hPn
            have hC := hC.tr (hCn.mono (b := oj) (k := 1) (by omega) (by omega))
            have e9 : zV6 f a b = (4, f 0 3) := by unfold zV6; rw [if_neg (by omega), if_pos (by omega)]
            exact z_wi hQ S hr hlk (zn_int _) hS hC (by rw [e9]; exact ⟨rfl, hJ⟩) dX5_onRepeating_42
        · refine z_bi S (k := 9) dX5_onRepeating_22 (by decide) ?_
          have e9 : zV6 f a b = (9, 0) := by unfold zV6; rw [if_pos (by omega)]
          exact z_wi hQ S hr hlk (zn_int _) hS hC (by rw [e9]; exact ⟨rfl, hJ⟩) dX5_onRepeating_24
theorem ci_X5_onKnots : zCI yX5_onKnots cX5_onKnots 5 (some .int) 4 := ⟨k398, k7, by decide +kernel⟩
theorem cv_X5_onKnots : Cond.instanceMethod yX5_onKnots ∈ GW ∧ Cond.selects (yX5_onKnots).cls yX5_onKnots yX5_onKnots ∈ GW := ⟨k397, kp9⟩
set_option maxRecDepth 20000 in
set_option maxHeartbeats 4000000 in
/-- Judge.onKnots -/
theorem c_X5_onKnots (l : Launch) (g : ZG) {B : Nat} {oj : Nat} (hB : B ≤ oj) (fj : Nat → Nat → Nat) {ow : Nat} (f : Nat → Nat → Nat) (hw : zKo f) (a b : Nat) (ha : a < 2 ^ 31) (hb : b < 2 ^ 31) (q : Bool) : Met l yX5_onKnots (.code yX5_onKnots cX5_onKnots 5 (some .int) :: GW) { frames := 2, cells := 0, slots := 0, locals := 43 } (va_Pc [.ref oj, .ref ow, .int (nI a), .int (nI b), .int (nI q.toNat)] (zPre g B (fun H => zPm g oj 1 TJu fj H ∧ zPm g ow 4 TC f H))) (zX (fun w H => w = some (.int (nI (zV7 f a b q).1)) ∧ zPm g oj 1 TJu (zJd fj (zV7 f a b q)) H) oj 1) 0 0 (zA B) := by
  refine zMet (by decide) (Nat.le_of_ble_eq_true rfl) ?_
  intro p e R s m args below meth c Q ls hR hargs hQ S hr hlk hP hZ hS hnm hl
  have hl : lv_has ls 5 [(0, .ref (oj)), (1, .ref (ow)), (2, .int (nI (a))), (3, .int (nI (b))), (4, .int (nI (q).toNat))] := hl
  have hC : zCh1 oj 1 s.heap s.heap := zCh1.rf
  obtain ⟨hJ, hW⟩ := hP
  refine lv_aload_n S.1 S.2.1 dX5_onKnots_0 rfl (lv_at hl 1 rfl) ?_
  refine lv_iload_n S.1 S.2.1 dX5_onKnots_1 rfl (lv_at hl 2 rfl) ?_
  refine lv_iload_n S.1 S.2.1 dX5_onKnots_2 rfl (lv_at hl 3 rfl) ?_
  refine z_cV (v := some (.int (nI (decide (a < f 0 3 ∧ b < 16)).toNat))) (rest := []) (As := [.int (nI (a)), .int (nI (b))]) S hZ hS (c_X1_hasCell l g f hw a b ha hb) ci_X1_hasCell cv_X1_hasCell k399 ⟨rfl, rfl, by rw [hR]; decide, by rw [hR]; decide⟩ hW (hW.recv hZ.1 0 (by decide) rfl rfl rfl) hl.1 rfl (Nat.le_of_ble_eq_true rfl) dX5_onKnots_3 ⟨by rw [hR]; decide, by rw [hR]; decide⟩ rfl ?_
  refine z_bne (tgt := 12) S dX5_onKnots_6 (by decide) (fun h1 => ?_) (fun h1 => ?_)
  · have h1 := of_decide_eq_true h1
    refine lv_aload_n S.1 S.2.1 dX5_onKnots_12 rfl (lv_at hl 1 rfl) ?_
    refine lv_iload_n S.1 S.2.1 dX5_onKnots_13 rfl (lv_at hl 2 rfl) ?_
    refine lv_iload_n S.1 S.2.1 dX5_onKnots_14 rfl (lv_at hl 3 rfl) ?_
    refine z_cV (v := some (.int (nI (zBt (f 3 a) b).toNat))) (rest := []) (As := [.int (nI (a)), .int (nI (b))]) S hZ hS (c_X1_knottedAt l g f hw a b h1.1 h1.2) ci_X1_knottedAt cv_X1_knottedAt k410 ⟨rfl, rfl, by rw [hR]; decide, by rw [hR]; decide⟩ hW (hW.recv hZ.1 0 (by decide) rfl rfl rfl) hl.1 rfl (Nat.le_of_ble_eq_true rfl) dX5_onKnots_15 ⟨by rw [hR]; decide, by rw [hR]; decide⟩ rfl ?_
    refine lv_iload S.1 S.2.1 dX5_onKnots_18 (lv_at hl 4 rfl) ?_
    have hbb : ∀ x : Bool, x.toNat < 2 ^ 31 := fun x => by cases x <;> decide
    have hbi : ∀ x y : Bool, x.toNat = y.toNat ↔ x = y := by decide
    refine z_cne (tgt := 41) S (hbb _) (hbb _) dX5_onKnots_20 (by decide) (fun h2 => ?_) (fun h2 => ?_)
    · refine z_ic S (k := 0) dX5_onKnots_41 (by decide) ?_
      have e9 : zV7 f a b q = (0, 0) := by unfold zV7; rw [if_pos h1, if_neg (fun z => h2 ((hbi _ _).mpr z))]
      exact z_wi hQ S hr hlk (zn_int _) hS hC (by rw [e9]; exact ⟨rfl, hJ⟩) dX5_onKnots_42
    · refine lv_aload_n S.1 S.2.1 dX5_onKnots_23 rfl (lv_at hl 0 rfl) ?_
      refine z_ic S (k := 5) dX5_onKnots_24 (by decide) ?_
      refine lv_iload S.1 S.2.1 dX5_onKnots_25 (lv_at hl 4 rfl) ?_
      refine z_beq (tgt := 34) S dX5_onKnots_27 (by decide) (fun h3 => ?_) (fun h3 => ?_)
      · refine z_ic S (k := 0) dX5_onKnots_34 (by decide) ?_
        refine z_w1 (v0 := some (.int (nI 5))) (rest := []) (As := [.int (nI 5), .int (nI (0))]) S hZ hS (c_X5_deny l g hB fj 5 (0)) hB ci_X5_deny cv_X5_deny k355 ⟨rfl, rfl, by rw [hR]; exact Nat.le_of_ble_eq_true rfl, by rw [hR]; exact Nat.le_of_ble_eq_true rfl⟩ hJ (hJ.recv hZ.1 0 (by decide) rfl rfl rfl) hl.1 rfl (Nat.le_of_ble_eq_true rfl) dX5_onKnots_35 ⟨by rw [hR]; exact Nat.le_of_ble_eq_true rfl, by rw [hR]; exact Nat.le_of_ble_eq_true rfl⟩ rfl (fun H1 locs1 hPn hCn hSn => ?_)
        have hS := hSn
        have hJ := hPn
        have hC := hC.tr (hCn.mono (b := oj) (k := 1) (by omega) (by omega))
        refine lv_goto (tgt := 42) S.1 S.2.1 dX5_onKnots_38 (by decide) ?_
        have e9 : zV7 f a b q = (5, 0) := by unfold zV7; rw [if_pos h1, if_pos ((hbi _ _).mp h2), h3]; rfl
        exact z_wi hQ S hr hlk (zn_int _) hS hC (by rw [e9]; exact ⟨rfl, hJ⟩) dX5_onKnots_42
      · refine z_ic S (k := 1) dX5_onKnots_30 (by decide) ?_
        refine lv_goto (tgt := 35) S.1 S.2.1 dX5_onKnots_31 (by decide) ?_
        refine z_w1 (v0 := some (.int (nI 5))) (rest := []) (As := [.int (nI 5), .int (nI (1))]) S hZ hS (c_X5_deny l g hB fj 5 (1)) hB ci_X5_deny cv_X5_deny k355 ⟨rfl, rfl, by rw [hR]; exact Nat.le_of_ble_eq_true rfl, by rw [hR]; exact Nat.le_of_ble_eq_true rfl⟩ hJ (hJ.recv hZ.1 0 (by decide) rfl rfl rfl) hl.1 rfl (Nat.le_of_ble_eq_true rfl) dX5_onKnots_35 ⟨by rw [hR]; exact Nat.le_of_ble_eq_true rfl, by rw [hR]; exact Nat.le_of_ble_eq_true rfl⟩ rfl (fun H1 locs1 hPn hCn hSn => ?_)
        have hS := hSn
        have hJ := hPn
        have hC := hC.tr (hCn.mono (b := oj) (k := 1) (by omega) (by omega))
        refine lv_goto (tgt := 42) S.1 S.2.1 dX5_onKnots_38 (by decide) ?_
        have e9 : zV7 f a b q = (5, 1) := by unfold zV7; rw [if_pos h1, if_pos ((hbi _ _).mp h2), h3]; rfl
        exact z_wi hQ S hr hlk (zn_int _) hS hC (by rw [e9]; exact ⟨rfl, hJ⟩) dX5_onKnots_42
  · refine z_bi S (k := 10) dX5_onKnots_9 (by decide) ?_
    have e9 : zV7 f a b q = (10, 0) := by unfold zV7; rw [if_neg (of_decide_eq_false h1)]
    exact z_wi hQ S hr hlk (zn_int _) hS hC (by rw [e9]; exact ⟨rfl, hJ⟩) dX5_onKnots_11
theorem ci_X5_onMending : zCI yX5_onMending cX5_onMending 3 (some .int) 2 := ⟨k417, k7, by decide +kernel⟩
theorem cv_X5_onMending : Cond.instanceMethod yX5_onMending ∈ GW ∧ Cond.selects (yX5_onMending).cls yX5_onMending yX5_onMending ∈ GW := ⟨k416, kp10⟩
set_option maxRecDepth 20000 in
set_option maxHeartbeats 4000000 in
/-- Judge.onMending -/
theorem c_X5_onMending (l : Launch) (g : ZG) {B : Nat} {oj : Nat} (hB : B ≤ oj) (fj : Nat → Nat → Nat) {o : Nat} (v : zL) (hv : zOk v) (a : Nat) (ha : a < 65536) : Met l yX5_onMending (.code yX5_onMending cX5_onMending 3 (some .int) :: GW) { frames := 1, cells := 0, slots := 0, locals := 22 } (va_Pc [.ref oj, .ref o, .int (nI a)] (zPre g B (fun H => zPm g oj 1 TJu fj H ∧ zLo g o v H))) (zX (fun w H => w = some (.int (nI (zV9 v a).1)) ∧ zPm g oj 1 TJu (zJd fj (zV9 v a)) H) oj 1) 0 0 (zA B) := by
  refine zMet (by decide) (Nat.le_of_ble_eq_true rfl) ?_
  intro p e R s m args below meth c Q ls hR hargs hQ S hr hlk hP hZ hS hnm hl
  have hl : lv_has ls 3 [(0, .ref (oj)), (1, .ref (o)), (2, .int (nI (a)))] := hl
  have hC : zCh1 oj 1 s.heap s.heap := zCh1.rf
  obtain ⟨hJ, hPL⟩ := hP
  obtain ⟨hP0, hP1, hP2, hP3, hP4⟩ := id hPL
  have he3 := hv.2.2.1.2
  have he4 := hv.2.2.2.2
  refine lv_iload_n S.1 S.2.1 dX5_onMending_0 rfl (lv_at hl 2 rfl) ?_
  refine z_cS (v := some (.int (nI (decide (a = 108 ∨ a = 114)).toNat))) (rest := []) (As := [.int (nI (a))]) S hZ hS (c_X8_isSide l g a ha (PH := fun _ => True)) ci_X8_isSide cv_X8_isSide k418 ⟨rfl, rfl, by rw [hR]; decide, by rw [hR]; decide⟩ trivial hl.1 rfl (Nat.le_of_ble_eq_true rfl) dX5_onMending_1 ⟨by rw [hR]; decide, by rw [hR]; decide⟩ rfl ?_
  refine z_bne (tgt := 10) S dX5_onMending_4 (by decide) (fun h1 => ?_) (fun h1 => ?_)
  · have h1 := of_decide_eq_true h1
    refine lv_aload_n S.1 S.2.1 dX5_onMending_10 rfl (lv_at hl 1 rfl) ?_
    refine lv_iload_n S.1 S.2.1 dX5_onMending_11 rfl (lv_at hl 2 rfl) ?_
    refine z_cV (v := some (.ref (if a = 108 then o + 10 else o + 11))) (rest := []) (As := [.int (nI (a))]) S hZ hS (c_X8_edgeAt l g v a ha) ci_X8_edgeAt cv_X8_edgeAt k421 ⟨rfl, rfl, by rw [hR]; decide, by rw [hR]; decide⟩ hPL (hP0.recv hZ.1 0 (by decide) rfl rfl rfl) hl.1 rfl (Nat.le_of_ble_eq_true rfl) dX5_onMending_12 ⟨by rw [hR]; decide, by rw [hR]; decide⟩ rfl ?_
    by_cases h2 : a = 108
    · rw [if_pos h2]
      refine z_get (v := .int (nI ((v 3) 0 1))) S hZ.1 hP3 0 (by decide) rfl rfl rfl 1 (by decide) rfl k109 dX5_onMending_15 ?_
      refine z_ine (tgt := 30) S (by omega) dX5_onMending_18 (by decide) (fun h3 => ?_) (fun h3 => ?_)
      · refine z_ic S (k := 0) dX5_onMending_30 (by decide) ?_
        have e9 : zV9 v a = (0, 0) := by unfold zV9; rw [if_pos (by omega), if_neg (by omega)]
        exact z_wi hQ S hr hlk (zn_int _) hS hC (by rw [e9]; exact ⟨rfl, hJ⟩) dX5_onMending_31
      · refine lv_aload_n S.1 S.2.1 dX5_onMending_21 rfl (lv_at hl 0 rfl) ?_
        refine z_ic S (k := 5) dX5_onMending_22 (by decide) ?_
        refine z_ic S (k := 0) dX5_onMending_23 (by decide) ?_
        refine z_w1 (v0 := some (.int (nI 5))) (rest := []) (As := [.int (nI 5), .int (nI (0))]) S hZ hS (c_X5_deny l g hB fj 5 (0)) hB ci_X5_deny cv_X5_deny k355 ⟨rfl, rfl, by rw [hR]; exact Nat.le_of_ble_eq_true rfl, by rw [hR]; exact Nat.le_of_ble_eq_true rfl⟩ hJ (hJ.recv hZ.1 0 (by decide) rfl rfl rfl) hl.1 rfl (Nat.le_of_ble_eq_true rfl) dX5_onMending_24 ⟨by rw [hR]; exact Nat.le_of_ble_eq_true rfl, by rw [hR]; exact Nat.le_of_ble_eq_true rfl⟩ rfl (fun H1 locs1 hPn hCn hSn => ?_)
        have hS := hSn
        have hJ := hPn
        have hC := hC.tr (hCn.mono (b := oj) (k := 1) (by omega) (by omega))
        refine lv_goto (tgt := 31) S.1 S.2.1 dX5_onMending_27 (by decide) ?_
        have e9 : zV9 v a = (5, 0) := by unfold zV9; rw [if_pos (by omega), if_pos (by omega)]
        exact z_wi hQ S hr hlk (zn_int _) hS hC (by rw [e9]; exact ⟨rfl, hJ⟩) dX5_onMending_31
    · rw [if_neg h2]
      refine z_get (v := .int (nI ((v 4) 0 1))) S hZ.1 hP4 0 (by decide) rfl rfl rfl 1 (by decide) rfl k109 dX5_onMending_15 ?_
      refine z_ine (tgt := 30) S (by omega) dX5_onMending_18 (by decide) (fun h3 => ?_) (fun h3 => ?_)
      · refine z_ic S (k := 0) dX5_onMending_30 (by decide) ?_
        have e9 : zV9 v a = (0, 0) := by unfold zV9; rw [if_neg (by omega), if_pos (by omega), if_neg (by omega)]
        exact z_wi hQ S hr hlk (zn_int _) hS hC (by rw [e9]; exact ⟨rfl, hJ⟩) dX5_onMending_31
      · refine lv_aload_n S.1 S.2.1 dX5_onMending_21 rfl (lv_at hl 0 rfl) ?_
        refine z_ic S (k := 5) dX5_onMending_22 (by decide) ?_
        refine z_ic S (k := 0) dX5_onMending_23 (by decide) ?_
        refine z_w1 (v0 := some (.int (nI 5))) (rest := []) (As := [.int (nI 5), .int (nI (0))]) S hZ hS (c_X5_deny l g hB fj 5 (0)) hB ci_X5_deny cv_X5_deny k355 ⟨rfl, rfl, by rw [hR]; exact Nat.le_of_ble_eq_true rfl, by rw [hR]; exact Nat.le_of_ble_eq_true rfl⟩ hJ (hJ.recv hZ.1 0 (by decide) rfl rfl rfl) hl.1 rfl (Nat.le_of_ble_eq_true rfl) dX5_onMending_24 ⟨by rw [hR]; exact Nat.le_of_ble_eq_true rfl, by rw [hR]; exact Nat.le_of_ble_eq_true rfl⟩ rfl (fun H1 locs1 hPn hCn hSn => ?_)
        have hS := hSn
        have hJ := hPn
        have hC := hC.tr (hCn.mono (b := oj) (k := 1) (by omega) (by omega))
        refine lv_goto (tgt := 31) S.1 S.2.1 dX5_onMending_27 (by decide) ?_
        have e9 : zV9 v a = (5, 0) := by unfold zV9; rw [if_neg (by omega), if_pos (by omega), if_pos (by omega)]
        exact z_wi hQ S hr hlk (zn_int _) hS hC (by rw [e9]; exact ⟨rfl, hJ⟩) dX5_onMending_31
  · have h1 := of_decide_eq_false h1
    refine z_bi S (k := 9) dX5_onMending_7 (by decide) ?_
    have e9 : zV9 v a = (9, 0) := by unfold zV9; rw [if_neg (by omega), if_neg (by omega)]
    exact z_wi hQ S hr hlk (zn_int _) hS hC (by rw [e9]; exact ⟨rfl, hJ⟩) dX5_onMending_9
theorem ci_X5_verdictOn : zCI yX5_verdictOn cX5_verdictOn 5 (some .int) 2 := ⟨k341, k7, by decide +kernel⟩
theorem cv_X5_verdictOn : Cond.instanceMethod yX5_verdictOn ∈ GW ∧ Cond.selects (yX5_verdictOn).cls yX5_verdictOn yX5_verdictOn ∈ GW := ⟨k339, k340⟩
set_option maxRecDepth 20000 in
set_option maxHeartbeats 4000000 in
/-- Judge.verdictOn(command, loom), wick -/
theorem c_X5_verdictOn_0 (l : Launch) (g : ZG) {B : Nat} {oj o oc : Nat} (hB : B ≤ oj) (fj : Nat → Nat → Nat) (v : zL) (hv : zOk v) (fc : Nat → Nat → Nat) (hk : fc 0 0 = 0) (h1 : fc 0 1 < 2 ^ 31) (h2 : fc 0 2 < 2 ^ 31) (h3 : fc 0 3 < 2 ^ 31) : Met l yX5_verdictOn (.code yX5_verdictOn cX5_verdictOn 5 (some .int) :: GW) { frames := 3, cells := 0, slots := 0, locals := 67 } (va_Pc [.ref oj, .ref oc, .ref o] (zPre g B (fun H => zPm g oj 1 TJu fj H ∧ zLo g o v H ∧ zPm g oc 1 TCo fc H))) (zX (fun w H => w = some (.int (nI (zVd v 0 (fc 0 1) (fc 0 2) (fc 0 3)).1)) ∧ zPm g oj 1 TJu (zJd fj (zVd v 0 (fc 0 1) (fc 0 2) (fc 0 3))) H) oj 1) 0 0 (zA B) := by
  refine zMet (by decide) (Nat.le_of_ble_eq_true rfl) ?_
  intro p e R s m args below meth c Q ls hR hargs hQ S hr hlk hP hZ hS hnm hl
  have hl : lv_has ls 5 [(0, .ref (oj)), (1, .ref (oc)), (2, .ref (o))] := hl
  have hC : zCh1 oj 1 s.heap s.heap := zCh1.rf
  obtain ⟨hJ, hPL, hC0⟩ := hP
  obtain ⟨hP0, hP1, hP2, hP3, hP4⟩ := id hPL
  refine lv_aload_n S.1 S.2.1 dX5_verdictOn_0 rfl (lv_at hl 1 rfl) ?_
  refine z_get (v := .int (nI (fc 0 1))) S hZ.1 hC0 0 (by decide) rfl rfl rfl 1 (by decide) rfl k183 dX5_verdictOn_1 ?_
  refine lv_istore_n (lv' := [(3, .int (nI (fc 0 1))), (0, .ref (oj)), (1, .ref (oc)), (2, .ref (o))]) S.1 S.2.1 dX5_verdictOn_4 rfl hl (by decide) rfl (fun ls hl => ?_)
  refine lv_aload_n S.1 S.2.1 dX5_verdictOn_5 rfl (lv_at hl 2 rfl) ?_
  refine z_get (v := .int (nI (fc 0 2))) S hZ.1 hC0 0 (by decide) rfl rfl rfl 2 (by decide) rfl k186 dX5_verdictOn_6 ?_
  refine lv_istore (lv' := [(4, .int (nI (fc 0 2))), (3, .int (nI (fc 0 1))), (0, .ref (oj)), (1, .ref (oc)), (2, .ref (o))]) S.1 S.2.1 dX5_verdictOn_9 hl (by decide) rfl (fun ls hl => ?_)
  refine va_gets (A := zA B) S.1 S.2.1 hZ.swZ hS S.2.2.2.1 (S.2.2.2.2 _ k342) (fun _ h => h) dX5_verdictOn_11 ?_
  refine lv_aload_n S.1 S.2.1 dX5_verdictOn_14 rfl (lv_at hl 3 rfl) ?_
  refine z_get (v := .ref (g.2 1 (fc 0 0))) S hZ.1 hC0 0 (by decide) rfl rfl rfl 0 (by decide) rfl k181 dX5_verdictOn_15 ?_
  rw [hk]
  refine z_ord S hZ hS 0 (by decide) k344 ⟨by rw [hR]; exact Nat.le_of_ble_eq_true rfl, by rw [hR]; exact Nat.le_of_ble_eq_true rfl⟩ hl.1 (Nat.le_of_ble_eq_true rfl) dX5_verdictOn_18 ⟨by rw [hR]; exact Nat.le_of_ble_eq_true rfl, by rw [hR]; exact Nat.le_of_ble_eq_true rfl⟩ ?_
  refine va_ti (A := zA B) (v := .int (nI (zSw 0))) S.1 S.2.1 hZ.swT hS (vp_in_nI (by decide) (by decide)) (by rw [nI_clamp (by decide)]) dX5_verdictOn_21 ?_
  refine lv_tableIn (off := 50) (tgt := 72) S.1 S.2.1 dX5_verdictOn_22 (by decide) (by decide) (by decide) (by decide) ?_
  refine lv_aload_n S.1 S.2.1 dX5_verdictOn_72 rfl (lv_at hl 2 rfl) ?_
  refine lv_aload_n S.1 S.2.1 dX5_verdictOn_73 rfl (lv_at hl 4 rfl) ?_
  refine z_get (v := .ref (o + 1)) S hZ.1 hP0 0 (by decide) rfl rfl rfl 0 (by decide) rfl k117 dX5_verdictOn_74 ?_
  refine lv_iload_n S.1 S.2.1 dX5_verdictOn_77 rfl (lv_at hl 1 rfl) ?_
  refine lv_iload S.1 S.2.1 dX5_verdictOn_78 (lv_at hl 0 rfl) ?_
  refine lv_aload_n S.1 S.2.1 dX5_verdictOn_80 rfl (lv_at hl 3 rfl) ?_
  refine z_get (v := .int (nI (fc 0 3))) S hZ.1 hC0 0 (by decide) rfl rfl rfl 3 (by decide) rfl k190 dX5_verdictOn_81 ?_
  refine z_w1 (v0 := some (.int (nI (zVd v 0 (fc 0 1) (fc 0 2) (fc 0 3)).1))) (rest := []) (As := [.ref (o + 1), .int (nI (fc 0 1)), .int (nI (fc 0 2)), .int (nI (fc 0 3))]) S hZ hS (c_X5_onNewWick l g hB fj (v 1) hv.1 _ _ _ h1 h2 h3) hB ci_X5_onNewWick cv_X5_onNewWick k350 ⟨rfl, rfl, by rw [hR]; exact Nat.le_of_ble_eq_true rfl, by rw [hR]; exact Nat.le_of_ble_eq_true rfl⟩ ⟨hJ, hP1⟩ (hJ.recv hZ.1 0 (by decide) rfl rfl rfl) hl.1 rfl (Nat.le_of_ble_eq_true rfl) dX5_verdictOn_84 ⟨by rw [hR]; exact Nat.le_of_ble_eq_true rfl, by rw [hR]; exact Nat.le_of_ble_eq_true rfl⟩ rfl (fun H1 locs1 hPn hCn hSn => ?_)
  exact z_wi hQ S hr hlk (zn_int _) hSn (hC.tr hCn) ⟨rfl, hPn⟩ dX5_verdictOn_87
set_option maxRecDepth 20000 in
set_option maxHeartbeats 4000000 in
/-- Judge.verdictOn(command, loom), light -/
theorem c_X5_verdictOn_1 (l : Launch) (g : ZG) {B : Nat} {oj o oc : Nat} (hB : B ≤ oj) (fj : Nat → Nat → Nat) (v : zL) (hv : zOk v) (fc : Nat → Nat → Nat) (hk : fc 0 0 = 1) (h1 : fc 0 1 < 2 ^ 31) (h2 : fc 0 2 < 2 ^ 31) (h3 : fc 0 3 < 2 ^ 31) : Met l yX5_verdictOn (.code yX5_verdictOn cX5_verdictOn 5 (some .int) :: GW) { frames := 3, cells := 0, slots := 0, locals := 67 } (va_Pc [.ref oj, .ref oc, .ref o] (zPre g B (fun H => zPm g oj 1 TJu fj H ∧ zLo g o v H ∧ zPm g oc 1 TCo fc H))) (zX (fun w H => w = some (.int (nI (zVd v 1 (fc 0 1) (fc 0 2) (fc 0 3)).1)) ∧ zPm g oj 1 TJu (zJd fj (zVd v 1 (fc 0 1) (fc 0 2) (fc 0 3))) H) oj 1) 0 0 (zA B) := by
  refine zMet (by decide) (Nat.le_of_ble_eq_true rfl) ?_
  intro p e R s m args below meth c Q ls hR hargs hQ S hr hlk hP hZ hS hnm hl
  have hl : lv_has ls 5 [(0, .ref (oj)), (1, .ref (oc)), (2, .ref (o))] := hl
  have hC : zCh1 oj 1 s.heap s.heap := zCh1.rf
  obtain ⟨hJ, hPL, hC0⟩ := hP
  obtain ⟨hP0, hP1, hP2, hP3, hP4⟩ := id hPL
  refine lv_aload_n S.1 S.2.1 dX5_verdictOn_0 rfl (lv_at hl 1 rfl) ?_
  refine z_get (v := .int (nI (fc 0 1))) S hZ.1 hC0 0 (by decide) rfl rfl rfl 1 (by decide) rfl k183 dX5_verdictOn_1 ?_
  refine lv_istore_n (lv' := [(3, .int (nI (fc 0 1))), (0, .ref (oj)), (1, .ref (oc)), (2, .ref (o))]) S.1 S.2.1 dX5_verdictOn_4 rfl hl (by decide) rfl (fun ls hl => ?_)
  refine lv_aload_n S.1 S.2.1 dX5_verdictOn_5 rfl (lv_at hl 2 rfl) ?_
  refine z_get (v := .int (nI (fc 0 2))) S hZ.1 hC0 0 (by decide) rfl rfl rfl 2 (by decide) rfl k186 dX5_verdictOn_6 ?_
  refine lv_istore (lv' := [(4, .int (nI (fc 0 2))), (3, .int (nI (fc 0 1))), (0, .ref (oj)), (1, .ref (oc)), (2, .ref (o))]) S.1 S.2.1 dX5_verdictOn_9 hl (by decide) rfl (fun ls hl => ?_)
  refine va_gets (A := zA B) S.1 S.2.1 hZ.swZ hS S.2.2.2.1 (S.2.2.2.2 _ k342) (fun _ h => h) dX5_verdictOn_11 ?_
  refine lv_aload_n S.1 S.2.1 dX5_verdictOn_14 rfl (lv_at hl 3 rfl) ?_
  refine z_get (v := .ref (g.2 1 (fc 0 0))) S hZ.1 hC0 0 (by decide) rfl rfl rfl 0 (by decide) rfl k181 dX5_verdictOn_15 ?_
  rw [hk]
  refine z_ord S hZ hS 1 (by decide) k344 ⟨by rw [hR]; exact Nat.le_of_ble_eq_true rfl, by rw [hR]; exact Nat.le_of_ble_eq_true rfl⟩ hl.1 (Nat.le_of_ble_eq_true rfl) dX5_verdictOn_18 ⟨by rw [hR]; exact Nat.le_of_ble_eq_true rfl, by rw [hR]; exact Nat.le_of_ble_eq_true rfl⟩ ?_
  refine va_ti (A := zA B) (v := .int (nI (zSw 1))) S.1 S.2.1 hZ.swT hS (vp_in_nI (by decide) (by decide)) (by rw [nI_clamp (by decide)]) dX5_verdictOn_21 ?_
  refine lv_tableIn (off := 66) (tgt := 88) S.1 S.2.1 dX5_verdictOn_22 (by decide) (by decide) (by decide) (by decide) ?_
  refine lv_aload_n S.1 S.2.1 dX5_verdictOn_88 rfl (lv_at hl 2 rfl) ?_
  refine lv_aload_n S.1 S.2.1 dX5_verdictOn_89 rfl (lv_at hl 4 rfl) ?_
  refine z_get (v := .ref (o + 1)) S hZ.1 hP0 0 (by decide) rfl rfl rfl 0 (by decide) rfl k117 dX5_verdictOn_90 ?_
  refine lv_iload_n S.1 S.2.1 dX5_verdictOn_93 rfl (lv_at hl 1 rfl) ?_
  refine z_w1 (v0 := some (.int (nI (zVd v 1 (fc 0 1) (fc 0 2) (fc 0 3)).1))) (rest := []) (As := [.ref (o + 1), .int (nI (fc 0 1))]) S hZ hS (c_X5_onLighting l g hB fj (v 1) hv.1 _ h1) hB ci_X5_onLighting cv_X5_onLighting k359 ⟨rfl, rfl, by rw [hR]; exact Nat.le_of_ble_eq_true rfl, by rw [hR]; exact Nat.le_of_ble_eq_true rfl⟩ ⟨hJ, hP1⟩ (hJ.recv hZ.1 0 (by decide) rfl rfl rfl) hl.1 rfl (Nat.le_of_ble_eq_true rfl) dX5_verdictOn_94 ⟨by rw [hR]; exact Nat.le_of_ble_eq_true rfl, by rw [hR]; exact Nat.le_of_ble_eq_true rfl⟩ rfl (fun H1 locs1 hPn hCn hSn => ?_)
  exact z_wi hQ S hr hlk (zn_int _) hSn (hC.tr hCn) ⟨rfl, hPn⟩ dX5_verdictOn_97
set_option maxRecDepth 20000 in
set_option maxHeartbeats 4000000 in
/-- Judge.verdictOn(command, loom), snuff -/
theorem c_X5_verdictOn_2 (l : Launch) (g : ZG) {B : Nat} {oj o oc : Nat} (hB : B ≤ oj) (fj : Nat → Nat → Nat) (v : zL) (hv : zOk v) (fc : Nat → Nat → Nat) (hk : fc 0 0 = 2) (h1 : fc 0 1 < 2 ^ 31) (h2 : fc 0 2 < 2 ^ 31) (h3 : fc 0 3 < 2 ^ 31) : Met l yX5_verdictOn (.code yX5_verdictOn cX5_verdictOn 5 (some .int) :: GW) { frames := 3, cells := 0, slots := 0, locals := 67 } (va_Pc [.ref oj, .ref oc, .ref o] (zPre g B (fun H => zPm g oj 1 TJu fj H ∧ zLo g o v H ∧ zPm g oc 1 TCo fc H))) (zX (fun w H => w = some (.int (nI (zVd v 2 (fc 0 1) (fc 0 2) (fc 0 3)).1)) ∧ zPm g oj 1 TJu (zJd fj (zVd v 2 (fc 0 1) (fc 0 2) (fc 0 3))) H) oj 1) 0 0 (zA B) := by
  refine zMet (by decide) (Nat.le_of_ble_eq_true rfl) ?_
  intro p e R s m args below meth c Q ls hR hargs hQ S hr hlk hP hZ hS hnm hl
  have hl : lv_has ls 5 [(0, .ref (oj)), (1, .ref (oc)), (2, .ref (o))] := hl
  have hC : zCh1 oj 1 s.heap s.heap := zCh1.rf
  obtain ⟨hJ, hPL, hC0⟩ := hP
  obtain ⟨hP0, hP1, hP2, hP3, hP4⟩ := id hPL
  refine lv_aload_n S.1 S.2.1 dX5_verdictOn_0 rfl (lv_at hl 1 rfl) ?_
  refine z_get (v := .int (nI (fc 0 1))) S hZ.1 hC0 0 (by decide) rfl rfl rfl 1 (by decide) rfl k183 dX5_verdictOn_1 ?_
  refine lv_istore_n (lv' := [(3, .int (nI (fc 0 1))), (0, .ref (oj)), (1, .ref (oc)), (2, .ref (o))]) S.1 S.2.1 dX5_verdictOn_4 rfl hl (by decide) rfl (fun ls hl => ?_)
  refine lv_aload_n S.1 S.2.1 dX5_verdictOn_5 rfl (lv_at hl 2 rfl) ?_
  refine z_get (v := .int (nI (fc 0 2))) S hZ.1 hC0 0 (by decide) rfl rfl rfl 2 (by decide) rfl k186 dX5_verdictOn_6 ?_
  refine lv_istore (lv' := [(4, .int (nI (fc 0 2))), (3, .int (nI (fc 0 1))), (0, .ref (oj)), (1, .ref (oc)), (2, .ref (o))]) S.1 S.2.1 dX5_verdictOn_9 hl (by decide) rfl (fun ls hl => ?_)
  refine va_gets (A := zA B) S.1 S.2.1 hZ.swZ hS S.2.2.2.1 (S.2.2.2.2 _ k342) (fun _ h => h) dX5_verdictOn_11 ?_
  refine lv_aload_n S.1 S.2.1 dX5_verdictOn_14 rfl (lv_at hl 3 rfl) ?_
  refine z_get (v := .ref (g.2 1 (fc 0 0))) S hZ.1 hC0 0 (by decide) rfl rfl rfl 0 (by decide) rfl k181 dX5_verdictOn_15 ?_
  rw [hk]
  refine z_ord S hZ hS 2 (by decide) k344 ⟨by rw [hR]; exact Nat.le_of_ble_eq_true rfl, by rw [hR]; exact Nat.le_of_ble_eq_true rfl⟩ hl.1 (Nat.le_of_ble_eq_true rfl) dX5_verdictOn_18 ⟨by rw [hR]; exact Nat.le_of_ble_eq_true rfl, by rw [hR]; exact Nat.le_of_ble_eq_true rfl⟩ ?_
  refine va_ti (A := zA B) (v := .int (nI (zSw 2))) S.1 S.2.1 hZ.swT hS (vp_in_nI (by decide) (by decide)) (by rw [nI_clamp (by decide)]) dX5_verdictOn_21 ?_
  refine lv_tableIn (off := 76) (tgt := 98) S.1 S.2.1 dX5_verdictOn_22 (by decide) (by decide) (by decide) (by decide) ?_
  refine lv_aload_n S.1 S.2.1 dX5_verdictOn_98 rfl (lv_at hl 2 rfl) ?_
  refine lv_aload_n S.1 S.2.1 dX5_verdictOn_99 rfl (lv_at hl 4 rfl) ?_
  refine z_get (v := .ref (o + 1)) S hZ.1 hP0 0 (by decide) rfl rfl rfl 0 (by decide) rfl k117 dX5_verdictOn_100 ?_
  refine lv_iload_n S.1 S.2.1 dX5_verdictOn_103 rfl (lv_at hl 1 rfl) ?_
  refine z_w1 (v0 := some (.int (nI (zVd v 2 (fc 0 1) (fc 0 2) (fc 0 3)).1))) (rest := []) (As := [.ref (o + 1), .int (nI (fc 0 1))]) S hZ hS (c_X5_onSnuffing l g hB fj (v 1) hv.1 _ h1) hB ci_X5_onSnuffing cv_X5_onSnuffing k367 ⟨rfl, rfl, by rw [hR]; exact Nat.le_of_ble_eq_true rfl, by rw [hR]; exact Nat.le_of_ble_eq_true rfl⟩ ⟨hJ, hP1⟩ (hJ.recv hZ.1 0 (by decide) rfl rfl rfl) hl.1 rfl (Nat.le_of_ble_eq_true rfl) dX5_verdictOn_104 ⟨by rw [hR]; exact Nat.le_of_ble_eq_true rfl, by rw [hR]; exact Nat.le_of_ble_eq_true rfl⟩ rfl (fun H1 locs1 hPn hCn hSn => ?_)
  exact z_wi hQ S hr hlk (zn_int _) hSn (hC.tr hCn) ⟨rfl, hPn⟩ dX5_verdictOn_107
set_option maxRecDepth 20000 in
set_option maxHeartbeats 4000000 in
/-- Judge.verdictOn(command, loom), wax -/
theorem c_X5_verdictOn_3 (l : Launch) (g : ZG) {B : Nat} {oj o oc : Nat} (hB : B ≤ oj) (fj : Nat → Nat → Nat) (v : zL) (hv : zOk v) (fc : Nat → Nat → Nat) (hk : fc 0 0 = 3) (h1 : fc 0 1 < 2 ^ 31) (h2 : fc 0 2 < 2 ^ 31) (h3 : fc 0 3 < 2 ^ 31) : Met l yX5_verdictOn (.code yX5_verdictOn cX5_verdictOn 5 (some .int) :: GW) { frames := 3, cells := 0, slots := 0, locals := 67 } (va_Pc [.ref oj, .ref oc, .ref o] (zPre g B (fun H => zPm g oj 1 TJu fj H ∧ zLo g o v H ∧ zPm g oc 1 TCo fc H))) (zX (fun w H => w = some (.int (nI (zVd v 3 (fc 0 1) (fc 0 2) (fc 0 3)).1)) ∧ zPm g oj 1 TJu (zJd fj (zVd v 3 (fc 0 1) (fc 0 2) (fc 0 3))) H) oj 1) 0 0 (zA B) := by
  refine zMet (by decide) (Nat.le_of_ble_eq_true rfl) ?_
  intro p e R s m args below meth c Q ls hR hargs hQ S hr hlk hP hZ hS hnm hl
  have hl : lv_has ls 5 [(0, .ref (oj)), (1, .ref (oc)), (2, .ref (o))] := hl
  have hC : zCh1 oj 1 s.heap s.heap := zCh1.rf
  obtain ⟨hJ, hPL, hC0⟩ := hP
  obtain ⟨hP0, hP1, hP2, hP3, hP4⟩ := id hPL
  refine lv_aload_n S.1 S.2.1 dX5_verdictOn_0 rfl (lv_at hl 1 rfl) ?_
  refine z_get (v := .int (nI (fc 0 1))) S hZ.1 hC0 0 (by decide) rfl rfl rfl 1 (by decide) rfl k183 dX5_verdictOn_1 ?_
  refine lv_istore_n (lv' := [(3, .int (nI (fc 0 1))), (0, .ref (oj)), (1, .ref (oc)), (2, .ref (o))]) S.1 S.2.1 dX5_verdictOn_4 rfl hl (by decide) rfl (fun ls hl => ?_)
  refine lv_aload_n S.1 S.2.1 dX5_verdictOn_5 rfl (lv_at hl 2 rfl) ?_
  refine z_get (v := .int (nI (fc 0 2))) S hZ.1 hC0 0 (by decide) rfl rfl rfl 2 (by decide) rfl k186 dX5_verdictOn_6 ?_
  refine lv_istore (lv' := [(4, .int (nI (fc 0 2))), (3, .int (nI (fc 0 1))), (0, .ref (oj)), (1, .ref (oc)), (2, .ref (o))]) S.1 S.2.1 dX5_verdictOn_9 hl (by decide) rfl (fun ls hl => ?_)
  refine va_gets (A := zA B) S.1 S.2.1 hZ.swZ hS S.2.2.2.1 (S.2.2.2.2 _ k342) (fun _ h => h) dX5_verdictOn_11 ?_
  refine lv_aload_n S.1 S.2.1 dX5_verdictOn_14 rfl (lv_at hl 3 rfl) ?_
  refine z_get (v := .ref (g.2 1 (fc 0 0))) S hZ.1 hC0 0 (by decide) rfl rfl rfl 0 (by decide) rfl k181 dX5_verdictOn_15 ?_
  rw [hk]
  refine z_ord S hZ hS 3 (by decide) k344 ⟨by rw [hR]; exact Nat.le_of_ble_eq_true rfl, by rw [hR]; exact Nat.le_of_ble_eq_true rfl⟩ hl.1 (Nat.le_of_ble_eq_true rfl) dX5_verdictOn_18 ⟨by rw [hR]; exact Nat.le_of_ble_eq_true rfl, by rw [hR]; exact Nat.le_of_ble_eq_true rfl⟩ ?_
  refine va_ti (A := zA B) (v := .int (nI (zSw 3))) S.1 S.2.1 hZ.swT hS (vp_in_nI (by decide) (by decide)) (by rw [nI_clamp (by decide)]) dX5_verdictOn_21 ?_
  refine lv_tableIn (off := 86) (tgt := 108) S.1 S.2.1 dX5_verdictOn_22 (by decide) (by decide) (by decide) (by decide) ?_
  refine lv_aload_n S.1 S.2.1 dX5_verdictOn_108 rfl (lv_at hl 2 rfl) ?_
  refine lv_aload_n S.1 S.2.1 dX5_verdictOn_109 rfl (lv_at hl 4 rfl) ?_
  refine z_get (v := .ref (o + 1)) S hZ.1 hP0 0 (by decide) rfl rfl rfl 0 (by decide) rfl k117 dX5_verdictOn_110 ?_
  refine lv_iload_n S.1 S.2.1 dX5_verdictOn_113 rfl (lv_at hl 1 rfl) ?_
  refine lv_iload S.1 S.2.1 dX5_verdictOn_114 (lv_at hl 0 rfl) ?_
  refine z_w1 (v0 := some (.int (nI (zVd v 3 (fc 0 1) (fc 0 2) (fc 0 3)).1))) (rest := []) (As := [.ref (o + 1), .int (nI (fc 0 1)), .int (nI (fc 0 2))]) S hZ hS (c_X5_onMoreWax l g hB fj (v 1) hv.1 _ _ h1 h2) hB ci_X5_onMoreWax cv_X5_onMoreWax k371 ⟨rfl, rfl, by rw [hR]; exact Nat.le_of_ble_eq_true rfl, by rw [hR]; exact Nat.le_of_ble_eq_true rfl⟩ ⟨hJ, hP1⟩ (hJ.recv hZ.1 0 (by decide) rfl rfl rfl) hl.1 rfl (Nat.le_of_ble_eq_true rfl) dX5_verdictOn_116 ⟨by rw [hR]; exact Nat.le_of_ble_eq_true rfl, by rw [hR]; exact Nat.le_of_ble_eq_true rfl⟩ rfl (fun H1 locs1 hPn hCn hSn => ?_)
  exact z_wi hQ S hr hlk (zn_int _) hSn (hC.tr hCn) ⟨rfl, hPn⟩ dX5_verdictOn_119
set_option maxRecDepth 20000 in
set_option maxHeartbeats 4000000 in
/-- Judge.verdictOn(command, loom), weave -/
theorem c_X5_verdictOn_4 (l : Launch) (g : ZG) {B : Nat} {oj o oc : Nat} (hB : B ≤ oj) (fj : Nat → Nat → Nat) (v : zL) (hv : zOk v) (fc : Nat → Nat → Nat) (hk : fc 0 0 = 4) (h1 : fc 0 1 < 2 ^ 31) (h2 : fc 0 2 < 2 ^ 31) (h3 : fc 0 3 < 2 ^ 31) : Met l yX5_verdictOn (.code yX5_verdictOn cX5_verdictOn 5 (some .int) :: GW) { frames := 3, cells := 0, slots := 0, locals := 67 } (va_Pc [.ref oj, .ref oc, .ref o] (zPre g B (fun H => zPm g oj 1 TJu fj H ∧ zLo g o v H ∧ zPm g oc 1 TCo fc H))) (zX (fun w H => w = some (.int (nI (zVd v 4 (fc 0 1) (fc 0 2) (fc 0 3)).1)) ∧ zPm g oj 1 TJu (zJd fj (zVd v 4 (fc 0 1) (fc 0 2) (fc 0 3))) H) oj 1) 0 0 (zA B) := by
  refine zMet (by decide) (Nat.le_of_ble_eq_true rfl) ?_
  intro p e R s m args below meth c Q ls hR hargs hQ S hr hlk hP hZ hS hnm hl
  have hl : lv_has ls 5 [(0, .ref (oj)), (1, .ref (oc)), (2, .ref (o))] := hl
  have hC : zCh1 oj 1 s.heap s.heap := zCh1.rf
  obtain ⟨hJ, hPL, hC0⟩ := hP
  obtain ⟨hP0, hP1, hP2, hP3, hP4⟩ := id hPL
  refine lv_aload_n S.1 S.2.1 dX5_verdictOn_0 rfl (lv_at hl 1 rfl) ?_
  refine z_get (v := .int (nI (fc 0 1))) S hZ.1 hC0 0 (by decide) rfl rfl rfl 1 (by decide) rfl k183 dX5_verdictOn_1 ?_
  refine lv_istore_n (lv' := [(3, .int (nI (fc 0 1))), (0, .ref (oj)), (1, .ref (oc)), (2, .ref (o))]) S.1 S.2.1 dX5_verdictOn_4 rfl hl (by decide) rfl (fun ls hl => ?_)
  refine lv_aload_n S.1 S.2.1 dX5_verdictOn_5 rfl (lv_at hl 2 rfl) ?_
  refine z_get (v := .int (nI (fc 0 2))) S hZ.1 hC0 0 (by decide) rfl rfl rfl 2 (by decide) rfl k186 dX5_verdictOn_6 ?_
  refine lv_istore (lv' := [(4, .int (nI (fc 0 2))), (3, .int (nI (fc 0 1))), (0, .ref (oj)), (1, .ref (oc)), (2, .ref (o))]) S.1 S.2.1 dX5_verdictOn_9 hl (by decide) rfl (fun ls hl => ?_)
  refine va_gets (A := zA B) S.1 S.2.1 hZ.swZ hS S.2.2.2.1 (S.2.2.2.2 _ k342) (fun _ h => h) dX5_verdictOn_11 ?_
  refine lv_aload_n S.1 S.2.1 dX5_verdictOn_14 rfl (lv_at hl 3 rfl) ?_
  refine z_get (v := .ref (g.2 1 (fc 0 0))) S hZ.1 hC0 0 (by decide) rfl rfl rfl 0 (by decide) rfl k181 dX5_verdictOn_15 ?_
  rw [hk]
  refine z_ord S hZ hS 4 (by decide) k344 ⟨by rw [hR]; exact Nat.le_of_ble_eq_true rfl, by rw [hR]; exact Nat.le_of_ble_eq_true rfl⟩ hl.1 (Nat.le_of_ble_eq_true rfl) dX5_verdictOn_18 ⟨by rw [hR]; exact Nat.le_of_ble_eq_true rfl, by rw [hR]; exact Nat.le_of_ble_eq_true rfl⟩ ?_
  refine va_ti (A := zA B) (v := .int (nI (zSw 4))) S.1 S.2.1 hZ.swT hS (vp_in_nI (by decide) (by decide)) (by rw [nI_clamp (by decide)]) dX5_verdictOn_21 ?_
  refine lv_tableIn (off := 98) (tgt := 120) S.1 S.2.1 dX5_verdictOn_22 (by decide) (by decide) (by decide) (by decide) ?_
  refine lv_aload_n S.1 S.2.1 dX5_verdictOn_120 rfl (lv_at hl 2 rfl) ?_
  refine lv_aload_n S.1 S.2.1 dX5_verdictOn_121 rfl (lv_at hl 4 rfl) ?_
  refine lv_iload_n S.1 S.2.1 dX5_verdictOn_122 rfl (lv_at hl 1 rfl) ?_
  refine z_w1 (v0 := some (.int (nI (zVd v 4 (fc 0 1) (fc 0 2) (fc 0 3)).1))) (rest := []) (As := [.ref (o), .int (nI (fc 0 1))]) S hZ hS (c_X5_onWeaving l g hB fj v hv _ h1) hB ci_X5_onWeaving cv_X5_onWeaving k375 ⟨rfl, rfl, by rw [hR]; exact Nat.le_of_ble_eq_true rfl, by rw [hR]; exact Nat.le_of_ble_eq_true rfl⟩ ⟨hJ, hPL⟩ (hJ.recv hZ.1 0 (by decide) rfl rfl rfl) hl.1 rfl (Nat.le_of_ble_eq_true rfl) dX5_verdictOn_123 ⟨by rw [hR]; exact Nat.le_of_ble_eq_true rfl, by rw [hR]; exact Nat.le_of_ble_eq_true rfl⟩ rfl (fun H1 locs1 hPn hCn hSn => ?_)
  exact z_wi hQ S hr hlk (zn_int _) hSn (hC.tr hCn) ⟨rfl, hPn⟩ dX5_verdictOn_126
set_option maxRecDepth 20000 in
set_option maxHeartbeats 4000000 in
/-- Judge.verdictOn(command, loom), ravel -/
theorem c_X5_verdictOn_5 (l : Launch) (g : ZG) {B : Nat} {oj o oc : Nat} (hB : B ≤ oj) (fj : Nat → Nat → Nat) (v : zL) (hv : zOk v) (fc : Nat → Nat → Nat) (hk : fc 0 0 = 5) (h1 : fc 0 1 < 2 ^ 31) (h2 : fc 0 2 < 2 ^ 31) (h3 : fc 0 3 < 2 ^ 31) : Met l yX5_verdictOn (.code yX5_verdictOn cX5_verdictOn 5 (some .int) :: GW) { frames := 3, cells := 0, slots := 0, locals := 67 } (va_Pc [.ref oj, .ref oc, .ref o] (zPre g B (fun H => zPm g oj 1 TJu fj H ∧ zLo g o v H ∧ zPm g oc 1 TCo fc H))) (zX (fun w H => w = some (.int (nI (zVd v 5 (fc 0 1) (fc 0 2) (fc 0 3)).1)) ∧ zPm g oj 1 TJu (zJd fj (zVd v 5 (fc 0 1) (fc 0 2) (fc 0 3))) H) oj 1) 0 0 (zA B) := by
  refine zMet (by decide) (Nat.le_of_ble_eq_true rfl) ?_
  intro p e R s m args below meth c Q ls hR hargs hQ S hr hlk hP hZ hS hnm hl
  have hl : lv_has ls 5 [(0, .ref (oj)), (1, .ref (oc)), (2, .ref (o))] := hl
  have hC : zCh1 oj 1 s.heap s.heap := zCh1.rf
  obtain ⟨hJ, hPL, hC0⟩ := hP
  obtain ⟨hP0, hP1, hP2, hP3, hP4⟩ := id hPL
  refine lv_aload_n S.1 S.2.1 dX5_verdictOn_0 rfl (lv_at hl 1 rfl) ?_
  refine z_get (v := .int (nI (fc 0 1))) S hZ.1 hC0 0 (by decide) rfl rfl rfl 1 (by decide) rfl k183 dX5_verdictOn_1 ?_
  refine lv_istore_n (lv' := [(3, .int (nI (fc 0 1))), (0, .ref (oj)), (1, .ref (oc)), (2, .ref (o))]) S.1 S.2.1 dX5_verdictOn_4 rfl hl (by decide) rfl (fun ls hl => ?_)
  refine lv_aload_n S.1 S.2.1 dX5_verdictOn_5 rfl (lv_at hl 2 rfl) ?_
  refine z_get (v := .int (nI (fc 0 2))) S hZ.1 hC0 0 (by decide) rfl rfl rfl 2 (by decide) rfl k186 dX5_verdictOn_6 ?_
  refine lv_istore (lv' := [(4, .int (nI (fc 0 2))), (3, .int (nI (fc 0 1))), (0, .ref (oj)), (1, .ref (oc)), (2, .ref (o))]) S.1 S.2.1 dX5_verdictOn_9 hl (by decide) rfl (fun ls hl => ?_)
  refine va_gets (A := zA B) S.1 S.2.1 hZ.swZ hS S.2.2.2.1 (S.2.2.2.2 _ k342) (fun _ h => h) dX5_verdictOn_11 ?_
  refine lv_aload_n S.1 S.2.1 dX5_verdictOn_14 rfl (lv_at hl 3 rfl) ?_
  refine z_get (v := .ref (g.2 1 (fc 0 0))) S hZ.1 hC0 0 (by decide) rfl rfl rfl 0 (by decide) rfl k181 dX5_verdictOn_15 ?_
  rw [hk]
  refine z_ord S hZ hS 5 (by decide) k344 ⟨by rw [hR]; exact Nat.le_of_ble_eq_true rfl, by rw [hR]; exact Nat.le_of_ble_eq_true rfl⟩ hl.1 (Nat.le_of_ble_eq_true rfl) dX5_verdictOn_18 ⟨by rw [hR]; exact Nat.le_of_ble_eq_true rfl, by rw [hR]; exact Nat.le_of_ble_eq_true rfl⟩ ?_
  refine va_ti (A := zA B) (v := .int (nI (zSw 5))) S.1 S.2.1 hZ.swT hS (vp_in_nI (by decide) (by decide)) (by rw [nI_clamp (by decide)]) dX5_verdictOn_21 ?_
  refine lv_tableIn (off := 105) (tgt := 127) S.1 S.2.1 dX5_verdictOn_22 (by decide) (by decide) (by decide) (by decide) ?_
  refine lv_aload_n S.1 S.2.1 dX5_verdictOn_127 rfl (lv_at hl 2 rfl) ?_
  refine lv_aload_n S.1 S.2.1 dX5_verdictOn_128 rfl (lv_at hl 4 rfl) ?_
  refine z_get (v := .ref (o + 6)) S hZ.1 hP0 0 (by decide) rfl rfl rfl 1 (by decide) rfl k120 dX5_verdictOn_129 ?_
  refine lv_iload_n S.1 S.2.1 dX5_verdictOn_132 rfl (lv_at hl 1 rfl) ?_
  refine z_w1 (v0 := some (.int (nI (zVd v 5 (fc 0 1) (fc 0 2) (fc 0 3)).1))) (rest := []) (As := [.ref (o + 6), .int (nI (fc 0 1))]) S hZ hS (c_X5_onRavelling l g hB fj (v 2) hv.2.1 _ h1) hB ci_X5_onRavelling cv_X5_onRavelling k383 ⟨rfl, rfl, by rw [hR]; exact Nat.le_of_ble_eq_true rfl, by rw [hR]; exact Nat.le_of_ble_eq_true rfl⟩ ⟨hJ, hP2⟩ (hJ.recv hZ.1 0 (by decide) rfl rfl rfl) hl.1 rfl (Nat.le_of_ble_eq_true rfl) dX5_verdictOn_133 ⟨by rw [hR]; exact Nat.le_of_ble_eq_true rfl, by rw [hR]; exact Nat.le_of_ble_eq_true rfl⟩ rfl (fun H1 locs1 hPn hCn hSn => ?_)
  exact z_wi hQ S hr hlk (zn_int _) hSn (hC.tr hCn) ⟨rfl, hPn⟩ dX5_verdictOn_136
set_option maxRecDepth 20000 in
set_option maxHeartbeats 4000000 in
/-- Judge.verdictOn(command, loom), repeat -/
theorem c_X5_verdictOn_6 (l : Launch) (g : ZG) {B : Nat} {oj o oc : Nat} (hB : B ≤ oj) (fj : Nat → Nat → Nat) (v : zL) (hv : zOk v) (fc : Nat → Nat → Nat) (hk : fc 0 0 = 6) (h1 : fc 0 1 < 2 ^ 31) (h2 : fc 0 2 < 2 ^ 31) (h3 : fc 0 3 < 2 ^ 31) : Met l yX5_verdictOn (.code yX5_verdictOn cX5_verdictOn 5 (some .int) :: GW) { frames := 3, cells := 0, slots := 0, locals := 67 } (va_Pc [.ref oj, .ref oc, .ref o] (zPre g B (fun H => zPm g oj 1 TJu fj H ∧ zLo g o v H ∧ zPm g oc 1 TCo fc H))) (zX (fun w H => w = some (.int (nI (zVd v 6 (fc 0 1) (fc 0 2) (fc 0 3)).1)) ∧ zPm g oj 1 TJu (zJd fj (zVd v 6 (fc 0 1) (fc 0 2) (fc 0 3))) H) oj 1) 0 0 (zA B) := by
  refine zMet (by decide) (Nat.le_of_ble_eq_true rfl) ?_
  intro p e R s m args below meth c Q ls hR hargs hQ S hr hlk hP hZ hS hnm hl
  have hl : lv_has ls 5 [(0, .ref (oj)), (1, .ref (oc)), (2, .ref (o))] := hl
  have hC : zCh1 oj 1 s.heap s.heap := zCh1.rf
  obtain ⟨hJ, hPL, hC0⟩ := hP
  obtain ⟨hP0, hP1, hP2, hP3, hP4⟩ := id hPL
  refine lv_aload_n S.1 S.2.1 dX5_verdictOn_0 rfl (lv_at hl 1 rfl) ?_
  refine z_get (v := .int (nI (fc 0 1))) S hZ.1 hC0 0 (by decide) rfl rfl rfl 1 (by decide) rfl k183 dX5_verdictOn_1 ?_
  refine lv_istore_n (lv' := [(3, .int (nI (fc 0 1))), (0, .ref (oj)), (1, .ref (oc)), (2, .ref (o))]) S.1 S.2.1 dX5_verdictOn_4 rfl hl (by decide) rfl (fun ls hl => ?_)
  refine lv_aload_n S.1 S.2.1 dX5_verdictOn_5 rfl (lv_at hl 2 rfl) ?_
  refine z_get (v := .int (nI (fc 0 2))) S hZ.1 hC0 0 (by decide) rfl rfl rfl 2 (by decide) rfl k186 dX5_verdictOn_6 ?_
  refine lv_istore (lv' := [(4, .int (nI (fc 0 2))), (3, .int (nI (fc 0 1))), (0, .ref (oj)), (1, .ref (oc)), (2, .ref (o))]) S.1 S.2.1 dX5_verdictOn_9 hl (by decide) rfl (fun ls hl => ?_)
  refine va_gets (A := zA B) S.1 S.2.1 hZ.swZ hS S.2.2.2.1 (S.2.2.2.2 _ k342) (fun _ h => h) dX5_verdictOn_11 ?_
  refine lv_aload_n S.1 S.2.1 dX5_verdictOn_14 rfl (lv_at hl 3 rfl) ?_
  refine z_get (v := .ref (g.2 1 (fc 0 0))) S hZ.1 hC0 0 (by decide) rfl rfl rfl 0 (by decide) rfl k181 dX5_verdictOn_15 ?_
  rw [hk]
  refine z_ord S hZ hS 6 (by decide) k344 ⟨by rw [hR]; exact Nat.le_of_ble_eq_true rfl, by rw [hR]; exact Nat.le_of_ble_eq_true rfl⟩ hl.1 (Nat.le_of_ble_eq_true rfl) dX5_verdictOn_18 ⟨by rw [hR]; exact Nat.le_of_ble_eq_true rfl, by rw [hR]; exact Nat.le_of_ble_eq_true rfl⟩ ?_
  refine va_ti (A := zA B) (v := .int (nI (zSw 6))) S.1 S.2.1 hZ.swT hS (vp_in_nI (by decide) (by decide)) (by rw [nI_clamp (by decide)]) dX5_verdictOn_21 ?_
  refine lv_tableIn (off := 115) (tgt := 137) S.1 S.2.1 dX5_verdictOn_22 (by decide) (by decide) (by decide) (by decide) ?_
  refine lv_aload_n S.1 S.2.1 dX5_verdictOn_137 rfl (lv_at hl 2 rfl) ?_
  refine lv_aload_n S.1 S.2.1 dX5_verdictOn_138 rfl (lv_at hl 4 rfl) ?_
  refine z_get (v := .ref (o + 6)) S hZ.1 hP0 0 (by decide) rfl rfl rfl 1 (by decide) rfl k120 dX5_verdictOn_139 ?_
  refine lv_iload_n S.1 S.2.1 dX5_verdictOn_142 rfl (lv_at hl 1 rfl) ?_
  refine lv_iload S.1 S.2.1 dX5_verdictOn_143 (lv_at hl 0 rfl) ?_
  refine z_w1 (v0 := some (.int (nI (zVd v 6 (fc 0 1) (fc 0 2) (fc 0 3)).1))) (rest := []) (As := [.ref (o + 6), .int (nI (fc 0 1)), .int (nI (fc 0 2))]) S hZ hS (c_X5_onRepeating l g hB fj (v 2) hv.2.1 _ _ h1 h2) hB ci_X5_onRepeating cv_X5_onRepeating k391 ⟨rfl, rfl, by rw [hR]; exact Nat.le_of_ble_eq_true rfl, by rw [hR]; exact Nat.le_of_ble_eq_true rfl⟩ ⟨hJ, hP2⟩ (hJ.recv hZ.1 0 (by decide) rfl rfl rfl) hl.1 rfl (Nat.le_of_ble_eq_true rfl) dX5_verdictOn_145 ⟨by rw [hR]; exact Nat.le_of_ble_eq_true rfl, by rw [hR]; exact Nat.le_of_ble_eq_true rfl⟩ rfl (fun H1 locs1 hPn hCn hSn => ?_)
  exact z_wi hQ S hr hlk (zn_int _) hSn (hC.tr hCn) ⟨rfl, hPn⟩ dX5_verdictOn_148
set_option maxRecDepth 20000 in
set_option maxHeartbeats 4000000 in
/-- Judge.verdictOn(command, loom), knot -/
theorem c_X5_verdictOn_7 (l : Launch) (g : ZG) {B : Nat} {oj o oc : Nat} (hB : B ≤ oj) (fj : Nat → Nat → Nat) (v : zL) (hv : zOk v) (fc : Nat → Nat → Nat) (hk : fc 0 0 = 7) (h1 : fc 0 1 < 2 ^ 31) (h2 : fc 0 2 < 2 ^ 31) (h3 : fc 0 3 < 2 ^ 31) : Met l yX5_verdictOn (.code yX5_verdictOn cX5_verdictOn 5 (some .int) :: GW) { frames := 3, cells := 0, slots := 0, locals := 67 } (va_Pc [.ref oj, .ref oc, .ref o] (zPre g B (fun H => zPm g oj 1 TJu fj H ∧ zLo g o v H ∧ zPm g oc 1 TCo fc H))) (zX (fun w H => w = some (.int (nI (zVd v 7 (fc 0 1) (fc 0 2) (fc 0 3)).1)) ∧ zPm g oj 1 TJu (zJd fj (zVd v 7 (fc 0 1) (fc 0 2) (fc 0 3))) H) oj 1) 0 0 (zA B) := by
  refine zMet (by decide) (Nat.le_of_ble_eq_true rfl) ?_
  intro p e R s m args below meth c Q ls hR hargs hQ S hr hlk hP hZ hS hnm hl
  have hl : lv_has ls 5 [(0, .ref (oj)), (1, .ref (oc)), (2, .ref (o))] := hl
  have hC : zCh1 oj 1 s.heap s.heap := zCh1.rf
  obtain ⟨hJ, hPL, hC0⟩ := hP
  obtain ⟨hP0, hP1, hP2, hP3, hP4⟩ := id hPL
  refine lv_aload_n S.1 S.2.1 dX5_verdictOn_0 rfl (lv_at hl 1 rfl) ?_
  refine z_get (v := .int (nI (fc 0 1))) S hZ.1 hC0 0 (by decide) rfl rfl rfl 1 (by decide) rfl k183 dX5_verdictOn_1 ?_
  refine lv_istore_n (lv' := [(3, .int (nI (fc 0 1))), (0, .ref (oj)), (1, .ref (oc)), (2, .ref (o))]) S.1 S.2.1 dX5_verdictOn_4 rfl hl (by decide) rfl (fun ls hl => ?_)
  refine lv_aload_n S.1 S.2.1 dX5_verdictOn_5 rfl (lv_at hl 2 rfl) ?_
  refine z_get (v := .int (nI (fc 0 2))) S hZ.1 hC0 0 (by decide) rfl rfl rfl 2 (by decide) rfl k186 dX5_verdictOn_6 ?_
  refine lv_istore (lv' := [(4, .int (nI (fc 0 2))), (3, .int (nI (fc 0 1))), (0, .ref (oj)), (1, .ref (oc)), (2, .ref (o))]) S.1 S.2.1 dX5_verdictOn_9 hl (by decide) rfl (fun ls hl => ?_)
  refine va_gets (A := zA B) S.1 S.2.1 hZ.swZ hS S.2.2.2.1 (S.2.2.2.2 _ k342) (fun _ h => h) dX5_verdictOn_11 ?_
  refine lv_aload_n S.1 S.2.1 dX5_verdictOn_14 rfl (lv_at hl 3 rfl) ?_
  refine z_get (v := .ref (g.2 1 (fc 0 0))) S hZ.1 hC0 0 (by decide) rfl rfl rfl 0 (by decide) rfl k181 dX5_verdictOn_15 ?_
  rw [hk]
  refine z_ord S hZ hS 7 (by decide) k344 ⟨by rw [hR]; exact Nat.le_of_ble_eq_true rfl, by rw [hR]; exact Nat.le_of_ble_eq_true rfl⟩ hl.1 (Nat.le_of_ble_eq_true rfl) dX5_verdictOn_18 ⟨by rw [hR]; exact Nat.le_of_ble_eq_true rfl, by rw [hR]; exact Nat.le_of_ble_eq_true rfl⟩ ?_
  refine va_ti (A := zA B) (v := .int (nI (zSw 7))) S.1 S.2.1 hZ.swT hS (vp_in_nI (by decide) (by decide)) (by rw [nI_clamp (by decide)]) dX5_verdictOn_21 ?_
  refine lv_tableIn (off := 127) (tgt := 149) S.1 S.2.1 dX5_verdictOn_22 (by decide) (by decide) (by decide) (by decide) ?_
  refine lv_aload_n S.1 S.2.1 dX5_verdictOn_149 rfl (lv_at hl 2 rfl) ?_
  refine lv_aload_n S.1 S.2.1 dX5_verdictOn_150 rfl (lv_at hl 4 rfl) ?_
  refine z_get (v := .ref (o + 6)) S hZ.1 hP0 0 (by decide) rfl rfl rfl 1 (by decide) rfl k120 dX5_verdictOn_151 ?_
  refine lv_iload_n S.1 S.2.1 dX5_verdictOn_154 rfl (lv_at hl 1 rfl) ?_
  refine lv_iload S.1 S.2.1 dX5_verdictOn_155 (lv_at hl 0 rfl) ?_
  refine z_ic S (k := 1) dX5_verdictOn_157 (by decide) ?_
  refine z_w1 (v0 := some (.int (nI (zVd v 7 (fc 0 1) (fc 0 2) (fc 0 3)).1))) (rest := []) (As := [.ref (o + 6), .int (nI (fc 0 1)), .int (nI (fc 0 2)), .int (nI (1))]) S hZ hS (c_X5_onKnots l g hB fj (v 2) hv.2.1 _ _ h1 h2 true) hB ci_X5_onKnots cv_X5_onKnots k395 ⟨rfl, rfl, by rw [hR]; exact Nat.le_of_ble_eq_true rfl, by rw [hR]; exact Nat.le_of_ble_eq_true rfl⟩ ⟨hJ, hP2⟩ (hJ.recv hZ.1 0 (by decide) rfl rfl rfl) hl.1 rfl (Nat.le_of_ble_eq_true rfl) dX5_verdictOn_158 ⟨by rw [hR]; exact Nat.le_of_ble_eq_true rfl, by rw [hR]; exact Nat.le_of_ble_eq_true rfl⟩ rfl (fun H1 locs1 hPn hCn hSn => ?_)
  exact z_wi hQ S hr hlk (zn_int _) hSn (hC.tr hCn) ⟨rfl, hPn⟩ dX5_verdictOn_161
set_option maxRecDepth 20000 in
set_option maxHeartbeats 4000000 in
/-- Judge.verdictOn(command, loom), untie -/
theorem c_X5_verdictOn_8 (l : Launch) (g : ZG) {B : Nat} {oj o oc : Nat} (hB : B ≤ oj) (fj : Nat → Nat → Nat) (v : zL) (hv : zOk v) (fc : Nat → Nat → Nat) (hk : fc 0 0 = 8) (h1 : fc 0 1 < 2 ^ 31) (h2 : fc 0 2 < 2 ^ 31) (h3 : fc 0 3 < 2 ^ 31) : Met l yX5_verdictOn (.code yX5_verdictOn cX5_verdictOn 5 (some .int) :: GW) { frames := 3, cells := 0, slots := 0, locals := 67 } (va_Pc [.ref oj, .ref oc, .ref o] (zPre g B (fun H => zPm g oj 1 TJu fj H ∧ zLo g o v H ∧ zPm g oc 1 TCo fc H))) (zX (fun w H => w = some (.int (nI (zVd v 8 (fc 0 1) (fc 0 2) (fc 0 3)).1)) ∧ zPm g oj 1 TJu (zJd fj (zVd v 8 (fc 0 1) (fc 0 2) (fc 0 3))) H) oj 1) 0 0 (zA B) := by
  refine zMet (by decide) (Nat.le_of_ble_eq_true rfl) ?_
  intro p e R s m args below meth c Q ls hR hargs hQ S hr hlk hP hZ hS hnm hl
  have hl : lv_has ls 5 [(0, .ref (oj)), (1, .ref (oc)), (2, .ref (o))] := hl
  have hC : zCh1 oj 1 s.heap s.heap := zCh1.rf
  obtain ⟨hJ, hPL, hC0⟩ := hP
  obtain ⟨hP0, hP1, hP2, hP3, hP4⟩ := id hPL
  refine lv_aload_n S.1 S.2.1 dX5_verdictOn_0 rfl (lv_at hl 1 rfl) ?_
  refine z_get (v := .int (nI (fc 0 1))) S hZ.1 hC0 0 (by decide) rfl rfl rfl 1 (by decide) rfl k183 dX5_verdictOn_1 ?_
  refine lv_istore_n (lv' := [(3, .int (nI (fc 0 1))), (0, .ref (oj)), (1, .ref (oc)), (2, .ref (o))]) S.1 S.2.1 dX5_verdictOn_4 rfl hl (by decide) rfl (fun ls hl => ?_)
  refine lv_aload_n S.1 S.2.1 dX5_verdictOn_5 rfl (lv_at hl 2 rfl) ?_
  refine z_get (v := .int (nI (fc 0 2))) S hZ.1 hC0 0 (by decide) rfl rfl rfl 2 (by decide) rfl k186 dX5_verdictOn_6 ?_
  refine lv_istore (lv' := [(4, .int (nI (fc 0 2))), (3, .int (nI (fc 0 1))), (0, .ref (oj)), (1, .ref (oc)), (2, .ref (o))]) S.1 S.2.1 dX5_verdictOn_9 hl (by decide) rfl (fun ls hl => ?_)
  refine va_gets (A := zA B) S.1 S.2.1 hZ.swZ hS S.2.2.2.1 (S.2.2.2.2 _ k342) (fun _ h => h) dX5_verdictOn_11 ?_
  refine lv_aload_n S.1 S.2.1 dX5_verdictOn_14 rfl (lv_at hl 3 rfl) ?_
  refine z_get (v := .ref (g.2 1 (fc 0 0))) S hZ.1 hC0 0 (by decide) rfl rfl rfl 0 (by decide) rfl k181 dX5_verdictOn_15 ?_
  rw [hk]
  refine z_ord S hZ hS 8 (by decide) k344 ⟨by rw [hR]; exact Nat.le_of_ble_eq_true rfl, by rw [hR]; exact Nat.le_of_ble_eq_true rfl⟩ hl.1 (Nat.le_of_ble_eq_true rfl) dX5_verdictOn_18 ⟨by rw [hR]; exact Nat.le_of_ble_eq_true rfl, by rw [hR]; exact Nat.le_of_ble_eq_true rfl⟩ ?_
  refine va_ti (A := zA B) (v := .int (nI (zSw 8))) S.1 S.2.1 hZ.swT hS (vp_in_nI (by decide) (by decide)) (by rw [nI_clamp (by decide)]) dX5_verdictOn_21 ?_
  refine lv_tableIn (off := 140) (tgt := 162) S.1 S.2.1 dX5_verdictOn_22 (by decide) (by decide) (by decide) (by decide) ?_
  refine lv_aload_n S.1 S.2.1 dX5_verdictOn_162 rfl (lv_at hl 2 rfl) ?_
  refine lv_aload_n S.1 S.2.1 dX5_verdictOn_163 rfl (lv_at hl 4 rfl) ?_
  refine z_get (v := .ref (o + 6)) S hZ.1 hP0 0 (by decide) rfl rfl rfl 1 (by decide) rfl k120 dX5_verdictOn_164 ?_
  refine lv_iload_n S.1 S.2.1 dX5_verdictOn_167 rfl (lv_at hl 1 rfl) ?_
  refine lv_iload S.1 S.2.1 dX5_verdictOn_168 (lv_at hl 0 rfl) ?_
  refine z_ic S (k := 0) dX5_verdictOn_170 (by decide) ?_
  refine z_w1 (v0 := some (.int (nI (zVd v 8 (fc 0 1) (fc 0 2) (fc 0 3)).1))) (rest := []) (As := [.ref (o + 6), .int (nI (fc 0 1)), .int (nI (fc 0 2)), .int (nI (0))]) S hZ hS (c_X5_onKnots l g hB fj (v 2) hv.2.1 _ _ h1 h2 false) hB ci_X5_onKnots cv_X5_onKnots k395 ⟨rfl, rfl, by rw [hR]; exact Nat.le_of_ble_eq_true rfl, by rw [hR]; exact Nat.le_of_ble_eq_true rfl⟩ ⟨hJ, hP2⟩ (hJ.recv hZ.1 0 (by decide) rfl rfl rfl) hl.1 rfl (Nat.le_of_ble_eq_true rfl) dX5_verdictOn_171 ⟨by rw [hR]; exact Nat.le_of_ble_eq_true rfl, by rw [hR]; exact Nat.le_of_ble_eq_true rfl⟩ rfl (fun H1 locs1 hPn hCn hSn => ?_)
  exact z_wi hQ S hr hlk (zn_int _) hSn (hC.tr hCn) ⟨rfl, hPn⟩ dX5_verdictOn_174
set_option maxRecDepth 20000 in
set_option maxHeartbeats 4000000 in
/-- Judge.verdictOn(command, loom), mend -/
theorem c_X5_verdictOn_9 (l : Launch) (g : ZG) {B : Nat} {oj o oc : Nat} (hB : B ≤ oj) (fj : Nat → Nat → Nat) (v : zL) (hv : zOk v) (fc : Nat → Nat → Nat) (hk : fc 0 0 = 9) (h1 : fc 0 1 < 65536) (h2 : fc 0 2 < 2 ^ 31) (h3 : fc 0 3 < 2 ^ 31) : Met l yX5_verdictOn (.code yX5_verdictOn cX5_verdictOn 5 (some .int) :: GW) { frames := 3, cells := 0, slots := 0, locals := 67 } (va_Pc [.ref oj, .ref oc, .ref o] (zPre g B (fun H => zPm g oj 1 TJu fj H ∧ zLo g o v H ∧ zPm g oc 1 TCo fc H))) (zX (fun w H => w = some (.int (nI (zVd v 9 (fc 0 1) (fc 0 2) (fc 0 3)).1)) ∧ zPm g oj 1 TJu (zJd fj (zVd v 9 (fc 0 1) (fc 0 2) (fc 0 3))) H) oj 1) 0 0 (zA B) := by
  refine zMet (by decide) (Nat.le_of_ble_eq_true rfl) ?_
  intro p e R s m args below meth c Q ls hR hargs hQ S hr hlk hP hZ hS hnm hl
  have hl : lv_has ls 5 [(0, .ref (oj)), (1, .ref (oc)), (2, .ref (o))] := hl
  have hC : zCh1 oj 1 s.heap s.heap := zCh1.rf
  obtain ⟨hJ, hPL, hC0⟩ := hP
  obtain ⟨hP0, hP1, hP2, hP3, hP4⟩ := id hPL
  refine lv_aload_n S.1 S.2.1 dX5_verdictOn_0 rfl (lv_at hl 1 rfl) ?_
  refine z_get (v := .int (nI (fc 0 1))) S hZ.1 hC0 0 (by decide) rfl rfl rfl 1 (by decide) rfl k183 dX5_verdictOn_1 ?_
  refine lv_istore_n (lv' := [(3, .int (nI (fc 0 1))), (0, .ref (oj)), (1, .ref (oc)), (2, .ref (o))]) S.1 S.2.1 dX5_verdictOn_4 rfl hl (by decide) rfl (fun ls hl => ?_)
  refine lv_aload_n S.1 S.2.1 dX5_verdictOn_5 rfl (lv_at hl 2 rfl) ?_
  refine z_get (v := .int (nI (fc 0 2))) S hZ.1 hC0 0 (by decide) rfl rfl rfl 2 (by decide) rfl k186 dX5_verdictOn_6 ?_
  refine lv_istore (lv' := [(4, .int (nI (fc 0 2))), (3, .int (nI (fc 0 1))), (0, .ref (oj)), (1, .ref (oc)), (2, .ref (o))]) S.1 S.2.1 dX5_verdictOn_9 hl (by decide) rfl (fun ls hl => ?_)
  refine va_gets (A := zA B) S.1 S.2.1 hZ.swZ hS S.2.2.2.1 (S.2.2.2.2 _ k342) (fun _ h => h) dX5_verdictOn_11 ?_
  refine lv_aload_n S.1 S.2.1 dX5_verdictOn_14 rfl (lv_at hl 3 rfl) ?_
  refine z_get (v := .ref (g.2 1 (fc 0 0))) S hZ.1 hC0 0 (by decide) rfl rfl rfl 0 (by decide) rfl k181 dX5_verdictOn_15 ?_
  rw [hk]
  refine z_ord S hZ hS 9 (by decide) k344 ⟨by rw [hR]; exact Nat.le_of_ble_eq_true rfl, by rw [hR]; exact Nat.le_of_ble_eq_true rfl⟩ hl.1 (Nat.le_of_ble_eq_true rfl) dX5_verdictOn_18 ⟨by rw [hR]; exact Nat.le_of_ble_eq_true rfl, by rw [hR]; exact Nat.le_of_ble_eq_true rfl⟩ ?_
  refine va_ti (A := zA B) (v := .int (nI (zSw 9))) S.1 S.2.1 hZ.swT hS (vp_in_nI (by decide) (by decide)) (by rw [nI_clamp (by decide)]) dX5_verdictOn_21 ?_
  refine lv_tableOut (tgt := 175) S.1 S.2.1 dX5_verdictOn_22 (by decide) (by decide) ?_
  refine lv_aload_n S.1 S.2.1 dX5_verdictOn_175 rfl (lv_at hl 2 rfl) ?_
  refine lv_aload_n S.1 S.2.1 dX5_verdictOn_176 rfl (lv_at hl 4 rfl) ?_
  refine lv_iload_n S.1 S.2.1 dX5_verdictOn_177 rfl (lv_at hl 1 rfl) ?_
  refine z_w1 (v0 := some (.int (nI (zVd v 9 (fc 0 1) (fc 0 2) (fc 0 3)).1))) (rest := []) (As := [.ref (o), .int (nI (fc 0 1))]) S hZ hS (c_X5_onMending l g hB fj v hv _ h1) hB ci_X5_onMending cv_X5_onMending k414 ⟨rfl, rfl, by rw [hR]; exact Nat.le_of_ble_eq_true rfl, by rw [hR]; exact Nat.le_of_ble_eq_true rfl⟩ ⟨hJ, hPL⟩ (hJ.recv hZ.1 0 (by decide) rfl rfl rfl) hl.1 rfl (Nat.le_of_ble_eq_true rfl) dX5_verdictOn_178 ⟨by rw [hR]; exact Nat.le_of_ble_eq_true rfl, by rw [hR]; exact Nat.le_of_ble_eq_true rfl⟩ rfl (fun H1 locs1 hPn hCn hSn => ?_)
  exact z_wi hQ S hr hlk (zn_int _) hSn (hC.tr hCn) ⟨rfl, hPn⟩ dX5_verdictOn_181
