def zPr (f : Nat → Nat → Nat) (i j : Nat) : Bool := if f 4 i = f 4 j then (if f 3 i = f 3 j then decide (i < j) else decide (f 3 j < f 3 i)) else decide (f 4 i = 1)
def zRk (f : Nat → Nat → Nat) (w : Nat) : Nat := zSum (fun i => (zPr f i w).toNat) (f 0 4)

theorem ci_X10_has : zCI yX10_has cX10_has 2 (some .boolean) 1 := ⟨k366, k3, by decide +kernel⟩
theorem cv_X10_has : Cond.instanceMethod yX10_has ∈ GW ∧ Cond.selects (yX10_has).cls yX10_has yX10_has ∈ GW := ⟨k364, k365⟩
set_option maxRecDepth 20000 in
set_option maxHeartbeats 4000000 in
/-- Wicks.has(i) -/
theorem c_X10_has (l : Launch) (g : ZG) {B : Nat} {o : Nat} (f : Nat → Nat → Nat) (hw : zWo f) (i : Nat) (hi : i < 2 ^ 31) : Met l yX10_has (.code yX10_has cX10_has 2 (some .boolean) :: GW) { frames := 0, cells := 0, slots := 0, locals := 0 } (va_Pc [.ref o, .int (nI i)] (zPre g B (fun H => zPm g o 5 TW f H))) (zR (some (.int (nI (decide (i < f 0 4)).toNat)))) 0 0 (fun _ => False) := by
  refine zMet (by decide) (Nat.le_of_ble_eq_true rfl) ?_
  intro p e R s m args below meth c Q ls hR hargs hQ S hr hlk hP hZ hS hnm hl
  have hl : lv_has ls 2 [(0, .ref (o)), (1, .int (nI (i)))] := hl
  refine lv_iload_n S.1 S.2.1 dX10_has_0 rfl (lv_at hl 1 rfl) ?_
  refine z_ilt (tgt := 16) S hi dX10_has_1 (by decide) ?_
  refine lv_iload_n S.1 S.2.1 dX10_has_4 rfl (lv_at hl 1 rfl) ?_
  refine lv_aload_n S.1 S.2.1 dX10_has_5 rfl (lv_at hl 0 rfl) ?_
  refine z_get (v := .int (nI (f 0 4))) S hZ.1 hP 0 (by decide) rfl rfl rfl 4 (by decide) rfl k59 dX10_has_6 ?_
  refine z_cge (tgt := 16) S hi hw.c dX10_has_9 (by decide) (fun h => ?_) (fun h => ?_)
  · refine z_ic S (k := 0) dX10_has_16 (by decide) ?_
    exact z_ri hQ S hr hlk rfl (by rw [decide_eq_false (by omega)]; rfl) dX10_has_17
  · refine z_ic S (k := 1) dX10_has_12 (by decide) ?_
    refine lv_goto (tgt := 17) S.1 S.2.1 dX10_has_13 (by decide) ?_
    exact z_ri hQ S hr hlk rfl (by rw [decide_eq_true (by omega)]; rfl) dX10_has_17
theorem ci_X10_countLit : zCI yX10_countLit cX10_countLit 3 (some .int) 0 := ⟨k382, k3, by decide +kernel⟩
theorem cv_X10_countLit : Cond.instanceMethod yX10_countLit ∈ GW ∧ Cond.selects (yX10_countLit).cls yX10_countLit yX10_countLit ∈ GW := ⟨k380, k381⟩
set_option maxRecDepth 20000 in
set_option maxHeartbeats 4000000 in
/-- Wicks.countLit() -/
theorem c_X10_countLit (l : Launch) (g : ZG) {B : Nat} {o : Nat} (f : Nat → Nat → Nat) (hw : zWo f) : Met l yX10_countLit (.code yX10_countLit cX10_countLit 3 (some .int) :: GW) { frames := 0, cells := 0, slots := 0, locals := 0 } (va_Pc [.ref o] (zPre g B (fun H => zPm g o 5 TW f H))) (zR (some (.int (nI (zSum (f 4) (f 0 4)))))) 0 0 (fun _ => False) := by
  refine zMet (by decide) (Nat.le_of_ble_eq_true rfl) ?_
  intro p e R s m args below meth c Q ls hR hargs hQ S hr hlk hP hZ hS hnm hl
  have hl : lv_has ls 3 [(0, .ref (o))] := hl
  refine z_ic S (k := 0) dX10_countLit_0 (by decide) ?_
  refine lv_istore_n (lv' := [(1, .int (nI (0))), (0, .ref (o))]) S.1 S.2.1 dX10_countLit_1 rfl hl (by decide) rfl (fun ls hl => ?_)
  refine z_ic S (k := 0) dX10_countLit_2 (by decide) ?_
  refine lv_istore_n (lv' := [(2, .int (nI (0))), (1, .int (nI (0))), (0, .ref (o))]) S.1 S.2.1 dX10_countLit_3 rfl hl (by decide) rfl (fun ls hl => ?_)
  have loop : ∀ (n i x : Nat) (ls : Array Slot), (i ≤ f 0 4) → (f 0 4 < i + n) → (x = zSum (f 4) i) → lv_has ls 3 [(0, .ref (o)), (1, .int (nI (x))), (2, .int (nI (i)))] → W p l e R s m args below meth c s.heap [] 0 0 Q (F0 m 4 ls []) := by
    intro n
    induction n with
    | zero => intro i x ls h1 h2 hx hl; exact absurd h2 (by omega)
    | succ n ih =>
      intro i x ls h1 h2 hx hl
      refine lv_iload_n S.1 S.2.1 dX10_countLit_4 rfl (lv_at hl 2 rfl) ?_
      refine lv_aload_n S.1 S.2.1 dX10_countLit_5 rfl (lv_at hl 0 rfl) ?_
      refine z_get (v := .int (nI (f 0 4))) S hZ.1 hP 0 (by decide) rfl rfl rfl 4 (by decide) rfl k59 dX10_countLit_6 ?_
      refine z_cge (tgt := 30) S (by have := hw.1; omega) hw.c dX10_countLit_9 (by decide) (fun h4 => ?_) (fun h4 => ?_)
      · refine lv_iload_n S.1 S.2.1 dX10_countLit_30 rfl (lv_at hl 1 rfl) ?_
        obtain rfl : i = f 0 4 := by omega
        exact z_ri hQ S hr hlk (zn_int _) (by rw [hx]) dX10_countLit_31
      · refine lv_aload_n S.1 S.2.1 dX10_countLit_12 rfl (lv_at hl 0 rfl) ?_
        refine z_get (v := .ref (o + 4)) S hZ.1 hP 0 (by decide) rfl rfl rfl 3 (by decide) rfl k56 dX10_countLit_13 ?_
        refine lv_iload_n S.1 S.2.1 dX10_countLit_16 rfl (lv_at hl 2 rfl) ?_
        refine z_zald S hZ.1 hP 4 (by decide) rfl rfl (i := i) (by have := hw.1; omega) (by decide) dX10_countLit_17 ?_
        refine z_ieq (tgt := 24) S (hw.l i) dX10_countLit_18 (by decide) (fun h5 => ?_) (fun h5 => ?_)
        · refine z_inc S (lv' := [(2, .int (nI (i + 1))), (0, .ref (o)), (1, .int (nI (x)))]) (k := 2) (b := 1) dX10_countLit_24 hl rfl (by decide) (by decide) rfl (fun ls hl => ?_)
          refine lv_goto (tgt := 4) S.1 S.2.1 dX10_countLit_27 (by decide) ?_
          exact ih (i + 1) x ls (by omega) (by omega) (by rw [zSum, hx]; omega) (lv_sub hl [1, 2, 0] rfl)
        · refine z_inc S (lv' := [(1, .int (nI (x + 1))), (0, .ref (o)), (2, .int (nI (i)))]) (k := 1) (b := 1) dX10_countLit_21 hl rfl (by decide) (by decide) rfl (fun ls hl => ?_)
          refine z_inc S (lv' := [(2, .int (nI (i + 1))), (1, .int (nI (x + 1))), (0, .ref (o))]) (k := 2) (b := 1) dX10_countLit_24 hl rfl (by decide) (by decide) rfl (fun ls hl => ?_)
          refine lv_goto (tgt := 4) S.1 S.2.1 dX10_countLit_27 (by decide) ?_
          exact ih (i + 1) (x + 1) ls (by omega) (by omega) (by rw [zSum, hx]; have := (hw.2 i).2.2.2.1; omega) (lv_sub hl [2, 1, 0] rfl)
  exact loop (f 0 4 + 1) 0 0 ls (Nat.zero_le _) (by omega) rfl (lv_sub hl [2, 1, 0] rfl)
def zPt (f : Nat → Nat → Nat) : Nat → Nat := zXor (fun i => if f 4 i = 1 then f 2 i else 0)
def zLd (f : Nat → Nat → Nat) : Nat → Nat × Nat
  | 0 => (0, 0)
  | n + 1 => if f 4 n = 1 ∧ (zLd f n).2 < f 3 n then (f 1 n, f 3 n) else zLd f n
def zMx (f : Nat → Nat → Nat) : Nat → Nat
  | 0 => 0
  | n + 1 => if f 4 n = 1 then max (zMx f n) (f 3 n) else zMx f n
def zAf (f : Nat → Nat → Nat) (r : Nat) : Bool := zAny (fun i => decide (f 4 i = 1 ∧ r < f 3 i)) (f 0 4)
theorem zLd_le {f : Nat → Nat → Nat} (hw : zWo f) : ∀ n, (zLd f n).1 ≤ 7 ∧ (zLd f n).2 ≤ 99
  | 0 => by simp [zLd]
  | n + 1 => by
    have h := zLd_le hw n
    have h2 := hw.2 n
    rw [zLd]; split
    · exact ⟨h2.1, h2.2.2.1⟩
    · exact h
theorem zMx_le {f : Nat → Nat → Nat} (hw : zWo f) : ∀ n, zMx f n ≤ 99
  | 0 => by simp [zMx]
  | n + 1 => by
    have h := zMx_le hw n
    have h2 := (hw.2 n).2.2.1
    rw [zMx]; split
    · exact Nat.max_le.mpr ⟨h, h2⟩
    · exact h
theorem zPt_lt {f : Nat → Nat → Nat} (hw : zWo f) (n : Nat) : zPt f n < 65536 := zXor_lt (fun i => by
  show (if f 4 i = 1 then f 2 i else 0) < 65536
  split
  · exact (hw.2 i).2.1
  · omega) n
theorem ci_X10_pattern : zCI yX10_pattern cX10_pattern 3 (some .int) 0 := ⟨k575, k3, by decide +kernel⟩
theorem cv_X10_pattern : Cond.instanceMethod yX10_pattern ∈ GW ∧ Cond.selects (yX10_pattern).cls yX10_pattern yX10_pattern ∈ GW := ⟨k573, k574⟩
set_option maxRecDepth 20000 in
set_option maxHeartbeats 4000000 in
/-- Wicks.pattern() -/
theorem c_X10_pattern (l : Launch) (g : ZG) {B : Nat} {o : Nat} (f : Nat → Nat → Nat) (hw : zWo f) : Met l yX10_pattern (.code yX10_pattern cX10_pattern 3 (some .int) :: GW) { frames := 0, cells := 0, slots := 0, locals := 0 } (va_Pc [.ref o] (zPre g B (fun H => zPm g o 5 TW f H))) (zR (some (.int (nI (zPt f (f 0 4)))))) 0 0 (fun _ => False) := by
  refine zMet (by decide) (Nat.le_of_ble_eq_true rfl) ?_
  intro p e R s m args below meth c Q ls hR hargs hQ S hr hlk hP hZ hS hnm hl
  have hl : lv_has ls 3 [(0, .ref (o))] := hl
  refine z_ic S (k := 0) dX10_pattern_0 (by decide) ?_
  refine lv_istore_n (lv' := [(1, .int (nI (0))), (0, .ref (o))]) S.1 S.2.1 dX10_pattern_1 rfl hl (by decide) rfl (fun ls hl => ?_)
  refine z_ic S (k := 0) dX10_pattern_2 (by decide) ?_
  refine lv_istore_n (lv' := [(2, .int (nI (0))), (1, .int (nI (0))), (0, .ref (o))]) S.1 S.2.1 dX10_pattern_3 rfl hl (by decide) rfl (fun ls hl => ?_)
  have loop : ∀ (n i x : Nat) (ls : Array Slot), (i ≤ f 0 4) → (f 0 4 < i + n) → (x = zPt f i) → lv_has ls 3 [(0, .ref (o)), (1, .int (nI (x))), (2, .int (nI (i)))] → W p l e R s m args below meth c s.heap [] 0 0 Q (F0 m 4 ls []) := by
    intro n
    induction n with
    | zero => intro i x ls h1 h2 hx hl; exact absurd h2 (by omega)
    | succ n ih =>
      intro i x ls h1 h2 hx hl
      refine lv_iload_n S.1 S.2.1 dX10_pattern_4 rfl (lv_at hl 2 rfl) ?_
      refine lv_aload_n S.1 S.2.1 dX10_pattern_5 rfl (lv_at hl 0 rfl) ?_
      refine z_get (v := .int (nI (f 0 4))) S hZ.1 hP 0 (by decide) rfl rfl rfl 4 (by decide) rfl k59 dX10_pattern_6 ?_
      refine z_cge (tgt := 36) S (by have := hw.1; omega) hw.c dX10_pattern_9 (by decide) (fun h4 => ?_) (fun h4 => ?_)
      · refine lv_iload_n S.1 S.2.1 dX10_pattern_36 rfl (lv_at hl 1 rfl) ?_
        obtain rfl : i = f 0 4 := by omega
        exact z_ri hQ S hr hlk (zn_int _) (by rw [hx]) dX10_pattern_37
      · refine lv_aload_n S.1 S.2.1 dX10_pattern_12 rfl (lv_at hl 0 rfl) ?_
        refine z_get (v := .ref (o + 4)) S hZ.1 hP 0 (by decide) rfl rfl rfl 3 (by decide) rfl k56 dX10_pattern_13 ?_
        refine lv_iload_n S.1 S.2.1 dX10_pattern_16 rfl (lv_at hl 2 rfl) ?_
        refine z_zald S hZ.1 hP 4 (by decide) rfl rfl (i := i) (by have := hw.1; omega) (by decide) dX10_pattern_17 ?_
        refine z_ieq (tgt := 30) S (hw.l i) dX10_pattern_18 (by decide) (fun h5 => ?_) (fun h5 => ?_)
        · refine z_inc S (lv' := [(2, .int (nI (i + 1))), (0, .ref (o)), (1, .int (nI (x)))]) (k := 2) (b := 1) dX10_pattern_30 hl rfl (by decide) (by decide) rfl (fun ls hl => ?_)
          refine lv_goto (tgt := 4) S.1 S.2.1 dX10_pattern_33 (by decide) ?_
          exact ih (i + 1) x ls (by omega) (by omega) (by rw [zPt, zXor, hx, if_neg (by omega), Nat.xor_zero]; rfl) (lv_sub hl [1, 2, 0] rfl)
        · refine lv_iload_n S.1 S.2.1 dX10_pattern_21 rfl (lv_at hl 1 rfl) ?_
          refine lv_aload_n S.1 S.2.1 dX10_pattern_22 rfl (lv_at hl 0 rfl) ?_
          refine z_get (v := .ref (o + 2)) S hZ.1 hP 0 (by decide) rfl rfl rfl 1 (by decide) rfl k52 dX10_pattern_23 ?_
          refine lv_iload_n S.1 S.2.1 dX10_pattern_26 rfl (lv_at hl 2 rfl) ?_
          refine z_iald S hZ.1 hP 2 (by decide) rfl rfl (i := i) (by have := hw.1; omega) (by decide) dX10_pattern_27 ?_
          refine z_xor S dX10_pattern_28 ?_
          refine lv_istore_n (lv' := [(1, .int (nI (x ^^^ (f 2 i)))), (0, .ref (o)), (2, .int (nI (i)))]) S.1 S.2.1 dX10_pattern_29 rfl hl (by decide) rfl (fun ls hl => ?_)
          refine z_inc S (lv' := [(2, .int (nI (i + 1))), (1, .int (nI (x ^^^ (f 2 i)))), (0, .ref (o))]) (k := 2) (b := 1) dX10_pattern_30 hl rfl (by decide) (by decide) rfl (fun ls hl => ?_)
          refine lv_goto (tgt := 4) S.1 S.2.1 dX10_pattern_33 (by decide) ?_
          exact ih (i + 1) (x ^^^ f 2 i) ls (by omega) (by omega) (by rw [zPt, zXor, hx, if_pos (by have := (hw.2 i).2.2.2.1; omega)]; rfl) (lv_sub hl [2, 1, 0] rfl)
  exact loop (f 0 4 + 1) 0 0 ls (Nat.zero_le _) (by omega) rfl (lv_sub hl [2, 1, 0] rfl)
theorem ci_X10_precedes : zCI yX10_precedes cX10_precedes 3 (some .boolean) 2 := ⟨k1023, k3, by decide +kernel⟩
theorem cv_X10_precedes : Cond.instanceMethod yX10_precedes ∈ GW ∧ Cond.selects (yX10_precedes).cls yX10_precedes yX10_precedes ∈ GW := ⟨k1022, kp24⟩
set_option maxRecDepth 20000 in
set_option maxHeartbeats 4000000 in
/-- Wicks.precedes(i, j) -/
theorem c_X10_precedes (l : Launch) (g : ZG) {B : Nat} {o : Nat} (f : Nat → Nat → Nat) (hw : zWo f) (i j : Nat) (hi : i < f 0 4) (hj : j < f 0 4) : Met l yX10_precedes (.code yX10_precedes cX10_precedes 3 (some .boolean) :: GW) { frames := 0, cells := 0, slots := 0, locals := 0 } (va_Pc [.ref o, .int (nI i), .int (nI j)] (zPre g B (fun H => zPm g o 5 TW f H))) (zR (some (.int (nI (zPr f i j).toNat)))) 0 0 (fun _ => False) := by
  refine zMet (by decide) (Nat.le_of_ble_eq_true rfl) ?_
  intro p e R s m args below meth c Q ls hR hargs hQ S hr hlk hP hZ hS hnm hl
  have hl : lv_has ls 3 [(0, .ref (o)), (1, .int (nI (i))), (2, .int (nI (j)))] := hl
  refine lv_aload_n S.1 S.2.1 dX10_precedes_0 rfl (lv_at hl 0 rfl) ?_
  refine z_get (v := .ref (o + 4)) S hZ.1 hP 0 (by decide) rfl rfl rfl 3 (by decide) rfl k56 dX10_precedes_1 ?_
  refine lv_iload_n S.1 S.2.1 dX10_precedes_4 rfl (lv_at hl 1 rfl) ?_
  refine z_zald S hZ.1 hP 4 (by decide) rfl rfl (i := i) (by have := hw.1; omega) (by decide) dX10_precedes_5 ?_
  refine lv_aload_n S.1 S.2.1 dX10_precedes_6 rfl (lv_at hl 0 rfl) ?_
  refine z_get (v := .ref (o + 4)) S hZ.1 hP 0 (by decide) rfl rfl rfl 3 (by decide) rfl k56 dX10_precedes_7 ?_
  refine lv_iload_n S.1 S.2.1 dX10_precedes_10 rfl (lv_at hl 2 rfl) ?_
  refine z_zald S hZ.1 hP 4 (by decide) rfl rfl (i := j) (by have := hw.1; omega) (by decide) dX10_precedes_11 ?_
  refine z_ceq (tgt := 22) S (hw.l i) (hw.l j) dX10_precedes_12 (by decide) (fun h1 => ?_) (fun h1 => ?_)
  · refine lv_aload_n S.1 S.2.1 dX10_precedes_22 rfl (lv_at hl 0 rfl) ?_
    refine z_get (v := .ref (o + 3)) S hZ.1 hP 0 (by decide) rfl rfl rfl 2 (by decide) rfl k53 dX10_precedes_23 ?_
    refine lv_iload_n S.1 S.2.1 dX10_precedes_26 rfl (lv_at hl 1 rfl) ?_
    refine z_iald S hZ.1 hP 3 (by decide) rfl rfl (i := i) (by have := hw.1; omega) (by decide) dX10_precedes_27 ?_
    refine lv_aload_n S.1 S.2.1 dX10_precedes_28 rfl (lv_at hl 0 rfl) ?_
    refine z_get (v := .ref (o + 3)) S hZ.1 hP 0 (by decide) rfl rfl rfl 2 (by decide) rfl k53 dX10_precedes_29 ?_
    refine lv_iload_n S.1 S.2.1 dX10_precedes_32 rfl (lv_at hl 2 rfl) ?_
    refine z_iald S hZ.1 hP 3 (by decide) rfl rfl (i := j) (by have := hw.1; omega) (by decide) dX10_precedes_33 ?_
    refine z_ceq (tgt := 58) S (hw.x i) (hw.x j) dX10_precedes_34 (by decide) (fun h2 => ?_) (fun h2 => ?_)
    · refine lv_iload_n S.1 S.2.1 dX10_precedes_58 rfl (lv_at hl 1 rfl) ?_
      refine lv_iload_n S.1 S.2.1 dX10_precedes_59 rfl (lv_at hl 2 rfl) ?_
      refine z_cge (tgt := 67) S (by have := hw.1; omega) (by have := hw.1; omega) dX10_precedes_60 (by decide) (fun h3 => ?_) (fun h3 => ?_)
      · refine z_ic S (k := 0) dX10_precedes_67 (by decide) ?_
        exact z_ri hQ S hr hlk rfl (by unfold zPr; rw [if_pos h1, if_pos h2, decide_eq_false (by omega)]; rfl) dX10_precedes_68
      · refine z_ic S (k := 1) dX10_precedes_63 (by decide) ?_
        refine lv_goto (tgt := 68) S.1 S.2.1 dX10_precedes_64 (by decide) ?_
        exact z_ri hQ S hr hlk rfl (by unfold zPr; rw [if_pos h1, if_pos h2, decide_eq_true (by omega)]; rfl) dX10_precedes_68
    · refine lv_aload_n S.1 S.2.1 dX10_precedes_37 rfl (lv_at hl 0 rfl) ?_
      refine z_get (v := .ref (o + 3)) S hZ.1 hP 0 (by decide) rfl rfl rfl 2 (by decide) rfl k53 dX10_precedes_38 ?_
      refine lv_iload_n S.1 S.2.1 dX10_precedes_41 rfl (lv_at hl 1 rfl) ?_
      refine z_iald S hZ.1 hP 3 (by decide) rfl rfl (i := i) (by have := hw.1; omega) (by decide) dX10_precedes_42 ?_
      refine lv_aload_n S.1 S.2.1 dX10_precedes_43 rfl (lv_at hl 0 rfl) ?_
      refine z_get (v := .ref (o + 3)) S hZ.1 hP 0 (by decide) rfl rfl rfl 2 (by decide) rfl k53 dX10_precedes_44 ?_
      refine lv_iload_n S.1 S.2.1 dX10_precedes_47 rfl (lv_at hl 2 rfl) ?_
      refine z_iald S hZ.1 hP 3 (by decide) rfl rfl (i := j) (by have := hw.1; omega) (by decide) dX10_precedes_48 ?_
      refine z_cle (tgt := 56) S (hw.x i) (hw.x j) dX10_precedes_49 (by decide) (fun h3 => ?_) (fun h3 => ?_)
      · refine z_ic S (k := 0) dX10_precedes_56 (by decide) ?_
        exact z_ri hQ S hr hlk rfl (by unfold zPr; rw [if_pos h1, if_neg h2, decide_eq_false (by omega)]; rfl) dX10_precedes_57
      · refine z_ic S (k := 1) dX10_precedes_52 (by decide) ?_
        refine lv_goto (tgt := 57) S.1 S.2.1 dX10_precedes_53 (by decide) ?_
        exact z_ri hQ S hr hlk rfl (by unfold zPr; rw [if_pos h1, if_neg h2, decide_eq_true (by omega)]; rfl) dX10_precedes_57
  · refine lv_aload_n S.1 S.2.1 dX10_precedes_15 rfl (lv_at hl 0 rfl) ?_
    refine z_get (v := .ref (o + 4)) S hZ.1 hP 0 (by decide) rfl rfl rfl 3 (by decide) rfl k56 dX10_precedes_16 ?_
    refine lv_iload_n S.1 S.2.1 dX10_precedes_19 rfl (lv_at hl 1 rfl) ?_
    refine z_zald S hZ.1 hP 4 (by decide) rfl rfl (i := i) (by have := hw.1; omega) (by decide) dX10_precedes_20 ?_
    exact z_ri hQ S hr hlk (zn_bit (hw.2 i).2.2.2.1) (by unfold zPr; rw [if_neg h1]; rcases (show f 4 i = 0 ∨ f 4 i = 1 by have := (hw.2 i).2.2.2.1; omega) with e | e <;> rw [e] <;> rfl) dX10_precedes_21
theorem ci_X10_rankOf : zCI yX10_rankOf cX10_rankOf 4 (some .int) 1 := ⟨k1019, k3, by decide +kernel⟩
theorem cv_X10_rankOf : Cond.instanceMethod yX10_rankOf ∈ GW ∧ Cond.selects (yX10_rankOf).cls yX10_rankOf yX10_rankOf ∈ GW := ⟨k1018, kp23⟩
set_option maxRecDepth 20000 in
set_option maxHeartbeats 4000000 in
/-- Wicks.rankOf(r) -/
theorem c_X10_rankOf (l : Launch) (g : ZG) {B : Nat} {o : Nat} (f : Nat → Nat → Nat) (hw : zWo f) (r : Nat) (hr9 : r < f 0 4) : Met l yX10_rankOf (.code yX10_rankOf cX10_rankOf 4 (some .int) :: GW) { frames := 1, cells := 0, slots := 0, locals := 22 } (va_Pc [.ref o, .int (nI r)] (zPre g B (fun H => zPm g o 5 TW f H))) (zR (some (.int (nI (zRk f r))))) 0 0 (fun _ => False) := by
  refine zMet (by decide) (Nat.le_of_ble_eq_true rfl) ?_
  intro p e R s m args below meth c Q ls hR hargs hQ S hr hlk hP hZ hS hnm hl
  have hl : lv_has ls 4 [(0, .ref (o)), (1, .int (nI (r)))] := hl
  refine z_ic S (k := 0) dX10_rankOf_0 (by decide) ?_
  refine lv_istore_n (lv' := [(2, .int (nI (0))), (0, .ref (o)), (1, .int (nI (r)))]) S.1 S.2.1 dX10_rankOf_1 rfl hl (by decide) rfl (fun ls hl => ?_)
  refine z_ic S (k := 0) dX10_rankOf_2 (by decide) ?_
  refine lv_istore_n (lv' := [(3, .int (nI (0))), (2, .int (nI (0))), (0, .ref (o)), (1, .int (nI (r)))]) S.1 S.2.1 dX10_rankOf_3 rfl hl (by decide) rfl (fun ls hl => ?_)
  have loop : ∀ (n i x : Nat) (ls : Array Slot), (i ≤ f 0 4) → (f 0 4 < i + n) → (x = zSum (fun i => (zPr f i r).toNat) i) → lv_has ls 4 [(0, .ref (o)), (1, .int (nI (r))), (2, .int (nI (x))), (3, .int (nI (i)))] → W p l e R s m args below meth c s.heap [] 0 0 Q (F0 m 4 ls []) := by
    intro n
    induction n with
    | zero => intro i x ls h1 h2 hx hl; exact absurd h2 (by omega)
    | succ n ih =>
      intro i x ls h1 h2 hx hl
      refine lv_iload_n S.1 S.2.1 dX10_rankOf_4 rfl (lv_at hl 3 rfl) ?_
      refine lv_aload_n S.1 S.2.1 dX10_rankOf_5 rfl (lv_at hl 0 rfl) ?_
      refine z_get (v := .int (nI (f 0 4))) S hZ.1 hP 0 (by decide) rfl rfl rfl 4 (by decide) rfl k59 dX10_rankOf_6 ?_
      refine z_cge (tgt := 30) S (by have := hw.1; omega) hw.c dX10_rankOf_9 (by decide) (fun h4 => ?_) (fun h4 => ?_)
      · refine lv_iload_n S.1 S.2.1 dX10_rankOf_30 rfl (lv_at hl 2 rfl) ?_
        obtain rfl : i = f 0 4 := by omega
        exact z_ri hQ S hr hlk (zn_int _) (by rw [hx]; rfl) dX10_rankOf_31
      · refine lv_aload_n S.1 S.2.1 dX10_rankOf_12 rfl (lv_at hl 0 rfl) ?_
        refine lv_iload_n S.1 S.2.1 dX10_rankOf_13 rfl (lv_at hl 3 rfl) ?_
        refine lv_iload_n S.1 S.2.1 dX10_rankOf_14 rfl (lv_at hl 1 rfl) ?_
        refine z_cV (v := some (.int (nI (zPr f i r).toNat))) (rest := []) (As := [.int (nI (i)), .int (nI (r))]) S hZ hS (c_X10_precedes l g f hw i r h4 hr9) ci_X10_precedes cv_X10_precedes k1020 ⟨rfl, rfl, by rw [hR]; decide, by rw [hR]; decide⟩ hP (hP.recv hZ.1 0 (by decide) rfl rfl rfl) hl.1 rfl (Nat.le_of_ble_eq_true rfl) dX10_rankOf_15 ⟨by rw [hR]; decide, by rw [hR]; decide⟩ rfl ?_
        refine z_beq (tgt := 24) S dX10_rankOf_18 (by decide) (fun h5 => ?_) (fun h5 => ?_)
        · refine z_inc S (lv' := [(3, .int (nI (i + 1))), (0, .ref (o)), (1, .int (nI (r))), (2, .int (nI (x)))]) (k := 3) (b := 1) dX10_rankOf_24 hl rfl (by decide) (by decide) rfl (fun ls hl => ?_)
          refine lv_goto (tgt := 4) S.1 S.2.1 dX10_rankOf_27 (by decide) ?_
          exact ih (i + 1) x ls (by omega) (by omega) (by rw [zSum, hx, h5]; rfl) (lv_sub hl [1, 2, 3, 0] rfl)
        · refine z_inc S (lv' := [(2, .int (nI (x + 1))), (0, .ref (o)), (1, .int (nI (r))), (3, .int (nI (i)))]) (k := 2) (b := 1) dX10_rankOf_21 hl rfl (by decide) (by decide) rfl (fun ls hl => ?_)
          refine z_inc S (lv' := [(3, .int (nI (i + 1))), (2, .int (nI (x + 1))), (0, .ref (o)), (1, .int (nI (r)))]) (k := 3) (b := 1) dX10_rankOf_24 hl rfl (by decide) (by decide) rfl (fun ls hl => ?_)
          refine lv_goto (tgt := 4) S.1 S.2.1 dX10_rankOf_27 (by decide) ?_
          exact ih (i + 1) (x + 1) ls (by omega) (by omega) (by rw [zSum, hx, h5]; rfl) (lv_sub hl [2, 3, 1, 0] rfl)
  exact loop (f 0 4 + 1) 0 0 ls (Nat.zero_le _) (by omega) rfl (lv_sub hl [2, 3, 1, 0] rfl)
theorem zRk_le (f : Nat → Nat → Nat) (w : Nat) : zRk f w ≤ f 0 4 := by
  have h := zSum_le (q := fun i => (zPr f i w).toNat) (b := 1) (fun i => by show (zPr f i w).toNat ≤ 1; cases zPr f i w <;> simp) (f 0 4)
  show zSum _ _ ≤ _
  omega
/-- the wick at a rank, 0 if there is none -/
def zAt (f : Nat → Nat → Nat) (r : Nat) : Nat := if zFi (fun i => decide (zRk f i = r)) (f 0 4) < f 0 4 then zFi (fun i => decide (zRk f i = r)) (f 0 4) else 0
theorem ci_X10_atRank : zCI yX10_atRank cX10_atRank 3 (some .int) 1 := ⟨k1015, k3, by decide +kernel⟩
theorem cv_X10_atRank : Cond.instanceMethod yX10_atRank ∈ GW ∧ Cond.selects (yX10_atRank).cls yX10_atRank yX10_atRank ∈ GW := ⟨k1013, k1014⟩
set_option maxRecDepth 20000 in
set_option maxHeartbeats 4000000 in
/-- Wicks.atRank(r) -/
theorem c_X10_atRank (l : Launch) (g : ZG) {B : Nat} {o : Nat} (f : Nat → Nat → Nat) (hw : zWo f) (r : Nat) (hr9 : r < 2 ^ 31) : Met l yX10_atRank (.code yX10_atRank cX10_atRank 3 (some .int) :: GW) { frames := 2, cells := 0, slots := 0, locals := 45 } (va_Pc [.ref o, .int (nI r)] (zPre g B (fun H => zPm g o 5 TW f H))) (zR (some (.int (nI (zAt f r))))) 0 0 (fun _ => False) := by
  refine zMet (by decide) (Nat.le_of_ble_eq_true rfl) ?_
  intro p e R s m args below meth c Q ls hR hargs hQ S hr hlk hP hZ hS hnm hl
  have hl : lv_has ls 3 [(0, .ref (o)), (1, .int (nI (r)))] := hl
  refine z_ic S (k := 0) dX10_atRank_0 (by decide) ?_
  refine lv_istore_n (lv' := [(2, .int (nI (0))), (0, .ref (o)), (1, .int (nI (r)))]) S.1 S.2.1 dX10_atRank_1 rfl hl (by decide) rfl (fun ls hl => ?_)
  have loop : ∀ (n i : Nat) (ls : Array Slot), (i ≤ f 0 4) → (f 0 4 < i + n) → (∀ k, k < i → decide (zRk f k = r) = false) → lv_has ls 3 [(0, .ref (o)), (1, .int (nI (r))), (2, .int (nI (i)))] → W p l e R s m args below meth c s.heap [] 0 0 Q (F0 m 2 ls []) := by
    intro n
    induction n with
    | zero => intro i ls h1 h2 hx hl; exact absurd h2 (by omega)
    | succ n ih =>
      intro i ls h1 h2 hx hl
      refine lv_iload_n S.1 S.2.1 dX10_atRank_2 rfl (lv_at hl 2 rfl) ?_
      refine lv_aload_n S.1 S.2.1 dX10_atRank_3 rfl (lv_at hl 0 rfl) ?_
      refine z_get (v := .int (nI (f 0 4))) S hZ.1 hP 0 (by decide) rfl rfl rfl 4 (by decide) rfl k59 dX10_atRank_4 ?_
      refine z_cge (tgt := 27) S (by have := hw.1; omega) hw.c dX10_atRank_7 (by decide) (fun h4 => ?_) (fun h4 => ?_)
      · refine z_ic S (k := 0) dX10_atRank_27 (by decide) ?_
        exact z_ri hQ S hr hlk (zn_int _) (by unfold zAt; rw [zFi_none (fun k hk => hx k (by omega)), if_neg (Nat.lt_irrefl _)]) dX10_atRank_28
      · refine lv_aload_n S.1 S.2.1 dX10_atRank_10 rfl (lv_at hl 0 rfl) ?_
        refine lv_iload_n S.1 S.2.1 dX10_atRank_11 rfl (lv_at hl 2 rfl) ?_
        refine z_cV (v := some (.int (nI (zRk f i)))) (rest := []) (As := [.int (nI (i))]) S hZ hS (c_X10_rankOf l g f hw i h4) ci_X10_rankOf cv_X10_rankOf k1016 ⟨rfl, rfl, by rw [hR]; decide, by rw [hR]; decide⟩ hP (hP.recv hZ.1 0 (by decide) rfl rfl rfl) hl.1 rfl (Nat.le_of_ble_eq_true rfl) dX10_atRank_12 ⟨by rw [hR]; decide, by rw [hR]; decide⟩ rfl ?_
        refine lv_iload_n S.1 S.2.1 dX10_atRank_15 rfl (lv_at hl 1 rfl) ?_
        refine z_cne (tgt := 21) S (by have := zRk_le f i; have := hw.1; omega) hr9 dX10_atRank_16 (by decide) (fun h5 => ?_) (fun h5 => ?_)
        · refine z_inc S (lv' := [(2, .int (nI (i + 1))), (0, .ref (o)), (1, .int (nI (r)))]) (k := 2) (b := 1) dX10_atRank_21 hl rfl (by decide) (by decide) rfl (fun ls hl => ?_)
          refine lv_goto (tgt := 2) S.1 S.2.1 dX10_atRank_24 (by decide) ?_
          exact ih (i + 1) ls (by omega) (by omega) (fun k hk => by rcases (show k < i ∨ k = i by omega) with q | q; exact hx k q; subst q; exact decide_eq_false h5) (lv_sub hl [1, 2, 0] rfl)
        · refine lv_iload_n S.1 S.2.1 dX10_atRank_19 rfl (lv_at hl 2 rfl) ?_
          exact z_ri hQ S hr hlk (zn_int _) (by unfold zAt; rw [zFi_eq hx (decide_eq_true h5) h4, if_pos h4]) dX10_atRank_20
  exact loop (f 0 4 + 1) 0 ls (Nat.zero_le _) (by omega) (fun k hk => absurd hk (Nat.not_lt_zero k)) (lv_sub hl [1, 2, 0] rfl)
theorem ci_X10_leadingColour : zCI yX10_leadingColour cX10_leadingColour 4 (some .int) 0 := ⟨k583, k3, by decide +kernel⟩
theorem cv_X10_leadingColour : Cond.instanceMethod yX10_leadingColour ∈ GW ∧ Cond.selects (yX10_leadingColour).cls yX10_leadingColour yX10_leadingColour ∈ GW := ⟨k581, k582⟩
set_option maxRecDepth 20000 in
set_option maxHeartbeats 4000000 in
/-- Wicks.leadingColour() -/
theorem c_X10_leadingColour (l : Launch) (g : ZG) {B : Nat} {o : Nat} (f : Nat → Nat → Nat) (hw : zWo f) : Met l yX10_leadingColour (.code yX10_leadingColour cX10_leadingColour 4 (some .int) :: GW) { frames := 0, cells := 0, slots := 0, locals := 0 } (va_Pc [.ref o] (zPre g B (fun H => zPm g o 5 TW f H))) (zR (some (.int (nI (zLd f (f 0 4)).1)))) 0 0 (fun _ => False) := by
  refine zMet (by decide) (Nat.le_of_ble_eq_true rfl) ?_
  intro p e R s m args below meth c Q ls hR hargs hQ S hr hlk hP hZ hS hnm hl
  have hl : lv_has ls 4 [(0, .ref (o))] := hl
  refine z_ic S (k := 0) dX10_leadingColour_0 (by decide) ?_
  refine lv_istore_n (lv' := [(1, .int (nI (0))), (0, .ref (o))]) S.1 S.2.1 dX10_leadingColour_1 rfl hl (by decide) rfl (fun ls hl => ?_)
  refine z_ic S (k := 0) dX10_leadingColour_2 (by decide) ?_
  refine lv_istore_n (lv' := [(2, .int (nI (0))), (1, .int (nI (0))), (0, .ref (o))]) S.1 S.2.1 dX10_leadingColour_3 rfl hl (by decide) rfl (fun ls hl => ?_)
  refine z_ic S (k := 0) dX10_leadingColour_4 (by decide) ?_
  refine lv_istore_n (lv' := [(3, .int (nI (0))), (2, .int (nI (0))), (1, .int (nI (0))), (0, .ref (o))]) S.1 S.2.1 dX10_leadingColour_5 rfl hl (by decide) rfl (fun ls hl => ?_)
  have loop : ∀ (n i x y : Nat) (ls : Array Slot), (i ≤ f 0 4) → (f 0 4 < i + n) → (x = (zLd f i).1) → (y = (zLd f i).2) → lv_has ls 4 [(0, .ref (o)), (1, .int (nI (x))), (2, .int (nI (y))), (3, .int (nI (i)))] → W p l e R s m args below meth c s.heap [] 0 0 Q (F0 m 6 ls []) := by
    intro n
    induction n with
    | zero => intro i x y ls h1 h2 hx hy hl; exact absurd h2 (by omega)
    | succ n ih =>
      intro i x y ls h1 h2 hx hy hl
      refine lv_iload_n S.1 S.2.1 dX10_leadingColour_6 rfl (lv_at hl 3 rfl) ?_
      refine lv_aload_n S.1 S.2.1 dX10_leadingColour_7 rfl (lv_at hl 0 rfl) ?_
      refine z_get (v := .int (nI (f 0 4))) S hZ.1 hP 0 (by decide) rfl rfl rfl 4 (by decide) rfl k59 dX10_leadingColour_8 ?_
      refine z_cge (tgt := 53) S (by have := hw.1; omega) hw.c dX10_leadingColour_11 (by decide) (fun h4 => ?_) (fun h4 => ?_)
      · refine lv_iload_n S.1 S.2.1 dX10_leadingColour_53 rfl (lv_at hl 1 rfl) ?_
        obtain rfl : i = f 0 4 := by omega
        exact z_ri hQ S hr hlk (zn_int _) (by rw [hx]) dX10_leadingColour_54
      · refine lv_aload_n S.1 S.2.1 dX10_leadingColour_14 rfl (lv_at hl 0 rfl) ?_
        refine z_get (v := .ref (o + 4)) S hZ.1 hP 0 (by decide) rfl rfl rfl 3 (by decide) rfl k56 dX10_leadingColour_15 ?_
        refine lv_iload_n S.1 S.2.1 dX10_leadingColour_18 rfl (lv_at hl 3 rfl) ?_
        refine z_zald S hZ.1 hP 4 (by decide) rfl rfl (i := i) (by have := hw.1; omega) (by decide) dX10_leadingColour_19 ?_
        refine z_ieq (tgt := 47) S (hw.l i) dX10_leadingColour_20 (by decide) (fun h5 => ?_) (fun h5 => ?_)
        · refine z_inc S (lv' := [(3, .int (nI (i + 1))), (0, .ref (o)), (1, .int (nI (x))), (2, .int (nI (y)))]) (k := 3) (b := 1) dX10_leadingColour_47 hl rfl (by decide) (by decide) rfl (fun ls hl => ?_)
          refine lv_goto (tgt := 6) S.1 S.2.1 dX10_leadingColour_50 (by decide) ?_
          exact ih (i + 1) x y ls (by omega) (by omega) (by rw [zLd, if_neg (by omega)]; exact hx) (by rw [zLd, if_neg (by omega)]; exact hy) (lv_sub hl [1, 2, 3, 0] rfl)
        · have h6 : f 4 i = 1 := by have := (hw.2 i).2.2.2.1; omega
          refine lv_aload_n S.1 S.2.1 dX10_leadingColour_23 rfl (lv_at hl 0 rfl) ?_
          refine z_get (v := .ref (o + 3)) S hZ.1 hP 0 (by decide) rfl rfl rfl 2 (by decide) rfl k53 dX10_leadingColour_24 ?_
          refine lv_iload_n S.1 S.2.1 dX10_leadingColour_27 rfl (lv_at hl 3 rfl) ?_
          refine z_iald S hZ.1 hP 3 (by decide) rfl rfl (i := i) (by have := hw.1; omega) (by decide) dX10_leadingColour_28 ?_
          refine lv_iload_n S.1 S.2.1 dX10_leadingColour_29 rfl (lv_at hl 2 rfl) ?_
          refine z_cle (tgt := 47) S (hw.x i) (by rw [hy]; have := (zLd_le hw i).2; omega) dX10_leadingColour_30 (by decide) (fun h7 => ?_) (fun h7 => ?_)
          · refine z_inc S (lv' := [(3, .int (nI (i + 1))), (0, .ref (o)), (1, .int (nI (x))), (2, .int (nI (y)))]) (k := 3) (b := 1) dX10_leadingColour_47 hl rfl (by decide) (by decide) rfl (fun ls hl => ?_)
            refine lv_goto (tgt := 6) S.1 S.2.1 dX10_leadingColour_50 (by decide) ?_
            exact ih (i + 1) x y ls (by omega) (by omega) (by rw [zLd, if_neg (by omega)]; exact hx) (by rw [zLd, if_neg (by omega)]; exact hy) (lv_sub hl [1, 2, 3, 0] rfl)
          · refine lv_aload_n S.1 S.2.1 dX10_leadingColour_33 rfl (lv_at hl 0 rfl) ?_
            refine z_get (v := .ref (o + 3)) S hZ.1 hP 0 (by decide) rfl rfl rfl 2 (by decide) rfl k53 dX10_leadingColour_34 ?_
            refine lv_iload_n S.1 S.2.1 dX10_leadingColour_37 rfl (lv_at hl 3 rfl) ?_
            refine z_iald S hZ.1 hP 3 (by decide) rfl rfl (i := i) (by have := hw.1; omega) (by decide) dX10_leadingColour_38 ?_
            refine lv_istore_n (lv' := [(2, .int (nI (f 3 i))), (0, .ref (o)), (1, .int (nI (x))), (3, .int (nI (i)))]) S.1 S.2.1 dX10_leadingColour_39 rfl hl (by decide) rfl (fun ls hl => ?_)
            refine lv_aload_n S.1 S.2.1 dX10_leadingColour_40 rfl (lv_at hl 1 rfl) ?_
            refine z_get (v := .ref (o + 1)) S hZ.1 hP 0 (by decide) rfl rfl rfl 0 (by decide) rfl k51 dX10_leadingColour_41 ?_
            refine lv_iload_n S.1 S.2.1 dX10_leadingColour_44 rfl (lv_at hl 3 rfl) ?_
            refine z_iald S hZ.1 hP 1 (by decide) rfl rfl (i := i) (by have := hw.1; omega) (by decide) dX10_leadingColour_45 ?_
            refine lv_istore_n (lv' := [(1, .int (nI (f 1 i))), (2, .int (nI (f 3 i))), (0, .ref (o)), (3, .int (nI (i)))]) S.1 S.2.1 dX10_leadingColour_46 rfl hl (by decide) rfl (fun ls hl => ?_)
            refine z_inc S (lv' := [(3, .int (nI (i + 1))), (1, .int (nI (f 1 i))), (2, .int (nI (f 3 i))), (0, .ref (o))]) (k := 3) (b := 1) dX10_leadingColour_47 hl rfl (by decide) (by decide) rfl (fun ls hl => ?_)
            refine lv_goto (tgt := 6) S.1 S.2.1 dX10_leadingColour_50 (by decide) ?_
            exact ih (i + 1) (f 1 i) (f 3 i) ls (by omega) (by omega) (by rw [zLd, if_pos ⟨h6, by omega⟩]) (by rw [zLd, if_pos ⟨h6, by omega⟩]) (lv_sub hl [3, 1, 2, 0] rfl)
  exact loop (f 0 4 + 1) 0 0 0 ls (Nat.zero_le _) (by omega) rfl rfl (lv_sub hl [3, 2, 1, 0] rfl)
theorem ci_X10_anyLitAfter : zCI yX10_anyLitAfter cX10_anyLitAfter 3 (some .boolean) 1 := ⟨k1037, k3, by decide +kernel⟩
theorem cv_X10_anyLitAfter : Cond.instanceMethod yX10_anyLitAfter ∈ GW ∧ Cond.selects (yX10_anyLitAfter).cls yX10_anyLitAfter yX10_anyLitAfter ∈ GW := ⟨k1035, k1036⟩
set_option maxRecDepth 20000 in
set_option maxHeartbeats 4000000 in
/-- Wicks.anyLitAfter(q) -/
theorem c_X10_anyLitAfter (l : Launch) (g : ZG) {B : Nat} {o : Nat} (f : Nat → Nat → Nat) (hw : zWo f) (q : Nat) (hq9 : q < 2 ^ 31) : Met l yX10_anyLitAfter (.code yX10_anyLitAfter cX10_anyLitAfter 3 (some .boolean) :: GW) { frames := 0, cells := 0, slots := 0, locals := 0 } (va_Pc [.ref o, .int (nI q)] (zPre g B (fun H => zPm g o 5 TW f H))) (zR (some (.int (nI (zAf f q).toNat)))) 0 0 (fun _ => False) := by
  refine zMet (by decide) (Nat.le_of_ble_eq_true rfl) ?_
  intro p e R s m args below meth c Q ls hR hargs hQ S hr hlk hP hZ hS hnm hl
  have hl : lv_has ls 3 [(0, .ref (o)), (1, .int (nI (q)))] := hl
  refine z_ic S (k := 0) dX10_anyLitAfter_0 (by decide) ?_
  refine lv_istore_n (lv' := [(2, .int (nI (0))), (0, .ref (o)), (1, .int (nI (q)))]) S.1 S.2.1 dX10_anyLitAfter_1 rfl hl (by decide) rfl (fun ls hl => ?_)
  have loop : ∀ (n i : Nat) (ls : Array Slot), (i ≤ f 0 4) → (f 0 4 < i + n) → (∀ k, k < i → decide (f 4 k = 1 ∧ q < f 3 k) = false) → lv_has ls 3 [(0, .ref (o)), (1, .int (nI (q))), (2, .int (nI (i)))] → W p l e R s m args below meth c s.heap [] 0 0 Q (F0 m 2 ls []) := by
    intro n
    induction n with
    | zero => intro i ls h1 h2 hx hl; exact absurd h2 (by omega)
    | succ n ih =>
      intro i ls h1 h2 hx hl
      refine lv_iload_n S.1 S.2.1 dX10_anyLitAfter_2 rfl (lv_at hl 2 rfl) ?_
      refine lv_aload_n S.1 S.2.1 dX10_anyLitAfter_3 rfl (lv_at hl 0 rfl) ?_
      refine z_get (v := .int (nI (f 0 4))) S hZ.1 hP 0 (by decide) rfl rfl rfl 4 (by decide) rfl k59 dX10_anyLitAfter_4 ?_
      refine z_cge (tgt := 37) S (by have := hw.1; omega) hw.c dX10_anyLitAfter_7 (by decide) (fun h4 => ?_) (fun h4 => ?_)
      · refine z_ic S (k := 0) dX10_anyLitAfter_37 (by decide) ?_
        exact z_ri hQ S hr hlk rfl (by unfold zAf; rw [zAny_f (fun k hk => hx k (by omega))]; rfl) dX10_anyLitAfter_38
      · refine lv_aload_n S.1 S.2.1 dX10_anyLitAfter_10 rfl (lv_at hl 0 rfl) ?_
        refine z_get (v := .ref (o + 4)) S hZ.1 hP 0 (by decide) rfl rfl rfl 3 (by decide) rfl k56 dX10_anyLitAfter_11 ?_
        refine lv_iload_n S.1 S.2.1 dX10_anyLitAfter_14 rfl (lv_at hl 2 rfl) ?_
        refine z_zald S hZ.1 hP 4 (by decide) rfl rfl (i := i) (by have := hw.1; omega) (by decide) dX10_anyLitAfter_15 ?_
        refine z_ieq (tgt := 31) S (hw.l i) dX10_anyLitAfter_16 (by decide) (fun h5 => ?_) (fun h5 => ?_)
        · refine z_inc S (lv' := [(2, .int (nI (i + 1))), (0, .ref (o)), (1, .int (nI (q)))]) (k := 2) (b := 1) dX10_anyLitAfter_31 hl rfl (by decide) (by decide) rfl (fun ls hl => ?_)
          refine lv_goto (tgt := 2) S.1 S.2.1 dX10_anyLitAfter_34 (by decide) ?_
          exact ih (i + 1) ls (by omega) (by omega) (fun k hk => by rcases (show k < i ∨ k = i by omega) with z | z; exact hx k z; subst z; exact decide_eq_false (by omega)) (lv_sub hl [1, 2, 0] rfl)
        · refine lv_aload_n S.1 S.2.1 dX10_anyLitAfter_19 rfl (lv_at hl 0 rfl) ?_
          refine z_get (v := .ref (o + 3)) S hZ.1 hP 0 (by decide) rfl rfl rfl 2 (by decide) rfl k53 dX10_anyLitAfter_20 ?_
          refine lv_iload_n S.1 S.2.1 dX10_anyLitAfter_23 rfl (lv_at hl 2 rfl) ?_
          refine z_iald S hZ.1 hP 3 (by decide) rfl rfl (i := i) (by have := hw.1; omega) (by decide) dX10_anyLitAfter_24 ?_
          refine lv_iload_n S.1 S.2.1 dX10_anyLitAfter_25 rfl (lv_at hl 1 rfl) ?_
          refine z_cle (tgt := 31) S (hw.x i) hq9 dX10_anyLitAfter_26 (by decide) (fun h6 => ?_) (fun h6 => ?_)
          · refine z_inc S (lv' := [(2, .int (nI (i + 1))), (0, .ref (o)), (1, .int (nI (q)))]) (k := 2) (b := 1) dX10_anyLitAfter_31 hl rfl (by decide) (by decide) rfl (fun ls hl => ?_)
            refine lv_goto (tgt := 2) S.1 S.2.1 dX10_anyLitAfter_34 (by decide) ?_
            exact ih (i + 1) ls (by omega) (by omega) (fun k hk => by rcases (show k < i ∨ k = i by omega) with z | z; exact hx k z; subst z; exact decide_eq_false (by omega)) (lv_sub hl [1, 2, 0] rfl)
          · refine z_ic S (k := 1) dX10_anyLitAfter_29 (by decide) ?_
            exact z_ri hQ S hr hlk rfl (by unfold zAf; rw [zAny_t (i := i) (decide_eq_true ⟨by have := (hw.2 i).2.2.2.1; omega, h6⟩) h4]; rfl) dX10_anyLitAfter_30
  exact loop (f 0 4 + 1) 0 ls (Nat.zero_le _) (by omega) (fun k hk => absurd hk (Nat.not_lt_zero k)) (lv_sub hl [1, 2, 0] rfl)
theorem ci_X10_mostLitWax : zCI yX10_mostLitWax cX10_mostLitWax 3 (some .int) 0 := ⟨k1045, k3, by decide +kernel⟩
theorem cv_X10_mostLitWax : Cond.instanceMethod yX10_mostLitWax ∈ GW ∧ Cond.selects (yX10_mostLitWax).cls yX10_mostLitWax yX10_mostLitWax ∈ GW := ⟨k1043, k1044⟩
set_option maxRecDepth 20000 in
set_option maxHeartbeats 4000000 in
/-- Wicks.mostLitWax() -/
theorem c_X10_mostLitWax (l : Launch) (g : ZG) {B : Nat} {o : Nat} (f : Nat → Nat → Nat) (hw : zWo f) : Met l yX10_mostLitWax (.code yX10_mostLitWax cX10_mostLitWax 3 (some .int) :: GW) { frames := 1, cells := 0, slots := 0, locals := 21 } (va_Pc [.ref o] (zPre g B (fun H => zPm g o 5 TW f H))) (zR (some (.int (nI (zMx f (f 0 4)))))) 0 0 (fun _ => False) := by
  refine zMet (by decide) (Nat.le_of_ble_eq_true rfl) ?_
  intro p e R s m args below meth c Q ls hR hargs hQ S hr hlk hP hZ hS hnm hl
  have hl : lv_has ls 3 [(0, .ref (o))] := hl
  refine z_ic S (k := 0) dX10_mostLitWax_0 (by decide) ?_
  refine lv_istore_n (lv' := [(1, .int (nI (0))), (0, .ref (o))]) S.1 S.2.1 dX10_mostLitWax_1 rfl hl (by decide) rfl (fun ls hl => ?_)
  refine z_ic S (k := 0) dX10_mostLitWax_2 (by decide) ?_
  refine lv_istore_n (lv' := [(2, .int (nI (0))), (1, .int (nI (0))), (0, .ref (o))]) S.1 S.2.1 dX10_mostLitWax_3 rfl hl (by decide) rfl (fun ls hl => ?_)
  have loop : ∀ (n i x : Nat) (ls : Array Slot), (i ≤ f 0 4) → (f 0 4 < i + n) → (x = zMx f i) → lv_has ls 3 [(0, .ref (o)), (1, .int (nI (x))), (2, .int (nI (i)))] → W p l e R s m args below meth c s.heap [] 0 0 Q (F0 m 4 ls []) := by
    intro n
    induction n with
    | zero => intro i x ls h1 h2 hx hl; exact absurd h2 (by omega)
    | succ n ih =>
      intro i x ls h1 h2 hx hl
      refine lv_iload_n S.1 S.2.1 dX10_mostLitWax_4 rfl (lv_at hl 2 rfl) ?_
      refine lv_aload_n S.1 S.2.1 dX10_mostLitWax_5 rfl (lv_at hl 0 rfl) ?_
      refine z_get (v := .int (nI (f 0 4))) S hZ.1 hP 0 (by decide) rfl rfl rfl 4 (by decide) rfl k59 dX10_mostLitWax_6 ?_
      refine z_cge (tgt := 38) S (by have := hw.1; omega) hw.c dX10_mostLitWax_9 (by decide) (fun h4 => ?_) (fun h4 => ?_)
      · refine lv_iload_n S.1 S.2.1 dX10_mostLitWax_38 rfl (lv_at hl 1 rfl) ?_
        obtain rfl : i = f 0 4 := by omega
        exact z_ri hQ S hr hlk (zn_int _) (by rw [hx]) dX10_mostLitWax_39
      · refine lv_aload_n S.1 S.2.1 dX10_mostLitWax_12 rfl (lv_at hl 0 rfl) ?_
        refine z_get (v := .ref (o + 4)) S hZ.1 hP 0 (by decide) rfl rfl rfl 3 (by decide) rfl k56 dX10_mostLitWax_13 ?_
        refine lv_iload_n S.1 S.2.1 dX10_mostLitWax_16 rfl (lv_at hl 2 rfl) ?_
        refine z_zald S hZ.1 hP 4 (by decide) rfl rfl (i := i) (by have := hw.1; omega) (by decide) dX10_mostLitWax_17 ?_
        refine z_ieq (tgt := 32) S (hw.l i) dX10_mostLitWax_18 (by decide) (fun h5 => ?_) (fun h5 => ?_)
        · refine z_inc S (lv' := [(2, .int (nI (i + 1))), (0, .ref (o)), (1, .int (nI (x)))]) (k := 2) (b := 1) dX10_mostLitWax_32 hl rfl (by decide) (by decide) rfl (fun ls hl => ?_)
          refine lv_goto (tgt := 4) S.1 S.2.1 dX10_mostLitWax_35 (by decide) ?_
          exact ih (i + 1) x ls (by omega) (by omega) (by rw [zMx, if_neg (by omega)]; exact hx) (lv_sub hl [1, 2, 0] rfl)
        · refine lv_iload_n S.1 S.2.1 dX10_mostLitWax_21 rfl (lv_at hl 1 rfl) ?_
          refine lv_aload_n S.1 S.2.1 dX10_mostLitWax_22 rfl (lv_at hl 0 rfl) ?_
          refine z_get (v := .ref (o + 3)) S hZ.1 hP 0 (by decide) rfl rfl rfl 2 (by decide) rfl k53 dX10_mostLitWax_23 ?_
          refine lv_iload_n S.1 S.2.1 dX10_mostLitWax_26 rfl (lv_at hl 2 rfl) ?_
          refine z_iald S hZ.1 hP 3 (by decide) rfl rfl (i := i) (by have := hw.1; omega) (by decide) dX10_mostLitWax_27 ?_
          refine z_max S (by rw [hx]; have := zMx_le hw i; omega) (hw.x i) hl.1 k1046 ⟨k767, k21, k768⟩ (by rw [hR]; decide) (by rw [hR]; decide) (by rw [hR]; decide) (by rw [hR]; decide) dX10_mostLitWax_28 ?_
          refine lv_istore_n (lv' := [(1, .int (nI (max x (f 3 i)))), (0, .ref (o)), (2, .int (nI (i)))]) S.1 S.2.1 dX10_mostLitWax_31 rfl hl (by decide) rfl (fun ls hl => ?_)
          refine z_inc S (lv' := [(2, .int (nI (i + 1))), (1, .int (nI (max x (f 3 i)))), (0, .ref (o))]) (k := 2) (b := 1) dX10_mostLitWax_32 hl rfl (by decide) (by decide) rfl (fun ls hl => ?_)
          refine lv_goto (tgt := 4) S.1 S.2.1 dX10_mostLitWax_35 (by decide) ?_
          exact ih (i + 1) (max x (f 3 i)) ls (by omega) (by omega) (by rw [zMx, if_pos (by have := (hw.2 i).2.2.2.1; omega), hx]) (lv_sub hl [2, 1, 0] rfl)
  exact loop (f 0 4 + 1) 0 0 ls (Nat.zero_le _) (by omega) rfl (lv_sub hl [2, 1, 0] rfl)
/-- one row's wax is taken from the first n wicks -/
def zBd (f : Nat → Nat → Nat) (n : Nat) : Nat → Nat → Nat := fun c j => match c with
  | 3 => if j < n ∧ f 4 j = 1 then f 3 j - 1 else f 3 j
  | 4 => if j < n ∧ f 4 j = 1 then (if 1 < f 3 j then 1 else 0) else f 4 j
  | c => f c j
theorem zBd_0 (f : Nat → Nat → Nat) : zBd f 0 = f := by
  funext c j
  unfold zBd
  split <;> simp
theorem zBd_no {f : Nat → Nat → Nat} {i : Nat} (h : ¬ f 4 i = 1) : zBd f (i + 1) = zBd f i := by
  funext c j
  unfold zBd
  by_cases e : j = i
  · subst e; split <;> simp [h]
  · have e2 : (j < i + 1) = (j < i) := by apply propext; omega
    simp only [e2]
theorem zBd_yes {f : Nat → Nat → Nat} {i x y : Nat} (h : f 4 i = 1) (hx : x = f 3 i - 1) (hy : y = if 1 < f 3 i then 1 else 0) : va_up (va_up (zBd f i) 3 (va_up (zBd f i 3) i x)) 4 (va_up (va_up (zBd f i) 3 (va_up (zBd f i 3) i x) 4) i y) = zBd f (i + 1) := by
  subst hx; subst hy
  funext c j
  by_cases e : j = i
  · subst e
    by_cases c4 : c = 4
    · subst c4; simp [va_up, zBd, h]
    · by_cases c3 : c = 3
      · subst c3; simp [va_up, zBd, h]
      · simp [va_up, zBd, c3, c4]
  · have e2 : (j < i + 1) = (j < i) := by apply propext; omega
    by_cases c4 : c = 4
    · subst c4; simp [va_up, zBd, e, e2]
    · by_cases c3 : c = 3
      · subst c3; simp [va_up, zBd, e, e2]
      · simp [va_up, zBd, c3, c4]
/-- a wick is added -/
def zPl (f : Nat → Nat → Nat) (a b x : Nat) : Nat → Nat → Nat := va_up (va_up (va_up (va_up (va_up f 1 (va_up (f 1) (f 0 4) a)) 2 (va_up (f 2) (f 0 4) b)) 3 (va_up (f 3) (f 0 4) x)) 4 (va_up (f 4) (f 0 4) 0)) 0 (va_up (f 0) 4 (f 0 4 + 1))
theorem ci_X10_pour : zCI yX10_pour cX10_pour 3 (some .int) 2 := ⟨k562, k3, by decide +kernel⟩
theorem cv_X10_pour : Cond.instanceMethod yX10_pour ∈ GW ∧ Cond.selects (yX10_pour).cls yX10_pour yX10_pour ∈ GW := ⟨k560, k561⟩
set_option maxRecDepth 20000 in
set_option maxHeartbeats 4000000 in
/-- Wicks.pour(i, x) -/
theorem c_X10_pour (l : Launch) (g : ZG) {B : Nat} {o : Nat} (hB : B ≤ o) (f : Nat → Nat → Nat) (hw : zWo f) (i x : Nat) (hi : i < 8) : Met l yX10_pour (.code yX10_pour cX10_pour 3 (some .int) :: GW) { frames := 0, cells := 0, slots := 0, locals := 0 } (va_Pc [.ref o, .int (nI i), .int (nI x)] (zPre g B (fun H => zPm g o 5 TW f H))) (zX (fun v H => v = some (.int (nI (f 3 i + x))) ∧ zPm g o 5 TW (va_up f 3 (va_up (f 3) i (f 3 i + x))) H) o 5) 0 0 (zA B) := by
  refine zMet (by decide) (Nat.le_of_ble_eq_true rfl) ?_
  intro p e R s m args below meth c Q ls hR hargs hQ S hr hlk hP hZ hS hnm hl
  have hl : lv_has ls 3 [(0, .ref (o)), (1, .int (nI (i))), (2, .int (nI (x)))] := hl
  have hC : zCh1 o 5 s.heap s.heap := zCh1.rf
  refine lv_aload_n S.1 S.2.1 dX10_pour_0 rfl (lv_at hl 0 rfl) ?_
  refine z_get (v := .ref (o + 3)) S hZ.1 hP 0 (by decide) rfl rfl rfl 2 (by decide) rfl k53 dX10_pour_1 ?_
  refine lv_iload_n S.1 S.2.1 dX10_pour_4 rfl (lv_at hl 1 rfl) ?_
  refine lv_dup2_11 S.1 S.2.1 dX10_pour_5 rfl rfl ?_
  refine z_iald S hZ.1 hP 3 (by decide) rfl rfl (i := i) (by omega) (by decide) dX10_pour_6 ?_
  refine lv_iload_n S.1 S.2.1 dX10_pour_7 rfl (lv_at hl 2 rfl) ?_
  refine z_add S dX10_pour_8 ?_
  refine z_iast S hZ.1 hP hS hB 3 (by decide) rfl rfl (i := i) (x := ((f 3 i) + x)) rfl (by omega) (by decide) dX10_pour_9 (fun H1 locs1 hPn hCn hSn => ?_)
  have hP := hPn; have hS := hSn; have hC := hC.tr (hCn.mono (b := o) (k := 5) (by omega) (by omega))
  refine lv_aload_n S.1 S.2.1 dX10_pour_10 rfl (lv_at hl 0 rfl) ?_
  refine z_get (v := .ref (o + 3)) S hZ.1 hP 0 (by decide) rfl rfl rfl 2 (by decide) rfl k53 dX10_pour_11 ?_
  refine lv_iload_n S.1 S.2.1 dX10_pour_14 rfl (lv_at hl 1 rfl) ?_
  refine z_iald S hZ.1 hP 3 (by decide) rfl rfl (i := i) (by omega) (by decide) dX10_pour_15 ?_
  refine z_wi hQ S hr hlk (zn_int _) hS hC ⟨?_, hP⟩ dX10_pour_16
  rw [show va_up f 3 (va_up (f 3) i (f 3 i + x)) 3 i = f 3 i + x from by simp [va_up]]
theorem ci_X10_setLit : zCI yX10_setLit cX10_setLit 3 (some .int) 2 := ⟨k557, k3, by decide +kernel⟩
theorem cv_X10_setLit : Cond.instanceMethod yX10_setLit ∈ GW ∧ Cond.selects (yX10_setLit).cls yX10_setLit yX10_setLit ∈ GW := ⟨k555, k556⟩
set_option maxRecDepth 20000 in
set_option maxHeartbeats 4000000 in
/-- Wicks.setLit(i, b) -/
theorem c_X10_setLit (l : Launch) (g : ZG) {B : Nat} {o : Nat} (hB : B ≤ o) (f : Nat → Nat → Nat) (hw : zWo f) (i b : Nat) (hi : i < 8) (hb : b < 2) (hw2 : zWo (va_up f 4 (va_up (f 4) i b))) : Met l yX10_setLit (.code yX10_setLit cX10_setLit 3 (some .int) :: GW) { frames := 1, cells := 0, slots := 0, locals := 22 } (va_Pc [.ref o, .int (nI i), .int (nI b)] (zPre g B (fun H => zPm g o 5 TW f H))) (zX (fun v H => v = some (.int (nI (zSum (va_up (f 4) i b) (f 0 4)))) ∧ zPm g o 5 TW (va_up f 4 (va_up (f 4) i b)) H) o 5) 0 0 (zA B) := by
  refine zMet (by decide) (Nat.le_of_ble_eq_true rfl) ?_
  intro p e R s m args below meth c Q ls hR hargs hQ S hr hlk hP hZ hS hnm hl
  have hl : lv_has ls 3 [(0, .ref (o)), (1, .int (nI (i))), (2, .int (nI (b)))] := hl
  have hC : zCh1 o 5 s.heap s.heap := zCh1.rf
  refine lv_aload_n S.1 S.2.1 dX10_setLit_0 rfl (lv_at hl 0 rfl) ?_
  refine z_get (v := .ref (o + 4)) S hZ.1 hP 0 (by decide) rfl rfl rfl 3 (by decide) rfl k56 dX10_setLit_1 ?_
  refine lv_iload_n S.1 S.2.1 dX10_setLit_4 rfl (lv_at hl 1 rfl) ?_
  refine lv_iload_n S.1 S.2.1 dX10_setLit_5 rfl (lv_at hl 2 rfl) ?_
  refine z_zast S hZ.1 hP hS hB 4 (by decide) rfl rfl (i := i) (x := b) (by omega) rfl (by omega) (by decide) dX10_setLit_6 (fun H1 locs1 hPn hCn hSn => ?_)
  have hP := hPn; have hS := hSn; have hC := hC.tr (hCn.mono (b := o) (k := 5) (by omega) (by omega))
  refine lv_aload_n S.1 S.2.1 dX10_setLit_7 rfl (lv_at hl 0 rfl) ?_
  refine z_cV (v := some (.int (nI (zSum (va_up (f 4) i b) (f 0 4))))) (rest := []) (As := []) S hZ hS (c_X10_countLit l g (va_up f 4 (va_up (f 4) i b)) hw2) ci_X10_countLit cv_X10_countLit k558 ⟨rfl, rfl, by rw [hR]; decide, by rw [hR]; decide⟩ hP (hP.recv hZ.1 0 (by decide) rfl rfl rfl) hl.1 rfl (Nat.le_of_ble_eq_true rfl) dX10_setLit_8 ⟨by rw [hR]; decide, by rw [hR]; decide⟩ rfl ?_
  exact z_wi hQ S hr hlk (zn_int _) hS hC ⟨rfl, hP⟩ dX10_setLit_11
theorem ci_X10_place : zCI yX10_place cX10_place 4 (some .int) 3 := ⟨k553, k3, by decide +kernel⟩
theorem cv_X10_place : Cond.instanceMethod yX10_place ∈ GW ∧ Cond.selects (yX10_place).cls yX10_place yX10_place ∈ GW := ⟨k551, k552⟩
set_option maxRecDepth 20000 in
set_option maxHeartbeats 4000000 in
/-- Wicks.place(a, b, x) -/
theorem c_X10_place (l : Launch) (g : ZG) {B : Nat} {o : Nat} (hB : B ≤ o) (f : Nat → Nat → Nat) (hw : zWo f) (a b x : Nat) (h8 : f 0 4 < 8) : Met l yX10_place (.code yX10_place cX10_place 4 (some .int) :: GW) { frames := 0, cells := 0, slots := 0, locals := 0 } (va_Pc [.ref o, .int (nI a), .int (nI b), .int (nI x)] (zPre g B (fun H => zPm g o 5 TW f H))) (zX (fun v H => v = some (.int (nI (f 0 4))) ∧ zPm g o 5 TW (zPl f a b x) H) o 5) 0 0 (zA B) := by
  refine zMet (by decide) (Nat.le_of_ble_eq_true rfl) ?_
  intro p e R s m args below meth c Q ls hR hargs hQ S hr hlk hP hZ hS hnm hl
  have hl : lv_has ls 4 [(0, .ref (o)), (1, .int (nI (a))), (2, .int (nI (b))), (3, .int (nI (x)))] := hl
  have hC : zCh1 o 5 s.heap s.heap := zCh1.rf
  refine lv_aload_n S.1 S.2.1 dX10_place_0 rfl (lv_at hl 0 rfl) ?_
  refine z_get (v := .ref (o + 1)) S hZ.1 hP 0 (by decide) rfl rfl rfl 0 (by decide) rfl k51 dX10_place_1 ?_
  refine lv_aload_n S.1 S.2.1 dX10_place_4 rfl (lv_at hl 0 rfl) ?_
  refine z_get (v := .int (nI (f 0 4))) S hZ.1 hP 0 (by decide) rfl rfl rfl 4 (by decide) rfl k59 dX10_place_5 ?_
  refine lv_iload_n S.1 S.2.1 dX10_place_8 rfl (lv_at hl 1 rfl) ?_
  refine z_iast S hZ.1 hP hS hB 1 (by decide) rfl rfl (i := (f 0 4)) (x := a) rfl (by omega) (by decide) dX10_place_9 (fun H1 locs1 hPn hCn hSn => ?_)
  have hP := hPn; have hS := hSn; have hC := hC.tr (hCn.mono (b := o) (k := 5) (by omega) (by omega))
  refine lv_aload_n S.1 S.2.1 dX10_place_10 rfl (lv_at hl 0 rfl) ?_
  refine z_get (v := .ref (o + 2)) S hZ.1 hP 0 (by decide) rfl rfl rfl 1 (by decide) rfl k52 dX10_place_11 ?_
  refine lv_aload_n S.1 S.2.1 dX10_place_14 rfl (lv_at hl 0 rfl) ?_
  refine z_get (v := .int (nI (f 0 4))) S hZ.1 hP 0 (by decide) rfl rfl rfl 4 (by decide) rfl k59 dX10_place_15 ?_
  refine lv_iload_n S.1 S.2.1 dX10_place_18 rfl (lv_at hl 2 rfl) ?_
  refine z_iast S hZ.1 hP hS hB 2 (by decide) rfl rfl (i := (f 0 4)) (x := b) rfl (by omega) (by decide) dX10_place_19 (fun H1 locs1 hPn hCn hSn => ?_)
  have hP := hPn; have hS := hSn; have hC := hC.tr (hCn.mono (b := o) (k := 5) (by omega) (by omega))
  refine lv_aload_n S.1 S.2.1 dX10_place_20 rfl (lv_at hl 0 rfl) ?_
  refine z_get (v := .ref (o + 3)) S hZ.1 hP 0 (by decide) rfl rfl rfl 2 (by decide) rfl k53 dX10_place_21 ?_
  refine lv_aload_n S.1 S.2.1 dX10_place_24 rfl (lv_at hl 0 rfl) ?_
  refine z_get (v := .int (nI (f 0 4))) S hZ.1 hP 0 (by decide) rfl rfl rfl 4 (by decide) rfl k59 dX10_place_25 ?_
  refine lv_iload_n S.1 S.2.1 dX10_place_28 rfl (lv_at hl 3 rfl) ?_
  refine z_iast S hZ.1 hP hS hB 3 (by decide) rfl rfl (i := (f 0 4)) (x := x) rfl (by omega) (by decide) dX10_place_29 (fun H1 locs1 hPn hCn hSn => ?_)
  have hP := hPn; have hS := hSn; have hC := hC.tr (hCn.mono (b := o) (k := 5) (by omega) (by omega))
  refine lv_aload_n S.1 S.2.1 dX10_place_30 rfl (lv_at hl 0 rfl) ?_
  refine z_get (v := .ref (o + 4)) S hZ.1 hP 0 (by decide) rfl rfl rfl 3 (by decide) rfl k56 dX10_place_31 ?_
  refine lv_aload_n S.1 S.2.1 dX10_place_34 rfl (lv_at hl 0 rfl) ?_
  refine z_get (v := .int (nI (f 0 4))) S hZ.1 hP 0 (by decide) rfl rfl rfl 4 (by decide) rfl k59 dX10_place_35 ?_
  refine z_ic S (k := 0) dX10_place_38 (by decide) ?_
  refine z_zast S hZ.1 hP hS hB 4 (by decide) rfl rfl (i := (f 0 4)) (x := 0) (by omega) rfl (by omega) (by decide) dX10_place_39 (fun H1 locs1 hPn hCn hSn => ?_)
  have hP := hPn; have hS := hSn; have hC := hC.tr (hCn.mono (b := o) (k := 5) (by omega) (by omega))
  refine lv_aload_n S.1 S.2.1 dX10_place_40 rfl (lv_at hl 0 rfl) ?_
  refine lv_dup S.1 S.2.1 dX10_place_41 rfl ?_
  refine z_get (v := .int (nI (f 0 4))) S hZ.1 hP 0 (by decide) rfl rfl rfl 4 (by decide) rfl k59 dX10_place_42 ?_
  refine z_ic S (k := 1) dX10_place_45 (by decide) ?_
  refine z_add S dX10_place_46 ?_
  refine z_put (v := .int (nI ((f 0 4) + 1))) (ty := .int) S hZ.1 hP hS hB 0 (by decide) rfl rfl rfl 4 (by decide) (va_up ((va_up (va_up (va_up (va_up f 1 (va_up (f 1) (f 0 4) a)) 2 (va_up ((va_up f 1 (va_up (f 1) (f 0 4) a)) 2) (f 0 4) b)) 3 (va_up ((va_up (va_up f 1 (va_up (f 1) (f 0 4) a)) 2 (va_up ((va_up f 1 (va_up (f 1) (f 0 4) a)) 2) (f 0 4) b)) 3) (f 0 4) x)) 4 (va_up ((va_up (va_up (va_up f 1 (va_up (f 1) (f 0 4) a)) 2 (va_up ((va_up f 1 (va_up (f 1) (f 0 4) a)) 2) (f 0 4) b)) 3 (va_up ((va_up (va_up f 1 (va_up (f 1) (f 0 4) a)) 2 (va_up ((va_up f 1 (va_up (f 1) (f 0 4) a)) 2) (f 0 4) b)) 3) (f 0 4) x)) 4) (f 0 4) 0)) 0) 4 ((f 0 4) + 1)) rfl k59 rfl (by decide +kernel) rfl rfl (Nat.le_of_ble_eq_true rfl) dX10_place_47 (fun H1 locs1 hPn hCn hSn => ?_)
  have hP := hPn; have hS := hSn; have hC := hC.tr (hCn.mono (b := o) (k := 5) (by omega) (by omega))
  refine lv_aload_n S.1 S.2.1 dX10_place_50 rfl (lv_at hl 0 rfl) ?_
  refine z_get (v := .int (nI (f 0 4 + 1))) S hZ.1 hP 0 (by decide) rfl rfl rfl 4 (by decide) rfl k59 dX10_place_51 ?_
  refine z_ic S (k := 1) dX10_place_54 (by decide) ?_
  refine z_sub S (by omega) dX10_place_55 ?_
  exact z_wi hQ S hr hlk (zn_int _) hS hC ⟨rfl, hP⟩ dX10_place_56
theorem ci_X10_burnDown : zCI yX10_burnDown cX10_burnDown 3 (some .int) 0 := ⟨k591, k3, by decide +kernel⟩
theorem cv_X10_burnDown : Cond.instanceMethod yX10_burnDown ∈ GW ∧ Cond.selects (yX10_burnDown).cls yX10_burnDown yX10_burnDown ∈ GW := ⟨k589, k590⟩
set_option maxRecDepth 20000 in
set_option maxHeartbeats 4000000 in
/-- Wicks.burnDown() -/
theorem c_X10_burnDown (l : Launch) (g : ZG) {B : Nat} {o : Nat} (hB : B ≤ o) (f : Nat → Nat → Nat) (hw : zWo f) : Met l yX10_burnDown (.code yX10_burnDown cX10_burnDown 3 (some .int) :: GW) { frames := 0, cells := 0, slots := 0, locals := 0 } (va_Pc [.ref o] (zPre g B (fun H => zPm g o 5 TW f H))) (zX (fun v H => v = some (.int (nI (zSum (f 4) (f 0 4)))) ∧ zPm g o 5 TW (zBd f (f 0 4)) H) o 5) 0 0 (zA B) := by
  refine zMet (by decide) (Nat.le_of_ble_eq_true rfl) ?_
  intro p e R s m args below meth c Q ls hR hargs hQ S hr hlk hP hZ hS hnm hl
  have hl : lv_has ls 3 [(0, .ref (o))] := hl
  have hC : zCh1 o 5 s.heap s.heap := zCh1.rf
  refine z_ic S (k := 0) dX10_burnDown_0 (by decide) ?_
  refine lv_istore_n (lv' := [(1, .int (nI (0))), (0, .ref (o))]) S.1 S.2.1 dX10_burnDown_1 rfl hl (by decide) rfl (fun ls hl => ?_)
  refine z_ic S (k := 0) dX10_burnDown_2 (by decide) ?_
  refine lv_istore_n (lv' := [(2, .int (nI (0))), (1, .int (nI (0))), (0, .ref (o))]) S.1 S.2.1 dX10_burnDown_3 rfl hl (by decide) rfl (fun ls hl => ?_)
  have hP0 : zPm g o 5 TW (zBd f 0) s.heap := by rw [zBd_0]; exact hP
  have loop : ∀ (n i x : Nat) (ls : Array Slot) (H : Heap) (locs : List Loc), (i ≤ f 0 4) → (f 0 4 < i + n) → (x = zSum (f 4) i) → zPm g o 5 TW (zBd f i) H → va_S (zA B) s.heap H locs → zCh1 o 5 s.heap H → lv_has ls 3 [(0, .ref o), (1, .int (nI x)), (2, .int (nI i))] → W p l e R s m args below meth c H locs 0 0 Q (F0 m 4 ls []) := by
    intro n
    induction n with
    | zero => intro i x ls H locs h1 h2; exact absurd h2 (by omega)
    | succ n ih =>
      intro i x ls H locs h1 h2 hx hP hS hC hl
      have hli : zBd f i 4 i = f 4 i := by simp [zBd]
      have hxi : zBd f i 3 i = f 3 i := by simp [zBd]
      refine lv_iload_n S.1 S.2.1 dX10_burnDown_4 rfl (lv_at hl 2 rfl) ?_
      refine lv_aload_n S.1 S.2.1 dX10_burnDown_5 rfl (lv_at hl 0 rfl) ?_
      refine z_get (v := .int (nI (f 0 4))) S hZ.1 hP 0 (by decide) rfl rfl rfl 4 (by decide) rfl k59 dX10_burnDown_6 ?_
      refine z_cge (tgt := 60) S (by have := hw.1; omega) hw.c dX10_burnDown_9 (by decide) (fun h4 => ?_) (fun h4 => ?_)
      · refine lv_iload_n S.1 S.2.1 dX10_burnDown_60 rfl (lv_at hl 1 rfl) ?_
        obtain rfl : i = f 0 4 := by omega
        exact z_wi hQ S hr hlk (zn_int _) hS hC ⟨by rw [hx], hP⟩ dX10_burnDown_61
      · refine lv_aload_n S.1 S.2.1 dX10_burnDown_12 rfl (lv_at hl 0 rfl) ?_
        refine z_get (v := .ref (o + 4)) S hZ.1 hP 0 (by decide) rfl rfl rfl 3 (by decide) rfl k56 dX10_burnDown_13 ?_
        refine lv_iload_n S.1 S.2.1 dX10_burnDown_16 rfl (lv_at hl 2 rfl) ?_
        refine z_zald S hZ.1 hP 4 (by decide) rfl rfl (i := i) (by have := hw.1; omega) (by decide) dX10_burnDown_17 ?_
        rw [hli]
        refine z_ieq (tgt := 54) S (hw.l i) dX10_burnDown_18 (by decide) (fun h5 => ?_) (fun h5 => ?_)
        · refine z_inc S (lv' := [(2, .int (nI (i + 1))), (0, .ref (o)), (1, .int (nI (x)))]) (k := 2) (b := 1) dX10_burnDown_54 hl rfl (by decide) (by decide) rfl (fun ls hl => ?_)
          refine lv_goto (tgt := 4) S.1 S.2.1 dX10_burnDown_57 (by decide) ?_
          exact ih (i + 1) x ls H locs (by omega) (by omega) (by rw [zSum, hx]; omega) (hP.eq (zBd_no (by omega)).symm) hS hC (lv_sub hl [1, 2, 0] rfl)
        · have h6 : f 4 i = 1 := by have := (hw.2 i).2.2.2.1; omega
          have h7 : 0 < f 3 i := (hw.2 i).2.2.2.2 h6
          refine lv_aload_n S.1 S.2.1 dX10_burnDown_21 rfl (lv_at hl 0 rfl) ?_
          refine z_get (v := .ref (o + 3)) S hZ.1 hP 0 (by decide) rfl rfl rfl 2 (by decide) rfl k53 dX10_burnDown_22 ?_
          refine lv_iload_n S.1 S.2.1 dX10_burnDown_25 rfl (lv_at hl 2 rfl) ?_
          refine lv_dup2_11 S.1 S.2.1 dX10_burnDown_26 rfl rfl ?_
          refine z_iald S hZ.1 hP 3 (by decide) rfl rfl (i := i) (by have := hw.1; omega) (by decide) dX10_burnDown_27 ?_
          rw [hxi]
          refine z_ic S (k := 1) dX10_burnDown_28 (by decide) ?_
          refine z_sub S (by omega) dX10_burnDown_29 ?_
          refine z_iast S hZ.1 hP hS hB 3 (by decide) rfl rfl (i := i) (x := ((f 3 i) - 1)) rfl (by have := hw.1; omega) (by decide) dX10_burnDown_30 (fun H1 locs1 hPn hCn hSn => ?_)
          have hP := hPn; have hS := hSn; have hC := hC.tr (hCn.mono (b := o) (k := 5) (by omega) (by omega))
          have hy : va_up (zBd f i) 3 (va_up (zBd f i 3) i (f 3 i - 1)) 3 i = f 3 i - 1 := by simp [va_up]
          refine lv_aload_n S.1 S.2.1 dX10_burnDown_31 rfl (lv_at hl 0 rfl) ?_
          refine z_get (v := .ref (o + 4)) S hZ.1 hP 0 (by decide) rfl rfl rfl 3 (by decide) rfl k56 dX10_burnDown_32 ?_
          refine lv_iload_n S.1 S.2.1 dX10_burnDown_35 rfl (lv_at hl 2 rfl) ?_
          refine lv_aload_n S.1 S.2.1 dX10_burnDown_36 rfl (lv_at hl 0 rfl) ?_
          refine z_get (v := .ref (o + 3)) S hZ.1 hP 0 (by decide) rfl rfl rfl 2 (by decide) rfl k53 dX10_burnDown_37 ?_
          refine lv_iload_n S.1 S.2.1 dX10_burnDown_40 rfl (lv_at hl 2 rfl) ?_
          refine z_iald S hZ.1 hP 3 (by decide) rfl rfl (i := i) (by have := hw.1; omega) (by decide) dX10_burnDown_41 ?_
          rw [hy]
          refine z_ile (tgt := 49) S (by have := hw.x i; omega) dX10_burnDown_42 (by decide) (fun h8 => ?_) (fun h8 => ?_)
          · refine z_ic S (k := 0) dX10_burnDown_49 (by decide) ?_
            refine z_zast S hZ.1 hP hS hB 4 (by decide) rfl rfl (i := i) (x := 0) (by omega) rfl (by have := hw.1; omega) (by decide) dX10_burnDown_50 (fun H1 locs1 hPn hCn hSn => ?_)
            have hP := hPn; have hS := hSn; have hC := hC.tr (hCn.mono (b := o) (k := 5) (by omega) (by omega))
            have hP := hP.eq (zBd_yes h6 rfl (y := 0) (by rw [if_neg (by omega)]))
            refine z_inc S (lv' := [(1, .int (nI (x + 1))), (0, .ref (o)), (2, .int (nI (i)))]) (k := 1) (b := 1) dX10_burnDown_51 hl rfl (by decide) (by decide) rfl (fun ls hl => ?_)
            refine z_inc S (lv' := [(2, .int (nI (i + 1))), (1, .int (nI (x + 1))), (0, .ref (o))]) (k := 2) (b := 1) dX10_burnDown_54 hl rfl (by decide) (by decide) rfl (fun ls hl => ?_)
            refine lv_goto (tgt := 4) S.1 S.2.1 dX10_burnDown_57 (by decide) ?_
            exact ih (i + 1) (x + 1) ls H1 locs1 (by omega) (by omega) (by rw [zSum, hx]; omega) hP hS hC (lv_sub hl [2, 1, 0] rfl)
          · refine z_ic S (k := 1) dX10_burnDown_45 (by decide) ?_
            refine lv_goto (tgt := 50) S.1 S.2.1 dX10_burnDown_46 (by decide) ?_
            refine z_zast S hZ.1 hP hS hB 4 (by decide) rfl rfl (i := i) (x := 1) (by omega) rfl (by have := hw.1; omega) (by decide) dX10_burnDown_50 (fun H1 locs1 hPn hCn hSn => ?_)
            have hP := hPn; have hS := hSn; have hC := hC.tr (hCn.mono (b := o) (k := 5) (by omega) (by omega))
            have hP := hP.eq (zBd_yes h6 rfl (y := 1) (by rw [if_pos (by omega)]))
            refine z_inc S (lv' := [(1, .int (nI (x + 1))), (0, .ref (o)), (2, .int (nI (i)))]) (k := 1) (b := 1) dX10_burnDown_51 hl rfl (by decide) (by decide) rfl (fun ls hl => ?_)
            refine z_inc S (lv' := [(2, .int (nI (i + 1))), (1, .int (nI (x + 1))), (0, .ref (o))]) (k := 2) (b := 1) dX10_burnDown_54 hl rfl (by decide) (by decide) rfl (fun ls hl => ?_)
            refine lv_goto (tgt := 4) S.1 S.2.1 dX10_burnDown_57 (by decide) ?_
            exact ih (i + 1) (x + 1) ls H1 locs1 (by omega) (by omega) (by rw [zSum, hx]; omega) hP hS hC (lv_sub hl [2, 1, 0] rfl)
  exact loop (f 0 4 + 1) 0 0 ls _ _ (Nat.zero_le _) (by omega) rfl hP0 hS hC (lv_sub hl [2, 1, 0] rfl)
/-- the first n places are those of the other -/
def zCw (f f2 : Nat → Nat → Nat) (n : Nat) : Nat → Nat → Nat := fun c j => match c with
  | 0 => f 0 j
  | 1 => if j < n then f2 1 j else f 1 j
  | 2 => if j < n then f2 2 j else f 2 j
  | 3 => if j < n then f2 3 j else f 3 j
  | 4 => if j < n then f2 4 j else f 4 j
  | c => f c j
theorem zCw_0 (f f2 : Nat → Nat → Nat) : zCw f f2 0 = f := by
  funext c j
  unfold zCw
  split <;> simp
theorem zCw_s (f f2 : Nat → Nat → Nat) (i : Nat) : va_up (va_up (va_up (va_up (zCw f f2 i) 1 (va_up (zCw f f2 i 1) i (f2 1 i))) 2 (va_up (zCw f f2 i 2) i (f2 2 i))) 3 (va_up (zCw f f2 i 3) i (f2 3 i))) 4 (va_up (zCw f f2 i 4) i (f2 4 i)) = zCw f f2 (i + 1) := by
  funext c j
  by_cases e : j = i
  · subst e
    by_cases c1 : c = 1
    · subst c1; simp [va_up, zCw]
    by_cases c2 : c = 2
    · subst c2; simp [va_up, zCw]
    by_cases c3 : c = 3
    · subst c3; simp [va_up, zCw]
    by_cases c4 : c = 4
    · subst c4; simp [va_up, zCw]
    by_cases c0 : c = 0
    · subst c0; simp [va_up, zCw]
    simp [va_up, zCw, c1, c2, c3, c4, c0]
  · have e2 : (j < i + 1) = (j < i) := by apply propext; omega
    by_cases c1 : c = 1
    · subst c1; simp [va_up, zCw, e, e2]
    by_cases c2 : c = 2
    · subst c2; simp [va_up, zCw, e, e2]
    by_cases c3 : c = 3
    · subst c3; simp [va_up, zCw, e, e2]
    by_cases c4 : c = 4
    · subst c4; simp [va_up, zCw, e, e2]
    by_cases c0 : c = 0
    · subst c0; simp [va_up, zCw]
    simp [va_up, zCw, c1, c2, c3, c4, c0]
theorem zCw_end {g : ZG} {o : Nat} {f f2 : Nat → Nat → Nat} {H : Heap} (h : zPm g o 5 TW (va_up (zCw f f2 8) 0 (va_up (zCw f f2 8 0) 4 (f2 0 4))) H) : zPm g o 5 TW f2 H := by
  refine h.cg (fun k hk a hv => ?_)
  match k, hk with
  | 0, _ => exact hv
  | 1, _ => exact dI_cg (fun j hj => by simp [va_up, zCw, hj]) hv
  | 2, _ => exact dI_cg (fun j hj => by simp [va_up, zCw, hj]) hv
  | 3, _ => exact dI_cg (fun j hj => by simp [va_up, zCw, hj]) hv
  | 4, _ => exact dZ_cg (fun j hj => by simp [va_up, zCw, hj]) hv
  | k + 5, hk => exact absurd hk (by omega)
theorem ci_X10_copyFrom : zCI yX10_copyFrom cX10_copyFrom 3 none 1 := ⟨k303, k3, by decide +kernel⟩
theorem cv_X10_copyFrom : Cond.instanceMethod yX10_copyFrom ∈ GW ∧ Cond.selects (yX10_copyFrom).cls yX10_copyFrom yX10_copyFrom ∈ GW := ⟨k301, k302⟩
set_option maxRecDepth 20000 in
set_option maxHeartbeats 4000000 in
/-- Wicks.copyFrom(other) -/
theorem c_X10_copyFrom (l : Launch) (g : ZG) {B : Nat} {o o2 : Nat} (hB : B ≤ o) (hd : o2 + 5 ≤ o ∨ o + 5 ≤ o2) (f f2 : Nat → Nat → Nat) (hb2 : ∀ i, f2 4 i ≤ 1) : Met l yX10_copyFrom (.code yX10_copyFrom cX10_copyFrom 3 none :: GW) { frames := 0, cells := 0, slots := 0, locals := 0 } (va_Pc [.ref o, .ref o2] (zPre g B (fun H => zPm g o 5 TW f H ∧ zPm g o2 5 TW f2 H))) (zX (fun v H => v = none ∧ zPm g o 5 TW f2 H) o 5) 0 0 (zA B) := by
  refine zMet (by decide) (Nat.le_of_ble_eq_true rfl) ?_
  intro p e R s m args below meth c Q ls hR hargs hQ S hr hlk hP hZ hS hnm hl
  have hl : lv_has ls 3 [(0, .ref (o)), (1, .ref (o2))] := hl
  obtain ⟨hP, hP2⟩ := hP
  have hC : zCh1 o 5 s.heap s.heap := zCh1.rf
  refine z_ic S (k := 0) dX10_copyFrom_0 (by decide) ?_
  refine lv_istore_n (lv' := [(2, .int (nI (0))), (0, .ref (o)), (1, .ref (o2))]) S.1 S.2.1 dX10_copyFrom_1 rfl hl (by decide) rfl (fun ls hl => ?_)
  have hP0 : zPm g o 5 TW (zCw f f2 0) s.heap := by rw [zCw_0]; exact hP
  have loop : ∀ (n i : Nat) (ls : Array Slot) (H : Heap) (locs : List Loc), (i ≤ 8) → (8 < i + n) → zPm g o 5 TW (zCw f f2 i) H → zPm g o2 5 TW f2 H → va_S (zA B) s.heap H locs → zCh1 o 5 s.heap H → lv_has ls 3 [(0, .ref o), (1, .ref o2), (2, .int (nI i))] → W p l e R s m args below meth c H locs 0 0 Q (F0 m 2 ls []) := by
    intro n
    induction n with
    | zero => intro i ls H locs h1 h2; exact absurd h2 (by omega)
    | succ n ih =>
      intro i ls H locs h1 h2 hP hP2 hS hC hl
      refine lv_iload_n S.1 S.2.1 dX10_copyFrom_2 rfl (lv_at hl 2 rfl) ?_
      refine z_bi S (k := 8) dX10_copyFrom_3 (by decide) ?_
      refine z_cge (tgt := 62) S (by omega) (by omega) dX10_copyFrom_5 (by decide) (fun h4 => ?_) (fun h4 => ?_)
      · obtain rfl : i = 8 := by omega
        refine lv_aload_n S.1 S.2.1 dX10_copyFrom_62 rfl (lv_at hl 0 rfl) ?_
        refine lv_aload_n S.1 S.2.1 dX10_copyFrom_63 rfl (lv_at hl 1 rfl) ?_
        refine z_get (v := .int (nI (f2 0 4))) S hZ.1 hP2 0 (by decide) rfl rfl rfl 4 (by decide) rfl k59 dX10_copyFrom_64 ?_
        refine z_put (v := .int (nI (f2 0 4))) (ty := .int) S hZ.1 hP hS hB 0 (by decide) rfl rfl rfl 4 (by decide) (va_up ((zCw f f2 8) 0) 4 (f2 0 4)) rfl k59 rfl (by decide +kernel) rfl rfl (Nat.le_of_ble_eq_true rfl) dX10_copyFrom_67 (fun H1 locs1 hPn hCn hSn => ?_)
        have hP := hPn; have hS := hSn; have hC := hC.tr (hCn.mono (b := o) (k := 5) (by omega) (by omega))
        have hP2 := hP2.kept hCn (by omega)
        exact z_wv hQ S hr hlk hS hC ⟨rfl, zCw_end hP⟩ dX10_copyFrom_70
      · refine lv_aload_n S.1 S.2.1 dX10_copyFrom_8 rfl (lv_at hl 0 rfl) ?_
        refine z_get (v := .ref (o + 1)) S hZ.1 hP 0 (by decide) rfl rfl rfl 0 (by decide) rfl k51 dX10_copyFrom_9 ?_
        refine lv_iload_n S.1 S.2.1 dX10_copyFrom_12 rfl (lv_at hl 2 rfl) ?_
        refine lv_aload_n S.1 S.2.1 dX10_copyFrom_13 rfl (lv_at hl 1 rfl) ?_
        refine z_get (v := .ref (o2 + 1)) S hZ.1 hP2 0 (by decide) rfl rfl rfl 0 (by decide) rfl k51 dX10_copyFrom_14 ?_
        refine lv_iload_n S.1 S.2.1 dX10_copyFrom_17 rfl (lv_at hl 2 rfl) ?_
        refine z_iald S hZ.1 hP2 1 (by decide) rfl rfl (i := i) h4 (by decide) dX10_copyFrom_18 ?_
        refine z_iast S hZ.1 hP hS hB 1 (by decide) rfl rfl (i := i) (x := (f2 1 i)) rfl h4 (by decide) dX10_copyFrom_19 (fun H1 locs1 hPn hCn hSn => ?_)
        have hP := hPn; have hS := hSn; have hC := hC.tr (hCn.mono (b := o) (k := 5) (by omega) (by omega))
        have hP2 := hP2.kept hCn (by omega)
        refine lv_aload_n S.1 S.2.1 dX10_copyFrom_20 rfl (lv_at hl 0 rfl) ?_
        refine z_get (v := .ref (o + 2)) S hZ.1 hP 0 (by decide) rfl rfl rfl 1 (by decide) rfl k52 dX10_copyFrom_21 ?_
        refine lv_iload_n S.1 S.2.1 dX10_copyFrom_24 rfl (lv_at hl 2 rfl) ?_
        refine lv_aload_n S.1 S.2.1 dX10_copyFrom_25 rfl (lv_at hl 1 rfl) ?_
        refine z_get (v := .ref (o2 + 2)) S hZ.1 hP2 0 (by decide) rfl rfl rfl 1 (by decide) rfl k52 dX10_copyFrom_26 ?_
        refine lv_iload_n S.1 S.2.1 dX10_copyFrom_29 rfl (lv_at hl 2 rfl) ?_
        refine z_iald S hZ.1 hP2 2 (by decide) rfl rfl (i := i) h4 (by decide) dX10_copyFrom_30 ?_
        refine z_iast S hZ.1 hP hS hB 2 (by decide) rfl rfl (i := i) (x := (f2 2 i)) rfl h4 (by decide) dX10_copyFrom_31 (fun H1 locs1 hPn hCn hSn => ?_)
        have hP := hPn; have hS := hSn; have hC := hC.tr (hCn.mono (b := o) (k := 5) (by omega) (by omega))
        have hP2 := hP2.kept hCn (by omega)
        refine lv_aload_n S.1 S.2.1 dX10_copyFrom_32 rfl (lv_at hl 0 rfl) ?_
        refine z_get (v := .ref (o + 3)) S hZ.1 hP 0 (by decide) rfl rfl rfl 2 (by decide) rfl k53 dX10_copyFrom_33 ?_
        refine lv_iload_n S.1 S.2.1 dX10_copyFrom_36 rfl (lv_at hl 2 rfl) ?_
        refine lv_aload_n S.1 S.2.1 dX10_copyFrom_37 rfl (lv_at hl 1 rfl) ?_
        refine z_get (v := .ref (o2 + 3)) S hZ.1 hP2 0 (by decide) rfl rfl rfl 2 (by decide) rfl k53 dX10_copyFrom_38 ?_
        refine lv_iload_n S.1 S.2.1 dX10_copyFrom_41 rfl (lv_at hl 2 rfl) ?_
        refine z_iald S hZ.1 hP2 3 (by decide) rfl rfl (i := i) h4 (by decide) dX10_copyFrom_42 ?_
        refine z_iast S hZ.1 hP hS hB 3 (by decide) rfl rfl (i := i) (x := (f2 3 i)) rfl h4 (by decide) dX10_copyFrom_43 (fun H1 locs1 hPn hCn hSn => ?_)
        have hP := hPn; have hS := hSn; have hC := hC.tr (hCn.mono (b := o) (k := 5) (by omega) (by omega))
        have hP2 := hP2.kept hCn (by omega)
        refine lv_aload_n S.1 S.2.1 dX10_copyFrom_44 rfl (lv_at hl 0 rfl) ?_
        refine z_get (v := .ref (o + 4)) S hZ.1 hP 0 (by decide) rfl rfl rfl 3 (by decide) rfl k56 dX10_copyFrom_45 ?_
        refine lv_iload_n S.1 S.2.1 dX10_copyFrom_48 rfl (lv_at hl 2 rfl) ?_
        refine lv_aload_n S.1 S.2.1 dX10_copyFrom_49 rfl (lv_at hl 1 rfl) ?_
        refine z_get (v := .ref (o2 + 4)) S hZ.1 hP2 0 (by decide) rfl rfl rfl 3 (by decide) rfl k56 dX10_copyFrom_50 ?_
        refine lv_iload_n S.1 S.2.1 dX10_copyFrom_53 rfl (lv_at hl 2 rfl) ?_
        refine z_zald S hZ.1 hP2 4 (by decide) rfl rfl (i := i) h4 (by decide) dX10_copyFrom_54 ?_
        refine z_zast S hZ.1 hP hS hB 4 (by decide) rfl rfl (i := i) (x := (f2 4 i)) (by have := hb2 i; omega) rfl h4 (by decide) dX10_copyFrom_55 (fun H1 locs1 hPn hCn hSn => ?_)
        have hP := hPn; have hS := hSn; have hC := hC.tr (hCn.mono (b := o) (k := 5) (by omega) (by omega))
        have hP2 := hP2.kept hCn (by omega)
        have hP : zPm g o 5 TW (zCw f f2 (i + 1)) H1 := hP.eq (zCw_s f f2 i)
        refine z_inc S (lv' := [(2, .int (nI (i + 1))), (0, .ref (o)), (1, .ref (o2))]) (k := 2) (b := 1) dX10_copyFrom_56 hl rfl (by decide) (by decide) rfl (fun ls hl => ?_)
        refine lv_goto (tgt := 2) S.1 S.2.1 dX10_copyFrom_59 (by decide) ?_
        exact ih (i + 1) ls H1 locs1 (by omega) (by omega) hP hP2 hS hC (lv_sub hl [1, 2, 0] rfl)
  exact loop 9 0 ls _ _ (by omega) (by omega) hP0 hP2 hS hC (lv_sub hl [1, 2, 0] rfl)
