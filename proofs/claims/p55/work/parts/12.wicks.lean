def zPr (f : Nat → Nat → Nat) (i j : Nat) : Bool := if f 4 i = f 4 j then (if f 3 i = f 3 j then decide (i < j) else decide (f 3 j < f 3 i)) else decide (f 4 i = 1)
def zRk (f : Nat → Nat → Nat) (w : Nat) : Nat := zSum (fun i => (zPr f i w).toNat) (f 0 4)

theorem ci_X10_has : zCI yX10_has cX10_has 2 (some .boolean) 1 := ⟨k366, k3, by decide +kernel⟩
theorem cv_X10_has : Cond.instanceMethod yX10_has ∈ GW ∧ Cond.selects (yX10_has).cls yX10_has yX10_has ∈ GW := ⟨k364, k365⟩
set_option maxRecDepth 20000 in
set_option maxHeartbeats 4000000 in
/-- Wicks.has(i) -/
theorem c_X10_has (l : Launch) (g : ZG) {B : Nat} {o : Nat} (f : Nat → Nat → Nat) (hw : zWo f) (i : Nat) (hi : i < 2 ^ 31) : Met l yX10_has (.code yX10_has cX10_has 2 (some .boolean) :: GW) { frames := 0, cells := 0, slots := 0, locals := 0 } (va_Pc [.ref o, .int (nI i)] (zPre g B (fun H => zPm g o 5 TW f H))) (zR (some (.int (nI (decide (i < f 0 4)).toNat)))) 0 0 (fun _ => False) := by
  refine zMet (by decide) (Nat.le_of_ble_eq_true rfl) ?_
  intro p e R s m args below meth c Q ls hR hargs hQ S hr hlk hP hZ hS hnm hl
  have hl : lv_has ls 2 [(0, .ref (o)), (1, .int (nI (i)))] := hl
  refine lv_iload_n S.1 S.2.1 dX10_has_0 rfl (lv_at hl 1 rfl) ?_
  refine z_ilt (tgt := 16) S hi dX10_has_1 (by decide) ?_
  refine lv_iload_n S.1 S.2.1 dX10_has_4 rfl (lv_at hl 1 rfl) ?_
  refine lv_aload_n S.1 S.2.1 dX10_has_5 rfl (lv_at hl 0 rfl) ?_
  refine z_get (v := .int (nI (f 0 4))) S hZ.1 hP 0 (by decide) rfl rfl rfl 4 (by decide) rfl k59 dX10_has_6 ?_
  refine z_cge (tgt := 16) S hi hw.c dX10_has_9 (by decide) (fun h => ?_) (fun h => ?_)
  · refine z_ic S (k := 0) dX10_has_16 (by decide) ?_
    exact z_ri hQ S hr hlk rfl (by rw [decide_eq_false (by omega)]; rfl) dX10_has_17
  · refine z_ic S (k := 1) dX10_has_12 (by decide) ?_
    refine lv_goto (tgt := 17) S.1 S.2.1 dX10_has_13 (by decide) ?_
    exact z_ri hQ S hr hlk rfl (by rw [decide_eq_true (by omega)]; rfl) dX10_has_17
theorem ci_X10_countLit : zCI yX10_countLit cX10_countLit 3 (some .int) 0 := ⟨k382, k3, by decide +kernel⟩
theorem cv_X10_countLit : Cond.instanceMethod yX10_countLit ∈ GW ∧ Cond.selects (yX10_countLit).cls yX10_countLit yX10_countLit ∈ GW := ⟨k380, k381⟩
set_option maxRecDepth 20000 in
set_option maxHeartbeats 4000000 in
/-- Wicks.countLit() -/
theorem c_X10_countLit (l : Launch) (g : ZG) {B : Nat} {o : Nat} (f : Nat → Nat → Nat) (hw : zWo f) : Met l yX10_countLit (.code yX10_countLit cX10_countLit 3 (some .int) :: GW) { frames := 0, cells := 0, slots := 0, locals := 0 } (va_Pc [.ref o] (zPre g B (fun H => zPm g o 5 TW f H))) (zR (some (.int (nI (zSum (f 4) (f 0 4)))))) 0 0 (fun _ => False) := by
  refine zMet (by decide) (Nat.le_of_ble_eq_true rfl) ?_
  intro p e R s m args below meth c Q ls hR hargs hQ S hr hlk hP hZ hS hnm hl
  have hl : lv_has ls 3 [(0, .ref (o))] := hl
  refine z_ic S (k := 0) dX10_countLit_0 (by decide) ?_
  refine lv_istore_n (lv' := [(1, .int (nI (0))), (0, .ref (o))]) S.1 S.2.1 dX10_countLit_1 rfl hl (by decide) rfl (fun ls hl => ?_)
  refine z_ic S (k := 0) dX10_countLit_2 (by decide) ?_
  refine lv_istore_n (lv' := [(2, .int (nI (0))), (1, .int (nI (0))), (0, .ref (o))]) S.1 S.2.1 dX10_countLit_3 rfl hl (by decide) rfl (fun ls hl => ?_)
  have loop : ∀ (n i x : Nat) (ls : Array Slot), (i ≤ f 0 4) → (f 0 4 < i + n) → (x = zSum (f 4) i) → lv_has ls 3 [(0, .ref (o)), (1, .int (nI (x))), (2, .int (nI (i)))] → W p l e R s m args below meth c s.heap [] 0 0 Q (F0 m 4 ls []) := by
    intro n
    induction n with
    | zero => intro i x ls h1 h2 hx hl; exact absurd h2 (by omega)
    | succ n ih =>
      intro i x ls h1 h2 hx hl
      refine lv_iload_n S.1 S.2.1 dX10_countLit_4 rfl (lv_at hl 2 rfl) ?_
      refine lv_aload_n S.1 S.2.1 dX10_countLit_5 rfl (lv_at hl 0 rfl) ?_
      refine z_get (v := .int (nI (f 0 4))) S hZ.1 hP 0 (by decide) rfl rfl rfl 4 (by decide) rfl k59 dX10_countLit_6 ?_
      refine z_cge (tgt := 30) S (by have := hw.1; omega) hw.c dX10_countLit_9 (by decide) (fun h4 => ?_) (fun h4 => ?_)
      · refine lv_iload_n S.1 S.2.1 dX10_countLit_30 rfl (lv_at hl 1 rfl) ?_
        obtain rfl : i = f 0 4 := by omega
        exact z_ri hQ S hr hlk (zn_int _) (by rw [hx]) dX10_countLit_31
      · refine lv_aload_n S.1 S.2.1 dX10_countLit_12 rfl (lv_at hl 0 rfl) ?_
        refine z_get (v := .ref (o + 4)) S hZ.1 hP 0 (by decide) rfl rfl rfl 3 (by decide) rfl k56 dX10_countLit_13 ?_
        refine lv_iload_n S.1 S.2.1 dX10_countLit_16 rfl (lv_at hl 2 rfl) ?_
        refine z_zald S hZ.1 hP 4 (by decide) rfl rfl (i := i) (by have := hw.1; omega) (by decide) dX10_countLit_17 ?_
        refine z_ieq (tgt := 24) S (hw.l i) dX10_countLit_18 (by decide) (fun h5 => ?_) (fun h5 => ?_)
        · refine z_inc S (lv' := [(2, .int (nI (i + 1))), (0, .ref (o)), (1, .int (nI (x)))]) (k := 2) (b := 1) dX10_countLit_24 hl rfl (by decide) (by decide) rfl (fun ls hl => ?_)
          refine lv_goto (tgt := 4) S.1 S.2.1 dX10_countLit_27 (by decide) ?_
          exact ih (i + 1) x ls (by omega) (by omega) (by rw [zSum, hx, h5]) (lv_sub hl [1, 2, 0] rfl)
        · refine z_inc S (lv' := [(1, .int (nI (x + 1))), (0, .ref (o)), (2, .int (nI (i)))]) (k := 1) (b := 1) dX10_countLit_21 hl rfl (by decide) (by decide) rfl (fun ls hl => ?_)
          refine z_inc S (lv' := [(2, .int (nI (i + 1))), (1, .int (nI (x + 1))), (0, .ref (o))]) (k := 2) (b := 1) dX10_countLit_24 hl rfl (by decide) (by decide) rfl (fun ls hl => ?_)
          refine lv_goto (tgt := 4) S.1 S.2.1 dX10_countLit_27 (by decide) ?_
          exact ih (i + 1) (x + 1) ls (by omega) (by omega) (by rw [zSum, hx]; have := (hw.2 i).2.2.2.1; omega) (lv_sub hl [2, 1, 0] rfl)
  exact loop (f 0 4 + 1) 0 0 ls (Nat.zero_le _) (by omega) rfl (lv_sub hl [2, 1, 0] rfl)
