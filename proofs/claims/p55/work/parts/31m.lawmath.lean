/-! THE LAW'S MATHEMATICS -/
theorem zSum_mono2 {p q : Nat → Nat} : ∀ {n : Nat}, (∀ i, i < n → p i ≤ q i) → zSum p n ≤ zSum q n
  | 0, _ => Nat.le_refl _
  | n + 1, h => by
    have h1 := zSum_mono2 (n := n) (fun i hi => h i (by omega))
    have h2 := h n (by omega)
    rw [zSum, zSum]; omega
theorem zSum_lt2 {p q : Nat → Nat} {k : Nat} (hk2 : p k < q k) : ∀ {n : Nat}, k < n → (∀ i, i < n → p i ≤ q i) → zSum p n < zSum q n
  | 0, h, _ => absurd h (Nat.not_lt_zero k)
  | n + 1, hk, h => by
    rw [zSum, zSum]
    have h2 := h n (by omega)
    rcases Nat.lt_or_ge k n with c | c
    · have h1 := zSum_lt2 hk2 c (fun i hi => h i (by omega)); omega
    · have e : k = n := by omega
      subst e
      have h1 := zSum_mono2 (n := k) (fun i hi => h i (by omega)); omega
theorem zSum_cg {p q : Nat → Nat} {n : Nat} (h : ∀ i, i < n → p i = q i) : zSum p n = zSum q n := Nat.le_antisymm (zSum_mono2 (fun i hi => Nat.le_of_eq (h i hi))) (zSum_mono2 (fun i hi => Nat.le_of_eq (h i hi).symm))
theorem zSum_one : ∀ n, zSum (fun _ => 1) n = n
  | 0 => rfl
  | n + 1 => by rw [zSum, zSum_one n]
theorem zSum_0 {q : Nat → Nat} : ∀ {n : Nat}, zSum q n = 0 → ∀ i, i < n → q i = 0
  | 0, _, i, hi => absurd hi (Nat.not_lt_zero i)
  | n + 1, h, i, hi => by
    rw [zSum] at h
    rcases Nat.lt_or_ge i n with c | c
    · exact zSum_0 (n := n) (by omega) i c
    · rw [show i = n by omega]; omega
theorem zSum_z {q : Nat → Nat} : ∀ {n : Nat}, (∀ i, i < n → q i = 0) → zSum q n = 0
  | 0, _ => rfl
  | n + 1, h => by rw [zSum, zSum_z (n := n) (fun i hi => h i (by omega)), h n (by omega)]
theorem zSum_sh (q : Nat → Nat) : ∀ n, zSum (fun i => q (i + 1)) n ≤ zSum q (n + 1)
  | 0 => Nat.zero_le _
  | n + 1 => by
    have h := zSum_sh q n
    rw [zSum, zSum]
    omega
theorem zSum_ind (b : Nat) : ∀ n, zSum (fun i => if i < b then 1 else 0) n ≤ min n b
  | 0 => Nat.zero_le _
  | n + 1 => by
    have h := zSum_ind b n
    rw [zSum]
    split <;> omega
/-- as many pigeons as holes -/
theorem yPig : ∀ (n : Nat) (f : Nat → Nat), (∀ i, i < n → f i < n) → (∀ i j, i < n → j < n → f i = f j → i = j) → ∀ r, r < n → ∃ i, i < n ∧ f i = r
  | 0, _, _, _, r, hr => absurd hr (Nat.not_lt_zero r)
  | n + 1, f, hf, inj, r, hr => by
    by_cases hq : f n = n
    · have h1 : ∀ i, i < n → f i < n := fun i hi => by
        have a := hf i (by omega)
        have b : f i ≠ n := fun e => by have := inj i n (by omega) (by omega) (e.trans hq.symm); omega
        omega
      rcases Nat.lt_or_ge r n with c | c
      · obtain ⟨i, hi, e⟩ := yPig n f h1 (fun i j hi hj => inj i j (by omega) (by omega)) r c
        exact ⟨i, by omega, e⟩
      · exact ⟨n, by omega, by omega⟩
    · have hqn := hf n (by omega)
      have hinj : ∀ i, i < n → f i ≠ f n := fun i hi e => by have := inj i n (by omega) (by omega) e; omega
      have step := yPig n (fun i => if f i = n then f n else f i) (fun i hi => by
        show (if f i = n then f n else f i) < n
        have a := hf i (by omega)
        split <;> omega) (fun i j hi hj e => by
        replace e : (if f i = n then f n else f i) = (if f j = n then f n else f j) := e
        have a := hinj i hi
        have b := hinj j hj
        refine inj i j (by omega) (by omega) ?_
        split at e <;> split at e <;> omega)
      rcases Nat.lt_or_ge r n with c | c
      · by_cases hr2 : r = f n
        · exact ⟨n, by omega, hr2.symm⟩
        · obtain ⟨i, hi, e⟩ := step r c
          replace e : (if f i = n then f n else f i) = r := e
          refine ⟨i, by omega, ?_⟩
          split at e <;> omega
      · obtain ⟨i, hi, e⟩ := step (f n) (by omega)
        replace e : (if f i = n then f n else f i) = f n := e
        have a := hinj i hi
        refine ⟨i, by omega, ?_⟩
        split at e <;> omega
/-! ranks -/
theorem zPr_iff {f : Nat → Nat → Nat} (h1 : ∀ i, f 4 i ≤ 1) {i j : Nat} : zPr f i j = true ↔ f 4 j < f 4 i ∨ (f 4 i = f 4 j ∧ (f 3 j < f 3 i ∨ (f 3 i = f 3 j ∧ i < j))) := by
  have a := h1 i
  have b := h1 j
  unfold zPr
  split
  · split
    · rw [decide_eq_true_eq]; omega
    · rw [decide_eq_true_eq]; omega
  · rw [decide_eq_true_eq]; omega
theorem zPr_irr (f : Nat → Nat → Nat) (i : Nat) : zPr f i i = false := by
  unfold zPr
  rw [if_pos rfl, if_pos rfl, decide_eq_false (Nat.lt_irrefl i)]
theorem zRk_mono {f : Nat → Nat → Nat} (h1 : ∀ i, f 4 i ≤ 1) {x y : Nat} (hx : x < f 0 4) (h : zPr f x y = true) : zRk f x < zRk f y := by
  unfold zRk
  refine zSum_lt2 (k := x) ?_ hx (fun i hi => ?_)
  · show (zPr f x x).toNat < (zPr f x y).toNat
    rw [zPr_irr, h]; decide
  · show (zPr f i x).toNat ≤ (zPr f i y).toNat
    cases e : zPr f i x with
    | false => exact Nat.zero_le _
    | true =>
      rw [(zPr_iff h1).mpr (by have a := (zPr_iff h1).mp e; have b := (zPr_iff h1).mp h; omega)]
      exact Nat.le_refl _
theorem zRk_lt {f : Nat → Nat → Nat} {w : Nat} (hw : w < f 0 4) : zRk f w < f 0 4 := by
  have h : zSum (fun i => (zPr f i w).toNat) (f 0 4) < zSum (fun _ => 1) (f 0 4) := zSum_lt2 (k := w) (by show (zPr f w w).toNat < 1; rw [zPr_irr]; decide) hw (fun i _ => by show (zPr f i w).toNat ≤ 1; cases zPr f i w <;> decide)
  rw [zSum_one] at h
  exact h
theorem zRk_inj {f : Nat → Nat → Nat} (h1 : ∀ i, f 4 i ≤ 1) {i j : Nat} (hi : i < f 0 4) (hj : j < f 0 4) (e : zRk f i = zRk f j) : i = j := by
  rcases Nat.lt_or_ge i j with c | c
  · have t : zPr f i j = true ∨ zPr f j i = true := by rw [zPr_iff h1, zPr_iff h1]; have := h1 i; have := h1 j; omega
    rcases t with t | t
    · have := zRk_mono h1 hi t; omega
    · have := zRk_mono h1 hj t; omega
  · rcases Nat.lt_or_ge j i with d | d
    · have t : zPr f i j = true ∨ zPr f j i = true := by rw [zPr_iff h1, zPr_iff h1]; have := h1 i; have := h1 j; omega
      rcases t with t | t
      · have := zRk_mono h1 hi t; omega
      · have := zRk_mono h1 hj t; omega
    · omega
theorem zAt_ok {f : Nat → Nat → Nat} (hw : zWo f) {r : Nat} (hr : r < f 0 4) : zAt f r < f 0 4 ∧ zRk f (zAt f r) = r := by
  have h1 : ∀ i, f 4 i ≤ 1 := fun i => (hw.2 i).2.2.2.1
  obtain ⟨w, hw1, hw2⟩ := yPig (f 0 4) (zRk f) (fun i hi => zRk_lt hi) (fun i j hi hj e => zRk_inj h1 hi hj e) r hr
  have hlt : zFi (fun i => decide (zRk f i = r)) (f 0 4) < f 0 4 := by
    rcases Nat.lt_or_ge (zFi (fun i => decide (zRk f i = r)) (f 0 4)) (f 0 4) with c | c
    · exact c
    · have t : decide (zRk f w = r) = false := zFi_no (p := fun i => decide (zRk f i = r)) (n := f 0 4) (k := w) (by omega)
      rw [decide_eq_true hw2] at t
      cases t
  unfold zAt
  rw [if_pos hlt]
  exact ⟨hlt, of_decide_eq_true (zFi_lt hlt).1⟩
theorem zAt_pr {f : Nat → Nat → Nat} (hw : zWo f) {r : Nat} (hr : r + 1 < f 0 4) : f 4 (zAt f (r + 1)) < f 4 (zAt f r) ∨ (f 4 (zAt f r) = f 4 (zAt f (r + 1)) ∧ (f 3 (zAt f (r + 1)) < f 3 (zAt f r) ∨ (f 3 (zAt f r) = f 3 (zAt f (r + 1)) ∧ zAt f r < zAt f (r + 1)))) := by
  have h1 : ∀ i, f 4 i ≤ 1 := fun i => (hw.2 i).2.2.2.1
  obtain ⟨a1, a2⟩ := zAt_ok hw (r := r) (by omega)
  obtain ⟨b1, b2⟩ := zAt_ok hw hr
  generalize zAt f r = x at *
  generalize zAt f (r + 1) = y at *
  by_cases t : zPr f y x = true
  · have := zRk_mono h1 b1 t; omega
  · have hne : x ≠ y := fun e => by rw [e] at a2; omega
    rw [zPr_iff h1] at t
    have := h1 x
    have := h1 y
    omega
/-! the most wax of a lit wick -/
theorem zMx_ge {f : Nat → Nat → Nat} : ∀ {n i : Nat}, i < n → f 4 i = 1 → f 3 i ≤ zMx f n
  | 0, i, h, _ => absurd h (Nat.not_lt_zero i)
  | n + 1, i, h, h1 => by
    rw [zMx]
    rcases Nat.lt_or_ge i n with c | c
    · have := zMx_ge c h1
      split <;> omega
    · have e : i = n := by omega
      subst e
      rw [if_pos h1]; omega
theorem zMx_ex {f : Nat → Nat → Nat} : ∀ {n r : Nat}, r < zMx f n → ∃ i, i < n ∧ f 4 i = 1 ∧ r < f 3 i
  | 0, r, h => absurd h (Nat.not_lt_zero r)
  | n + 1, r, h => by
    rw [zMx] at h
    by_cases c : r < zMx f n
    · obtain ⟨i, h1, h2⟩ := zMx_ex c; exact ⟨i, by omega, h2⟩
    · by_cases d : f 4 n = 1
      · rw [if_pos d] at h; exact ⟨n, by omega, d, by omega⟩
      · rw [if_neg d] at h; exact absurd h c
theorem zAf_t {f : Nat → Nat → Nat} {r : Nat} (h : r < zMx f (f 0 4)) : zAf f r = true := by
  obtain ⟨i, h1, h2⟩ := zMx_ex h
  exact zAny_t (p := fun i => decide (f 4 i = 1 ∧ r < f 3 i)) (decide_eq_true h2) h1
theorem zAf_f {f : Nat → Nat → Nat} {r : Nat} (h : zMx f (f 0 4) ≤ r) : zAf f r = false :=
  zAny_f (p := fun i => decide (f 4 i = 1 ∧ r < f 3 i)) (fun i hi => decide_eq_false (fun q => by have := zMx_ge hi q.1; omega))
theorem zLt_0 {f : Nat → Nat → Nat} (hw : zWo f) (n : Nat) : zSum (f 4) n = 0 ↔ zMx f n = 0 := by
  constructor
  · intro h
    rcases Nat.eq_zero_or_pos (zMx f n) with c | c
    · exact c
    · obtain ⟨i, h1, h2, -⟩ := zMx_ex c
      have := zSum_0 h i h1
      omega
  · intro h
    refine zSum_z (fun i hi => ?_)
    have a := (hw.2 i).2.2.2.1
    have b := (hw.2 i).2.2.2.2
    rcases Nat.eq_zero_or_pos (f 4 i) with c | c
    · exact c
    · have e : f 4 i = 1 := by omega
      have := zMx_ge hi e
      have := b e
      omega
theorem zMx_bd {f : Nat → Nat → Nat} (hw : zWo f) (n : Nat) : ∀ m, m ≤ n → zMx (zBd f n) m = zMx f m - 1
  | 0, _ => rfl
  | m + 1, h => by
    have ih := zMx_bd hw n m (by omega)
    rw [zMx, zMx, ih]
    have b := (hw.2 m).2.2.2.2
    have e4 : zBd f n 4 m = if m < n ∧ f 4 m = 1 then (if 1 < f 3 m then 1 else 0) else f 4 m := rfl
    have e3 : zBd f n 3 m = if m < n ∧ f 4 m = 1 then f 3 m - 1 else f 3 m := rfl
    by_cases c : f 4 m = 1
    · have b := b c
      rw [if_pos (show m < n ∧ f 4 m = 1 from ⟨by omega, c⟩)] at e4 e3
      rw [e4, e3, if_pos c]
      by_cases d : 1 < f 3 m
      · rw [if_pos d, if_pos rfl]; omega
      · rw [if_neg d, if_neg (by decide)]; omega
    · rw [if_neg (show ¬ (m < n ∧ f 4 m = 1) from fun q => c q.2)] at e4
      rw [e4, if_neg c, if_neg c]
theorem zWs_w (v : zL) : ∀ j, zWs v j 1 0 4 = v 1 0 4
  | 0 => rfl
  | j + 1 => zWs_w v j
theorem zWs_o {v : zL} (h : zWo (v 1)) : ∀ j, zWo (zWs v j 1)
  | 0 => h
  | j + 1 => zBd_ok (zWs_o h j) _
theorem zMx_ws {v : zL} (h : zWo (v 1)) : ∀ j, zMx (zWs v j 1) (v 1 0 4) = zMx (v 1) (v 1 0 4) - j
  | 0 => rfl
  | j + 1 => by
    have e : zMx (zWs v (j + 1) 1) (v 1 0 4) = zMx (zBd (zWs v j 1) (v 1 0 4)) (v 1 0 4) := by
      show zMx (zBd (zWs v j 1) (zWs v j 1 0 4)) (v 1 0 4) = _
      rw [zWs_w]
    rw [e, zMx_bd (zWs_o h j) _ _ (Nat.le_refl _), zMx_ws h j]
    omega
theorem zWn_eq {v : zL} (h : zWo (v 1)) (r : Nat) : zWn v r = min r (zMx (v 1) (v 1 0 4)) := by
  have e : ∀ j, (zLt (zWs v j) = 0 ↔ zMx (v 1) (v 1 0 4) ≤ j) := fun j => by
    show (zSum (zWs v j 1 4) (zWs v j 1 0 4) = 0 ↔ _)
    rw [zWs_w, zLt_0 (zWs_o h j), zMx_ws h j]
    omega
  unfold zWn
  rcases Nat.lt_or_ge (zMx (v 1) (v 1 0 4)) r with c | c
  · rw [zFi_eq (p := fun j => decide (zLt (zWs v j) = 0)) (i := zMx (v 1) (v 1 0 4)) (fun k hk => decide_eq_false (fun q => by have := (e k).mp q; omega)) (decide_eq_true ((e _).mpr (Nat.le_refl _))) c]
    omega
  · rw [zFi_none (p := fun j => decide (zLt (zWs v j) = 0)) (fun k hk => decide_eq_false (fun q => by have := (e k).mp q; omega))]
    omega
/-! rows -/
theorem zRw_sym (f : Nat → Nat → Nat) (i j : Nat) : zRw f i j = zRw f j i := by
  unfold zRw
  rw [decide_eq_decide]
  constructor <;> (intro h; exact ⟨h.1.symm, h.2.symm⟩)
theorem zRw_rf (f : Nat → Nat → Nat) (i : Nat) : zRw f i i = true := decide_eq_true ⟨rfl, rfl⟩
theorem zRw_tr {f : Nat → Nat → Nat} {i j k : Nat} (h1 : zRw f i j = true) (h2 : zRw f j k = true) : zRw f i k = true := by
  have a := of_decide_eq_true h1
  have b := of_decide_eq_true h2
  exact decide_eq_true ⟨a.1.trans b.1, a.2.trans b.2⟩
theorem zRs_rf (f : Nat → Nat → Nat) (s n : Nat) : zRs f s s n = true := zAll_t (fun i _ => zRw_rf f (s + i))
def yPd (f : Nat → Nat → Nat) : Nat := 1 + zFi (fun i => zOv f (1 + i)) (f 0 3 - 1)
theorem yPd_le {f : Nat → Nat → Nat} (h : 1 ≤ f 0 3) : yPd f ≤ f 0 3 := by
  have := zFi_le (fun i => zOv f (1 + i)) (f 0 3 - 1)
  unfold yPd
  omega
theorem yPd_no {f : Nat → Nat → Nat} {k : Nat} (h1 : 1 ≤ k) (h : k < yPd f) : zOv f k = false := by
  unfold yPd at h
  have t : zOv f (1 + (k - 1)) = false := zFi_no (p := fun i => zOv f (1 + i)) (k := k - 1) (n := f 0 3 - 1) (by omega)
  rw [show 1 + (k - 1) = k by omega] at t
  exact t
theorem yPd_yes {f : Nat → Nat → Nat} (h : 1 ≤ f 0 3) : zOv f (yPd f) = true := by
  rcases Nat.lt_or_ge (zFi (fun i => zOv f (1 + i)) (f 0 3 - 1)) (f 0 3 - 1) with c | c
  · exact (zFi_lt c).1
  · have e : yPd f = f 0 3 := by
      have := zFi_le (fun i => zOv f (1 + i)) (f 0 3 - 1)
      unfold yPd
      omega
    rw [e]
    unfold zOv
    rw [Nat.sub_self]
    rfl
theorem zRs_ov {f : Nat → Nat → Nat} {k : Nat} (h : k ≤ f 0 3) : zRs f 0 (f 0 3 - k) k = zOv f (f 0 3 - k) := by
  unfold zRs zOv
  rw [show f 0 3 - (f 0 3 - k) = k by omega]
  congr 1
  funext i
  rw [Nat.zero_add]
  exact zRw_sym _ _ _
theorem zCl_1 (f : Nat → Nat → Nat) : zCl f (f 0 3) = 1 := by
  unfold zCl
  rw [Nat.sub_self]
  show 0 + (zRs f 0 0 (f 0 3)).toNat = 1
  rw [zRs_rf]
  rfl
theorem zCd_le {f : Nat → Nat → Nat} {b : Nat} (h1 : 1 ≤ b) (h : zOv f b = true) : zCd f ≤ b := by
  have e : zCd f ≤ zSum (fun i => if i < b then 1 else 0) (f 0 3) := by
    unfold zCd
    refine zSum_mono2 (fun i hi => ?_)
    show (zNw f i).toNat ≤ if i < b then 1 else 0
    split
    · cases zNw f i <;> decide
    · rename_i c
      have t : zNw f i = false := by
        unfold zNw
        refine zAll_f (i := i - b) ?_ (by omega)
        have q := (zAll_iff.mp h) (i - b) (by omega)
        have q : zRw f (b + (i - b)) (i - b) = true := q
        rw [show b + (i - b) = i by omega] at q
        show (!zRw f (i - b) i) = false
        rw [zRw_sym, q]
        rfl
      rw [t]
      exact Nat.le_refl 0
  have := zSum_ind b (f 0 3)
  omega
theorem zRs_tail {f : Nat → Nat → Nat} {s t r : Nat} (h : zRs f s t (r + 1) = true) : zRs f (s + 1) (t + 1) r = true := by
  refine zAll_t (fun i hi => ?_)
  have q : zRw f (s + (i + 1)) (t + (i + 1)) = true := (zAll_iff.mp h) (i + 1) (by omega)
  rw [show s + 1 + i = s + (i + 1) by omega, show t + 1 + i = t + (i + 1) by omega]
  exact q
theorem zCl_mono {f : Nat → Nat → Nat} {r : Nat} (h1 : 1 ≤ r) (h2 : r + 1 ≤ f 0 3) : zCl f (r + 1) ≤ zCl f r := by
  unfold zCl
  have a : zSum (fun i => (zRs f i (f 0 3 - (r + 1)) (r + 1)).toNat) (f 0 3 - (r + 1) + 1) ≤ zSum (fun i => (zRs f (i + 1) (f 0 3 - r) r).toNat) (f 0 3 - (r + 1) + 1) := zSum_mono2 (fun i hi => by
    show (zRs f i (f 0 3 - (r + 1)) (r + 1)).toNat ≤ (zRs f (i + 1) (f 0 3 - r) r).toNat
    cases e : zRs f i (f 0 3 - (r + 1)) (r + 1) with
    | false => exact Nat.zero_le _
    | true =>
      have t := zRs_tail e
      rw [show f 0 3 - (r + 1) + 1 = f 0 3 - r by omega] at t
      rw [t]; exact Nat.le_refl _)
  have b := zSum_sh (fun i => (zRs f i (f 0 3 - r) r).toNat) (f 0 3 - (r + 1) + 1)
  rw [show f 0 3 - (r + 1) + 1 = f 0 3 - r by omega] at a b
  exact Nat.le_trans (by rw [show f 0 3 - (r + 1) + 1 = f 0 3 - r by omega]; exact a) b
/-! copies -/
theorem zCp_lo {f : Nat → Nat → Nat} {r : Nat} : ∀ (n : Nat) {k : Nat}, k < f 0 3 → zCp f r n 1 k = f 1 k ∧ zCp f r n 2 k = f 2 k ∧ zCp f r n 3 k = f 3 k
  | 0, _, _ => ⟨rfl, rfl, rfl⟩
  | n + 1, k, h => by
    have ih := zCp_lo (f := f) (r := r) n h
    have e : ¬ k = zCp f r n 0 3 := by rw [zCp_c]; omega
    show (if k = zCp f r n 0 3 then _ else zCp f r n 1 k) = f 1 k ∧ (if k = zCp f r n 0 3 then _ else zCp f r n 2 k) = f 2 k ∧ (if k = zCp f r n 0 3 then _ else zCp f r n 3 k) = f 3 k
    rw [if_neg e, if_neg e, if_neg e]
    exact ih
theorem zCp_hi {f : Nat → Nat → Nat} {r : Nat} (h1 : 1 ≤ r) (h2 : r ≤ f 0 3) : ∀ (n : Nat) {i : Nat}, i < n → zRw (zCp f r n) (f 0 3 + i) (f 0 3 + i - r) = true ∧ zCp f r n 3 (f 0 3 + i) = 0
  | 0, i, h => absurd h (Nat.not_lt_zero i)
  | n + 1, i, h => by
    have c0 := zCp_c f r n
    have e1 : ∀ k, zCp f r (n + 1) 1 k = if k = zCp f r n 0 3 then zCp f r n 1 (zCp f r n 0 3 - r) else zCp f r n 1 k := fun _ => rfl
    have e2 : ∀ k, zCp f r (n + 1) 2 k = if k = zCp f r n 0 3 then zCp f r n 2 (zCp f r n 0 3 - r) else zCp f r n 2 k := fun _ => rfl
    have e3 : ∀ k, zCp f r (n + 1) 3 k = if k = zCp f r n 0 3 then 0 else zCp f r n 3 k := fun _ => rfl
    unfold zRw
    rw [e1, e1, e2, e2, e3, c0, if_neg (show ¬ f 0 3 + i - r = f 0 3 + n by omega), if_neg (show ¬ f 0 3 + i - r = f 0 3 + n by omega)]
    rcases Nat.lt_or_ge i n with c | c
    · have ih := zCp_hi h1 h2 n c
      rw [if_neg (show ¬ f 0 3 + i = f 0 3 + n by omega), if_neg (show ¬ f 0 3 + i = f 0 3 + n by omega), if_neg (show ¬ f 0 3 + i = f 0 3 + n by omega)]
      exact ih
    · have e : i = n := by omega
      subst e
      rw [if_pos rfl, if_pos rfl, if_pos rfl]
      exact ⟨decide_eq_true ⟨rfl, rfl⟩, rfl⟩
theorem zLk_hi {f : Nat → Nat → Nat} {n : Nat} : ∀ {m : Nat}, (∀ i, i < m → f 3 (n + i) = 0) → zLk f (n + m) ≤ n
  | 0, _ => zLk_le f n
  | m + 1, h => by
    show zLk f (n + m + 1) ≤ n
    rw [zLk, if_pos (h m (by omega))]
    exact zLk_hi (fun i hi => h i (by omega))
/-- the copies' rows: the last r rows stand t + 1 times -/
theorem yCopies {f : Nat → Nat → Nat} {r t : Nat} (h1 : 1 ≤ r) (h2 : r ≤ f 0 3) : ∀ d, d ≤ t → ∀ j, j < r → zRw (zCp f r (r * t)) (f 0 3 + r * t - r - d * r + j) (f 0 3 + r * t - r + j) = true
  | 0, _, j, _ => by rw [Nat.zero_mul, Nat.sub_zero]; exact zRw_rf _ _
  | d + 1, hd, j, hj => by
    have ih := yCopies (f := f) (t := t) h1 h2 d (by omega) j hj
    have hm : (d + 1) * r ≤ r * t := by rw [Nat.mul_comm r t]; exact Nat.mul_le_mul_right r hd
    have he : (d + 1) * r = d * r + r := Nat.succ_mul d r
    have q := (zCp_hi (f := f) h1 h2 (r * t) (i := r * t - r - d * r + j) (by omega)).1
    rw [zRw_sym, show f 0 3 + (r * t - r - d * r + j) - r = f 0 3 + r * t - r - (d + 1) * r + j by omega, show f 0 3 + (r * t - r - d * r + j) = f 0 3 + r * t - r - d * r + j by omega] at q
    exact zRw_tr q ih
theorem yOcc {f : Nat → Nat → Nat} {r t : Nat} (h1 : 1 ≤ r) (h2 : r ≤ f 0 3) : t < zCl (zCp f r (r * t)) r := by
  unfold zCl
  rw [zCp_c]
  have P : ∀ d, d ≤ t → zRs (zCp f r (r * t)) (f 0 3 + r * t - r - d * r) (f 0 3 + r * t - r) r = true := fun d hd => zAll_t (fun j hj => yCopies h1 h2 d hd j hj)
  generalize hq : (fun i => (zRs (zCp f r (r * t)) i (f 0 3 + r * t - r) r).toNat) = q
  have Q : ∀ d, d ≤ t → q (f 0 3 + r * t - r - d * r) = 1 := fun d hd => by rw [← hq]; show (zRs _ _ _ _).toNat = 1; rw [P d hd]; rfl
  have G : ∀ d, d ≤ t → zSum q (f 0 3 + r * t - r - d * r) + (d + 1) ≤ zSum q (f 0 3 + r * t - r + 1) := by
    intro d
    induction d with
    | zero => intro hd; have a := Q 0 hd; rw [Nat.zero_mul, Nat.sub_zero] at a ⊢; rw [zSum]; omega
    | succ d ih =>
      intro hd
      have ih := ih (by omega)
      have hm : (d + 1) * r ≤ r * t := by rw [Nat.mul_comm r t]; exact Nat.mul_le_mul_right r hd
      have he : (d + 1) * r = d * r + r := Nat.succ_mul d r
      have a := Q (d + 1) hd
      have b := zSum_mono (q := q) (i := f 0 3 + r * t - r - (d + 1) * r + 1) (n := f 0 3 + r * t - r - d * r) (by omega)
      rw [zSum] at b
      omega
  have := G t (Nat.le_refl t)
  omega
