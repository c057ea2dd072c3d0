/-! THE CELLS of the system's objects -/
def dI (N : Nat) : ZD := fun g _ f => .inl (g.2 0 0, N, .inl (fun j => nI (f j)))
def dZ (N : Nat) : ZD := fun g _ f => .inl (g.2 0 1, N, .inl (fun j => nI (f j)))
def dC (N : Nat) : ZD := fun g _ f => .inl (g.2 0 2, N, .inl (fun j => nI (f j)))
def dWk : ZD := fun _ a f => .inr (8, [.ref (a + 1), .ref (a + 2), .ref (a + 3), .ref (a + 4), .int (nI (f 4))])
def dCl : ZD := fun _ a f => .inr (0, [.ref (a + 1), .ref (a + 2), .ref (a + 3), .int (nI (f 3))])
def dEd : ZD := fun _ _ f => .inr (2, [.int (nI (f 0)), .int (nI (f 1))])
def dLo : ZD := fun _ a f => .inr (6, [.ref (a + 1), .ref (a + 6), .ref (a + 10), .ref (a + 11), .int (nI (f 4)), .int (nI (f 5))])
/-- the wicks: the object, colours, masks, wax, lit -/
def TW : Nat → ZD := fun k => match k with
  | 0 => dWk
  | 1 => dI 8
  | 2 => dI 8
  | 3 => dI 8
  | _ => dZ 8
/-- the cloth: the object, masks, colours, knots -/
def TC : Nat → ZD := fun k => match k with
  | 0 => dCl
  | 1 => dI 40
  | 2 => dI 40
  | _ => dI 40
def TE : Nat → ZD := fun _ => dEd
def TLo : Nat → ZD := fun _ => dLo
/-- sums and first places -/
def zSum (q : Nat → Nat) : Nat → Nat
  | 0 => 0
  | n + 1 => zSum q n + q n
def zAll (q : Nat → Bool) : Nat → Bool
  | 0 => true
  | n + 1 => zAll q n && q n
def zXor (q : Nat → Nat) : Nat → Nat
  | 0 => 0
  | n + 1 => zXor q n ^^^ q n
theorem zSum_le {q : Nat → Nat} {b : Nat} (h : ∀ i, q i ≤ b) : ∀ n, zSum q n ≤ n * b
  | 0 => by simp [zSum]
  | n + 1 => by have := zSum_le h n; have := h n; rw [zSum, Nat.succ_mul]; omega
theorem zXor_lt {q : Nat → Nat} (h : ∀ i, q i < 65536) : ∀ n, zXor q n < 65536
  | 0 => by simp [zXor]
  | n + 1 => by
    have h1 := zXor_lt h n
    have h2 := h n
    rw [zXor]
    exact Nat.xor_lt_two_pow (n := 16) h1 h2
/-- what holds of the wicks at all times -/
def zWo (f : Nat → Nat → Nat) : Prop := f 0 4 ≤ 8 ∧ ∀ i, f 1 i ≤ 7 ∧ f 2 i < 65536 ∧ f 3 i ≤ 99 ∧ f 4 i ≤ 1 ∧ (f 4 i = 1 → 0 < f 3 i)
theorem zWo.c {f : Nat → Nat → Nat} (h : zWo f) : f 0 4 < 2 ^ 31 := by have := h.1; omega
theorem zWo.x {f : Nat → Nat → Nat} (h : zWo f) (i : Nat) : f 3 i < 2 ^ 31 := by have := (h.2 i).2.2.1; omega
theorem zWo.l {f : Nat → Nat → Nat} (h : zWo f) (i : Nat) : f 4 i < 2 ^ 31 := by have := (h.2 i).2.2.2.1; omega
theorem arrV_cg {c N : Nat} {f f' : Nat → Value} (h : ∀ j, j < N → f j = f' j) : arrV c N f = arrV c N f' := by
  unfold arrV
  congr 2
  funext j
  exact h j.val j.isLt
theorem zPm.cg {g : ZG} {o n : Nat} {T : Nat → ZD} {f f' : Nat → Nat → Nat} {H : Heap} (h : zPm g o n T f H) (he : ∀ k, k < n → ∀ a, va_at g.1 zC (a, T k g a (f k)) H → va_at g.1 zC (a, T k g a (f' k)) H) : zPm g o n T f' H := fun k hk => he k hk _ (h k hk)
theorem dI_cg {g : ZG} {a N : Nat} {q q' : Nat → Nat} {H : Heap} (h : ∀ j, j < N → q j = q' j) (hv : va_at g.1 zC (a, dI N g a q) H) : va_at g.1 zC (a, dI N g a q') H := by
  have e : vp_cell (g.2 0 0) (N, .inl (fun j => nI (q j))) = vp_cell (g.2 0 0) (N, .inl (fun j => nI (q' j))) := by
    rw [vp_cell_i, vp_cell_i]; exact arrV_cg (fun j hj => by rw [h j hj])
  show H[a]? = some (vp_cell (g.2 0 0) (N, .inl (fun j => nI (q' j))))
  rw [← e]; exact hv
theorem dZ_cg {g : ZG} {a N : Nat} {q q' : Nat → Nat} {H : Heap} (h : ∀ j, j < N → q j = q' j) (hv : va_at g.1 zC (a, dZ N g a q) H) : va_at g.1 zC (a, dZ N g a q') H := by
  have e : vp_cell (g.2 0 1) (N, .inl (fun j => nI (q j))) = vp_cell (g.2 0 1) (N, .inl (fun j => nI (q' j))) := by
    rw [vp_cell_i, vp_cell_i]; exact arrV_cg (fun j hj => by rw [h j hj])
  show H[a]? = some (vp_cell (g.2 0 1) (N, .inl (fun j => nI (q' j))))
  rw [← e]; exact hv
/-- the first place below n with p, n if there is none -/
def zFi (p : Nat → Bool) : Nat → Nat
  | 0 => 0
  | n + 1 => if zFi p n < n then zFi p n else if p n then n else n + 1
theorem zFi_le (p : Nat → Bool) : ∀ n, zFi p n ≤ n
  | 0 => Nat.le_refl 0
  | n + 1 => by have h := zFi_le p n; rw [zFi]; (repeat' split) <;> omega
theorem zFi_none {p : Nat → Bool} : ∀ {n : Nat}, (∀ k, k < n → p k = false) → zFi p n = n
  | 0, _ => rfl
  | n + 1, h => by rw [zFi, zFi_none (fun k hk => h k (by omega)), if_neg (Nat.lt_irrefl n), h n (by omega)]; rfl
theorem zFi_eq {p : Nat → Bool} {i : Nat} (h : ∀ k, k < i → p k = false) (hi : p i = true) : ∀ {n : Nat}, i < n → zFi p n = i
  | 0, h0 => absurd h0 (Nat.not_lt_zero i)
  | n + 1, hn => by
    rw [zFi]
    rcases Nat.lt_or_ge i n with q | q
    · rw [zFi_eq h hi q, if_pos q]
    · have e : i = n := by omega
      subst e
      rw [zFi_none h, if_neg (Nat.lt_irrefl i), if_pos hi]
theorem zFi_no {p : Nat → Bool} : ∀ {n k : Nat}, k < zFi p n → p k = false
  | 0, k, h => absurd h (Nat.not_lt_zero k)
  | n + 1, k, h => by
    rw [zFi] at h
    by_cases q : zFi p n < n
    · rw [if_pos q] at h; exact zFi_no h
    · rw [if_neg q] at h
      by_cases hk : k < zFi p n
      · exact zFi_no hk
      · have := zFi_le p n
        by_cases r : p n = true
        · rw [if_pos r] at h; omega
        · rw [if_neg r] at h
          have e : k = n := by omega
          subst e; cases hp : p k <;> simp_all
theorem zFi_lt {p : Nat → Bool} : ∀ {n : Nat}, zFi p n < n → p (zFi p n) = true ∧ ∀ k, k < zFi p n → p k = false
  | 0, h => absurd h (Nat.not_lt_zero _)
  | n + 1, h => by
    rw [zFi] at h ⊢
    by_cases q : zFi p n < n
    · rw [if_pos q] at h ⊢; exact zFi_lt q
    · rw [if_neg q] at h ⊢
      by_cases r : p n = true
      · rw [if_pos r]
        refine ⟨r, fun k hk => ?_⟩
        have e := zFi_le p n
        exact zFi_no (n := n) (by omega)
      · rw [if_neg r] at h; omega
def zAny (p : Nat → Bool) : Nat → Bool
  | 0 => false
  | n + 1 => zAny p n || p n
theorem zAny_t {p : Nat → Bool} {i : Nat} (hi : p i = true) : ∀ {n : Nat}, i < n → zAny p n = true
  | 0, h => absurd h (Nat.not_lt_zero i)
  | n + 1, h => by
    rw [zAny]
    rcases Nat.lt_or_ge i n with q | q
    · rw [zAny_t hi q]; rfl
    · have e : i = n := by omega
      subst e; rw [hi, Bool.or_true]
theorem zAny_f {p : Nat → Bool} : ∀ {n : Nat}, (∀ i, i < n → p i = false) → zAny p n = false
  | 0, _ => rfl
  | n + 1, h => by rw [zAny, zAny_f (fun i hi => h i (by omega)), h n (by omega)]; rfl
theorem zAny_iff {p : Nat → Bool} {n : Nat} : zAny p n = true ↔ ∃ i, i < n ∧ p i = true := by
  constructor
  · induction n with
    | zero => intro h; cases h
    | succ n ih =>
      intro h
      rw [zAny, Bool.or_eq_true] at h
      rcases h with h | h
      · obtain ⟨i, h1, h2⟩ := ih h; exact ⟨i, by omega, h2⟩
      · exact ⟨n, by omega, h⟩
  · rintro ⟨i, h1, h2⟩; exact zAny_t h2 h1
theorem zAll_f {p : Nat → Bool} {i : Nat} (hi : p i = false) : ∀ {n : Nat}, i < n → zAll p n = false
  | 0, h => absurd h (Nat.not_lt_zero i)
  | n + 1, h => by
    rw [zAll]
    rcases Nat.lt_or_ge i n with q | q
    · rw [zAll_f hi q]; rfl
    · have e : i = n := by omega
      subst e; rw [hi, Bool.and_false]
theorem zAll_t {p : Nat → Bool} : ∀ {n : Nat}, (∀ i, i < n → p i = true) → zAll p n = true
  | 0, _ => rfl
  | n + 1, h => by rw [zAll, zAll_t (fun i hi => h i (by omega)), h n (by omega)]; rfl
theorem zAll_iff {p : Nat → Bool} {n : Nat} : zAll p n = true ↔ ∀ i, i < n → p i = true := by
  constructor
  · intro h i hi
    cases hp : p i with
    | true => rfl
    | false => rw [zAll_f hp hi] at h; cases h
  · exact zAll_t
