/-! THE CELLS of the system's objects -/
def dI (N : Nat) : ZD := fun g _ f => .inl (g.2 0 0, N, .inl (fun j => nI (f j)))
def dZ (N : Nat) : ZD := fun g _ f => .inl (g.2 0 1, N, .inl (fun j => nI (f j)))
def dC (N : Nat) : ZD := fun g _ f => .inl (g.2 0 2, N, .inl (fun j => nI (f j)))
def dWk : ZD := fun _ a f => .inr (8, [.ref (a + 1), .ref (a + 2), .ref (a + 3), .ref (a + 4), .int (nI (f 4))])
def dCl : ZD := fun _ a f => .inr (0, [.ref (a + 1), .ref (a + 2), .ref (a + 3), .int (nI (f 3))])
def dEd : ZD := fun _ _ f => .inr (2, [.int (nI (f 0)), .int (nI (f 1))])
def dLo : ZD := fun _ a f => .inr (6, [.ref (a + 1), .ref (a + 6), .ref (a + 10), .ref (a + 11), .int (nI (f 4)), .int (nI (f 5))])
/-- the wicks: the object, colours, masks, wax, lit -/
def TW : Nat → ZD := fun k => match k with
  | 0 => dWk
  | 1 => dI 8
  | 2 => dI 8
  | 3 => dI 8
  | _ => dZ 8
/-- the cloth: the object, masks, colours, knots -/
def TC : Nat → ZD := fun k => match k with
  | 0 => dCl
  | 1 => dI 40
  | 2 => dI 40
  | _ => dI 40
def TE : Nat → ZD := fun _ => dEd
def TLo : Nat → ZD := fun _ => dLo
/-- sums and first places -/
def zSum (q : Nat → Nat) : Nat → Nat
  | 0 => 0
  | n + 1 => zSum q n + q n
def zAll (q : Nat → Bool) : Nat → Bool
  | 0 => true
  | n + 1 => zAll q n && q n
def zXor (q : Nat → Nat) : Nat → Nat
  | 0 => 0
  | n + 1 => zXor q n ^^^ q n
theorem zSum_le {q : Nat → Nat} {b : Nat} (h : ∀ i, q i ≤ b) : ∀ n, zSum q n ≤ n * b
  | 0 => by simp [zSum]
  | n + 1 => by have := zSum_le h n; have := h n; rw [zSum, Nat.succ_mul]; omega
theorem zXor_lt {q : Nat → Nat} (h : ∀ i, q i < 65536) : ∀ n, zXor q n < 65536
  | 0 => by simp [zXor]
  | n + 1 => by
    have h1 := zXor_lt h n
    have h2 := h n
    rw [zXor]
    exact Nat.xor_lt_two_pow (n := 16) h1 h2
/-- what holds of the wicks at all times -/
def zWo (f : Nat → Nat → Nat) : Prop := f 0 4 ≤ 8 ∧ ∀ i, f 1 i ≤ 7 ∧ f 2 i < 65536 ∧ f 3 i ≤ 99 ∧ f 4 i ≤ 1 ∧ (f 4 i = 1 → 0 < f 3 i)
theorem zWo.c {f : Nat → Nat → Nat} (h : zWo f) : f 0 4 < 2 ^ 31 := by have := h.1; omega
theorem zWo.x {f : Nat → Nat → Nat} (h : zWo f) (i : Nat) : f 3 i < 2 ^ 31 := by have := (h.2 i).2.2.1; omega
theorem zWo.l {f : Nat → Nat → Nat} (h : zWo f) (i : Nat) : f 4 i < 2 ^ 31 := by have := (h.2 i).2.2.2.1; omega
