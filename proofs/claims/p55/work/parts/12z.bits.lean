/-! bits -/
def zBc (x : Nat) : Nat :=
  let a := x - (x / 2 ^ 1 &&& 1431655765)
  let b := (a &&& 858993459) + (a / 2 ^ 2 &&& 858993459)
  let c := (b + b / 2 ^ 4) &&& 252645135
  let d := c + c / 2 ^ 8
  (d + d / 2 ^ 16) &&& 63
theorem zBc_tab : (List.range 256).all (fun h => (List.range 256).all (fun l => zBc (256 * h + l) == zSum (fun c => l / 2 ^ c % 2) 8 + zSum (fun c => h / 2 ^ c % 2) 8)) = true := by decide +kernel
theorem zBc_sum {x : Nat} (hx : x < 65536) : zBc x = zSum (fun c => x / 2 ^ c % 2) 16 := by
  have h1 := List.all_eq_true.mp zBc_tab (x / 256) (List.mem_range.mpr (by omega))
  have h2 := List.all_eq_true.mp h1 (x % 256) (List.mem_range.mpr (by omega))
  rw [Nat.div_add_mod] at h2
  rw [beq_iff_eq.mp h2]
  have lo : ∀ c, c < 8 → x % 256 / 2 ^ c % 2 = x / 2 ^ c % 2 := by
    intro c hc
    have e : (256 : Nat) = 2 ^ 8 := rfl
    have t1 : x.testBit c = (x % 2 ^ 8).testBit c := by rw [Nat.testBit_mod_two_pow]; simp [hc]
    rw [Nat.testBit_eq_decide_div_mod_eq, Nat.testBit_eq_decide_div_mod_eq, decide_eq_decide] at t1
    rw [e]
    omega
  have hi : ∀ c, x / 256 / 2 ^ c % 2 = x / 2 ^ (8 + c) % 2 := by
    intro c
    rw [Nat.div_div_eq_div_mul, Nat.pow_add]
  have s1 : zSum (fun c => x % 256 / 2 ^ c % 2) 8 = zSum (fun c => x / 2 ^ c % 2) 8 := by
    simp only [zSum]
    rw [lo 0 (by omega), lo 1 (by omega), lo 2 (by omega), lo 3 (by omega), lo 4 (by omega), lo 5 (by omega), lo 6 (by omega), lo 7 (by omega)]
  rw [s1]
  simp only [zSum, hi]
  omega
/-- column c of x -/
def zBt (x c : Nat) : Bool := x.testBit c
theorem zBt_and (x c : Nat) : (x / 2 ^ c &&& 1) = (zBt x c).toNat := by
  rw [Nat.and_one_is_mod, zBt, Nat.testBit_eq_decide_div_mod_eq]
  rcases (show x / 2 ^ c % 2 = 0 ∨ x / 2 ^ c % 2 = 1 by omega) with h | h <;> rw [h] <;> rfl
theorem zBt_mod (x c : Nat) : x / 2 ^ c % 2 = (zBt x c).toNat := by rw [← zBt_and, Nat.and_one_is_mod]
