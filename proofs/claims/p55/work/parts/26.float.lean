/-! MEANS AND SHARES: quotients of small numbers are no NaN, and equal to themselves -/
def yDd (a b : Nat) : UInt64 := FP.ddiv (FP.i2d (nI a)) (FP.i2d (nI b))
def yFf (a b : Nat) : UInt32 := FP.fdiv (FP.i2f (nI a)) (FP.i2f (nI b))
theorem vf64_of {r : UInt64} (h : FP.dIsNaN r = false) : vf_n64 r := by
  unfold vf_n64
  rw [UInt64.le_iff_toNat_le, UInt64.toNat_and, show (0x7fffffffffffffff : UInt64).toNat = 2 ^ 63 - 1 from rfl, Nat.and_two_pow_sub_one_eq_mod, show (0x7ff0000000000000 : UInt64).toNat = 9218868437227405312 from rfl]
  rcases Nat.lt_or_ge 9218868437227405312 (r.toNat % 2 ^ 63) with q | q
  · exfalso
    have e1 : r.toNat / 4503599627370496 % 2048 = 2047 := by omega
    have e2 : ¬ r.toNat % 4503599627370496 = 0 := by omega
    have hd : FP.Core.decode FP.Core.b64 r.toNat = FP.Core.Datum.nan := by
      unfold FP.Core.decode
      rw [if_pos (show FP.Core.fieldE FP.Core.b64 r.toNat = FP.Core.b64.exps - 1 from e1), if_neg (show ¬ FP.Core.fieldT FP.Core.b64 r.toNat = 0 from e2)]
    have : FP.dIsNaN r = true := decide_eq_true hd
    rw [this] at h; cases h
  · exact q
theorem vf32_of {r : UInt32} (h : FP.fIsNaN r = false) : vf_n32 r := by
  unfold vf_n32
  rw [UInt32.le_iff_toNat_le, UInt32.toNat_and, show (0x7fffffff : UInt32).toNat = 2 ^ 31 - 1 from rfl, Nat.and_two_pow_sub_one_eq_mod, show (0x7f800000 : UInt32).toNat = 2139095040 from rfl]
  rcases Nat.lt_or_ge 2139095040 (r.toNat % 2 ^ 31) with q | q
  · exfalso
    have e1 : r.toNat / 8388608 % 256 = 255 := by omega
    have e2 : ¬ r.toNat % 8388608 = 0 := by omega
    have hd : FP.Core.decode FP.Core.b32 r.toNat = FP.Core.Datum.nan := by
      unfold FP.Core.decode
      rw [if_pos (show FP.Core.fieldE FP.Core.b32 r.toNat = FP.Core.b32.exps - 1 from e1), if_neg (show ¬ FP.Core.fieldT FP.Core.b32 r.toNat = 0 from e2)]
    have : FP.fIsNaN r = true := decide_eq_true hd
    rw [this] at h; cases h
  · exact q
/-- the datum is a number, and no zero -/
def yFin : FP.Core.Datum → Bool
  | .fin _ c _ => decide (c ≠ 0)
  | _ => false
theorem yD_a : ∀ a, a < 641 → FP.dIsNaN (FP.i2d (nI a)) = false := by decide +kernel
theorem yD_b : ∀ b, b < 41 → b ≠ 0 → yFin (FP.Core.decode FP.Core.b64 (FP.i2d (nI b)).toNat) = true := by decide +kernel
theorem yF_a : ∀ a, a < 641 → FP.fIsNaN (FP.i2f (nI a)) = false := by decide +kernel
theorem yF_b : ∀ b, b < 41 → b ≠ 0 → yFin (FP.Core.decode FP.Core.b32 (FP.i2f (nI (b * 16))).toNat) = true := by decide +kernel
theorem yDd_n {a b : Nat} (ha : a < 641) (hb : b < 41) (h0 : b ≠ 0) : FP.dIsNaN (yDd a b) = false := by
  have h := yD_b b hb h0
  unfold yFin at h
  split at h
  case h_1 s c q e => exact FP.Core.ddiv_out (yD_a a ha) ⟨s, c, q, e⟩ (fun z => by obtain ⟨s2, q2, e2⟩ := z; have e3 := e.symm.trans e2; cases e3; simp at h)
  · cases h
theorem yFf_n {a b : Nat} (ha : a < 641) (hb : b < 41) (h0 : b ≠ 0) : FP.fIsNaN (yFf a (b * 16)) = false := by
  have h := yF_b b hb h0
  unfold yFin at h
  split at h
  case h_1 s c q e => exact FP.Core.fdiv_out (yF_a a ha) ⟨s, c, q, e⟩ (fun z => by obtain ⟨s2, q2, e2⟩ := z; have e3 := e.symm.trans e2; cases e3; simp at h)
  · cases h
theorem yDd_e {a b : Nat} (ha : a < 641) (hb : b < 41) (h0 : b ≠ 0) : FP.dcmp (yDd a b) (yDd a b) = some .eq := FP.Core.dcmp_self (fun z => by have h := yDd_n ha hb h0; rw [show FP.dIsNaN (yDd a b) = true from decide_eq_true z] at h; cases h)
theorem yFf_e {a b : Nat} (ha : a < 641) (hb : b < 41) (h0 : b ≠ 0) : FP.fcmp (yFf a (b * 16)) (yFf a (b * 16)) = some .eq := FP.Core.fcmp_self (fun z => by have h := yFf_n ha hb h0; rw [show FP.fIsNaN (yFf a (b * 16)) = true from decide_eq_true z] at h; cases h)
