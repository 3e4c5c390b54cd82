/-! ===== the two digests ===== -/
theorem bits_quo : ∀ a, a < 9 → ∀ b, b < a + 1 → a ≠ 0 → fX4_bitsOf (FP.ddiv (FP.i2d (nI b)) (FP.i2d (nI a))) = fD2L (FP.ddiv (FP.i2d (nI b)) (FP.i2d (nI a))) := by decide +kernel
theorem bits_one : fX4_bitsOf FP.dconst1 = fD2L FP.dconst1 := by decide +kernel
def DIG (ms : Nat → Int32) (x : Int64 × (Nat → Nat → Int32) × (Nat → Int32) × (Nat → Int32)) (y : Int64 × (Nat → Int32) × Int32) : Prop :=
  y.1 = x.1 ∧ x.2.2.1 0 = 0 ∧ x.2.2.2 0 = 0 ∧ (∀ j, j < 406 → y.2.1 j = ms j) ∧ y.2.2 = nI 0
