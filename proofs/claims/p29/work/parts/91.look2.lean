/-! ===== looks ===== -/
theorem owG_one (P : Nat → Nat → Nat) {j : Nat} (hj : j < 8) : owG P (2 ^ j) = owK P j := by
  unfold owG owK
  refine orL_congr fun k hk => ?_
  rw [Nat.testBit_two_pow]
  by_cases e : P 4 k = 0
  · simp [e]
  · have : (j = P 4 k - 1) ↔ (P 4 k = j + 1) := by omega
    simp [e, this]
theorem dn_ge : ∀ x, x < 9 → (0 ≤ dn x ↔ x ≠ 0) := by decide +kernel
theorem sub_th {P : Nat → Nat → Nat} {g k : Nat} (hs : subN g (thM P)) (hk : k < 8) (hb : g.testBit k = true) : P 4 k ≠ 0 := by
  have := hs k hk hb
  unfold thM at this
  rw [orL_bit] at this
  simp only [Bool.and_eq_true, decide_eq_true_eq] at this
  exact this.2
/-- first shares -/
theorem pop_or : ∀ i, i < 8 → ∀ m, m < 2 ^ i → pop (m ||| 2 ^ i) = pop m + 1 := by decide +kernel
