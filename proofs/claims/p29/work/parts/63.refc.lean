/-! ===== the reference's curves ===== -/
theorem lowQ_lt (m q : Nat) : ∀ n, lowQ m q n < 2 ^ n := by
  intro n
  induction n with
  | zero => simp [lowQ]
  | succ n ih =>
    simp only [lowQ]
    refine Nat.or_lt_two_pow ?_ ?_
    · exact Nat.lt_trans ih (Nat.pow_lt_pow_right (by decide) (by omega))
    · split
      · exact Nat.pow_lt_pow_right (by decide) (by omega)
      · exact Nat.two_pow_pos _
theorem lowQ_sub (m q : Nat) : ∀ n k, (lowQ m q n).testBit k = true → m.testBit k = true := by
  intro n
  induction n with
  | zero => intro k h; simp [lowQ] at h
  | succ n ih =>
    intro k h
    simp only [lowQ, Nat.testBit_or, Bool.or_eq_true] at h
    rcases h with h | h
    · exact ih k h
    · by_cases c : (m.testBit n && decide (pop (lowQ m q n) < q)) = true
      · rw [if_pos c, Nat.testBit_two_pow] at h
        have e : n = k := by simpa using h
        subst e
        simp only [Bool.and_eq_true] at c
        exact c.1
      · rw [if_neg c] at h; simp at h
theorem p2_256 {i : Nat} (h : i ≤ 8) : 2 ^ i ≤ 256 := Nat.le_trans (Nat.pow_le_pow_right (by decide) h) (by decide : 2 ^ 8 ≤ 256)
theorem or_z (x : Nat) : nI x ||| nI 0 = nI x := by rw [nI_or]; congr 1; simp
theorem up_n : ∀ t, t < 9 → ∀ j, j < 8 → ((((nI t - (nI j)) - (nI 1)) + (nI 251)) - (((nI t - (nI j)) - (nI 1)) + (nI 251)) / (nI 251) * (nI 251)) = nI ((t + 250 - j) % 251) := by decide +kernel
theorem dow_n : ∀ k, k < 8 → ∀ j, j < 8 → ((((nI k) - (nI j)) + (nI 251)) - (((nI k) - (nI j)) + (nI 251)) / (nI 251) * (nI 251)) = nI ((k + 251 - j) % 251) := by decide +kernel
theorem mulmod_i {x y : Nat} (hx : x < 251) (hy : y < 251) : (nI x * nI y) - (nI x * nI y) / (nI 251) * (nI 251) = nI (x * y % 251) := by
  have : x * y ≤ 250 * 250 := Nat.mul_le_mul (by omega) (by omega)
  rw [pk_mul, mod_i (by omega)]
def allF (C : Nat → Bool) : Nat → Nat → Bool
  | 0, _ => true
  | n + 1, i => C i && allF C n (i + 1)
theorem allF_iff {C : Nat → Bool} : ∀ {n i : Nat}, allF C n i = true ↔ ∀ k, i ≤ k → k < i + n → C k = true := by
  intro n
  induction n with
  | zero => intro i; simp only [allF, true_iff]; intro k h1 h2; omega
  | succ n ih =>
    intro i
    simp only [allF, Bool.and_eq_true]
    rw [ih]
    constructor
    · rintro ⟨h1, h2⟩ k h3 h4
      by_cases e : k = i
      · subst e; exact h1
      · exact h2 k (by omega) (by omega)
    · intro h
      exact ⟨h i (by omega) (by omega), fun k h1 h2 => h k (by omega) (by omega)⟩
def onC (a : Nat → Nat) (q m k : Nat) : Bool := !m.testBit k || decide (lag a (lowq m q) (k + 1) = a k)
