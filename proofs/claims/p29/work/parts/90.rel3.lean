/-- groups of keepers who are there -/
theorem every_n {v : Nat → Nat → Int32} {K : Nat} (h0 : v 0 0 = nI K) (h8 : K ≤ 8) : fX2_everybody v = nI (2 ^ K - 1) := by
  unfold fX2_everybody
  rw [h0, shl1 (by omega), pk_sub (Nat.two_pow_pos K)]
theorem s_l2 : ∀ n, n < 32 → ((nI n &&& 31).toBitVec.smod 32).toNat = n := by decide +kernel
theorem reaN_lt (P : Nat → Nat → Nat) (g : Nat) (hc : Bool) : reaN P g hc < 7 := by unfold reaN; (repeat' split) <;> omega
theorem look_0 {v : Nat → Nat → Int32} {P : Nat → Nat → Nat} (hC : CV v P) (hW : WF P) {o p : Nat → Int32} (ho : o 0 = 0) (hp : p 0 = 0) : (fX3_look o p v).1 0 = 0 ∧ (fX3_look o p v).2 0 = 0 := by
  obtain ⟨h1, h2⟩ := look_n hC hW ho hp 0 (by decide)
  have e1 : owG P 0 = 0 := by
    refine Nat.eq_of_testBit_eq fun j => ?_
    unfold owG; rw [orL_bit]; simp
  have e2 : prs P 0 = 0 := by
    unfold prs; exact sumN_zero fun h _ => by simp
  rw [h1, h2, e1, e2]
  exact ⟨by decide, by decide⟩
