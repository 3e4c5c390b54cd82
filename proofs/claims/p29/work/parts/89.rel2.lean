theorem in_01 (k lo hi : Int32) : fX5_in k lo hi = nI 0 ∨ fX5_in k lo hi = nI 1 := bX5_in k lo hi
theorem in_1 {k lo hi : Int32} (h : ¬ fX5_in k lo hi = 0) : fX5_in k lo hi = nI 1 := (in_01 k lo hi).resolve_left h
theorem dn_of {K : Nat} {h : Int32} {v : Nat → Nat → Int32} (h0 : v 0 0 = nI K) (h8 : K ≤ 8) (hh : h = -1 ∨ ¬ fX2_hasKeeper v h = 0) : ∃ i, i ≤ K ∧ h = dn i := by
  rcases hh with rfl | hh
  · exact ⟨0, Nat.zero_le _, rfl⟩
  · obtain ⟨j, hj, rfl⟩ := hasK_j h0 h8 hh
    exact ⟨j + 1, hj, rfl⟩
theorem m1_hasK (v : Nat → Nat → Int32) : fX2_hasKeeper v (-1) = 0 := by
  unfold fX2_hasKeeper
  rw [if_pos (by decide)]
  decide
theorem in_rng {k : Int32} {lo hi : Nat} (hlo : lo < 2 ^ 31) (hhi : hi < 2 ^ 31) (h : ¬ fX5_in k (nI lo) (nI hi) = 0) : ∃ j : Nat, lo ≤ j ∧ j ≤ hi ∧ k = nI j := by
  obtain ⟨h1, h2⟩ := in_ne h
  have h3 : ¬ k < 0 := by
    intro z
    apply h1
    rw [Int32.lt_iff_toInt_lt, nI_toInt hlo]
    rw [Int32.lt_iff_toInt_lt] at z
    have : (0 : Int32).toInt = 0 := by decide
    omega
  obtain ⟨j, hj, rfl⟩ := nI_of h3
  exact ⟨j, Nat.not_lt.mp fun z => h1 ((nI_ltI hj hlo).mpr z), Nat.not_lt.mp fun z => h2 ((nI_ltI hhi hj).mpr z), rfl⟩
theorem char_nar : ∀ n, n < 127 → vp_nar .char (((nI n).toUInt32 % 65536).toInt32) = nI n := by decide +kernel
/-- forge -/
theorem hasShare_n {v : Nat → Nat → Int32} {P : Nat → Nat → Nat} (hC : CV v P) (hW : WF P) {j : Nat} (hj : j < 8) : (fX2_hasShare v (nI j) = 0) ↔ P 4 j = 0 := by
  unfold fX2_hasShare
  rw [if_neg (nI_pos (by omega)), if_neg (fun z => absurd ((nI_leI (by omega) (by omega)).mp z) (by omega)), nI_clamp (by omega), (hC.2 j hj).2.2.2.1]
  by_cases e : P 4 j = 0
  · rw [if_pos ((dn_m _ (hW.ow hj)).mpr e)]; simp [e]; decide
  · rw [if_neg (fun z => e ((dn_m _ (hW.ow hj)).mp z))]; simp [e]; decide
