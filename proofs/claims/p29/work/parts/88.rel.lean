def svS (S : Nat) : Nat := if S = 6 then 6 else S + 1
theorem svS_le {S : Nat} (h : S ≤ 6) : svS S ≤ 6 := by unfold svS; split <;> omega
/-! ===== the class's state beside the reference's ===== -/
theorem i0 : (nI 0 = 0) = True := by simp only [eq_iff_iff, iff_true]; decide
theorem i1 : (nI 1 = 0) = False := by simp only [eq_iff_iff, iff_false]; decide
/-- a keeper's number -/
theorem hasK_01 (v : Nat → Nat → Int32) (k : Int32) : fX2_hasKeeper v k = nI 0 ∨ fX2_hasKeeper v k = nI 1 := by
  unfold fX2_hasKeeper
  (repeat' split) <;> simp
theorem hasK_n {v : Nat → Nat → Int32} {K j : Nat} (h0 : v 0 0 = nI K) (h8 : K ≤ 8) (hj : j < K) : fX2_hasKeeper v (nI j) = nI 1 := by
  unfold fX2_hasKeeper
  rw [h0, if_neg (nI_pos (by omega)), if_neg (fun z => absurd ((nI_leI (by omega) (by omega)).mp z) (by omega)), if_neg (fun z => absurd ((nI_leI (by omega) (by omega)).mp z) (by omega))]
theorem hasK_j {v : Nat → Nat → Int32} {K : Nat} {k : Int32} (h0 : v 0 0 = nI K) (h8 : K ≤ 8) (h : ¬ fX2_hasKeeper v k = 0) : ∃ j : Nat, j < K ∧ k = nI j := by
  unfold fX2_hasKeeper at h
  rw [h0] at h
  by_cases a : k < 0
  · rw [if_pos a] at h; exact absurd (by decide) h
  · obtain ⟨j, hj, rfl⟩ := nI_of a
    rw [if_neg a] at h
    by_cases b : nI K ≤ nI j
    · rw [if_pos b] at h; exact absurd (by decide) h
    · exact ⟨j, Nat.not_le.mp fun z => b ((nI_leI (by omega) hj).mpr z), rfl⟩
theorem CK.same {ck : Nat → Int32} {P Q : Nat → Nat → Nat} (h : CK ck P) (h4 : Q 0 4 = P 0 4 ∨ (Q 0 4 ≠ 0 → P 0 4 ≠ 0)) (h5 : Q 5 = P 5) (h6 : Q 0 6 = P 0 6) : CK ck Q := fun z => by
  rw [h5, h6]
  exact h (by rcases h4 with e | e; rw [← e]; exact z; exact e z)
theorem CK.new {v : Nat → Nat → Int32} {P : Nat → Nat → Nat} (hC : CV v P) (hW : WF P) (k : Nat → Int32) : CK (fX0_reckon k v) P := fun z =>
  reck (hC.1 6 (by decide)) (hW.1.2.2.2.2.2.2.2.1 z) hW.1.2.2.2.2.2.2.1 (fun i hi => ⟨(hC.2 i hi).2.2.2.2, hW.va hi⟩) k
theorem kN_svS (S : Nat) (h : S ≤ 6) : kN S = svS S := by unfold kN svS; (repeat' split) <;> omega
theorem kR_lt {S sr : Nat} (h : sr < 6) : kR S sr < 6 := by unfold kR; split <;> omega
