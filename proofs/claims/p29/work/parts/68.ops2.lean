/-! ===== the slots of the reference ===== -/
/-! ===== what the calls do to a place ===== -/
def addP (P : Nat → Nat → Nat) : Nat → Nat → Nat := pU (pU P 0 1 (P 0 1 ||| 2 ^ P 0 0)) 0 0 (P 0 0 + 1)
theorem addP_c {v : Nat → Nat → Int32} {P : Nat → Nat → Nat} (hC : CV v P) (h8 : P 0 0 < 8) : (fX2_addKeeper v).1 = nI (P 0 0) ∧ CV (fX2_addKeeper v).2 (addP P) := by
  have h0 := hC.1 0 (by decide)
  have h1 := hC.1 1 (by decide)
  unfold fX2_addKeeper addP
  refine ⟨h0, CV.num (CV.num hC ?_) ?_⟩
  · rw [h1, h0, shl1 (by omega), nI_or]
  · rw [h0, nI_add]
theorem addP_w {P : Nat → Nat → Nat} (hW : WF P) (h8 : P 0 0 < 8) : WF (addP P) := by
  obtain ⟨w0, w1, w2, w3, w4, w5, w6, w7, w8, w9⟩ := hW.1
  have hp : 2 ^ (P 0 0 + 1) = 2 ^ P 0 0 + 2 ^ P 0 0 := by rw [Nat.pow_succ]; omega
  refine ⟨⟨?_, ?_, w2, w3, w4, w5, w6, w7, w8, w9⟩, fun k hk => ?_⟩
  · show P 0 0 + 1 ≤ 8; omega
  · show P 0 1 ||| 2 ^ P 0 0 < 2 ^ (P 0 0 + 1)
    exact Nat.or_lt_two_pow (by omega) (by have := Nat.two_pow_pos (P 0 0); omega)
  · obtain ⟨k1, k2, k3, k4, k5, k6, k7⟩ := hW.2 k hk
    refine ⟨?_, k2, ?_, k4, k5, ?_, k7⟩
    · show P 1 k ≤ P 0 0 + 1; omega
    · show P 2 k < 2 ^ (P 0 0 + 1); omega
    · show P 4 k ≤ P 0 0 + 1; omega
def passP (P : Nat → Nat → Nat) (d : Nat) : Nat → Nat → Nat := pU P 0 3 (P 0 3 + d)
theorem passP_w {P : Nat → Nat → Nat} (hW : WF P) {d : Nat} (hd : P 0 3 + d ≤ 99999) : WF (passP P d) := by
  obtain ⟨w0, w1, w2, w3, w4, w5, w6, w7, w8, w9⟩ := hW.1
  exact ⟨⟨w0, w1, w2, hd, w4, w5, w6, w7, w8, w9⟩, hW.2⟩
theorem passP_c {v : Nat → Nat → Int32} {P : Nat → Nat → Nat} (hC : CV v P) (d : Nat) : CV (sS v 3 ((v 0 3) + nI d)) (passP P d) := CV.num hC (by rw [hC.1 3 (by decide), nI_add])
def heirP (P : Nat → Nat → Nat) (k h : Nat) : Nat → Nat → Nat := pU P 1 k h
theorem heirP_w {P : Nat → Nat → Nat} (hW : WF P) {k h : Nat} (h1 : h ≤ P 0 0) (h2 : h ≠ k + 1) : WF (heirP P k h) := by
  refine ⟨hW.1, fun i hi => ?_⟩
  obtain ⟨k1, k2, k3, k4, k5, k6, k7⟩ := hW.2 i hi
  refine ⟨?_, ?_, k3, k4, k5, k6, k7⟩
  · show pU P 1 k h 1 i ≤ P 0 0
    by_cases e : i = k
    · subst e; rw [pU_eq]; exact h1
    · rw [pU_ne (fun z => e z.2)]; exact k1
  · show pU P 1 k h 1 i ≠ i + 1
    by_cases e : i = k
    · subst e; rw [pU_eq]; exact h2
    · rw [pU_ne (fun z => e z.2)]; exact k2
theorem heirP_c {v : Nat → Nat → Int32} {P : Nat → Nat → Nat} (hC : CV v P) {k h : Nat} (hk : k < 8) : (fX2_nameHeir v (nI k) (dn h)).1 = dn (P 1 k) ∧ CV (fX2_nameHeir v (nI k) (dn h)).2 (heirP P k h) := by
  unfold fX2_nameHeir heirP
  rw [nI_clamp (by omega)]
  exact ⟨(hC.2 k hk).1, CV.r1 hC rfl⟩
def togP (P : Nat → Nat → Nat) (k o : Nat) : Nat → Nat → Nat := pU (pU P 2 k (P 2 k ^^^ 2 ^ o)) 2 o (P 2 o ^^^ 2 ^ k)
theorem togP_at {P : Nat → Nat → Nat} {k o i : Nat} (hne : k ≠ o) : togP P k o 2 i = if i = o then P 2 o ^^^ 2 ^ k else if i = k then P 2 k ^^^ 2 ^ o else P 2 i := by
  unfold togP
  by_cases e : i = o
  · subst e; rw [pU_eq, if_pos rfl]
  · rw [pU_ne (fun z => e z.2), if_neg e]
    by_cases e2 : i = k
    · subst e2; rw [pU_eq, if_pos rfl]
    · rw [pU_ne (fun z => e2 z.2), if_neg e2]
theorem togP_bit {P : Nat → Nat → Nat} {k o i : Nat} (hne : k ≠ o) (j : Nat) : (togP P k o 2 i).testBit j = ((P 2 i).testBit j ^^ decide ((i = k ∧ j = o) ∨ (i = o ∧ j = k))) := by
  rw [togP_at hne]
  by_cases e : i = o
  · subst e
    rw [if_pos rfl, Nat.testBit_xor, Nat.testBit_two_pow]
    congr 1
    apply decide_eq_decide.mpr
    constructor
    · intro z; exact Or.inr ⟨rfl, z.symm⟩
    · rintro (⟨z, _⟩ | ⟨_, z⟩)
      · exact absurd z.symm hne
      · exact z.symm
  · rw [if_neg e]
    by_cases e2 : i = k
    · subst e2
      rw [if_pos rfl, Nat.testBit_xor, Nat.testBit_two_pow]
      congr 1
      apply decide_eq_decide.mpr
      constructor
      · intro z; exact Or.inl ⟨rfl, z.symm⟩
      · rintro (⟨_, z⟩ | ⟨z, _⟩)
        · exact z.symm
        · exact absurd z e
    · rw [if_neg e2]
      have : ¬ ((i = k ∧ j = o) ∨ (i = o ∧ j = k)) := by rintro (⟨z, _⟩ | ⟨z, _⟩); exact e2 z; exact e z
      simp [this]
theorem togP_w {P : Nat → Nat → Nat} (hW : WF P) {k o : Nat} (hk : k < P 0 0) (ho : o < P 0 0) (hne : k ≠ o) : WF (togP P k o) := by
  have h8 := hW.k8
  refine ⟨hW.1, fun i hi => ?_⟩
  obtain ⟨k1, k2, k3, k4, k5, k6, k7⟩ := hW.2 i hi
  refine ⟨k1, k2, ?_, ?_, fun j hj => ?_, k6, k7⟩
  · show togP P k o 2 i < 2 ^ P 0 0
    rw [togP_at hne]
    split
    · exact Nat.xor_lt_two_pow (hW.2 o (by omega)).2.2.1 (Nat.pow_lt_pow_right (by decide) hk)
    · split
      · exact Nat.xor_lt_two_pow (hW.2 k (by omega)).2.2.1 (Nat.pow_lt_pow_right (by decide) ho)
      · exact k3
  · rw [togP_bit hne, k4]
    have : ¬ ((i = k ∧ i = o) ∨ (i = o ∧ i = k)) := by omega
    simp [this]
  · rw [togP_bit hne, togP_bit hne, k5 j hj]
    congr 1
    apply decide_eq_decide.mpr
    omega
theorem togP_c {v : Nat → Nat → Int32} {P : Nat → Nat → Nat} (hC : CV v P) (hW : WF P) {k o : Nat} (hk : k < 8) (ho : o < 8) (hne : k ≠ o) : (fX2_toggleQuarrel v k o).1 = nI (pop (togP P k o 2 k)) ∧ CV (fX2_toggleQuarrel v k o).2 (togP P k o) := by
  have hvk := (hC.2 k hk).2.1
  have hvo := (hC.2 o ho).2.1
  have e1 : upd (v 2) k ((v 2 k) ^^^ ((nI 1) <<< ((nI o) &&& 31))) o = nI (P 2 o) := by rw [upd_ne (Ne.symm hne)]; exact hvo
  have e2 : (upd (v 2) k ((v 2 k) ^^^ ((nI 1) <<< ((nI o) &&& 31))) o) ^^^ ((nI 1) <<< ((nI k) &&& 31)) = nI (P 2 o ^^^ 2 ^ k) := by rw [e1, shl1 (by omega), xI_xor]
  have e3 : (v 2 k) ^^^ ((nI 1) <<< ((nI o) &&& 31)) = nI (P 2 k ^^^ 2 ^ o) := by rw [hvk, shl1 (by omega), xI_xor]
  have hlt : P 2 k ^^^ 2 ^ o < 256 := Nat.xor_lt_two_pow (n := 8) (hW.qm hk) (Nat.lt_of_le_of_lt (p2le ho) (by decide))
  unfold fX2_toggleQuarrel
  constructor
  · show fbit (upd (upd (v 2) k _) o _ k) = _
    rw [upd_ne hne, upd_eq, e3, fbit_pop _ hlt, togP_at hne, if_neg hne, if_pos rfl]
  · have c1 : CV (sR v 2 (upd (v 2) k (v 2 k ^^^ ((nI 1) <<< ((nI o) &&& 31))))) (pU P 2 k (P 2 k ^^^ 2 ^ o)) := CV.r2 hC e3
    have c2 := CV.r2 c1 (i := o) (n := P 2 o ^^^ 2 ^ k) e2
    have e4 : sR (sR v 2 (upd (v 2) k (v 2 k ^^^ ((nI 1) <<< ((nI o) &&& 31))))) 2 (upd ((sR v 2 (upd (v 2) k (v 2 k ^^^ ((nI 1) <<< ((nI o) &&& 31))))) 2) o ((upd (v 2) k ((v 2 k) ^^^ ((nI 1) <<< ((nI o) &&& 31))) o) ^^^ ((nI 1) <<< ((nI k) &&& 31)))) = sR v 2 (upd (upd (v 2) k (v 2 k ^^^ ((nI 1) <<< ((nI o) &&& 31)))) o ((upd (v 2) k ((v 2 k) ^^^ ((nI 1) <<< ((nI o) &&& 31))) o) ^^^ ((nI 1) <<< ((nI k) &&& 31)))) := by
      funext r j
      by_cases e : r = 2
      · subst e
        have : (sR v 2 (upd (v 2) k (v 2 k ^^^ ((nI 1) <<< ((nI o) &&& 31))))) 2 = upd (v 2) k (v 2 k ^^^ ((nI 1) <<< ((nI o) &&& 31))) := by funext j; rw [cp_r, if_pos rfl]
        rw [cp_r, if_pos rfl, this, cp_r, if_pos rfl]
      · rw [cp_r, if_neg e, cp_r, if_neg e, cp_r, if_neg e]
    rw [e4] at c2
    exact c2
