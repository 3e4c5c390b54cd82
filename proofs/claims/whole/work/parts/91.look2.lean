/-! ===== looks ===== -/
theorem owG_one (P : Nat → Nat → Nat) {j : Nat} (hj : j < 8) : owG P (2 ^ j) = owK P j := by
  unfold owG owK
  refine orL_congr fun k hk => ?_
  rw [Nat.testBit_two_pow]
  by_cases e : P 4 k = 0
  · simp [e]
  · have : (j = P 4 k - 1) ↔ (P 4 k = j + 1) := by omega
    simp [e, this]
theorem r_keepers {v : Nat → Nat → Int32} {ms : Nat → Int32} {P : Nat → Nat → Nat} (hW : WF P) (hC : CV v P) (hR : RV ms 0 P) {j : Nat} (hj : j < 8) {w : Nat} (hw : w < 5) : fX5_keepers ms j (nI w) = fX4_keeperOf v (nI j) (nI w) := by
  have hr := hR.2 j hj
  have hc := hC.2 j hj
  simp only [Nat.zero_add] at hr
  have m2 : ms 2 = nI (P 0 1) := hR.1.2.2.1
  have ne : ∀ a b : Nat, a < 5 → b < 5 → a ≠ b → ¬ nI a = nI b := fun a b h1 h2 h3 z => h3 ((nI_eq (by omega) (by omega)).mp z)
  unfold fX5_keepers fX4_keeperOf
  have : w = 0 ∨ w = 1 ∨ w = 2 ∨ w = 3 ∨ w = 4 := by omega
  rcases this with rfl | rfl | rfl | rfl | rfl
  · rw [if_pos rfl, if_pos rfl, m2, bit_nat _ hW.lv j hj, lives_n (hC.1 0 (by decide)) (hC.1 1 (by decide)) hW.1.1 hW.1.2.1 hj]
    cases (P 0 1).testBit j <;> decide
  · rw [if_neg (ne 1 0 (by decide) (by decide) (by decide)), if_neg (ne 1 0 (by decide) (by decide) (by decide)), if_pos rfl, if_pos rfl, nI_clamp (by omega), hr.1, hc.1]
  · rw [if_neg (ne 2 0 (by decide) (by decide) (by decide)), if_neg (ne 2 0 (by decide) (by decide) (by decide)), if_neg (ne 2 1 (by decide) (by decide) (by decide)), if_neg (ne 2 1 (by decide) (by decide) (by decide)), if_pos rfl, if_pos rfl, shl1 (by omega), owned_n hR hW (by have := p2le hj; omega), owG_one P hj, ownedBy_n hC hW hj]
  · rw [if_neg (ne 3 0 (by decide) (by decide) (by decide)), if_neg (ne 3 0 (by decide) (by decide) (by decide)), if_neg (ne 3 1 (by decide) (by decide) (by decide)), if_neg (ne 3 1 (by decide) (by decide) (by decide)), if_neg (ne 3 2 (by decide) (by decide) (by decide)), if_neg (ne 3 2 (by decide) (by decide) (by decide)), if_pos rfl, if_pos rfl, nI_clamp (by omega), hr.2.1, hc.2.1]
  · rw [if_neg (ne 4 0 (by decide) (by decide) (by decide)), if_neg (ne 4 0 (by decide) (by decide) (by decide)), if_neg (ne 4 1 (by decide) (by decide) (by decide)), if_neg (ne 4 1 (by decide) (by decide) (by decide)), if_neg (ne 4 2 (by decide) (by decide) (by decide)), if_neg (ne 4 2 (by decide) (by decide) (by decide)), if_neg (ne 4 3 (by decide) (by decide) (by decide)), if_neg (ne 4 3 (by decide) (by decide) (by decide)), if_pos rfl, nI_clamp (by omega), hr.2.2.1, hc.2.2.1]
theorem q_keeperOf {v : Nat → Nat → Int32} {ck ms : Nat → Int32} (h : PLR v ck ms) (k w : Int32) :
    (fX2_hasKeeper v k = 0 ∧ fX5_keeperOf ms k w = (nI 0, nI 1)) ∨ (¬ fX2_hasKeeper v k = 0 ∧ fX5_in w (nI 0) (nI 4) = 0 ∧ fX5_keeperOf ms k w = (nI 0, nI 2)) ∨
    (¬ fX2_hasKeeper v k = 0 ∧ (∃ i, i < 5 ∧ w = nI i) ∧ fX5_keeperOf ms k w = (fX4_keeperOf v k w, nI 0)) := by
  obtain ⟨P, hW, hC, hR, hK⟩ := h
  have h0 := hC.1 0 (by decide)
  have m1 : ms 1 = nI (P 0 0) := hR.1.2.1
  have ek := isK_c h0 m1 hW.k8 k
  unfold fX5_keeperOf
  rw [ek]
  by_cases c : fX2_hasKeeper v k = 0
  · refine Or.inl ⟨c, ?_⟩
    have c' : fX2_hasKeeper v k = nI 0 := c
    rw [c', gR0, if_pos (by decide), gT0]
  · have c1 := (hasK_01 v k).resolve_left c
    refine Or.inr ?_
    by_cases d : fX5_in w (nI 0) (nI 4) = 0
    · refine Or.inl ⟨c, d, ?_⟩
      have d' : fX5_in w (nI 0) (nI 4) = nI 0 := d
      rw [c1, d', gR0' _ (Or.inr rfl), if_pos (by decide), gT1]
    · obtain ⟨i, -, hi, rfl⟩ := in_rng (by decide) (by decide) d
      obtain ⟨j, hj, rfl⟩ := hasK_j h0 hW.k8 c
      have h8 := hW.k8
      refine Or.inr ⟨c, ⟨i, by omega, rfl⟩, ?_⟩
      rw [c1, in_1 d, gR1, if_neg (by decide), gT2, nI_clamp (by omega), r_keepers hW hC hR (by omega) (by omega)]
theorem dn_ge : ∀ x, x < 9 → (0 ≤ dn x ↔ x ≠ 0) := by decide +kernel
theorem r_share {v : Nat → Nat → Int32} {ms : Nat → Int32} {P : Nat → Nat → Nat} (hW : WF P) (hC : CV v P) (hR : RV ms 0 P) {j : Nat} (hj : j < 8) {w : Nat} (hw : w < 3) : fX5_shareOf ms j (nI w) = fX4_share v (nI j) (nI w) := by
  have hr := hR.2 j hj
  have hc := hC.2 j hj
  simp only [Nat.zero_add] at hr
  obtain ⟨-, -, -, r5, r4, r6⟩ := hr
  obtain ⟨-, -, -, c4, c5⟩ := hc
  have h9 := hW.ow hj
  have hs := hasShare_n hC hW hj
  unfold fX5_shareOf fX4_share
  rw [r4]
  by_cases e : P 4 j = 0
  · rw [if_neg (fun z => absurd e ((dn_ge _ h9).mp z)), if_pos (hs.mpr e)]
  · rw [if_pos ((dn_ge _ h9).mpr e), if_neg (fun z => e (hs.mp z)), nI_clamp (by omega)]
    have : w = 0 ∨ w = 1 ∨ w = 2 := by omega
    rcases this with rfl | rfl | rfl
    · rw [if_pos (show nI 0 = 0 by decide), if_pos (show nI 0 = 0 by decide), r5 e, c5]
    · rw [if_neg (show ¬ nI 1 = 0 by decide), if_neg (show ¬ nI 1 = 0 by decide), if_pos (show nI 1 = nI 1 from rfl), if_pos (show nI 1 = nI 1 from rfl), c4]
    · rw [if_neg (show ¬ nI 2 = 0 by decide), if_neg (show ¬ nI 2 = 0 by decide), if_neg (show ¬ nI 2 = nI 1 by decide), if_neg (show ¬ nI 2 = nI 1 by decide), r6, hC.1 2 (by decide), bit_nat _ hW.1.2.2.1 j hj]
theorem q_share {v : Nat → Nat → Int32} {ck ms : Nat → Int32} (h : PLR v ck ms) (k w : Int32) :
    ((fX5_in k (nI 0) (nI 7) = 0 ∨ fX5_in w (nI 0) (nI 2) = 0) ∧ fX5_share ms k w = (nI 0, nI 1)) ∨
    (¬ fX5_in k (nI 0) (nI 7) = 0 ∧ ¬ fX5_in w (nI 0) (nI 2) = 0 ∧ fX5_share ms k w = (fX4_share v k w, nI 0)) := by
  obtain ⟨P, hW, hC, hR, hK⟩ := h
  unfold fX5_share
  by_cases c : fX5_in k (nI 0) (nI 7) = 0
  · refine Or.inl ⟨Or.inl c, ?_⟩
    rw [if_pos c, gR0, if_pos (by decide), gT0]
  · by_cases d : fX5_in w (nI 0) (nI 2) = 0
    · refine Or.inl ⟨Or.inr d, ?_⟩
      rw [if_neg c, if_pos d, gR0, if_pos (by decide), gT0]
    · refine Or.inr ⟨c, d, ?_⟩
      rw [if_neg c, if_neg d, gR1, if_neg (by decide), gT2]
      obtain ⟨j, -, hj, rfl⟩ := in_rng (by decide) (by decide) c
      obtain ⟨i, -, hi, rfl⟩ := in_rng (by decide) (by decide) d
      rw [nI_clamp (by omega), r_share hW hC hR (by omega) (by omega)]
theorem r_pairs {v : Nat → Nat → Int32} {ms : Nat → Int32} {P : Nat → Nat → Nat} (hW : WF P) (hC : CV v P) (hR : RV ms 0 P) : ∀ n i x, i + n = 8 → fX5_counted_L148 ms n i x = fX2_quarrellingPairs_L4 v n i x := by
  intro n
  induction n with
  | zero => intro i x _; rfl
  | succ n ih =>
    intro i x hi
    have hi8 : i < 8 := by omega
    have hr := (hR.2 i hi8).2.1
    rw [Nat.zero_add] at hr
    simp only [fX5_counted_L148, fX2_quarrellingPairs_L4]
    rw [hr, (hC.2 i hi8).2.1, bits_nat _ (hW.qm hi8), fbit_pop _ (hW.qm hi8)]
    exact ih (i + 1) _ (by omega)
theorem r_count {v : Nat → Nat → Int32} {ms : Nat → Int32} {P : Nat → Nat → Nat} (hW : WF P) (hC : CV v P) (hR : RV ms 0 P) (nn : Int32) {w : Nat} (hw : w < 12) : fX5_counted ms nn (nI w) = fX4_count nn v (nI w) := by
  obtain ⟨r10, r0, r1, r4, r5, r6, r7, r3, r8, r9⟩ := hR.1
  simp only [Nat.zero_add] at r10 r0 r1 r4 r5 r6 r7 r3 r8 r9
  have c := hC.1
  have e1 : fX5_bits (ms 2) = fX2_livingCount v := by unfold fX2_livingCount; rw [r1, c 1 (by decide), bits_nat _ hW.lv, fbit_pop _ hW.lv]
  have e6 : fX5_bits (fX5_shares ms 0) = fbit (fX2_sharesThere v) := by rw [shares_n hR hW, there_n hC hW, bits_nat _ (thM_lt P), fbit_pop _ (thM_lt P)]
  have e7 : fX5_counted_L148 ms 8 0 (nI 0) = fX2_quarrellingPairs v := r_pairs hW hC hR 8 0 (nI 0) rfl
  unfold fX5_counted fX4_count
  rw [e1, e6, e7, r0, r3, r4, r6, r7, r8, r9, r10, c 0 (by decide), c 3 (by decide), c 4 (by decide), c 6 (by decide), c 7 (by decide), c 8 (by decide), c 9 (by decide), c 10 (by decide)]
  have : w = 0 ∨ w = 1 ∨ w = 2 ∨ w = 3 ∨ w = 4 ∨ w = 5 ∨ w = 6 ∨ w = 7 ∨ w = 8 ∨ w = 9 ∨ w = 10 ∨ w = 11 := by omega
  rcases this with rfl | rfl | rfl | rfl | rfl | rfl | rfl | rfl | rfl | rfl | rfl | rfl <;> rfl
theorem q_count {v : Nat → Nat → Int32} {ck ms : Nat → Int32} (h : PLR v ck ms) (nn w : Int32) :
    (fX5_in w (nI 0) (nI 11) = 0 ∧ fX5_count ms nn w = (nI 0, nI 1)) ∨ ((∃ i, i < 12 ∧ w = nI i) ∧ fX5_count ms nn w = (fX4_count nn v w, nI 0)) := by
  obtain ⟨P, hW, hC, hR, hK⟩ := h
  unfold fX5_count
  by_cases d : fX5_in w (nI 0) (nI 11) = 0
  · refine Or.inl ⟨d, ?_⟩
    have d' : fX5_in w (nI 0) (nI 11) = nI 0 := d
    rw [d', gR0, if_pos (by decide), gT0]
  · obtain ⟨i, -, hi, rfl⟩ := in_rng (by decide) (by decide) d
    refine Or.inr ⟨⟨i, by omega, rfl⟩, ?_⟩
    rw [in_1 d, gR1, if_neg (by decide), gT2, r_count hW hC hR nn (by omega)]
theorem q_why {v : Nat → Nat → Int32} {ck so sp ms : Nat → Int32} (h : PLR v ck ms) (ho : so 0 = 0) (hp : sp 0 = 0) (g : Int32) :
    ((g < 0 ∨ (¬ g < 0 ∧ ¬ g ≤ fX2_everybody v)) ∧ fX5_why ms g = (nI 0, nI 1)) ∨
    (¬ g < 0 ∧ g ≤ fX2_everybody v ∧ fX5_why ms g = ((fX4_why v ck so sp g).1, nI 0) ∧ (fX4_why v ck so sp g).2.1 0 = 0 ∧ (fX4_why v ck so sp g).2.2 0 = 0) := by
  obtain ⟨P, hW, hC, hR, hK⟩ := h
  have h0 := hC.1 0 (by decide)
  have m1 : ms 1 = nI (P 0 0) := hR.1.2.1
  unfold fX5_why
  rcases isGroup_c h0 m1 hW.k8 g with ⟨g1, g2, g3, m, hm, rfl⟩ | ⟨g1, g2⟩
  · have hm8 : m < 256 := Nat.lt_of_lt_of_le hm (p2_256 hW.k8)
    obtain ⟨r1, r2⟩ := refusal_n hC hW hK ho hp hm8
    have hr := reason_n hR hW hm8 false
    rw [if_neg (by decide)] at hr
    obtain ⟨l1, l2⟩ := look_0 hC hW ho hp
    refine Or.inr ⟨g2, g3, ?_, ?_, ?_⟩
    · unfold fX4_why
      rw [g1, gR1, if_neg (by decide), gT2, hr, r1]
    · unfold fX4_why; dsimp only; rw [r2]; exact l1
    · unfold fX4_why; dsimp only; rw [r2]; exact l2
  · refine Or.inl ⟨g2, ?_⟩
    rw [g1, gR0, if_pos (by decide), gT0]
theorem sub_th {P : Nat → Nat → Nat} {g k : Nat} (hs : subN g (thM P)) (hk : k < 8) (hb : g.testBit k = true) : P 4 k ≠ 0 := by
  have := hs k hk hb
  unfold thM at this
  rw [orL_bit] at this
  simp only [Bool.and_eq_true, decide_eq_true_eq] at this
  exact this.2
theorem r_told {v : Nat → Nat → Int32} {ck ms : Nat → Int32} {P : Nat → Nat → Nat} (hW : WF P) (hC : CV v P) (hR : RV ms 0 P) (hK : CK ck P) {g : Nat} (hg : g < 256) : fX5_tells ms (nI g) = fX4_told v ck (nI g) := by
  obtain ⟨-, -, -, r4, -, r6, -, -, -, -⟩ := hR.1
  simp only [Nat.zero_add] at r4 r6
  have h4 := hC.1 4 (by decide)
  have h6 := hC.1 6 (by decide)
  have w4 := hW.1.2.2.2.2.1
  have w6 := hW.1.2.2.2.2.2.2.1
  have hpp := pop_le g
  have ez : (0 : Int32) = nI 0 := by decide
  unfold fX5_tells fX4_told fX2_hasCapsuleWith
  rw [r4, r6, h4, h6, shares_n hR hW, there_n hC hW, bits_nat g hg, fbit_pop g hg]
  by_cases c : P 0 4 = 0
  · rw [if_pos (by rw [c]; decide), if_pos (show (if nI (P 0 4) = 0 then nI 0 else _) = 0 by rw [if_pos (by rw [c]; decide)]; decide)]
  · have q1 := hW.1.2.2.2.2.2.2.2.1 c
    rw [if_neg (nI_nle (by omega) (by omega)), if_neg (nI_ne0 (n := P 0 4) (by omega) (by omega))]
    by_cases d : (nI g &&& (nI (thM P) ^^^ (-1))) = 0
    · rw [if_pos d, if_pos d, if_neg (show ¬ nI 1 = 0 by decide)]
      by_cases e : P 0 6 ≤ pop g
      · rw [if_neg (fun z => absurd ((nI_ltI (by omega) (by omega)).mp z) (by omega)), if_pos ((nI_leI (by omega) (by omega)).mpr e), keyBy_P hR hW hg (fun k hk hb => sub_th ((sub_i hg).mp d) hk hb), keyOf_n (hK c) (pop_pos g hg (by omega)) hg]
        rfl
      · rw [if_pos ((nI_ltI (by omega) (by omega)).mpr (by omega)), if_neg (fun z => e ((nI_leI (by omega) (by omega)).mp z))]
    · rw [if_neg d, if_neg d, if_pos (show nI 0 = 0 by decide)]
theorem q_told {v : Nat → Nat → Int32} {ck ms : Nat → Int32} (h : PLR v ck ms) (g : Int32) :
    (fX5_in g (nI 0) (nI 255) = 0 ∧ fX5_told ms g = (nI 0, nI 1)) ∨ (¬ fX5_in g (nI 0) (nI 255) = 0 ∧ fX5_told ms g = (fX4_told v ck g, nI 0)) := by
  obtain ⟨P, hW, hC, hR, hK⟩ := h
  unfold fX5_told
  by_cases d : fX5_in g (nI 0) (nI 255) = 0
  · refine Or.inl ⟨d, ?_⟩
    have d' : fX5_in g (nI 0) (nI 255) = nI 0 := d
    rw [d', gR0, if_pos (by decide), gT0]
  · refine Or.inr ⟨d, ?_⟩
    rw [in_1 d, gR1, if_neg (by decide), gT2]
    obtain ⟨i, -, hi, rfl⟩ := in_rng (by decide) (by decide) d
    rw [r_told hW hC hR hK (by omega)]
theorem r_possible {v : Nat → Nat → Int32} {ck ms : Nat → Int32} {P : Nat → Nat → Nat} (hW : WF P) (hC : CV v P) (hR : RV ms 0 P) (hK : CK ck P) {g : Nat} (hg : g < 256) : fX5_keys ms (nI g) = fX4_possible v ck (nI g) := by
  obtain ⟨-, -, -, r4, -, r6, -, -, -, -⟩ := hR.1
  simp only [Nat.zero_add] at r4 r6
  have h4 := hC.1 4 (by decide)
  have h6 := hC.1 6 (by decide)
  have w4 := hW.1.2.2.2.2.1
  have w6 := hW.1.2.2.2.2.2.2.1
  have hpp := pop_le g
  unfold fX5_keys fX4_possible fX2_hasCapsuleWith
  rw [r4, r6, h4, h6, shares_n hR hW, there_n hC hW, bits_nat g hg, fbit_pop g hg]
  by_cases c : P 0 4 = 0
  · rw [if_pos (by rw [c]; decide), if_pos (show (if nI (P 0 4) = 0 then nI 0 else _) = 0 by rw [if_pos (by rw [c]; decide)]; decide)]
  · have q1 := hW.1.2.2.2.2.2.2.2.1 c
    rw [if_neg (nI_ne0 (n := P 0 4) (by omega) (by omega)), if_neg (nI_ne0 (n := P 0 4) (by omega) (by omega))]
    by_cases d : (nI g &&& (nI (thM P) ^^^ (-1))) = 0
    · rw [if_pos d, if_pos d, if_neg (show ¬ nI 1 = 0 by decide)]
      by_cases e : P 0 6 ≤ pop g
      · rw [if_pos ((nI_leI (by omega) (by omega)).mpr e), if_pos ((nI_leI (by omega) (by omega)).mpr e)]
        have hsub := (sub_i hg).mp d
        have k9 := keys59 (ms := ms) (m := g) (q := P 0 6) (a := P 5) hg w6 r6 (fun k hk hb => ⟨by have := (hR.2 k hk).2.2.2.1 (sub_th hsub hk hb); rw [Nat.zero_add] at this; exact this, hW.va hk⟩) 8 0 true rfl
        have o9 := isOne_n (hK c) q1 w6 8 0 g hg
        have iff := oneC_iff (a := P 5) (fun k hk => hW.va hk) q1 w6 8 g hg (by omega)
        rw [show nI 1 = nI (if (true = true) then 1 else 0) from rfl, k9]
        unfold fX0_isOneCurve
        rw [o9]
        have eb : allF (onC (P 5) (P 0 6) g) 8 0 = oneC (P 5) (P 0 6) 8 g := by
          apply Bool.eq_iff_iff.mpr
          rw [iff, allF_iff]
          constructor
          · intro hh k hk hb
            have := hh k (by omega) (by omega)
            unfold onC at this
            simpa [hb] using this
          · intro hh k _ hk
            unfold onC
            by_cases hb : g.testBit k = true
            · simp [hh k (by omega) hb]
            · simp [hb]
        rw [Bool.true_and, eb]
        cases oneC (P 5) (P 0 6) 8 g <;> rfl
      · rw [if_neg (fun z => e ((nI_leI (by omega) (by omega)).mp z)), if_neg (fun z => e ((nI_leI (by omega) (by omega)).mp z))]
    · rw [if_neg d, if_neg d, if_pos (show nI 0 = 0 by decide)]
theorem q_possible {v : Nat → Nat → Int32} {ck ms : Nat → Int32} (h : PLR v ck ms) (g : Int32) :
    (fX5_in g (nI 0) (nI 255) = 0 ∧ fX5_possible ms g = (nI 0, nI 1)) ∨ (¬ fX5_in g (nI 0) (nI 255) = 0 ∧ fX5_possible ms g = (fX4_possible v ck g, nI 0)) := by
  obtain ⟨P, hW, hC, hR, hK⟩ := h
  unfold fX5_possible
  by_cases d : fX5_in g (nI 0) (nI 255) = 0
  · refine Or.inl ⟨d, ?_⟩
    have d' : fX5_in g (nI 0) (nI 255) = nI 0 := d
    rw [d', gR0, if_pos (by decide), gT0]
  · refine Or.inr ⟨d, ?_⟩
    rw [in_1 d, gR1, if_neg (by decide), gT2]
    obtain ⟨i, -, hi, rfl⟩ := in_rng (by decide) (by decide) d
    rw [r_possible hW hC hR hK (by omega)]
theorem q_smallest {v : Nat → Nat → Int32} {ck so sp ms : Nat → Int32} (h : PLR v ck ms) (ho : so 0 = 0) (hp : sp 0 = 0) (w : Int32) :
    (fX5_in w (nI 0) (nI 1) = 0 ∧ fX5_smallest ms w = (nI 0, nI 1)) ∨ (¬ fX5_in w (nI 0) (nI 1) = 0 ∧ fX5_smallest ms w = ((fX4_smallest v ck so sp w).1, nI 0) ∧ (fX4_smallest v ck so sp w).2.1 0 = 0 ∧ (fX4_smallest v ck so sp w).2.2 0 = 0) := by
  obtain ⟨P, hW, hC, hR, hK⟩ := h
  unfold fX5_smallest
  by_cases d : fX5_in w (nI 0) (nI 1) = 0
  · refine Or.inl ⟨d, ?_⟩
    have d' : fX5_in w (nI 0) (nI 1) = nI 0 := d
    rw [d', gR0, if_pos (by decide), gT0]
  · refine Or.inr ⟨d, ?_⟩
    rw [in_1 d, gR1, if_neg (by decide), gT2]
    obtain ⟨i, -, hi, rfl⟩ := in_rng (by decide) (by decide) d
    have hw : nI i = nI 0 ∨ nI i = nI 1 := by
      have : i = 0 ∨ i = 1 := by omega
      rcases this with rfl | rfl
      · exact Or.inl rfl
      · exact Or.inr rfl
    obtain ⟨s1, s2⟩ := smallest_n hC hW hK ho hp hw
    obtain ⟨l1, l2⟩ := look_0 hC hW ho hp
    rw [s1, s2, least_n hR hW]
    exact ⟨rfl, l1, l2⟩
theorem q_groups {v : Nat → Nat → Int32} {ck so sp ms : Nat → Int32} (h : PLR v ck ms) (ho : so 0 = 0) (hp : sp 0 = 0) : fX5_groups ms = ((fX4_groups v ck so sp).1, nI 0) ∧ (fX4_groups v ck so sp).2.1 0 = 0 ∧ (fX4_groups v ck so sp).2.2 0 = 0 := by
  obtain ⟨P, hW, hC, hR, hK⟩ := h
  obtain ⟨s1, s2⟩ := groups_n hC hW hK ho hp
  obtain ⟨l1, l2⟩ := look_0 hC hW ho hp
  unfold fX5_groups
  rw [s1, s2, groupsOf_n hR hW]
  exact ⟨rfl, l1, l2⟩
/-- first shares -/
theorem pop_or : ∀ i, i < 8 → ∀ m, m < 2 ^ i → pop (m ||| 2 ^ i) = pop m + 1 := by decide +kernel
theorem r_first {v : Nat → Nat → Int32} {ms : Nat → Int32} {P : Nat → Nat → Nat} (hW : WF P) (hC : CV v P) (hR : RV ms 0 P) : fX5_firsts ms = fX4_firstShare v := by
  have hom : ∀ n i x, i + n = 8 → fX2_sharesAtHome_L4 v n i (nI x) = nI (x + cntF (fun k => decide (P 4 k = k + 1)) n i) := by
    intro n
    induction n with
    | zero => intro i x _; rfl
    | succ n ih =>
      intro i x hi
      have hi8 : i < 8 := by omega
      simp only [fX2_sharesAtHome_L4]
      rw [(hC.2 i hi8).2.2.2.1]
      by_cases e : P 4 i = i + 1
      · rw [if_pos ((dn_nI _ (hW.ow hi8) i (by omega)).mpr e), nI_add, ih (i + 1) _ (by omega), cntF_t (by simp [e]), Nat.add_assoc]
      · rw [if_neg (fun z => e ((dn_nI _ (hW.ow hi8) i (by omega)).mp z)), ih (i + 1) _ (by omega), cntF_f (by simp [e])]
  have fir : ∀ n i x y, i + n = 8 → fX5_firsts_L6 ms n i x y = fX5_firsts_L6 ms 0 8 (x + cntF (fun k => decide (P 4 k ≠ 0)) n i) (y + cntF (fun k => decide (P 4 k = k + 1)) n i) := by
    intro n
    induction n with
    | zero => intro i x y _; rfl
    | succ n ih =>
      intro i x y hi
      have hi8 : i < 8 := by omega
      have h4 : ms (40 + i) = dn (P 4 i) := by have := (hR.2 i hi8).2.2.2.2.1; rw [Nat.zero_add] at this; exact this
      have h9 := hW.ow hi8
      rw [show fX5_firsts_L6 ms (n + 1) i x y = _ from rfl]
      simp only [fX5_firsts_L6]
      rw [h4]
      by_cases e0 : P 4 i = 0
      · rw [if_pos ((dn_neg _ h9).mpr e0), if_neg (fun z => by have := (dn_nI _ h9 i (by omega)).mp z; omega)]
        have := ih (i + 1) (x + 0) (y + 0) (by omega)
        simp only [fX5_firsts_L6] at this
        rw [this, cntF_f (C := fun k => decide (P 4 k ≠ 0)) (by simp [e0]), cntF_f (C := fun k => decide (P 4 k = k + 1)) (by simp [e0])]
        rfl
      · rw [if_neg (fun z => e0 ((dn_neg _ h9).mp z)), cntF_t (C := fun k => decide (P 4 k ≠ 0)) (by simp [e0])]
        by_cases e1 : P 4 i = i + 1
        · rw [if_pos ((dn_nI _ h9 i (by omega)).mpr e1)]
          have := ih (i + 1) (x + 1) (y + 1) (by omega)
          simp only [fX5_firsts_L6] at this
          rw [this, cntF_t (C := fun k => decide (P 4 k = k + 1)) (by simp [e1]), Nat.add_assoc, Nat.add_assoc]
        · rw [if_neg (fun z => e1 ((dn_nI _ h9 i (by omega)).mp z))]
          have := ih (i + 1) (x + 1) (y + 0) (by omega)
          simp only [fX5_firsts_L6] at this
          rw [this, cntF_f (C := fun k => decide (P 4 k = k + 1)) (by simp [e1]), Nat.add_assoc]
          rfl
  have pth : ∀ n, n ≤ 8 → pop (orL (fun k => decide (P 4 k ≠ 0)) n) + cntF (fun k => decide (P 4 k ≠ 0)) (8 - n) n = cntF (fun k => decide (P 4 k ≠ 0)) 8 0 := by
    intro n
    induction n with
    | zero => intro _; simp [orL, show pop 0 = 0 by decide]
    | succ n ih =>
      intro hn
      rw [← ih (by omega), show 8 - n = (8 - (n + 1)) + 1 by omega]
      by_cases e : P 4 n = 0
      · rw [orS0 (by simp [e]), cntF_f (C := fun k => decide (P 4 k ≠ 0)) (by simp [e])]
      · rw [orS1 (by simp [e]), cntF_t (C := fun k => decide (P 4 k ≠ 0)) (by simp [e]), pop_or n (by omega) _ (orL_lt _ n)]
        omega
  have pe : pop (thM P) = cntF (fun k => decide (P 4 k ≠ 0)) 8 0 := by have := pth 8 (Nat.le_refl _); simpa [cntF, thM] using this
  have hh := hom 8 0 0 rfl
  rw [Nat.zero_add] at hh
  have hf := fir 8 0 0 0 rfl
  rw [Nat.zero_add, Nat.zero_add] at hf
  unfold fX5_firsts fX4_firstShare fX2_sharesAtHome
  rw [hf, hh, there_n hC hW, fbit_pop _ (thM_lt P), pe]
  simp only [fX5_firsts_L6]
