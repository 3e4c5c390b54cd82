theorem begins_n {L : Nat} {cs mt : Nat → Int32} {c : Nat → Nat} (h : TXN L cs mt c) {j : Nat} (hj : j < L) (h0 : 0 < j) : (fX1_beginsOrder L cs (nI j) = 0) ↔ c (j - 1) ≠ 59 := by
  have h60 := h.1
  unfold fX1_beginsOrder
  rw [if_neg (nI_ne0 h0 (by omega)), pk_sub (by omega), code_n h (show j - 1 < L by omega)]
  have hx := (h.2 (j - 1) (by omega)).2.2
  by_cases e : c (j - 1) = 59
  · rw [if_pos (show nI (c (j - 1)) = nI 59 by rw [e])]; simp [e]; decide
  · rw [if_neg (show ¬ nI (c (j - 1)) = nI 59 from fun z => e ((nI_eq (by omega) (by omega)).mp z))]; simp [e]; decide
theorem live_skip {L Qn : Nat} {cs mt : Nat → Int32} {c : Nat → Nat} (h : TXN L cs mt c) {s t : Nat} (hst : ∀ j, s ≤ j → j + 1 < t → c j ≠ 59) (ht : t ≤ L + 1) {r_1 : Nat × Nat × (Nat → Nat → Nat → Int32)} {x : Int32} {v : Nat → Nat → Int32} {ck : Nat → Int32} : ∀ n j, j + n = L → s < j → j ≤ t → fX4_live_L28 L Qn cs r_1 n j x v ck = fX4_live_L28 L Qn cs r_1 (L - t) t x v ck := by
  intro n
  induction n with
  | zero =>
    intro j hj h1 h2
    rw [show L - t = 0 by omega]
    simp only [fX4_live_L28]
  | succ n ih =>
    intro j hj h1 h2
    by_cases e : j = t
    · subst e
      rw [show L - j = n + 1 by omega]
    · have hb := (begins_n h (show j < L by omega) (show 0 < j by omega)).mpr (hst (j - 1) (by omega) (by omega))
      have e1 : fX4_live_L28 L Qn cs r_1 (n + 1) j x v ck = fX4_live_L28 L Qn cs r_1 n (j + 1) x v ck := by
        simp only [fX4_live_L28]
        rw [if_pos hb]
      rw [e1]
      exact ih (j + 1) (by omega) (by omega) (by omega)
def LIV (ms0 : Nat → Int32) (S : Nat) (r_1 : Nat × Nat × (Nat → Nat → Nat → Int32)) (x : Int32 × Nat × Nat × (Nat → Nat → Nat → Int32) × (Nat → Nat → Int32) × (Nat → Int32) × Int32) (y : Int32 × (Nat → Int32) × Int32 × Int32 × (Nat → Int32) × (Nat → Int32) × Int32 × Nat × Nat × Int32) : Prop :=
  y.1 = x.1 ∧ x.2.1 = r_1.1 ∧ x.2.2.1 = r_1.2.1 ∧ x.2.2.2.1 = r_1.2.2 ∧ x.2.2.2.2.2.2 = nI 0 ∧ PLR x.2.2.2.2.1 x.2.2.2.2.2.1 y.2.1 ∧ (∀ j, 58 ≤ j → y.2.1 j = ms0 j) ∧ y.2.2.1 = nI (svS S) ∧ y.2.2.2.1 = nI 0 ∧ y.2.2.2.2.2.2.1 = nI 0
theorem live_loop {L Q S : Nat} {cs mt : Nat → Int32} {c : Nat → Nat} (h : TXN L cs mt c) {r_1 : Nat × Nat × (Nat → Nat → Nat → Int32)} {z : Int32 × (Nat → Int32) × Nat × Nat × Int32} (hz : z.1 = nI 1) {s : Nat → Nat} {O : Nat} (h0 : s 0 = 0) (hO : s O = L + 1) (hs : ∀ k, k < O → s k + 1 < s (k + 1) ∧ s (k + 1) ≤ L + 1 ∧ (k + 1 < O → c (s (k + 1) - 1) = 59) ∧ (∀ j, s k ≤ j → j + 1 < s (k + 1) → c j ≠ 59) ∧ ROW L cs z.2.1 c k (s k)) {ms0 : Nat → Int32} :
    ∀ n i v ck ms mc, i + n = O → PLR v ck ms → (v 0 4 = nI 1 → v 0 6 = nI (Q + 1)) → Q ≤ 7 → (∀ j, 58 ≤ j → ms j = ms0 j) → LIV ms0 S r_1 (fX4_live_L28 L (Q + 1) cs r_1 (L - s i) (s i) (nI i) v ck) (fX5_live_L25 S Q z n i ms mc) := by
  have hg : gsT z.1 (nI 1) = nI 0 := by rw [hz]; decide
  have he : (fX1_empty L).2 = nI 0 := rfl
  intro n
  induction n with
  | zero =>
    intro i v ck ms mc hi hP hq hQ7 hk
    have : i = O := by omega
    subst this
    rw [hO, show L - (L + 1) = 0 by omega]
    simp only [fX4_live_L28, fX5_live_L25]
    exact ⟨rfl, rfl, rfl, rfl, he, hP, hk, rfl, hg, rfl⟩
  | succ n ih =>
    intro i v ck ms mc hi hP hq hQ7 hk
    obtain ⟨t1, t2, -, t4, t5⟩ := hs i (by omega)
    obtain ⟨P, hW, hC, hR, hK⟩ := hP
    have hsL : s i < L := t5.1
    have hb : ¬ fX1_beginsOrder L cs (nI (s i)) = 0 := by
      by_cases e : i = 0
      · subst e
        rw [h0]
        unfold fX1_beginsOrder
        rw [if_pos (show nI 0 = 0 by decide)]
        decide
      · obtain ⟨i', rfl⟩ : ∃ i', i = i' + 1 := ⟨i - 1, by omega⟩
        obtain ⟨u1, -, u3, -, -⟩ := hs i' (by omega)
        exact fun w => (begins_n h hsL (by omega)).mp w (u3 (by omega))
    have hPQ : P 0 4 = 1 → P 0 6 = Q + 1 := fun w => by
      have := hq (by rw [hC.1 4 (by decide), w])
      rw [hC.1 6 (by decide)] at this
      exact (nI_eq (by have := hW.1.2.2.2.2.2.2.1; omega) (by omega)).mp this
    obtain ⟨o1, o2, o3⟩ := one_n (mc := mc) h hW hC hR hK hPQ t5
    have k46 := co46 L (Q + 1) v ck cs (s i) hq
    obtain ⟨m, hm⟩ : ∃ m, L - s i = m + 1 := ⟨L - s i - 1, by omega⟩
    rw [hm]
    simp only [fX4_live_L28, fX5_live_L25]
    rw [if_neg hb]
    generalize fX4_carryOut L (Q + 1) v ck cs (s i) = A at o1 o2 o3 k46 ⊢
    generalize fX5_does Q ms mc z.2.1 i = B at o1 o2 o3 ⊢
    have kk : ∀ j, 58 ≤ j → B.2.1 j = ms0 j := fun j hj => by rw [o3 j hj, hk j hj]
    rw [o1]
    by_cases e : A.1 = 0
    · rw [if_pos e, if_pos e]
      exact ⟨rfl, rfl, rfl, rfl, he, o2, kk, rfl, hg, rfl⟩
    · rw [if_neg e, if_neg e, nI_add, live_skip h t4 t2 m (s i + 1) (by omega) (by omega) (by omega)]
      exact ih (i + 1) A.2.1 A.2.2 B.2.1 B.2.2 (by omega) o2 k46 hQ7 kk
/-- live -/
theorem q_live {SL sr : Nat} {vs : Nat → Nat → Nat → Int32} {v : Nat → Nat → Int32} {ck so sp : Nat → Int32} {L : Nat} {cs ms mt : Nat → Int32} (h : REL SL sr vs v ck so sp L cs ms mt) (mc md : Nat → Int32) : ∃ Q, Q ≤ 7 ∧ (v 0 4 = nI 1 → v 0 6 = nI (Q + 1)) ∧ (ms 27 = nI 1 → ms 29 = nI (Q + 1)) ∧
    ((fX1_isWhole L cs = 0 ∧ (fX5_live SL L Q ms mt mc md).1 = nI 0 ∧ (fX5_live SL L Q ms mt mc md).2.1 = ms ∧ (fX5_live SL L Q ms mt mc md).2.2.1 = nI SL ∧ (fX5_live SL L Q ms mt mc md).2.2.2.1 = nI 1 ∧ (fX5_live SL L Q ms mt mc md).2.2.2.2.2.2.1 = nI L) ∨
     (¬ fX1_isWhole L cs = 0 ∧ (fX5_live SL L Q ms mt mc md).1 = (fX4_live SL L (Q + 1) sr vs v ck cs).1 ∧ (fX5_live SL L Q ms mt mc md).2.2.1 = nI (fX4_live SL L (Q + 1) sr vs v ck cs).2.1 ∧ (fX5_live SL L Q ms mt mc md).2.2.2.1 = nI 0 ∧ (fX5_live SL L Q ms mt mc md).2.2.2.2.2.2.1 = nI 0 ∧ (fX4_live SL L (Q + 1) sr vs v ck cs).2.2.2.2.2.2 = nI 0 ∧
      REL (fX4_live SL L (Q + 1) sr vs v ck cs).2.1 (fX4_live SL L (Q + 1) sr vs v ck cs).2.2.1 (fX4_live SL L (Q + 1) sr vs v ck cs).2.2.2.1 (fX4_live SL L (Q + 1) sr vs v ck cs).2.2.2.2.1 (fX4_live SL L (Q + 1) sr vs v ck cs).2.2.2.2.2.1 so sp 0 cs (fX5_live SL L Q ms mt mc md).2.1 mt)) := by
  obtain ⟨⟨hS, hsr, ho, hp⟩, ⟨P, hW, hC, hR, hK⟩, hSR, hT⟩ := h
  have q8 := hW.1.2.2.2.2.2.2.1
  have q1 := hW.1.2.2.2.2.2.2.2.1
  have h4 := hC.1 4 (by decide)
  have h6 := hC.1 6 (by decide)
  have r4 : ms 27 = nI (P 0 4) := hR.1.2.2.2.1
  have r6 : ms 29 = nI (P 0 6) := hR.1.2.2.2.2.2.1
  have s4 := hW.1.2.2.2.2.1
  have eP : P 0 4 = 1 → P 0 6 - 1 + 1 = P 0 6 := fun w => by have := q1 (by omega); omega
  have hq : v 0 4 = nI 1 → v 0 6 = nI (P 0 6 - 1 + 1) := fun w => by
    rw [h4] at w
    rw [eP ((nI_eq (by omega) (by omega)).mp w), h6]
  refine ⟨P 0 6 - 1, by omega, hq, fun w => ?_, ?_⟩
  · rw [r4] at w
    rw [eP ((nI_eq (by omega) (by omega)).mp w), r6]
  · obtain ⟨z, z1, -, z3, z4⟩ := days_c (md := md) hT.nat
    unfold fX5_live
    dsimp only
    rw [z1, z3]
    rcases z4 with e | ⟨e, hO⟩
    · refine Or.inl ⟨by rw [e]; decide, ?_⟩
      rw [e, gR0, if_pos (show nI 0 = 0 by decide)]
      exact ⟨rfl, rfl, rfl, gT0 (nI 1), rfl⟩
    · refine Or.inr ⟨by rw [e]; decide, ?_⟩
      rw [show gsR z.1 (nI 1) = nI 1 by rw [e]; decide, if_neg (show ¬ nI 1 = 0 by decide)]
      obtain ⟨s, s1, s2, s3, s5⟩ := hO
      have hl := live_loop (Q := P 0 6 - 1) (S := SL) hT.nat (r_1 := fX4_save SL sr vs v) e s2 s3 s5 (ms0 := svR SL ms) z.2.2.1 0 v ck (svR SL ms) mc (by omega) ⟨P, hW, hC, hR.sv0, hK⟩ hq (by omega) (fun _ _ => rfl)
      rw [s2, Nat.sub_zero] at hl
      have el : fX4_live SL L (P 0 6 - 1 + 1) sr vs v ck cs = fX4_live_L28 L (P 0 6 - 1 + 1) cs (fX4_save SL sr vs v) L 0 (nI 0) v ck := rfl
      rw [el]
      generalize fX4_live_L28 L (P 0 6 - 1 + 1) cs (fX4_save SL sr vs v) L 0 (nI 0) v ck = A at hl ⊢
      generalize fX5_live_L25 SL (P 0 6 - 1) z z.2.2.1 0 (svR SL ms) mc = B at hl ⊢
      obtain ⟨l1, l2, l3, l4, l5, ⟨P', w', c', r', k'⟩, l7, l8, l9, l10⟩ := hl
      rw [save_k] at l2 l3 l4
      refine ⟨l1, ?_, l9, l10, l5, ?_⟩
      · rw [l8, l2]
        show nI (svS SL) = nI (kN SL)
        rw [kN_svS _ hS]
      · rw [l2, l3, l4]
        exact REL.mk' hS hsr hSR hC hW hR (show TXR 0 cs mt from ⟨Nat.zero_le _, fun i hi => absurd hi (Nat.not_lt_zero _)⟩) w' c' r' k' (fun j j1 _ => l7 j j1) ho hp
