/-! ===== the class's answers, in the words of a place P and the number S of saved states ===== -/
def sqN (P : Nat → Nat → Nat) (n : Nat) : Nat := sumN (fun k => pop (P 2 k)) n
theorem sqN_le (P : Nat → Nat → Nat) : ∀ n, sqN P n ≤ 8 * n := by
  intro n
  induction n with
  | zero => exact Nat.le_refl _
  | succ n ih =>
    have := pop_le (P 2 n)
    show sqN P n + pop (P 2 n) ≤ _
    omega
def cntV (P : Nat → Nat → Nat) (S w : Nat) : Int32 := if w = 0 then nI (P 0 0) else if w = 1 then nI (pop (P 0 1)) else if w = 2 then nI (P 0 3) else if w = 3 then nI (P 0 4) else if w = 4 then (if P 0 4 = 0 then -1 else nI (P 0 6)) else if w = 5 then (if P 0 4 = 0 then -1 else nI (P 0 7)) else if w = 6 then nI (pop (thM P)) else if w = 7 then nI (sqN P 8 / 2) else if w = 8 then nI (P 0 8) else if w = 9 then nI (P 0 9) else if w = 10 then nI (P 0 10) else nI S
def koV (P : Nat → Nat → Nat) (k w : Nat) : Int32 := if w = 0 then nI (if (P 0 1).testBit k then 1 else 0) else if w = 1 then dn (P 1 k) else if w = 2 then nI (owK P k) else if w = 3 then nI (P 2 k) else nI (P 3 k)
def shV (P : Nat → Nat → Nat) (j w : Nat) : Int32 := if P 4 j = 0 then -1 else if w = 0 then nI (P 5 j) else if w = 1 then dn (P 4 j) else nI (if (P 0 2).testBit j then 1 else 0)
def toV (P : Nat → Nat → Nat) (g : Nat) : Int32 := if P 0 4 = 0 then -1 else if subB g (thM P) = true then (if P 0 6 ≤ pop g then nI (kyN P g) else -1) else -1
def poV (P : Nat → Nat → Nat) (g : Nat) : Int32 := if P 0 4 = 0 then -1 else if subB g (thM P) = true then (if P 0 6 ≤ pop g then nI (if oneC (P 5) (P 0 6) 8 g then 1 else 0) else nI 251) else -1
section AN
variable {v : Nat → Nat → Int32} {P : Nat → Nat → Nat}
theorem ne5 {a b : Nat} (h1 : a < 2 ^ 31) (h2 : b < 2 ^ 31) (h : a ≠ b) : ¬ nI a = nI b := fun z => h ((nI_eq h1 h2).mp z)
theorem qp_n (hC : CV v P) (hW : WF P) : fX2_quarrellingPairs v = nI (sqN P 8 / 2) := by
  have key : ∀ n i, i + n = 8 → fX2_quarrellingPairs_L4 v n i (nI (sqN P i)) = nI (sqN P 8 / 2) := by
    intro n
    induction n with
    | zero =>
      intro i hi
      have : i = 8 := by omega
      subst this
      have := sqN_le P 8
      simp only [fX2_quarrellingPairs_L4]
      exact pk_div (by omega) (by decide) (by decide)
    | succ n ih =>
      intro i hi
      have hi8 : i < 8 := by omega
      simp only [fX2_quarrellingPairs_L4]
      rw [(hC.2 i hi8).2.1, fbit_pop _ (hW.qm hi8), nI_add]
      exact ih (i + 1) (by omega)
  exact key 8 0 rfl
theorem count_n (hC : CV v P) (hW : WF P) (S : Nat) {w : Nat} (hw : w < 12) : fX4_count (nI S) v (nI w) = cntV P S w := by
  have c := hC.1
  have e1 : fX2_livingCount v = nI (pop (P 0 1)) := by unfold fX2_livingCount; rw [c 1 (by decide), fbit_pop _ hW.lv]
  have w4 := hW.1.2.2.2.2.1
  have e4 : ((nI (P 0 4) = 0) : Prop) = (P 0 4 = 0) := propext ⟨fun z => (nI_eq (by omega) (by decide)).mp (show nI (P 0 4) = nI 0 from z), fun z => by rw [z]; decide⟩
  unfold fX4_count
  rw [e1, qp_n hC hW, there_n hC hW, fbit_pop _ (thM_lt P), c 0 (by decide), c 3 (by decide), c 4 (by decide), c 6 (by decide), c 7 (by decide), c 8 (by decide), c 9 (by decide), c 10 (by decide)]
  have : w = 0 ∨ w = 1 ∨ w = 2 ∨ w = 3 ∨ w = 4 ∨ w = 5 ∨ w = 6 ∨ w = 7 ∨ w = 8 ∨ w = 9 ∨ w = 10 ∨ w = 11 := by omega
  rcases this with rfl | rfl | rfl | rfl | rfl | rfl | rfl | rfl | rfl | rfl | rfl | rfl
  · rfl
  · rfl
  · rfl
  · rfl
  · show (if nI (P 0 4) = 0 then (-1 : Int32) else nI (P 0 6)) = if P 0 4 = 0 then -1 else nI (P 0 6)
    by_cases z : P 0 4 = 0
    · rw [if_pos z, if_pos (by rw [e4]; exact z)]
    · rw [if_neg z, if_neg (by rw [e4]; exact z)]
  · show (if nI (P 0 4) = 0 then (-1 : Int32) else nI (P 0 7)) = if P 0 4 = 0 then -1 else nI (P 0 7)
    by_cases z : P 0 4 = 0
    · rw [if_pos z, if_pos (by rw [e4]; exact z)]
    · rw [if_neg z, if_neg (by rw [e4]; exact z)]
  all_goals rfl
theorem keeperOf_n (hC : CV v P) (hW : WF P) {j : Nat} (hj : j < 8) {w : Nat} (hw : w < 5) : fX4_keeperOf v (nI j) (nI w) = koV P j w := by
  have hc := hC.2 j hj
  have ne : ∀ a b : Nat, a < 5 → b < 5 → a ≠ b → ¬ nI a = nI b := fun a b h1 h2 h3 z => h3 ((nI_eq (by omega) (by omega)).mp z)
  unfold fX4_keeperOf
  have : w = 0 ∨ w = 1 ∨ w = 2 ∨ w = 3 ∨ w = 4 := by omega
  rcases this with rfl | rfl | rfl | rfl | rfl
  · rw [if_pos rfl, lives_n (hC.1 0 (by decide)) (hC.1 1 (by decide)) hW.1.1 hW.1.2.1 hj]
    show _ = nI (if (P 0 1).testBit j then 1 else 0)
    cases (P 0 1).testBit j <;> decide
  · rw [if_neg (ne 1 0 (by decide) (by decide) (by decide)), if_pos rfl, nI_clamp (by omega), hc.1]; rfl
  · rw [if_neg (ne 2 0 (by decide) (by decide) (by decide)), if_neg (ne 2 1 (by decide) (by decide) (by decide)), if_pos rfl, ownedBy_n hC hW hj]; rfl
  · rw [if_neg (ne 3 0 (by decide) (by decide) (by decide)), if_neg (ne 3 1 (by decide) (by decide) (by decide)), if_neg (ne 3 2 (by decide) (by decide) (by decide)), if_pos rfl, nI_clamp (by omega), hc.2.1]; rfl
  · rw [if_neg (ne 4 0 (by decide) (by decide) (by decide)), if_neg (ne 4 1 (by decide) (by decide) (by decide)), if_neg (ne 4 2 (by decide) (by decide) (by decide)), if_neg (ne 4 3 (by decide) (by decide) (by decide)), if_pos rfl, nI_clamp (by omega), hc.2.2.1]; rfl
theorem share_n (hC : CV v P) (hW : WF P) {j : Nat} (hj : j < 8) {w : Nat} (hw : w < 3) : fX4_share v (nI j) (nI w) = shV P j w := by
  obtain ⟨-, -, -, c4, c5⟩ := hC.2 j hj
  have hs := hasShare_n hC hW hj
  unfold fX4_share shV
  by_cases e : P 4 j = 0
  · rw [if_pos (hs.mpr e), if_pos e]
  · rw [if_neg (fun z => e (hs.mp z)), if_neg e, nI_clamp (by omega)]
    have : w = 0 ∨ w = 1 ∨ w = 2 := by omega
    rcases this with rfl | rfl | rfl
    · rw [if_pos (show nI 0 = 0 by decide), c5]; rfl
    · rw [if_neg (show ¬ nI 1 = 0 by decide), if_pos (show nI 1 = nI 1 from rfl), c4]; rfl
    · rw [if_neg (show ¬ nI 2 = 0 by decide), if_neg (show ¬ nI 2 = nI 1 by decide), hC.1 2 (by decide), bit_nat _ hW.1.2.2.1 j hj]; rfl
theorem capsule_n (hC : CV v P) (hW : WF P) {g : Nat} (hg : g < 256) : (fX2_hasCapsuleWith v (nI g) = 0) ↔ (P 0 4 = 0 ∨ ¬ subB g (thM P) = true) := by
  have w4 := hW.1.2.2.2.2.1
  unfold fX2_hasCapsuleWith
  rw [hC.1 4 (by decide), there_n hC hW]
  by_cases c : P 0 4 = 0
  · rw [if_pos (by rw [c]; decide)]
    exact ⟨fun _ => Or.inl c, fun _ => by decide⟩
  · rw [if_neg (nI_ne0 (n := P 0 4) (by omega) (by omega))]
    by_cases d : subB g (thM P) = true
    · rw [if_pos ((sub_b hg).mpr d)]
      exact ⟨fun z => absurd z (by decide), fun z => absurd d (z.resolve_left c)⟩
    · rw [if_neg (fun z => d ((sub_b hg).mp z))]
      exact ⟨fun _ => Or.inr d, fun _ => by decide⟩
theorem told_n {ck : Nat → Int32} (hC : CV v P) (hW : WF P) (hK : CK ck P) {g : Nat} (hg : g < 256) : fX4_told v ck (nI g) = toV P g := by
  have w6 := hW.1.2.2.2.2.2.2.1
  have hpp := pop_le g
  have hc := capsule_n hC hW hg
  unfold fX4_told toV
  rw [hC.1 6 (by decide), fbit_pop g hg]
  by_cases c : P 0 4 = 0
  · rw [if_pos (hc.mpr (Or.inl c)), if_pos c]
  · have q1 := hW.1.2.2.2.2.2.2.2.1 c
    rw [if_neg c]
    by_cases d : subB g (thM P) = true
    · rw [if_neg (fun z => (hc.mp z).elim c (fun y => y d)), if_pos d]
      by_cases e : P 0 6 ≤ pop g
      · rw [if_pos ((nI_leI (by omega) (by omega)).mpr e), if_pos e]
        exact keyOf_n (hK c) (pop_pos g hg (by omega)) hg
      · rw [if_neg (fun z => e ((nI_leI (by omega) (by omega)).mp z)), if_neg e]
    · rw [if_pos (hc.mpr (Or.inr d)), if_neg d]
theorem possible_n {ck : Nat → Int32} (hC : CV v P) (hW : WF P) (hK : CK ck P) {g : Nat} (hg : g < 256) : fX4_possible v ck (nI g) = poV P g := by
  have w6 := hW.1.2.2.2.2.2.2.1
  have hpp := pop_le g
  have hc := capsule_n hC hW hg
  unfold fX4_possible poV
  rw [hC.1 6 (by decide), fbit_pop g hg]
  by_cases c : P 0 4 = 0
  · rw [if_pos (hc.mpr (Or.inl c)), if_pos c]
  · have q1 := hW.1.2.2.2.2.2.2.2.1 c
    rw [if_neg c]
    by_cases d : subB g (thM P) = true
    · rw [if_neg (fun z => (hc.mp z).elim c (fun y => y d)), if_pos d]
      by_cases e : P 0 6 ≤ pop g
      · rw [if_pos ((nI_leI (by omega) (by omega)).mpr e), if_pos e]
        have o9 := isOne_n (hK c) q1 w6 8 0 g hg
        unfold fX0_isOneCurve
        rw [o9]
        cases oneC (P 5) (P 0 6) 8 g <;> decide
      · rw [if_neg (fun z => e ((nI_leI (by omega) (by omega)).mp z)), if_neg e]
    · rw [if_pos (hc.mpr (Or.inr d)), if_neg d]
/-- the first share, as a number of P -/
def fsV (P : Nat → Nat → Nat) : UInt64 := if nI (pop (thM P)) = 0 then FP.dconst1 else FP.ddiv (FP.i2d (nI (cntF (fun k => decide (P 4 k = k + 1)) 8 0))) (FP.i2d (nI (pop (thM P))))
theorem first_n (hC : CV v P) (hW : WF P) : fX4_firstShare v = fsV P := by
  have hom : ∀ n i x, i + n = 8 → fX2_sharesAtHome_L4 v n i (nI x) = nI (x + cntF (fun k => decide (P 4 k = k + 1)) n i) := by
    intro n
    induction n with
    | zero => intro i x _; rfl
    | succ n ih =>
      intro i x hi
      have hi8 : i < 8 := by omega
      simp only [fX2_sharesAtHome_L4]
      rw [(hC.2 i hi8).2.2.2.1]
      by_cases e : P 4 i = i + 1
      · rw [if_pos ((dn_nI _ (hW.ow hi8) i (by omega)).mpr e), nI_add, ih (i + 1) _ (by omega), cntF_t (by simp [e]), Nat.add_assoc]
      · rw [if_neg (fun z => e ((dn_nI _ (hW.ow hi8) i (by omega)).mp z)), ih (i + 1) _ (by omega), cntF_f (by simp [e])]
  have hh := hom 8 0 0 rfl
  rw [Nat.zero_add] at hh
  unfold fX4_firstShare fX2_sharesAtHome fsV
  rw [hh, there_n hC hW, fbit_pop _ (thM_lt P)]
end AN
/-! the digest: the same of any two states that stand for one place -/
section DG
variable {P : Nat → Nat → Nat} {v vsp w wsp : Nat → Nat → Int32} {ck so sp cj to tp cs ct : Nat → Int32}
theorem mixO_v (hC : CV v P) (hW : WF P) (hK : CK ck P) (ho : so 0 = 0) (hp : sp 0 = 0) (h : Int64) :
    (fX4_mixOpening v vsp ck so sp h).1 = fX4_mix (fX4_mix (fX4_mix (fX4_mix (fX4_mix (fX4_mix (fX4_mix h (nI (reaN P (2 ^ P 0 0 - 1) false)).toInt64) (smA P (nI 0)).toInt64) (smA P (nI 1)).toInt64) (nI (grN P)).toInt64) (nI (neN P)).toInt64) ((piF (gaN P) (nI 0) 8 0 (-1, 0)).1).toInt64) ((piF (gaN P) (nI 1) 8 0 (-1, 0)).1).toInt64 ∧
      (fX4_mixOpening v vsp ck so sp h).2.2.1 0 = 0 ∧ (fX4_mixOpening v vsp ck so sp h).2.2.2 0 = 0 := by
  have h0 := hC.1 0 (by decide)
  have h8 := hW.k8
  have hm := p2_256 h8
  unfold fX4_mixOpening
  dsimp only
  rw [every_n h0 h8]
  have f1 := refusal_n hC hW hK ho hp (show 2 ^ P 0 0 - 1 < 256 by omega)
  generalize fX4_refusal v ck so sp (nI (2 ^ P 0 0 - 1)) = A at f1 ⊢
  obtain ⟨a1, a2⟩ := f1
  obtain ⟨l1, l2⟩ := look_0 hC hW ho hp
  rw [← a2] at l1 l2
  have f2 := smallest_n hC hW hK l1 l2 (w := nI 0) (Or.inl rfl)
  have g2 := look_0 hC hW l1 l2
  generalize fX4_smallest v ck A.2.1 A.2.2 (nI 0) = B at f2 ⊢
  obtain ⟨b1, b2⟩ := f2
  rw [← b2] at g2
  have f3 := smallest_n hC hW hK g2.1 g2.2 (w := nI 1) (Or.inr rfl)
  have g3 := look_0 hC hW g2.1 g2.2
  generalize fX4_smallest v ck B.2.1 B.2.2 (nI 1) = C at f3 ⊢
  obtain ⟨c1, c2⟩ := f3
  rw [← c2] at g3
  have f4 := groups_n hC hW hK g3.1 g3.2
  have g4 := look_0 hC hW g3.1 g3.2
  generalize fX4_groups v ck C.2.1 C.2.2 = D at f4 ⊢
  obtain ⟨d1, d2⟩ := f4
  rw [← d2] at g4
  have f5 := needed_n (vsp := vsp) hC hW hK g4.1 g4.2
  generalize fX4_needed v vsp ck D.2.1 D.2.2 = E at f5 ⊢
  obtain ⟨e1, e2, e3⟩ := f5
  have f6 := peace_c hC hW hK e2 e3 (nI 0)
  generalize fX4_peace v ck E.2.2.1 E.2.2.2 (nI 0) = F at f6 ⊢
  obtain ⟨k1, k2, k3⟩ := f6
  have f7 := peace_c hC hW hK k2 k3 (nI 1)
  generalize fX4_peace v ck F.2.1 F.2.2 (nI 1) = G at f7 ⊢
  obtain ⟨m1, m2, m3⟩ := f7
  refine ⟨?_, m2, m3⟩
  rw [← a1, ← b1, ← c1, ← d1, ← e1, ← k1, ← m1]
def DG2 (x y : Int64 × (Nat → Nat → Int32) × (Nat → Int32) × (Nat → Int32)) : Prop := x.1 = y.1 ∧ x.2.2.1 0 = 0 ∧ x.2.2.2 0 = 0
theorem dg_tail (hW : WF P) (hC : CV v P) (hK : CK ck P) (ho : so 0 = 0) (hp : sp 0 = 0) (hC2 : CV w P) (hK2 : CK cj P) (ho2 : to 0 = 0) (hp2 : tp 0 = 0) (i : Nat) (h : Int64) :
    DG2 (fX4_digest_L78 0 v vsp ck so sp cs 0 i h) (fX4_digest_L78 0 w wsp cj to tp ct 0 i h) := by
  simp only [fX4_digest_L78]
  unfold fX4_mixTold
  simp only []
  rw [told_n hC hW hK (show 7 < 256 by decide), told_n hC hW hK (show 14 < 256 by decide), told_n hC hW hK (show 56 < 256 by decide), told_n hC hW hK (show 255 < 256 by decide), possible_n hC hW hK (show 0 < 256 by decide), possible_n hC hW hK (show 3 < 256 by decide), possible_n hC hW hK (show 7 < 256 by decide), possible_n hC hW hK (show 24 < 256 by decide), possible_n hC hW hK (show 255 < 256 by decide)]
  rw [told_n hC2 hW hK2 (show 7 < 256 by decide), told_n hC2 hW hK2 (show 14 < 256 by decide), told_n hC2 hW hK2 (show 56 < 256 by decide), told_n hC2 hW hK2 (show 255 < 256 by decide), possible_n hC2 hW hK2 (show 0 < 256 by decide), possible_n hC2 hW hK2 (show 3 < 256 by decide), possible_n hC2 hW hK2 (show 7 < 256 by decide), possible_n hC2 hW hK2 (show 24 < 256 by decide), possible_n hC2 hW hK2 (show 255 < 256 by decide)]
  rw [first_n hC hW, first_n hC2 hW]
  generalize (fX4_mix (fX4_mix (fX4_mix (fX4_mix (fX4_mix (fX4_mix (fX4_mix (fX4_mix (fX4_mix h (toV P 7).toInt64) (toV P 14).toInt64) (toV P 56).toInt64) (toV P 255).toInt64) (poV P 0).toInt64) (poV P 3).toInt64) (poV P 7).toInt64) (poV P 24).toInt64) (poV P 255).toInt64) = H1
  obtain ⟨x1, x2, x3⟩ := mixO_v (vsp := vsp) hC hW hK ho hp H1
  obtain ⟨y1, y2, y3⟩ := mixO_v (vsp := wsp) hC2 hW hK2 ho2 hp2 H1
  refine ⟨?_, x2, x3⟩
  dsimp only
  rw [x1, y1]
  rfl
theorem dg_sh (hW : WF P) (hC : CV v P) (hK : CK ck P) (ho : so 0 = 0) (hp : sp 0 = 0) (hC2 : CV w P) (hK2 : CK cj P) (ho2 : to 0 = 0) (hp2 : tp 0 = 0) : ∀ n i h, i + n = 8 →
    DG2 (fX4_digest_L78 0 v vsp ck so sp cs n i h) (fX4_digest_L78 0 w wsp cj to tp ct n i h) := by
  intro n
  induction n with
  | zero => intro i h _; exact dg_tail hW hC hK ho hp hC2 hK2 ho2 hp2 i h
  | succ n ih =>
    intro i h hi
    simp only [fX4_digest_L78, fX4_digest_L87]
    rw [share_n hC hW (show i < 8 by omega) (show 0 < 3 by decide), share_n hC hW (show i < 8 by omega) (show 1 < 3 by decide), share_n hC hW (show i < 8 by omega) (show 2 < 3 by decide)]
    rw [share_n hC2 hW (show i < 8 by omega) (show 0 < 3 by decide), share_n hC2 hW (show i < 8 by omega) (show 1 < 3 by decide), share_n hC2 hW (show i < 8 by omega) (show 2 < 3 by decide)]
    exact ih (i + 1) _ (by omega)
theorem dg_ke (hW : WF P) (hC : CV v P) (hK : CK ck P) (ho : so 0 = 0) (hp : sp 0 = 0) (hC2 : CV w P) (hK2 : CK cj P) (ho2 : to 0 = 0) (hp2 : tp 0 = 0) : ∀ n i h, i + n = P 0 0 →
    DG2 (fX4_digest_L31 0 v vsp ck so sp cs n i h) (fX4_digest_L31 0 w wsp cj to tp ct n i h) := by
  have h8 := hW.k8
  intro n
  induction n with
  | zero => intro i h _; exact dg_sh hW hC hK ho hp hC2 hK2 ho2 hp2 8 0 h rfl
  | succ n ih =>
    intro i h hi
    simp only [fX4_digest_L31, fX4_digest_L45]
    rw [keeperOf_n hC hW (show i < 8 by omega) (show 0 < 5 by decide), keeperOf_n hC hW (show i < 8 by omega) (show 1 < 5 by decide), keeperOf_n hC hW (show i < 8 by omega) (show 2 < 5 by decide), keeperOf_n hC hW (show i < 8 by omega) (show 3 < 5 by decide), keeperOf_n hC hW (show i < 8 by omega) (show 4 < 5 by decide)]
    rw [keeperOf_n hC2 hW (show i < 8 by omega) (show 0 < 5 by decide), keeperOf_n hC2 hW (show i < 8 by omega) (show 1 < 5 by decide), keeperOf_n hC2 hW (show i < 8 by omega) (show 2 < 5 by decide), keeperOf_n hC2 hW (show i < 8 by omega) (show 3 < 5 by decide), keeperOf_n hC2 hW (show i < 8 by omega) (show 4 < 5 by decide)]
    exact ih (i + 1) _ (by omega)
theorem dg_all {S : Nat} (hW : WF P) (hC : CV v P) (hK : CK ck P) (ho : so 0 = 0) (hp : sp 0 = 0) (hC2 : CV w P) (hK2 : CK cj P) (ho2 : to 0 = 0) (hp2 : tp 0 = 0) : ∀ n i h, i + n = 12 →
    DG2 (fX4_digest_L6 (P 0 0) 0 (nI S) v vsp ck so sp cs n i h) (fX4_digest_L6 (P 0 0) 0 (nI S) w wsp cj to tp ct n i h) := by
  intro n
  induction n with
  | zero => intro i h _; exact dg_ke hW hC hK ho hp hC2 hK2 ho2 hp2 (P 0 0) 0 h (Nat.zero_add _)
  | succ n ih =>
    intro i h hi
    simp only [fX4_digest_L6]
    rw [count_n hC hW S (show i < 12 by omega), count_n hC2 hW S (show i < 12 by omega)]
    exact ih (i + 1) _ (by omega)
end DG
