/-! ===== the two digests ===== -/
theorem bits_quo : ∀ a, a < 9 → ∀ b, b < a + 1 → a ≠ 0 → fX4_bitsOf (FP.ddiv (FP.i2d (nI b)) (FP.i2d (nI a))) = fD2L (FP.ddiv (FP.i2d (nI b)) (FP.i2d (nI a))) := by decide +kernel
theorem bits_one : fX4_bitsOf FP.dconst1 = fD2L FP.dconst1 := by decide +kernel
theorem bits_firsts (ms : Nat → Int32) : fX4_bitsOf (fX5_firsts ms) = fD2L (fX5_firsts ms) := by
  have key : ∀ n i x y, i + n = 8 → x ≤ i → y ≤ x → fX4_bitsOf (fX5_firsts_L6 ms n i x y) = fD2L (fX5_firsts_L6 ms n i x y) := by
    intro n
    induction n with
    | zero =>
      intro i x y hi hx hy
      simp only [fX5_firsts_L6]
      by_cases h : nI x = 0
      · rw [if_pos h]; exact bits_one
      · rw [if_neg h]
        exact bits_quo x (by omega) y (by omega) (fun z => h (by rw [z]; decide))
    | succ n ih =>
      intro i x y hi hx hy
      simp only [fX5_firsts_L6]
      by_cases h : ms (40 + i) < 0
      · rw [if_pos h, if_neg (show ¬ ms (40 + i) = nI i from fun z => nI_pos (show i < 2 ^ 31 by omega) (by rw [← z]; exact h))]
        exact ih _ _ _ (by omega) (by omega) (by omega)
      · rw [if_neg h]
        by_cases e : ms (40 + i) = nI i
        · rw [if_pos e]; exact ih _ _ _ (by omega) (by omega) (by omega)
        · rw [if_neg e]; exact ih _ _ _ (by omega) (by omega) (by omega)
  exact key 8 0 0 0 rfl (by omega) (by omega)
def DIG (ms : Nat → Int32) (x : Int64 × (Nat → Nat → Int32) × (Nat → Int32) × (Nat → Int32)) (y : Int64 × (Nat → Int32) × Int32) : Prop :=
  y.1 = x.1 ∧ x.2.2.1 0 = 0 ∧ x.2.2.2 0 = 0 ∧ (∀ j, j < 406 → y.2.1 j = ms j) ∧ y.2.2 = nI 0
theorem mixO_n {v vsp : Nat → Nat → Int32} {ck so sp ms : Nat → Int32} {P : Nat → Nat → Nat} (hC : CV v P) (hW : WF P) (hR : RV ms 0 P) (hK : CK ck P) (ho : so 0 = 0) (hp : sp 0 = 0) (h : Int64) :
    ∃ r0 r1 r2 r3 r4 r5 r6 : Int32, (fX4_mixOpening v vsp ck so sp h).1 = fX4_mix (fX4_mix (fX4_mix (fX4_mix (fX4_mix (fX4_mix (fX4_mix h r0.toInt64) r1.toInt64) r2.toInt64) r3.toInt64) r4.toInt64) r5.toInt64) r6.toInt64 ∧
      (fX4_mixOpening v vsp ck so sp h).2.2.1 0 = 0 ∧ (fX4_mixOpening v vsp ck so sp h).2.2.2 0 = 0 ∧
      r0 = nI (reaN P (2 ^ P 0 0 - 1) false) ∧ r1 = smA P (nI 0) ∧ r2 = smA P (nI 1) ∧ r3 = nI (grN P) ∧ r4 = nI (neN P) ∧ r5 = (piF (gaN P) (nI 0) 8 0 (-1, 0)).1 ∧ r6 = (piF (gaN P) (nI 1) 8 0 (-1, 0)).1 := by
  have h0 := hC.1 0 (by decide)
  have h8 := hW.k8
  have hm := p2_256 h8
  unfold fX4_mixOpening
  dsimp only
  rw [every_n h0 h8]
  have f1 := refusal_n hC hW hK ho hp (show 2 ^ P 0 0 - 1 < 256 by omega)
  generalize fX4_refusal v ck so sp (nI (2 ^ P 0 0 - 1)) = A at f1 ⊢
  obtain ⟨a1, a2⟩ := f1
  obtain ⟨l1, l2⟩ := look_0 hC hW ho hp
  rw [← a2] at l1 l2
  have f2 := smallest_n hC hW hK l1 l2 (w := nI 0) (Or.inl rfl)
  have g2 := look_0 hC hW l1 l2
  generalize fX4_smallest v ck A.2.1 A.2.2 (nI 0) = B at f2 ⊢
  obtain ⟨b1, b2⟩ := f2
  rw [← b2] at g2
  have f3 := smallest_n hC hW hK g2.1 g2.2 (w := nI 1) (Or.inr rfl)
  have g3 := look_0 hC hW g2.1 g2.2
  generalize fX4_smallest v ck B.2.1 B.2.2 (nI 1) = C at f3 ⊢
  obtain ⟨c1, c2⟩ := f3
  rw [← c2] at g3
  have f4 := groups_n hC hW hK g3.1 g3.2
  have g4 := look_0 hC hW g3.1 g3.2
  generalize fX4_groups v ck C.2.1 C.2.2 = D at f4 ⊢
  obtain ⟨d1, d2⟩ := f4
  rw [← d2] at g4
  have f5 := needed_n (vsp := vsp) hC hW hK g4.1 g4.2
  generalize fX4_needed v vsp ck D.2.1 D.2.2 = E at f5 ⊢
  obtain ⟨e1, e2, e3⟩ := f5
  have f6 := peace_c hC hW hK e2 e3 (nI 0)
  generalize fX4_peace v ck E.2.2.1 E.2.2.2 (nI 0) = F at f6 ⊢
  obtain ⟨k1, k2, k3⟩ := f6
  have f7 := peace_c hC hW hK k2 k3 (nI 1)
  generalize fX4_peace v ck F.2.1 F.2.2 (nI 1) = G at f7 ⊢
  obtain ⟨m1, m2, m3⟩ := f7
  exact ⟨A.1, B.1, C.1, D.1, E.1, F.1, G.1, rfl, m2, m3, a1, b1, c1, d1, e1, k1, m1⟩
theorem codes_n {L : Nat} {cs mt : Nat → Int32} (h : TXR L cs mt) {r : Int32 × (Nat → Int32)} : ∀ n i x, i + n = L → fX5_digest_L361 mt r n i x = (fX1_mixCodes_L5 L cs n i x, r.2, nI 0) := by
  intro n
  induction n with
  | zero => intro i x _; rfl
  | succ n ih =>
    intro i x hi
    have hc := (h.nat.2 i (by omega))
    simp only [fX5_digest_L361, fX1_mixCodes_L5]
    rw [code_n h.nat (by omega), ← hc.2.1]
    exact ih (i + 1) _ (by omega)
theorem dig_tail {v vsp : Nat → Nat → Int32} {ck so sp ms cs mt : Nat → Int32} {P : Nat → Nat → Nat} {L : Nat} (hC : CV v P) (hW : WF P) (hR : RV ms 0 P) (hK : CK ck P) (ho : so 0 = 0) (hp : sp 0 = 0) (hT : TXR L cs mt) (i i' : Nat) (h : Int64) :
    DIG ms (fX4_digest_L78 L v vsp ck so sp cs 0 i h) (fX5_digest_L76 L (P 0 0) ms mt 0 i' h) := by
  have m1 : ms 1 = nI (P 0 0) := hR.1.2.1
  have h8 := hW.k8
  have hm := p2_256 h8
  have hr0 := reason_n hR hW (show 2 ^ P 0 0 - 1 < 256 by omega) false
  rw [if_neg (by decide)] at hr0
  simp only [fX4_digest_L78, fX5_digest_L76]
  unfold fX4_mixTold
  simp only []
  rw [r_told hW hC hR hK (show 7 < 256 by decide), r_told hW hC hR hK (show 14 < 256 by decide), r_told hW hC hR hK (show 56 < 256 by decide), r_told hW hC hR hK (show 255 < 256 by decide), r_possible hW hC hR hK (show 0 < 256 by decide), r_possible hW hC hR hK (show 3 < 256 by decide), r_possible hW hC hR hK (show 7 < 256 by decide), r_possible hW hC hR hK (show 24 < 256 by decide), r_possible hW hC hR hK (show 255 < 256 by decide)]
  rw [m1, shl1 (by omega), pk_sub (Nat.two_pow_pos _), hr0, least_n hR hW, least_n hR hW, groupsOf_n hR hW]
  have n1 := needs_n hR hW
  have n2 : RV (fX5_needs (P 0 0) ms).2 0 P := hR.congr fun j _ hj => needs_low (by omega)
  have n3 : ∀ j, j < 406 → (fX5_needs (P 0 0) ms).2 j = ms j := fun j hj => needs_low hj
  generalize fX5_needs (P 0 0) ms = N at n1 n2 n3 ⊢
  have p1 := peace_r n2 hW (nI 0)
  have p2 : RV (fX5_makesPeace (P 0 0) N.2 (nI 0)).2 0 P := n2.congr fun j _ hj => peace_low (by omega)
  have p3 : ∀ j, j < 406 → (fX5_makesPeace (P 0 0) N.2 (nI 0)).2 j = ms j := fun j hj => by rw [peace_low hj, n3 j hj]
  generalize fX5_makesPeace (P 0 0) N.2 (nI 0) = M at p1 p2 p3 ⊢
  have q1 := peace_r p2 hW (nI 1)
  have q2 : RV (fX5_makesPeace (P 0 0) M.2 (nI 1)).2 0 P := p2.congr fun j _ hj => peace_low (by omega)
  have q3 : ∀ j, j < 406 → (fX5_makesPeace (P 0 0) M.2 (nI 1)).2 j = ms j := fun j hj => by rw [peace_low hj, p3 j hj]
  generalize fX5_makesPeace (P 0 0) M.2 (nI 1) = O at q1 q2 q3 ⊢
  rw [← bits_firsts, r_first hW hC q2, n1, p1, q1]
  have ex : ∀ a b : Int64, (31 : Int64) * a + b = fX4_mix a b := fun _ _ => rfl
  simp only [ex]
  generalize (fX4_mix (fX4_mix (fX4_mix (fX4_mix (fX4_mix (fX4_mix (fX4_mix (fX4_mix (fX4_mix h (fX4_told v ck (nI 7)).toInt64) (fX4_told v ck (nI 14)).toInt64) (fX4_told v ck (nI 56)).toInt64) (fX4_told v ck (nI 255)).toInt64) (fX4_possible v ck (nI 0)).toInt64) (fX4_possible v ck (nI 3)).toInt64) (fX4_possible v ck (nI 7)).toInt64) (fX4_possible v ck (nI 24)).toInt64) (fX4_possible v ck (nI 255)).toInt64) = H1
  obtain ⟨r0, r1, r2, r3, r4, r5, r6, x1, x2, x3, e0, e1, e2, e3, e4, e5, e6⟩ := mixO_n (vsp := vsp) hC hW hR hK ho hp H1
  rw [codes_n hT L 0 _ (Nat.zero_add L)]
  refine ⟨?_, x2, x3, q3, rfl⟩
  dsimp only
  rw [x1, e0, e1, e2, e3, e4, e5, e6]
  rfl
/-- the shares -/
theorem dig_sh {v vsp : Nat → Nat → Int32} {ck so sp ms cs mt : Nat → Int32} {P : Nat → Nat → Nat} {L : Nat} (hC : CV v P) (hW : WF P) (hR : RV ms 0 P) (hK : CK ck P) (ho : so 0 = 0) (hp : sp 0 = 0) (hT : TXR L cs mt) : ∀ n i h, i + n = 8 →
    DIG ms (fX4_digest_L78 L v vsp ck so sp cs n i h) (fX5_digest_L76 L (P 0 0) ms mt (3 * n) (3 * i) h) := by
  intro n
  induction n with
  | zero => intro i h _; exact dig_tail hC hW hR hK ho hp hT i (3 * i) h
  | succ n ih =>
    intro i h hi
    rw [show 3 * (n + 1) = 3 * n + 1 + 1 + 1 by omega]
    simp only [fX4_digest_L78, fX4_digest_L87, fX5_digest_L76]
    rw [show 3 * i / 3 = i by omega, show 3 * i % 3 = 0 by omega, show (3 * i + 1) / 3 = i by omega, show (3 * i + 1) % 3 = 1 by omega, show (3 * i + 1 + 1) / 3 = i by omega, show (3 * i + 1 + 1) % 3 = 2 by omega,
      r_share hW hC hR (show i < 8 by omega) (show 0 < 3 by decide), r_share hW hC hR (show i < 8 by omega) (show 1 < 3 by decide), r_share hW hC hR (show i < 8 by omega) (show 2 < 3 by decide)]
    have := ih (i + 1) (fX4_mix (fX4_mix (fX4_mix h (fX4_share v (nI i) (nI 0)).toInt64) (fX4_share v (nI i) (nI 1)).toInt64) (fX4_share v (nI i) (nI 2)).toInt64) (by omega)
    rw [show 3 * (i + 1) = 3 * i + 1 + 1 + 1 by omega] at this
    exact this
theorem dig_ke {v vsp : Nat → Nat → Int32} {ck so sp ms cs mt : Nat → Int32} {P : Nat → Nat → Nat} {L : Nat} (hC : CV v P) (hW : WF P) (hR : RV ms 0 P) (hK : CK ck P) (ho : so 0 = 0) (hp : sp 0 = 0) (hT : TXR L cs mt) : ∀ n i h, i + n = P 0 0 →
    DIG ms (fX4_digest_L31 L v vsp ck so sp cs n i h) (fX5_digest_L38 L (P 0 0) ms mt (5 * n) (5 * i) h) := by
  have h8 := hW.k8
  intro n
  induction n with
  | zero => intro i h _; exact dig_sh hC hW hR hK ho hp hT 8 0 h rfl
  | succ n ih =>
    intro i h hi
    rw [show 5 * (n + 1) = 5 * n + 1 + 1 + 1 + 1 + 1 by omega]
    simp only [fX4_digest_L31, fX4_digest_L45, fX5_digest_L38]
    rw [show 5 * i / 5 = i by omega, show 5 * i % 5 = 0 by omega, show (5 * i + 1) / 5 = i by omega, show (5 * i + 1) % 5 = 1 by omega, show (5 * i + 1 + 1) / 5 = i by omega, show (5 * i + 1 + 1) % 5 = 2 by omega, show (5 * i + 1 + 1 + 1) / 5 = i by omega, show (5 * i + 1 + 1 + 1) % 5 = 3 by omega, show (5 * i + 1 + 1 + 1 + 1) / 5 = i by omega, show (5 * i + 1 + 1 + 1 + 1) % 5 = 4 by omega,
      r_keepers hW hC hR (show i < 8 by omega) (show 0 < 5 by decide), r_keepers hW hC hR (show i < 8 by omega) (show 1 < 5 by decide), r_keepers hW hC hR (show i < 8 by omega) (show 2 < 5 by decide), r_keepers hW hC hR (show i < 8 by omega) (show 3 < 5 by decide), r_keepers hW hC hR (show i < 8 by omega) (show 4 < 5 by decide)]
    have := ih (i + 1) (fX4_mix (fX4_mix (fX4_mix (fX4_mix (fX4_mix h (fX4_keeperOf v (nI i) (nI 0)).toInt64) (fX4_keeperOf v (nI i) (nI 1)).toInt64) (fX4_keeperOf v (nI i) (nI 2)).toInt64) (fX4_keeperOf v (nI i) (nI 3)).toInt64) (fX4_keeperOf v (nI i) (nI 4)).toInt64) (by omega)
    rw [show 5 * (i + 1) = 5 * i + 1 + 1 + 1 + 1 + 1 by omega] at this
    exact this
theorem dig_all {v vsp : Nat → Nat → Int32} {ck so sp ms cs mt : Nat → Int32} {P : Nat → Nat → Nat} {L S : Nat} (hC : CV v P) (hW : WF P) (hR : RV ms 0 P) (hK : CK ck P) (ho : so 0 = 0) (hp : sp 0 = 0) (hT : TXR L cs mt) : ∀ n i h, i + n = 12 →
    DIG ms (fX4_digest_L6 (P 0 0) L (nI S) v vsp ck so sp cs n i h) (fX5_digest_L11 S L (P 0 0) ms mt n i h) := by
  intro n
  induction n with
  | zero => intro i h _; exact dig_ke hC hW hR hK ho hp hT (P 0 0) 0 h (Nat.zero_add _)
  | succ n ih =>
    intro i h hi
    simp only [fX4_digest_L6, fX5_digest_L11]
    rw [r_count hW hC hR (nI S) (show i < 12 by omega)]
    exact ih (i + 1) _ (by omega)
theorem q_digest {v vsp : Nat → Nat → Int32} {ck so sp ms cs mt : Nat → Int32} {L : Nat} (S : Nat) (h : PLR v ck ms) (ho : so 0 = 0) (hp : sp 0 = 0) (hT : TXR L cs mt) : ∃ K, K ≤ 8 ∧ ms 1 = nI K ∧ v 0 0 = nI K ∧ (fX5_digest S L K ms mt).1 = (fX4_digest K L (nI S) v vsp ck so sp cs).1 ∧ (fX4_digest K L (nI S) v vsp ck so sp cs).2.2.1 0 = 0 ∧ (fX4_digest K L (nI S) v vsp ck so sp cs).2.2.2 0 = 0 ∧ (fX5_digest S L K ms mt).2.2 = nI 0 ∧ PLR v ck (fX5_digest S L K ms mt).2.1 ∧ ∀ j, j < 406 → (fX5_digest S L K ms mt).2.1 j = ms j := by
  obtain ⟨P, hW, hC, hR, hK⟩ := h
  obtain ⟨d1, d2, d3, d4, d5⟩ := dig_all (S := S) (vsp := vsp) hC hW hR hK ho hp hT 12 0 3019 rfl
  exact ⟨P 0 0, hW.k8, hR.1.2.1, hC.1 0 (by decide), d1, d2, d3, d5, ⟨P, hW, hC, hR.congr fun j _ hj => d4 j (by omega), hK⟩, d4⟩
