/-! ===== dying, forging, sealing, trying ===== -/
def rmB (y k : Nat) : Nat := y &&& (2 ^ k ^^^ (2 ^ 32 - 1))
theorem rmB_i (y : Nat) {k : Nat} (hk : k < 8) : nI y &&& (((nI 1) <<< ((nI k) &&& 31)) ^^^ (-1)) = nI (rmB y k) := by
  rw [shl1 (by omega), show (-1 : Int32) = nI (2 ^ 32 - 1) by decide, xI_xor, xI_and]; rfl
theorem rmB_bit (y k : Nat) {j : Nat} (hj : j < 32) : (rmB y k).testBit j = (y.testBit j && !decide (j = k)) := by
  unfold rmB
  rw [Nat.testBit_and, Nat.testBit_xor, Nat.testBit_two_pow, Nat.testBit_two_pow_sub_one]
  by_cases e : j = k
  · subst e; simp [hj]
  · have : ¬ k = j := fun z => e z.symm
    simp [hj, e, this]
theorem rmB_le (y k : Nat) : rmB y k ≤ y := Nat.and_le_left
theorem lives_n {v : Nat → Nat → Int32} {P : Nat → Nat → Nat} (h0 : v 0 0 = nI (P 0 0)) (h1 : v 0 1 = nI (P 0 1)) (h8 : P 0 0 ≤ 8) (hl : P 0 1 < 2 ^ P 0 0) {j : Nat} (hj : j < 8) : fX2_lives v (nI j) = nI (if (P 0 1).testBit j then 1 else 0) := by
  have hlv : P 0 1 < 256 := Nat.lt_of_lt_of_le hl (p2_256 h8)
  have hb : (if (((nI (P 0 1)) >>> ((nI j) &&& 31)) &&& (nI 1)) = (nI 1) then (nI 1) else (nI 0)) = fX5_has (nI (P 0 1)) (nI j) := rfl
  unfold fX2_lives fX2_hasKeeper
  rw [h0, h1, hb, has_nat _ hlv j hj, if_neg (nI_pos (by omega))]
  by_cases c : j < P 0 0
  · rw [if_neg (fun z => absurd ((nI_leI (by omega) (by omega)).mp z) (by omega)), if_neg (fun z => absurd ((nI_leI (by omega) (by omega)).mp z) (by omega)), if_neg (by decide)]
  · rw [if_pos ((nI_leI (by omega) (by omega)).mpr (by omega)), if_pos (by decide)]
    have : (P 0 1).testBit j = false := Nat.testBit_lt_two_pow (Nat.lt_of_lt_of_le hl (Nat.pow_le_pow_right (by decide) (by omega)))
    rw [this]; rfl
theorem lives_m1 (v : Nat → Nat → Int32) : fX2_lives v (-1) = nI 0 := by
  have e : fX2_hasKeeper v (-1) = 0 := by
    unfold fX2_hasKeeper
    rw [if_pos (by decide)]
    decide
  unfold fX2_lives
  rw [if_pos e]
def inh (P : Nat → Nat → Nat) (k : Nat) : Bool := decide (P 1 k ≠ 0) && (P 0 1).testBit (P 1 k - 1)
def newO (P : Nat → Nat → Nat) (k i : Nat) : Nat := if P 4 i = k + 1 then (if inh P k then P 1 k else 0) else P 4 i
def buryP (P : Nat → Nat → Nat) (k : Nat) : Nat → Nat → Nat := fun c d => if c = 0 ∧ d = 1 then rmB (P 0 1) k else if c = 4 then newO P k d else P c d
def buN (P : Nat → Nat → Nat) (k : Nat) : Nat := if inh P k then cntF (fun i => decide (P 4 i = k + 1)) 8 0 else 0
theorem buryP_w {P : Nat → Nat → Nat} (hW : WF P) {k : Nat} (hk : k < 8) : WF (buryP P k) := by
  obtain ⟨w0, w1, w2, w3, w4, w5, w6, w7, w8, w9⟩ := hW.1
  refine ⟨⟨w0, ?_, w2, w3, w4, w5, w6, w7, w8, w9⟩, fun i hi => ?_⟩
  · show rmB (P 0 1) k < 2 ^ P 0 0
    exact Nat.lt_of_le_of_lt (rmB_le _ _) w1
  · obtain ⟨k1, k2, k3, k4, k5, k6, k7⟩ := hW.2 i hi
    refine ⟨k1, k2, k3, k4, k5, ?_, k7⟩
    show newO P k i ≤ P 0 0
    unfold newO
    have := (hW.2 k hk).1
    split
    · split <;> omega
    · exact k6
/-- on the way: the shares below i are handed on -/
def buQ (P : Nat → Nat → Nat) (k i : Nat) (l : Nat) : Nat → Nat → Nat := fun c d => if c = 0 ∧ d = 1 then l else if c = 4 ∧ d < i then newO P k d else P c d
theorem buQ_8 (P : Nat → Nat → Nat) (k l i : Nat) : pU (buQ P k i l) 4 i (newO P k i) = buQ P k (i + 1) l := by
  funext c d
  unfold pU buQ
  by_cases e0 : c = 4
  · subst e0
    by_cases e1 : d = i
    · subst e1; simp
    · by_cases e2 : d < i
      · have : d < i + 1 := by omega
        simp [e1, e2, this]
      · have : ¬ d < i + 1 := by omega
        simp [e1, e2, this]
  · simp [e0]
theorem buQ_s (P : Nat → Nat → Nat) {k l i : Nat} (h : newO P k i = P 4 i) : buQ P k i l = buQ P k (i + 1) l := by
  funext c d
  unfold buQ
  by_cases e0 : c = 4
  · subst e0
    by_cases e1 : d = i
    · subst e1; simp [h]
    · by_cases e2 : d < i
      · have : d < i + 1 := by omega
        simp [e2, this]
      · have : ¬ d < i + 1 := by omega
        simp [e2, this]
  · simp [e0]
theorem CV.ext {v : Nat → Nat → Int32} {P Q : Nat → Nat → Nat} (h : CV v P) (h0 : ∀ i, i < 11 → P 0 i = Q 0 i) (h1 : ∀ r, 1 ≤ r → r < 6 → ∀ k, k < 8 → P r k = Q r k) : CV v Q := by
  refine ⟨fun i hi => by rw [← h0 i hi]; exact h.1 i hi, fun k hk => ?_⟩
  obtain ⟨g1, g2, g3, g4, g5⟩ := h.2 k hk
  rw [h1 1 (by omega) (by omega) k hk] at g1
  rw [h1 2 (by omega) (by omega) k hk] at g2
  rw [h1 3 (by omega) (by omega) k hk] at g3
  rw [h1 4 (by omega) (by omega) k hk] at g4
  rw [h1 5 (by omega) (by omega) k hk] at g5
  exact ⟨g1, g2, g3, g4, g5⟩
theorem bury_n {v : Nat → Nat → Int32} {P : Nat → Nat → Nat} (hC : CV v P) (hW : WF P) {k : Nat} (hk : k < 8) : (fX2_bury v (nI k)).1 = nI (buN P k) ∧ CV (fX2_bury v (nI k)).2 (buryP P k) := by
  obtain ⟨w0, w1, w2, w3, w4, w5, w6, w7, w8, w9⟩ := hW.1
  obtain ⟨k1, k2, -, -, -, -, -⟩ := hW.2 k hk
  have hv0 := hC.1 0 (by decide)
  have hv1 := hC.1 1 (by decide)
  have hheir : (v 1) (nI k).toNatClampNeg = dn (P 1 k) := by rw [nI_clamp (by omega)]; exact (hC.2 k hk).1
  have hnew : (v 0 1) &&& (((nI 1) <<< (nI k &&& 31)) ^^^ (-1)) = nI (rmB (P 0 1) k) := by rw [hv1]; exact rmB_i _ hk
  have hinh : fX2_lives (sS v 1 ((v 0 1) &&& (((nI 1) <<< (nI k &&& 31)) ^^^ (-1)))) ((v 1) (nI k).toNatClampNeg) = nI (if inh P k then 1 else 0) := by
    rw [hheir, hnew]
    by_cases e : P 1 k = 0
    · have : inh P k = false := by unfold inh; simp [e]
      rw [e, this]; exact lives_m1 _
    · rw [dn_s _ e]
      have h9 := hW.he hk
      have := lives_n (v := sS v 1 (nI (rmB (P 0 1) k))) (P := pU P 0 1 (rmB (P 0 1) k)) (by rw [cp_0, if_neg (by decide)]; exact hv0) (by rw [cp_0, if_pos rfl]; rfl) w0 (Nat.lt_of_le_of_lt (rmB_le _ _) w1) (j := P 1 k - 1) (by omega)
      rw [this]
      show nI (if (rmB (P 0 1) k).testBit (P 1 k - 1) = true then 1 else 0) = _
      rw [rmB_bit _ _ (by omega)]
      have e2 : ¬ P 1 k - 1 = k := by omega
      unfold inh
      simp [e, e2]
  have key : ∀ n i x v0, i + n = 8 → CV v0 (buQ P k i (rmB (P 0 1) k)) → (fX2_bury_L33 v (nI k) n i (nI x) v0).1 = nI (x + if inh P k then cntF (fun i => decide (P 4 i = k + 1)) n i else 0) ∧ CV (fX2_bury_L33 v (nI k) n i (nI x) v0).2 (buryP P k) := by
    intro n
    induction n with
    | zero =>
      intro i x v0 hi h0
      have : i = 8 := by omega
      subst this
      simp only [fX2_bury_L33, cntF]
      refine ⟨by congr 1; split <;> rfl, h0.ext (fun i hi => ?_) fun r r1 r2 d hd => ?_⟩
      · unfold buQ buryP; simp
      · unfold buQ buryP
        have : ¬ (r = 0 ∧ d = 1) := by omega
        rw [if_neg this, if_neg this]
        by_cases e : r = 4
        · rw [if_pos ⟨e, hd⟩, if_pos e]
        · rw [if_neg (fun z => e z.1), if_neg e]
    | succ n ih =>
      intro i x v0 hi h0
      have hi8 : i < 8 := by omega
      simp only [fX2_bury_L33, cntF]
      have h4 : v0 4 i = dn (P 4 i) := by
        have := (h0.2 i hi8).2.2.2.1
        rw [this]; unfold buQ
        rw [if_neg (by omega), if_neg (by omega)]
      have h9 := hW.ow hi8
      rw [hinh, h4, hheir]
      by_cases e : P 4 i = k + 1
      · rw [if_pos ((dn_nI _ h9 k (by omega)).mpr e)]
        cases hin : inh P k with
        | false =>
          rw [if_pos (by decide), nI_add]
          have en : newO P k i = 0 := by unfold newO; rw [if_pos e, hin]; rfl
          have hc := CV.r4 h0 (i := i) (n := newO P k i) (x := -1) (by rw [en]; rfl)
          rw [buQ_8] at hc
          have := ih (i + 1) (x + 0) _ (by omega) hc
          rw [hin] at this
          simpa using this
        | true =>
          rw [if_neg (by decide), nI_add]
          have en : newO P k i = P 1 k := by unfold newO; rw [if_pos e, hin]; rfl
          have hc := CV.r4 h0 (i := i) (n := newO P k i) (x := dn (P 1 k)) (by rw [en])
          rw [buQ_8] at hc
          have := ih (i + 1) (x + 1) _ (by omega) hc
          rw [hin] at this
          simpa [e, Nat.add_assoc] using this
      · rw [if_neg (fun z => e ((dn_nI _ h9 k (by omega)).mp z))]
        have en : newO P k i = P 4 i := by unfold newO; rw [if_neg e]
        rw [buQ_s P en] at h0
        have := ih (i + 1) x _ (by omega) h0
        simpa [e] using this
  unfold fX2_bury
  have h := key 8 0 0 (sS v 1 ((v 0 1) &&& (((nI 1) <<< (nI k &&& 31)) ^^^ (-1)))) rfl ((CV.num hC hnew).ext (fun i _ => by
    unfold buQ pU; by_cases e : i = 1 <;> simp [e]) fun r r1 r2 d _ => by
    have : ¬ (r = 0 ∧ d = 1) := by omega
    unfold buQ pU; rw [if_neg this, if_neg this, if_neg (by omega)])
  rw [Nat.zero_add] at h
  unfold buN
  exact h
def forgeP (P : Nat → Nat → Nat) (k x : Nat) : Nat → Nat → Nat := pU (pU P 5 k x) 0 2 (P 0 2 ||| 2 ^ k)
theorem forgeP_w {P : Nat → Nat → Nat} (hW : WF P) {k x : Nat} (hk : k < 8) (hx : x < 251) : WF (forgeP P k x) := by
  obtain ⟨w0, w1, w2, w3, w4, w5, w6, w7, w8, w9⟩ := hW.1
  refine ⟨⟨w0, w1, ?_, w3, w4, w5, w6, w7, w8, w9⟩, fun i hi => ?_⟩
  · show P 0 2 ||| 2 ^ k < 256
    exact orlt w2 (by have := p2le hk; omega)
  · obtain ⟨k1, k2, k3, k4, k5, k6, k7⟩ := hW.2 i hi
    refine ⟨k1, k2, k3, k4, k5, k6, ?_⟩
    show pU (pU P 5 k x) 0 2 (P 0 2 ||| 2 ^ k) 5 i < 251
    rw [pU_ne (by omega)]
    by_cases e : i = k
    · subst e; rw [pU_eq]; exact hx
    · rw [pU_ne (fun z => e z.2)]; exact k7
theorem forgeP_c {v : Nat → Nat → Int32} {P : Nat → Nat → Nat} (hC : CV v P) {k x : Nat} (hk : k < 8) : (fX2_replaceShare v (nI k) (nI x)).1 = nI (P 5 k) ∧ CV (fX2_replaceShare v (nI k) (nI x)).2 (forgeP P k x) := by
  unfold fX2_replaceShare forgeP
  rw [nI_clamp (by omega)]
  refine ⟨(hC.2 k hk).2.2.2.2, CV.num (CV.r5 hC rfl) ?_⟩
  rw [hC.1 2 (by decide), shl1 (by omega), nI_or]
def shutP (P : Nat → Nat → Nat) (ky q dt : Nat) : Nat → Nat → Nat := pU (pU (pU (pU P 0 4 1) 0 5 ky) 0 6 q) 0 7 dt
theorem shutP_c {v : Nat → Nat → Int32} {P : Nat → Nat → Nat} (hC : CV v P) (ky q dt : Nat) : CV (fX2_shut v (nI ky) (nI q) (nI dt)) (shutP P ky q dt) := CV.num (CV.num (CV.num (CV.num hC rfl) rfl) rfl) rfl
theorem shutP_w {P : Nat → Nat → Nat} (hW : WF P) {ky q dt : Nat} (h1 : ky < 251) (h2 : 1 ≤ q) (h3 : q ≤ 8) (h4 : dt ≤ 9999) : WF (shutP P ky q dt) := by
  obtain ⟨w0, w1, w2, w3, w4, w5, w6, w7, w8, w9⟩ := hW.1
  exact ⟨⟨w0, w1, w2, w3, by show 1 ≤ 2; omega, h1, h3, fun _ => h2, h4, w9⟩, hW.2⟩
def tryQ (P : Nat → Nat → Nat) (g i : Nat) : Nat → Nat → Nat := fun c d => if c = 3 ∧ d < i then P 3 d + (if g.testBit d then 1 else 0) else P c d
def tryP (P : Nat → Nat → Nat) (g : Nat) (op : Bool) : Nat → Nat → Nat := if op then pU (tryQ P g 8) 0 4 2 else pU (tryQ P g 8) 0 9 (P 0 9 + 1)
theorem tryQ_s (P : Nat → Nat → Nat) (g i : Nat) : pU (tryQ P g i) 3 i (P 3 i + (if g.testBit i then 1 else 0)) = tryQ P g (i + 1) := by
  funext c d
  unfold pU tryQ
  by_cases e0 : c = 3
  · subst e0
    by_cases e1 : d = i
    · subst e1; simp
    · by_cases e2 : d < i
      · have : d < i + 1 := by omega
        simp [e1, e2, this]
      · have : ¬ d < i + 1 := by omega
        simp [e1, e2, this]
  · simp [e0]
theorem tryQ_0 (P : Nat → Nat → Nat) (g : Nat) : tryQ P g 0 = P := by
  funext c d
  unfold tryQ
  rw [if_neg (by omega)]
theorem bit_nat : ∀ g, g < 256 → ∀ i, i < 8 → ((nI g) >>> ((nI i) &&& 31)) &&& (nI 1) = nI (if g.testBit i then 1 else 0) := by decide +kernel
theorem tryP_w {P : Nat → Nat → Nat} (hW : WF P) (g : Nat) (op : Bool) (hs : op = true → P 0 4 = 1) : WF (tryP P g op) := by
  obtain ⟨w0, w1, w2, w3, w4, w5, w6, w7, w8, w9⟩ := hW.1
  cases op with
  | true => exact ⟨⟨w0, w1, w2, w3, by show 2 ≤ 2; omega, w5, w6, fun _ => w7 (by rw [hs rfl]; decide), w8, w9⟩, hW.2⟩
  | false => exact ⟨⟨w0, w1, w2, w3, w4, w5, w6, w7, w8, w9⟩, hW.2⟩
theorem tryP_c {v : Nat → Nat → Int32} {P : Nat → Nat → Nat} (hC : CV v P) {g : Nat} (hg : g < 256) (op : Bool) : CV (fX2_countTry v (nI g) (nI (if op then 1 else 0))) (tryP P g op) := by
  have key : ∀ n i v0, i + n = 8 → CV v0 (tryQ P g i) → CV (fX2_countTry_L2 (nI g) (nI (if op then 1 else 0)) n i v0) (tryP P g op) := by
    intro n
    induction n with
    | zero =>
      intro i v0 hi h0
      have : i = 8 := by omega
      subst this
      simp only [fX2_countTry_L2]
      unfold tryP
      cases op with
      | true => rw [if_neg (by decide), if_pos rfl]; exact CV.num h0 rfl
      | false =>
        rw [if_pos (by decide), if_neg (by decide)]
        have h9 : v0 0 9 = nI (P 0 9) := h0.1 9 (by decide)
        exact CV.num h0 (by rw [h9, nI_add])
    | succ n ih =>
      intro i v0 hi h0
      have hi8 : i < 8 := by omega
      simp only [fX2_countTry_L2]
      have h3 : v0 3 i = nI (P 3 i) := by
        have := (h0.2 i hi8).2.2.1
        rw [this]; unfold tryQ; rw [if_neg (by omega)]
      refine ih (i + 1) _ (by omega) ?_
      rw [← tryQ_s]
      exact CV.r3 h0 (by rw [h3, bit_nat g hg i hi8, nI_add])
  unfold fX2_countTry
  exact key 8 0 v rfl (by rw [tryQ_0]; exact hC)
