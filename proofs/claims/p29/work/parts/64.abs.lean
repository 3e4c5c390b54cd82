/-! ===== what a place, and a slot of the reference, stand for: P 0 numbers, P 1 heirs (0 none), P 2 quarrels, P 3 tries, P 4 owners (0 none), P 5 values ===== -/
def CV (v : Nat → Nat → Int32) (P : Nat → Nat → Nat) : Prop := (∀ i, i < 11 → v 0 i = nI (P 0 i)) ∧ ∀ k, k < 8 → v 1 k = dn (P 1 k) ∧ v 2 k = nI (P 2 k) ∧ v 3 k = nI (P 3 k) ∧ v 4 k = dn (P 4 k) ∧ v 5 k = nI (P 5 k)
def WF (P : Nat → Nat → Nat) : Prop := (P 0 0 ≤ 8 ∧ P 0 1 < 2 ^ P 0 0 ∧ P 0 2 < 256 ∧ P 0 3 ≤ 99999 ∧ P 0 4 ≤ 2 ∧ P 0 5 < 251 ∧ P 0 6 ≤ 8 ∧ (P 0 4 ≠ 0 → 1 ≤ P 0 6) ∧ P 0 7 ≤ 9999 ∧ P 0 10 < 53125) ∧
  ∀ k, k < 8 → P 1 k ≤ P 0 0 ∧ P 1 k ≠ k + 1 ∧ P 2 k < 2 ^ P 0 0 ∧ (P 2 k).testBit k = false ∧ (∀ j, j < 8 → (P 2 k).testBit j = (P 2 j).testBit k) ∧ P 4 k ≤ P 0 0 ∧ P 5 k < 251
/-- the row of keys is reckoned, if there is a capsule -/
def CK (ck : Nat → Int32) (P : Nat → Nat → Nat) : Prop := P 0 4 ≠ 0 → keyed (P 5) (P 0 6) ck 256
theorem WF.k8 {P : Nat → Nat → Nat} (h : WF P) : P 0 0 ≤ 8 := h.1.1
theorem WF.lv {P : Nat → Nat → Nat} (h : WF P) : P 0 1 < 256 := Nat.lt_of_lt_of_le h.1.2.1 (p2_256 h.1.1)
theorem WF.qm {P : Nat → Nat → Nat} (h : WF P) {k : Nat} (hk : k < 8) : P 2 k < 256 := Nat.lt_of_lt_of_le (h.2 k hk).2.2.1 (p2_256 h.1.1)
theorem WF.ow {P : Nat → Nat → Nat} (h : WF P) {k : Nat} (hk : k < 8) : P 4 k < 9 := Nat.lt_succ_of_le (Nat.le_trans (h.2 k hk).2.2.2.2.2.1 h.1.1)
theorem WF.he {P : Nat → Nat → Nat} (h : WF P) {k : Nat} (hk : k < 8) : P 1 k < 9 := Nat.lt_succ_of_le (Nat.le_trans (h.2 k hk).1 h.1.1)
theorem WF.va {P : Nat → Nat → Nat} (h : WF P) {k : Nat} (hk : k < 8) : P 5 k < 251 := (h.2 k hk).2.2.2.2.2.2
/-- who lives has a number -/
theorem WF.lk {P : Nat → Nat → Nat} (h : WF P) {k : Nat} (hb : (P 0 1).testBit k = true) : k < P 0 0 := by
  by_cases hk : k < P 0 0
  · exact hk
  · rw [Nat.testBit_lt_two_pow (Nat.lt_of_lt_of_le h.1.2.1 (Nat.pow_le_pow_right (by decide) (by omega)))] at hb; cases hb
theorem WF.qk {P : Nat → Nat → Nat} (h : WF P) {k j : Nat} (hk : k < 8) (hb : (P 2 k).testBit j = true) : j < P 0 0 := by
  by_cases hj : j < P 0 0
  · exact hj
  · rw [Nat.testBit_lt_two_pow (Nat.lt_of_lt_of_le (h.2 k hk).2.2.1 (Nat.pow_le_pow_right (by decide) (by omega)))] at hb; cases hb
def thM (P : Nat → Nat → Nat) : Nat := orL (fun k => decide (P 4 k ≠ 0)) 8
def owG (P : Nat → Nat → Nat) (g : Nat) : Nat := orL (fun k => decide (P 4 k ≠ 0) && g.testBit (P 4 k - 1)) 8
def owK (P : Nat → Nat → Nat) (j : Nat) : Nat := orL (fun k => decide (P 4 k = j + 1)) 8
def prs (P : Nat → Nat → Nat) (g : Nat) : Nat := sumN (fun h => if g.testBit h then pop (P 2 h &&& (g % 2 ^ h)) else 0) 8
theorem thM_lt (P : Nat → Nat → Nat) : thM P < 256 := orL_lt _ 8
theorem owG_lt (P : Nat → Nat → Nat) (g : Nat) : owG P g < 256 := orL_lt _ 8
theorem owK_lt (P : Nat → Nat → Nat) (g : Nat) : owK P g < 256 := orL_lt _ 8
theorem owG_bit {P : Nat → Nat → Nat} {g k : Nat} (h : (owG P g).testBit k = true) : k < 8 ∧ P 4 k ≠ 0 := by
  unfold owG at h
  rw [orL_bit] at h
  simp only [Bool.and_eq_true, decide_eq_true_eq] at h
  exact ⟨h.1, h.2.1⟩
theorem orS {f : Nat → Bool} {n : Nat} : orL f (n + 1) = orL f n ||| (if f n then 2 ^ n else 0) := rfl
theorem orS1 {f : Nat → Bool} {n : Nat} (h : f n = true) : orL f (n + 1) = orL f n ||| 2 ^ n := by rw [orS, if_pos h]
theorem orS0 {f : Nat → Bool} {n : Nat} (h : f n = false) : orL f (n + 1) = orL f n := by rw [orS, if_neg (by rw [h]; decide)]; simp
/-- the class's looks at its shares -/
theorem ownedBy_n {v : Nat → Nat → Int32} {P : Nat → Nat → Nat} (hC : CV v P) (hW : WF P) {j : Nat} (hj : j < 8) : fX2_ownedBy v (nI j) = nI (owK P j) := by
  have key : ∀ n i, i + n = 8 → fX2_ownedBy_L4 v (nI j) n i (nI (orL (fun k => decide (P 4 k = j + 1)) i)) = nI (owK P j) := by
    intro n
    induction n with
    | zero => intro i hi; have : i = 8 := by omega
              subst this; rfl
    | succ n ih =>
      intro i hi
      have hi8 : i < 8 := by omega
      simp only [fX2_ownedBy_L4]
      rw [(hC.2 i hi8).2.2.2.1, shl1 (by omega), nI_or]
      have step := ih (i + 1) (by omega)
      by_cases e : P 4 i = j + 1
      · rw [if_pos ((dn_nI _ (hW.ow hi8) j (by omega)).mpr e)]
        rw [orS1 (by simp [e])] at step
        exact step
      · rw [if_neg (fun z => e ((dn_nI _ (hW.ow hi8) j (by omega)).mp z))]
        rw [orS0 (by simp [e])] at step
        exact step
  exact key 8 0 rfl
theorem there_n {v : Nat → Nat → Int32} {P : Nat → Nat → Nat} (hC : CV v P) (hW : WF P) : fX2_sharesThere v = nI (thM P) := by
  have key : ∀ n i, i + n = 8 → fX2_sharesThere_L4 v n i (nI (orL (fun k => decide (P 4 k ≠ 0)) i)) = nI (thM P) := by
    intro n
    induction n with
    | zero => intro i hi; have : i = 8 := by omega
              subst this; rfl
    | succ n ih =>
      intro i hi
      have hi8 : i < 8 := by omega
      simp only [fX2_sharesThere_L4]
      rw [(hC.2 i hi8).2.2.2.1, shl1 (by omega), nI_or]
      have step := ih (i + 1) (by omega)
      by_cases e : P 4 i = 0
      · rw [if_pos ((dn_m _ (hW.ow hi8)).mpr e)]
        rw [orS0 (by simp [e])] at step
        exact step
      · rw [if_neg (fun z => e ((dn_m _ (hW.ow hi8)).mp z))]
        rw [orS1 (by simp [e])] at step
        exact step
  exact key 8 0 rfl
theorem dn_s (x : Nat) (h : x ≠ 0) : dn x = nI (x - 1) := by
  cases x with
  | zero => exact absurd rfl h
  | succ x => rfl
/-- the survey -/
theorem owG_up (P : Nat → Nat → Nat) {i r : Nat} (hi : i < 8) (hr : r < 2 ^ i) : owG P (r ||| 2 ^ i) = owG P r ||| owK P i := by
  refine Nat.eq_of_testBit_eq fun j => ?_
  unfold owG owK
  rw [Nat.testBit_or, orL_bit, orL_bit, orL_bit]
  by_cases hj : j < 8
  · simp only [hj, decide_true, Bool.true_and, bit_or2]
    by_cases e : P 4 j = 0
    · simp [e]
    · have : (P 4 j = i + 1) ↔ (i = P 4 j - 1) := by omega
      simp [e, this]
  · simp [hj]
theorem modbit : ∀ i, i < 8 → ∀ r, r < 2 ^ i → ∀ h, h < 8 → (r ||| 2 ^ i).testBit h = (if h = i then true else r.testBit h) ∧ (r.testBit h = true → h < i) ∧ (h ≤ i → (r ||| 2 ^ i) % 2 ^ h = r % 2 ^ h) := by decide +kernel
theorem prs_up (P : Nat → Nat → Nat) {i r : Nat} (hi : i < 8) (hr : r < 2 ^ i) : prs P (r ||| 2 ^ i) = prs P r + pop (P 2 i &&& r) := by
  unfold prs
  rw [sumN_congr (g := fun h => (if r.testBit h then pop (P 2 h &&& (r % 2 ^ h)) else 0) + (if h = i then pop (P 2 i &&& r) else 0)) (fun h hh => ?_), sumN_add, sumN_one, if_pos hi]
  obtain ⟨m1, m2, m3⟩ := modbit i hi r hr h hh
  show (if (r ||| 2 ^ i).testBit h then pop (P 2 h &&& ((r ||| 2 ^ i) % 2 ^ h)) else 0) = _
  rw [m1]
  by_cases e : h = i
  · subst e
    have hb : r.testBit h = false := by
      cases hb : r.testBit h with
      | false => rfl
      | true => exact absurd (m2 hb) (by omega)
    rw [m3 (Nat.le_refl _), Nat.mod_eq_of_lt hr, hb]
    simp
  · simp only [if_neg e, Nat.add_zero]
    by_cases hb : r.testBit h = true
    · rw [if_pos hb, if_pos hb, m3 (Nat.le_of_lt (m2 hb))]
    · rw [if_neg hb, if_neg hb]
def looked (P : Nat → Nat → Nat) (o p : Nat → Int32) (n : Nat) : Prop := ∀ m, m < n → o m = nI (owG P m) ∧ p m = nI (prs P m)
theorem look22 {v : Nat → Nat → Int32} {P : Nat → Nat → Nat} (hC : CV v P) (hW : WF P) {i : Nat} (hi : i < 8) (kk : Nat → (Nat → Int32) → (Nat → Int32) → (Nat → Int32) × (Nat → Int32)) : ∀ (n r : Nat) (o p : Nat → Int32), r + n = 2 ^ i → looked P o p (2 ^ i + r) → ∃ o' p', fX3_look_L22 kk v i n r o p = kk (i + 1) o' p' ∧ looked P o' p' (2 ^ (i + 1)) := by
  intro n
  induction n with
  | zero =>
    intro r o p hr hl
    refine ⟨o, p, rfl, ?_⟩
    have : 2 ^ i + r = 2 ^ (i + 1) := by rw [Nat.pow_succ]; omega
    rw [← this]; exact hl
  | succ n ih =>
    intro r o p hr hl
    simp only [fX3_look_L22]
    have hr2 : r < 2 ^ i := by omega
    have h2i : 2 ^ i ≤ 128 := p2le hi
    have ea := or_add2 i hi r hr2
    obtain ⟨l1, l2⟩ := hl r (by omega)
    have hlt : P 2 i &&& r < 256 := Nat.lt_of_le_of_lt Nat.and_le_right (by omega)
    rw [l1, l2, ownedBy_n hC hW hi, nI_or, (hC.2 i hi).2.1, xI_and, fbit_pop _ hlt, nI_add]
    refine ih (r + 1) _ _ (by omega) fun m hm => ?_
    unfold upd
    by_cases e : m = r ||| 2 ^ i
    · rw [if_pos e, if_pos e, e, owG_up P hi hr2, prs_up P hi hr2]; exact ⟨rfl, rfl⟩
    · rw [if_neg e, if_neg e]; exact hl m (by omega)
theorem look2 {v : Nat → Nat → Int32} {P : Nat → Nat → Nat} (hC : CV v P) (hW : WF P) : ∀ (n i : Nat) (o p : Nat → Int32), i + n = 8 → looked P o p (2 ^ i) → looked P (fX3_look_L2 v n i o p).1 (fX3_look_L2 v n i o p).2 256 := by
  intro n
  induction n with
  | zero =>
    intro i o p hi hl
    have : 2 ^ i = 256 := by have : i = 8 := by omega
                             subst this; rfl
    simp only [fX3_look_L2]
    rw [← this]; exact hl
  | succ n ih =>
    intro i o p hi hl
    simp only [fX3_look_L2]
    obtain ⟨o', p', e, hl'⟩ := look22 hC hW (show i < 8 by omega) (fX3_look_L2 v n) (2 ^ i) 0 o p (by omega) hl
    rw [e]
    exact ih (i + 1) o' p' (by omega) hl'
theorem look_n {v : Nat → Nat → Int32} {P : Nat → Nat → Nat} (hC : CV v P) (hW : WF P) {o p : Nat → Int32} (ho : o 0 = 0) (hp : p 0 = 0) : looked P (fX3_look o p v).1 (fX3_look o p v).2 256 := by
  unfold fX3_look
  refine look2 hC hW 8 0 o p rfl fun m hm => ?_
  have : m = 0 := by simp only [Nat.pow_zero] at hm; omega
  subst this
  have e1 : owG P 0 = 0 := by
    refine Nat.eq_of_testBit_eq fun j => ?_
    unfold owG; rw [orL_bit]; simp
  have e2 : prs P 0 = 0 := by
    unfold prs; exact sumN_zero fun h _ => by simp
  rw [e1, e2, ho, hp]; exact ⟨by decide, by decide⟩
theorem sharesOf_n {P : Nat → Nat → Nat} {o p : Nat → Int32} {g : Nat} (hl : looked P o p 256) (hg : g < 256) : fX3_sharesOf o (nI g) = nI (owG P g) := by
  unfold fX3_sharesOf
  rw [if_neg (nI_pos (by omega)), if_neg (fun z => absurd ((nI_leI (by omega) (by omega)).mp z) (by omega)), nI_clamp (by omega)]
  exact (hl g hg).1
theorem pairsIn_n {P : Nat → Nat → Nat} {o p : Nat → Int32} {g : Nat} (hl : looked P o p 256) (hg : g < 256) : fX3_pairsIn p (nI g) = nI (prs P g) := by
  unfold fX3_pairsIn
  rw [if_neg (nI_pos (by omega)), if_neg (fun z => absurd ((nI_leI (by omega) (by omega)).mp z) (by omega)), nI_clamp (by omega)]
  exact (hl g hg).2
theorem prs_lt (P : Nat → Nat → Nat) (g : Nat) : prs P g < 73 := by
  have h : ∀ n, sumN (fun h => if g.testBit h then pop (P 2 h &&& (g % 2 ^ h)) else 0) n ≤ 8 * n := by
    intro n
    induction n with
    | zero => simp [sumN]
    | succ n ih =>
      simp only [sumN]
      have := pop_le (P 2 n &&& (g % 2 ^ n))
      split <;> omega
  have := h 8
  unfold prs
  omega
