/-! ===== reasons ===== -/
def anyF (C : Nat → Bool) : Nat → Nat → Bool
  | 0, _ => false
  | n + 1, i => C i || anyF C n (i + 1)
theorem anyF_iff {C : Nat → Bool} : ∀ {n i : Nat}, anyF C n i = true ↔ ∃ k, i ≤ k ∧ k < i + n ∧ C k = true := by
  intro n
  induction n with
  | zero => intro i; simp only [anyF]; constructor
            · intro h; cases h
            · rintro ⟨k, h1, h2, _⟩; omega
  | succ n ih =>
    intro i
    simp only [anyF, Bool.or_eq_true]
    rw [ih]
    constructor
    · rintro (h | ⟨k, h1, h2, h3⟩)
      · exact ⟨i, by omega, by omega, h⟩
      · exact ⟨k, by omega, by omega, h3⟩
    · rintro ⟨k, h1, h2, h3⟩
      by_cases e : k = i
      · subst e; exact Or.inl h3
      · exact Or.inr ⟨k, by omega, by omega, h3⟩
def subB (g y : Nat) : Bool := allF (fun j => !g.testBit j || y.testBit j) 8 0
theorem subB_iff {g y : Nat} : subB g y = true ↔ subN g y := by
  unfold subB subN
  rw [allF_iff]
  constructor
  · intro h j hj hg
    have := h j (by omega) (by omega)
    simpa [hg] using this
  · intro h k _ hk
    by_cases hg : g.testBit k = true
    · simp [h k (by omega) hg]
    · simp [hg]
theorem sub_b {g y : Nat} (hg : g < 256) : ((nI g &&& (nI y ^^^ (-1))) = 0) ↔ subB g y = true := (sub_i hg).trans subB_iff.symm
theorem pop0 : ∀ m, m < 256 → (pop m = 0 ↔ m = 0) := by decide +kernel
theorem bit_ex {x : Nat} (h : x ≠ 0) : ∃ j, x.testBit j = true := by
  refine Classical.byContradiction fun hn => h (Nat.eq_of_testBit_eq fun j => ?_)
  cases hb : x.testBit j with
  | false => simp
  | true => exact absurd ⟨j, hb⟩ hn
theorem prs_iff {P : Nat → Nat → Nat} (hW : WF P) {g : Nat} (hg : g < 256) : 0 < prs P g ↔ ∃ k, k < 8 ∧ g.testBit k = true ∧ P 2 k &&& g ≠ 0 := by
  unfold prs
  rw [sumN_pos]
  constructor
  · rintro ⟨h, hh, hp⟩
    by_cases hb : g.testBit h = true
    · rw [if_pos hb] at hp
      refine ⟨h, hh, hb, fun e => ?_⟩
      have : P 2 h &&& (g % 2 ^ h) = 0 := by
        refine Nat.eq_of_testBit_eq fun j => ?_
        have h1 : (P 2 h &&& g).testBit j = false := by rw [e]; simp
        rw [Nat.testBit_and] at h1
        rw [Nat.testBit_and, Nat.testBit_mod_two_pow]
        cases hq : (P 2 h).testBit j with
        | false => simp
        | true => rw [hq] at h1; simp only [Bool.true_and] at h1; simp [h1]
      rw [this] at hp
      exact absurd hp (by decide)
    · rw [if_neg hb] at hp; exact absurd hp (by decide)
  · rintro ⟨k, hk, hb, hne⟩
    obtain ⟨j, hj⟩ := bit_ex hne
    rw [Nat.testBit_and, Bool.and_eq_true] at hj
    have hj8 : j < 8 := by
      by_cases h : j < 8
      · exact h
      · rw [bit_hi hg (by omega)] at hj; exact absurd hj.2 (by decide)
    obtain ⟨-, -, -, hirr, hsym, -, -⟩ := hW.2 k hk
    have hjk : j ≠ k := fun e => by rw [e] at hj; rw [hirr] at hj; exact absurd hj.1 (by decide)
    have fin : ∀ hi lo, lo < hi → hi < 8 → g.testBit hi = true → g.testBit lo = true → (P 2 hi).testBit lo = true → ∃ k, k < 8 ∧ 0 < (if g.testBit k then pop (P 2 k &&& (g % 2 ^ k)) else 0) := fun hi lo h1 h2 h3 h4 h5 => by
      refine ⟨hi, h2, ?_⟩
      rw [if_pos h3]
      refine Nat.pos_of_ne_zero fun e => ?_
      have hlt : P 2 hi &&& (g % 2 ^ hi) < 256 := Nat.lt_of_le_of_lt Nat.and_le_left (hW.qm h2)
      have h6 := (pop0 _ hlt).mp e
      have h7 : (P 2 hi &&& (g % 2 ^ hi)).testBit lo = true := by
        rw [Nat.testBit_and, Nat.testBit_mod_two_pow, h5, h4]; simp [h1]
      rw [h6] at h7
      simp at h7
    by_cases hlt : j < k
    · exact fin k j hlt hk hb hj.2 hj.1
    · exact fin j k (by omega) hj8 hj.2 hb (by rw [← hsym j hj8]; exact hj.1)
def quF (P : Nat → Nat → Nat) (g k : Nat) : Bool := g.testBit k && decide (P 2 k &&& g ≠ 0)
theorem quF_iff {P : Nat → Nat → Nat} (hW : WF P) {g : Nat} (hg : g < 256) : anyF (quF P g) 8 0 = true ↔ 0 < prs P g := by
  rw [anyF_iff, prs_iff hW hg]
  unfold quF
  constructor
  · rintro ⟨k, _, h2, h3⟩
    simp only [Bool.and_eq_true, decide_eq_true_eq] at h3
    exact ⟨k, by omega, h3.1, h3.2⟩
  · rintro ⟨k, h1, h2, h3⟩
    exact ⟨k, by omega, by omega, by simp [h2, h3]⟩
def kyN (P : Nat → Nat → Nat) (m : Nat) : Nat := lag (P 5) (lowq m (P 0 6)) 0
def reaN (P : Nat → Nat → Nat) (g : Nat) (hc : Bool) : Nat := if P 0 4 = 1 then (if g = 0 then 2 else (if subB g (P 0 1) = true then (if prs P g = 0 then (if hc = true ∨ P 0 7 ≤ P 0 3 then (if P 0 6 ≤ pop (owG P g) then (if kyN P (owG P g) = P 0 5 then 0 else 6) else 5) else 4) else 3) else 2)) else 1
theorem kyN_lt (P : Nat → Nat → Nat) (m : Nat) : kyN P m < 251 := lag_lt _ _ _
theorem keyOf_P {P : Nat → Nat → Nat} (hW : WF P) {ck : Nat → Int32} (hK : CK ck P) (h1 : P 0 4 = 1) {m : Nat} (hm : m < 256) (hq : P 0 6 ≤ pop m) : fX0_keyOf ck (nI m) = nI (kyN P m) := by
  have h0 : P 0 4 ≠ 0 := by omega
  have h2 := hW.1.2.2.2.2.2.2.2.1 h0
  exact keyOf_n (hK h0) (pop_pos m hm (by omega)) hm
theorem refusal_n {v : Nat → Nat → Int32} {P : Nat → Nat → Nat} (hC : CV v P) (hW : WF P) {ck : Nat → Int32} (hK : CK ck P) {o p : Nat → Int32} (ho : o 0 = 0) (hp : p 0 = 0) {g : Nat} (hg : g < 256) :
    (fX4_refusal v ck o p (nI g)).1 = nI (reaN P g false) ∧ (fX4_refusal v ck o p (nI g)).2 = fX3_look o p v := by
  have hL := look_n hC hW ho hp
  have h4 := hC.1 4 (by decide)
  have h5 := hC.1 5 (by decide)
  have h6 := hC.1 6 (by decide)
  have h7 := hC.1 7 (by decide)
  have h3 := hC.1 3 (by decide)
  have h1 := hC.1 1 (by decide)
  obtain ⟨w0, w1, w2, w3, w4, w5, w6, w7, w8, w9⟩ := hW.1
  have hpr := prs_lt P g
  have hpp := pop_le (owG P g)
  unfold fX4_refusal fX2_allLive reaN
  simp only []
  generalize fX3_look o p v = L at hL ⊢
  rw [h4, h5, h6, h7, h3, h1, sharesOf_n hL hg, pairsIn_n hL hg, fbit_pop _ (owG_lt P g)]
  by_cases c1 : P 0 4 = 1
  · rw [if_pos (by rw [c1]), if_pos c1]
    by_cases c2 : g = 0
    · rw [if_pos (by rw [c2]; decide), if_pos c2]; exact ⟨rfl, rfl⟩
    · rw [if_neg (fun z => c2 (by rw [show (0 : Int32) = nI 0 by decide, nI_eq (by omega) (by decide)] at z; exact z)), if_neg c2]
      by_cases c3 : subB g (P 0 1) = true
      · rw [if_pos ((sub_b hg).mpr c3), if_neg (by decide), if_pos c3]
        by_cases c4 : prs P g = 0
        · rw [if_pos (by rw [c4]; decide), if_pos c4]
          by_cases c5 : P 0 7 ≤ P 0 3
          · rw [if_pos ((nI_leI (by omega) (by omega)).mpr c5), if_pos (Or.inr c5)]
            by_cases c6 : P 0 6 ≤ pop (owG P g)
            · rw [if_pos ((nI_leI (by omega) (by omega)).mpr c6), if_pos c6, keyOf_P hW hK c1 (owG_lt P g) c6]
              have hk := kyN_lt P (owG P g)
              by_cases c7 : kyN P (owG P g) = P 0 5
              · rw [if_pos (by rw [c7]), if_pos c7]; exact ⟨rfl, rfl⟩
              · rw [if_neg (fun z => c7 ((nI_eq (by omega) (by omega)).mp z)), if_neg c7]; exact ⟨rfl, rfl⟩
            · rw [if_neg (fun z => c6 ((nI_leI (by omega) (by omega)).mp z)), if_neg c6]; exact ⟨rfl, rfl⟩
          · rw [if_neg (fun z => c5 ((nI_leI (by omega) (by omega)).mp z)), if_neg (fun z => z.elim (fun q => by cases q) c5)]; exact ⟨rfl, rfl⟩
        · rw [if_neg (fun z => c4 (by rw [show (0 : Int32) = nI 0 by decide, nI_leI (by omega) (by decide)] at z; omega)), if_neg c4]; exact ⟨rfl, rfl⟩
      · rw [if_neg (fun z => c3 ((sub_b hg).mp z)), if_pos (by decide), if_neg c3]; exact ⟨rfl, rfl⟩
  · rw [if_neg (fun z => c1 ((nI_eq (by omega) (by decide)).mp z)), if_neg c1]; exact ⟨rfl, rfl⟩
/-- whether a group could open it, if the date had come -/
def opB (P : Nat → Nat → Nat) (g : Nat) : Bool := decide (reaN P g true = 0)
/-- the class's findsKey -/
def fkB (P : Nat → Nat → Nat) (g : Nat) : Bool := decide (P 0 4 = 1) && (subB g (P 0 1) && (decide (P 0 6 ≤ pop (owG P g)) && decide (kyN P (owG P g) = P 0 5)))
theorem opB_eq (P : Nat → Nat → Nat) {g : Nat} (h1 : 1 ≤ g) : opB P g = (decide (prs P g = 0) && fkB P g) := by
  have h0 : ¬ g = 0 := by omega
  unfold opB fkB reaN
  by_cases c1 : P 0 4 = 1
  · rw [if_pos c1, if_neg h0]
    by_cases c3 : subB g (P 0 1) = true
    · rw [if_pos c3]
      by_cases c4 : prs P g = 0
      · rw [if_pos c4, if_pos (Or.inl rfl)]
        by_cases c6 : P 0 6 ≤ pop (owG P g)
        · rw [if_pos c6]
          by_cases c7 : kyN P (owG P g) = P 0 5
          · rw [if_pos c7]; simp [c1, c3, c4, c6, c7]
          · rw [if_neg c7]; simp [c7]
        · rw [if_neg c6]; simp [c6]
      · rw [if_neg c4]; simp [c4]
    · rw [if_neg c3]
      have : subB g (P 0 1) = false := by simpa using c3
      simp [this]
  · rw [if_neg c1]; simp [c1]
theorem findsKey_n {v : Nat → Nat → Int32} {P : Nat → Nat → Nat} (hC : CV v P) (hW : WF P) {ck : Nat → Int32} (hK : CK ck P) {o p : Nat → Int32} (hL : looked P o p 256) {g : Nat} (hg : g < 256) :
    (fX4_findsKey ck o v (nI g) = 0) ↔ fkB P g = false := by
  have h4 := hC.1 4 (by decide)
  have h5 := hC.1 5 (by decide)
  have h6 := hC.1 6 (by decide)
  have h1 := hC.1 1 (by decide)
  obtain ⟨w0, w1, w2, w3, w4, w5, w6, w7, w8, w9⟩ := hW.1
  have hpp := pop_le (owG P g)
  unfold fX4_findsKey fX2_allLive fkB
  rw [h4, h5, h6, h1, sharesOf_n hL hg, fbit_pop _ (owG_lt P g)]
  by_cases c1 : P 0 4 = 1
  · rw [if_pos (by rw [c1])]
    by_cases c3 : subB g (P 0 1) = true
    · rw [if_pos ((sub_b hg).mpr c3), if_neg (by decide)]
      by_cases c6 : P 0 6 ≤ pop (owG P g)
      · rw [if_neg (fun z => absurd ((nI_ltI (by omega) (by omega)).mp z) (by omega)), keyOf_P hW hK c1 (owG_lt P g) c6]
        have hk := kyN_lt P (owG P g)
        by_cases c7 : kyN P (owG P g) = P 0 5
        · rw [if_pos (by rw [c7])]; simp [c1, c3, c6, c7]; decide
        · rw [if_neg (fun z => c7 ((nI_eq (by omega) (by omega)).mp z))]; simp [c7]; decide
      · rw [if_pos ((nI_ltI (by omega) (by omega)).mpr (by omega))]; simp [c6]; decide
    · have c3' : subB g (P 0 1) = false := by simpa using c3
      rw [if_neg (fun z => c3 ((sub_b hg).mp z)), if_pos (by decide)]; simp [c3']; decide
  · rw [if_neg (fun z => c1 ((nI_eq (by omega) (by decide)).mp z))]; simp [c1]; decide
theorem couldOpen_n {v : Nat → Nat → Int32} {P : Nat → Nat → Nat} (hC : CV v P) (hW : WF P) {ck : Nat → Int32} (hK : CK ck P) {o p : Nat → Int32} (hL : looked P o p 256) {g : Nat} (h1 : 1 ≤ g) (hg : g < 256) :
    (fX4_couldOpen ck o p v (nI g) = 0) ↔ opB P g = false := by
  have hpr := prs_lt P g
  unfold fX4_couldOpen
  rw [pairsIn_n hL hg, opB_eq P h1]
  by_cases c4 : prs P g = 0
  · rw [if_pos (by rw [c4]; decide)]
    by_cases c : fX4_findsKey ck o v (nI g) = 0
    · rw [if_pos c]
      have := (findsKey_n hC hW hK hL hg).mp c
      simp [this]; decide
    · rw [if_neg c]
      have : fkB P g = true := by
        cases h : fkB P g with
        | true => rfl
        | false => exact absurd ((findsKey_n hC hW hK hL hg).mpr h) c
      simp [this, c4]; decide
  · rw [if_neg (fun z => c4 (by rw [show (0 : Int32) = nI 0 by decide, nI_eq (by omega) (by decide)] at z; exact z))]
    simp [c4]; decide
