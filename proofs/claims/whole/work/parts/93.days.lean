/-! ===== the days' text: the class's automaton and the reference's reader ===== -/
theorem af0 : ∀ x, x < 127 → fX1_after (nI 0) (nI x) = if x = 100 then nI 1 else if x = 104 then nI 4 else if x = 113 then nI 2 else if x = 114 then nI 9 else if x = 116 then nI 6 else -1 := by decide +kernel
theorem af1 : ∀ x, x < 127 → fX1_after (nI 1) (nI x) = if 48 ≤ x ∧ x ≤ 55 then nI 9 else -1 := by decide +kernel
theorem af2 : ∀ x, x < 127 → fX1_after (nI 2) (nI x) = if 48 ≤ x ∧ x ≤ 55 then nI 3 else -1 := by decide +kernel
theorem af3 : ∀ x, x < 127 → fX1_after (nI 3) (nI x) = if 45 ≤ x ∧ x ≤ 45 then nI 1 else -1 := by decide +kernel
theorem af4 : ∀ x, x < 127 → fX1_after (nI 4) (nI x) = if 48 ≤ x ∧ x ≤ 55 then nI 5 else -1 := by decide +kernel
theorem af5 : ∀ x, x < 127 → fX1_after (nI 5) (nI x) = if 62 ≤ x ∧ x ≤ 62 then nI 1 else -1 := by decide +kernel
theorem af6 : ∀ x, x < 127 → fX1_after (nI 6) (nI x) = if 49 ≤ x ∧ x ≤ 57 then nI 7 else -1 := by decide +kernel
theorem af7 : ∀ x, x < 127 → fX1_after (nI 7) (nI x) = if 48 ≤ x ∧ x ≤ 57 then nI 8 else if x = 59 then nI 0 else -1 := by decide +kernel
theorem af8 : ∀ x, x < 127 → fX1_after (nI 8) (nI x) = if 48 ≤ x ∧ x ≤ 57 then nI 9 else if x = 59 then nI 0 else -1 := by decide +kernel
theorem af9 : ∀ x, x < 127 → fX1_after (nI 9) (nI x) = if x = 59 then nI 0 else -1 := by decide +kernel
theorem afm : ∀ x, x < 127 → fX1_after (-1) (nI x) = -1 := by decide +kernel
theorem kd_x : ∀ x, x < 127 → fX1_isKeeperDigit (nI x) = if 48 ≤ x ∧ x ≤ 55 then nI 1 else nI 0 := by decide +kernel
theorem id_x : ∀ x, x < 127 → fX1_isDigit (nI x) = if 48 ≤ x ∧ x ≤ 57 then nI 1 else nI 0 := by decide +kernel
def TXN (L : Nat) (cs mt : Nat → Int32) (c : Nat → Nat) : Prop := L ≤ 60 ∧ ∀ i, i < L → cs i = nI (c i) ∧ mt i = nI (c i) ∧ c i < 127
theorem TXR.nat {L : Nat} {cs mt : Nat → Int32} (h : TXR L cs mt) : TXN L cs mt (fun i => (cs i).toNatClampNeg) :=
  ⟨h.1, fun i hi => by
    obtain ⟨e, x, x1, x2, x3⟩ := h.2 i hi
    have : (cs i).toNatClampNeg = x := by rw [x3, nI_clamp (by omega)]
    show cs i = nI (cs i).toNatClampNeg ∧ mt i = nI (cs i).toNatClampNeg ∧ (cs i).toNatClampNeg < 127
    rw [this]
    exact ⟨x3, by rw [← e]; exact x3, by omega⟩⟩
theorem code_n {L : Nat} {cs mt : Nat → Int32} {c : Nat → Nat} (h : TXN L cs mt c) {i : Nat} (hi : i < L) : fX1_code L cs (nI i) = nI (c i) := by
  have := h.1
  unfold fX1_code
  rw [if_neg (nI_pos (by omega)), if_neg (show ¬ nI L ≤ nI i from fun z => absurd ((nI_leI (by omega) (by omega)).mp z) (by omega)), if_neg (show ¬ nI 60 ≤ nI i from fun z => absurd ((nI_leI (by omega) (by omega)).mp z) (by omega)), nI_clamp (by omega)]
  exact (h.2 i hi).1
theorem code_o {L : Nat} {cs : Nat → Int32} (hL : L ≤ 60) {i : Nat} (hi : L ≤ i) (h2 : i < 2 ^ 31) : fX1_code L cs (nI i) = nI 0 := by
  unfold fX1_code
  rw [if_neg (nI_pos h2), if_pos (show nI L ≤ nI i from (nI_leI (by omega) h2).mpr hi)]
def dfa (L : Nat) (cs : Nat → Int32) (i : Nat) (st : Int32) : Int32 × Int32 := (fX1_errorIndex_L4 L cs (L - i) i st, fX1_isWhole_L4 L cs (L - i) i st)
theorem dfa_go {L : Nat} {cs mt : Nat → Int32} {c : Nat → Nat} (h : TXN L cs mt c) {i : Nat} {st st' : Int32} (hi : i < L) (e : fX1_after st (nI (c i)) = st') (hn : ¬ st' = -1) : dfa L cs i st = dfa L cs (i + 1) st' := by
  unfold dfa
  obtain ⟨n, hn'⟩ : ∃ n, L - i = n + 1 := ⟨L - i - 1, by omega⟩
  rw [hn', show L - (i + 1) = n by omega]
  simp only [fX1_errorIndex_L4, fX1_isWhole_L4]
  rw [code_n h hi, e, if_neg hn]
theorem dead_w {L : Nat} {cs mt : Nat → Int32} {c : Nat → Nat} (h : TXN L cs mt c) : ∀ n i, i + n = L → fX1_isWhole_L4 L cs n i (-1) = nI 0 := by
  intro n
  induction n with
  | zero => intro i _; simp only [fX1_isWhole_L4]; decide
  | succ n ih =>
    intro i hi
    simp only [fX1_isWhole_L4]
    rw [code_n h (by omega), afm _ (h.2 i (by omega)).2.2]
    exact ih (i + 1) (by omega)
theorem dfa_dead {L : Nat} {cs mt : Nat → Int32} {c : Nat → Nat} (h : TXN L cs mt c) {i : Nat} {st : Int32} (hi : i < L) (e : fX1_after st (nI (c i)) = -1) : dfa L cs i st = (nI i, nI 0) := by
  unfold dfa
  obtain ⟨n, hn'⟩ : ∃ n, L - i = n + 1 := ⟨L - i - 1, by omega⟩
  rw [hn']
  simp only [fX1_errorIndex_L4, fX1_isWhole_L4]
  rw [code_n h hi, e, if_pos rfl, dead_w h n (i + 1) (by omega)]
theorem dfa_end {L : Nat} {cs : Nat → Int32} {st : Int32} : dfa L cs L st = (nI L, if st = nI 7 then nI 1 else if st = nI 8 then nI 1 else if st = nI 9 then nI 1 else nI 0) := by
  unfold dfa
  rw [Nat.sub_self]
  rfl
theorem dfa_fail {L : Nat} {cs mt : Nat → Int32} {c : Nat → Nat} (h : TXN L cs mt c) {i : Nat} {st : Int32} (hi : i ≤ L) (hs : ¬ st = nI 7 ∧ ¬ st = nI 8 ∧ ¬ st = nI 9) (e : i < L → fX1_after st (nI (c i)) = -1) : dfa L cs i st = (nI i, nI 0) := by
  by_cases z : i < L
  · exact dfa_dead h z (e z)
  · have : i = L := by omega
    subst this
    rw [dfa_end, if_neg hs.1, if_neg hs.2.1, if_neg hs.2.2]
/-! the reference's small steps -/
theorem in_x {x lo hi : Nat} (hx : x < 127) (hh : hi < 127) (hl : lo < 127) : fX5_in (nI x) (nI lo) (nI hi) = if lo ≤ x ∧ x ≤ hi then nI 1 else nI 0 := by
  unfold fX5_in
  by_cases a : lo ≤ x
  · rw [if_neg (show ¬ nI x < nI lo from fun z => absurd ((nI_ltI (by omega) (by omega)).mp z) (by omega))]
    by_cases b : x ≤ hi
    · rw [if_neg (show ¬ nI hi < nI x from fun z => absurd ((nI_ltI (by omega) (by omega)).mp z) (by omega)), if_pos ⟨a, b⟩]
    · rw [if_pos (show nI hi < nI x from (nI_ltI (by omega) (by omega)).mpr (by omega)), if_neg (fun z => b z.2)]
  · rw [if_pos (show nI x < nI lo from (nI_ltI (by omega) (by omega)).mpr (by omega)), if_neg (fun z => a z.1)]
theorem next_n {L : Nat} {cs mt : Nat → Int32} {c : Nat → Nat} (h : TXN L cs mt c) {p lo hi : Nat} (hp : p ≤ L) (hh : hi < 127) (hl : lo < 127) : fX5_isNext L p mt (nI 1) (nI lo) (nI hi) = if p < L ∧ lo ≤ c p ∧ c p ≤ hi then nI 1 else nI 0 := by
  have h60 := h.1
  unfold fX5_isNext
  rw [if_neg (show ¬ nI 1 = 0 by decide)]
  by_cases z : p < L
  · rw [if_neg (show ¬ nI L ≤ nI p from fun w => absurd ((nI_leI (by omega) (by omega)).mp w) (by omega)), (h.2 p z).2.1, in_x (h.2 p z).2.2 hh hl]
    by_cases w : lo ≤ c p ∧ c p ≤ hi
    · rw [if_pos w, if_neg (by decide), if_pos ⟨z, w⟩]
    · rw [if_neg w, if_pos (by decide), if_neg (fun y => w y.2)]
  · rw [if_pos (show nI L ≤ nI p from (nI_leI (by omega) (by omega)).mpr (by omega)), if_neg (fun y => z y.1)]
theorem dig_n {L : Nat} {cs mt : Nat → Int32} {c : Nat → Nat} (h : TXN L cs mt c) {p : Nat} (hp : p ≤ L) : fX5_digit L p mt (nI 1) = if p < L ∧ 48 ≤ c p ∧ c p ≤ 55 then (nI (c p - 48), p + 1, nI 1) else (nI 0, p, nI 0) := by
  unfold fX5_digit
  rw [next_n h hp (by decide) (by decide)]
  by_cases z : p < L ∧ 48 ≤ c p ∧ c p ≤ 55
  · rw [if_pos z, if_neg (by decide), if_pos z, (h.2 p z.1).2.1, pk_sub z.2.1]
  · rw [if_neg z, if_pos (by decide), if_neg z, Nat.add_zero]
theorem tak_n {L : Nat} {cs mt : Nat → Int32} {c : Nat → Nat} (h : TXN L cs mt c) {p ch : Nat} (hp : p ≤ L) (hh : ch < 127) : fX5_takes L p mt (nI 1) (nI ch) = if p < L ∧ ch ≤ c p ∧ c p ≤ ch then (p + 1, nI 1) else (p, nI 0) := by
  unfold fX5_takes
  rw [next_n h hp hh hh]
  by_cases z : p < L ∧ ch ≤ c p ∧ c p ≤ ch
  · rw [if_pos z, if_neg (by decide), if_pos z]
  · rw [if_neg z, if_pos (by decide), if_neg z, Nat.add_zero]
theorem cdig_n {L : Nat} {cs mt : Nat → Int32} {c : Nat → Nat} (h : TXN L cs mt c) {p : Nat} (hp : p < L) (h1 : 48 ≤ c p) (h2 : c p ≤ 55) : fX1_digit L cs (nI p) = nI (c p - 48) := by
  unfold fX1_digit
  rw [code_n h hp, kd_x _ (h.2 p hp).2.2, if_pos (show 48 ≤ c p ∧ c p ≤ 55 from ⟨h1, h2⟩), if_neg (show ¬ nI 1 = 0 by decide), pk_sub h1]
/-- how many digits follow, at most n -/
def dgs (L : Nat) (c : Nat → Nat) : Nat → Nat → Nat → Nat × Nat
  | 0, p, x => (x, p)
  | n + 1, p, x => if p < L ∧ 48 ≤ c p ∧ c p ≤ 57 then dgs L c n (p + 1) (10 * x + c p - 48) else (x, p)
theorem num_n {L : Nat} {cs mt : Nat → Int32} {c : Nat → Nat} (h : TXN L cs mt c) : ∀ n p x, p ≤ L → fX1_number_L4 L cs n p (nI x) = nI (dgs L c n p x).1 := by
  intro n
  induction n with
  | zero => intro p x _; rfl
  | succ n ih =>
    intro p x hp
    have h60 := h.1
    simp only [fX1_number_L4, dgs]
    by_cases z : p < L
    · rw [code_n h z, id_x _ (h.2 p z).2.2]
      by_cases w : 48 ≤ c p ∧ c p ≤ 57
      · rw [if_pos w, if_neg (by decide), if_pos ⟨z, w⟩, pk_mul, nI_add, pk_sub (by omega)]
        exact ih (p + 1) _ (by omega)
      · rw [if_neg w, if_pos (by decide), if_neg (fun y => w y.2)]
    · rw [code_o h60 (by omega) (by omega), if_pos (by decide), if_neg (fun y => z y.1)]
theorem days_n {L : Nat} {cs mt : Nat → Int32} {c : Nat → Nat} (h : TXN L cs mt c) {P : Nat} (hP : fX5_isNext L P mt (nI 1) (nI 49) (nI 57) = nI 1) : ∀ n i p x, p ≤ L → fX5_days_L16 L P mt (nI 1) n i (nI x) p = (nI (dgs L c n p x).1, (dgs L c n p x).2, nI 1) := by
  intro n
  induction n with
  | zero => intro i p x _; simp only [fX5_days_L16, dgs, hP]
  | succ n ih =>
    intro i p x hp
    simp only [fX5_days_L16, dgs, hP]
    rw [next_n h hp (by decide) (by decide)]
    by_cases w : p < L ∧ 48 ≤ c p ∧ c p ≤ 57
    · rw [if_pos w, if_neg (by decide), if_pos w, (h.2 p w.1).2.1, pk_mul, nI_add, pk_sub (by omega)]
      exact ih (i + 1) (p + 1) _ (by omega)
    · rw [if_neg w, if_pos (by decide), if_neg w]
theorem days_0 {L : Nat} {mt : Nat → Int32} {P : Nat} (hP : fX5_isNext L P mt (nI 1) (nI 49) (nI 57) = nI 0) : fX5_days L P mt (nI 1) = (nI 0, P, nI 0) := by
  unfold fX5_days
  simp only [fX5_days_L16, hP]
  rw [isNext_0, if_pos (by decide)]
theorem dgs_bd {L : Nat} {c : Nat → Nat} : ∀ n p x, (dgs L c n p x).1 + 1 ≤ (x + 1) * 10 ^ n := by
  intro n
  induction n with
  | zero => intro p x; simp [dgs]
  | succ n ih =>
    intro p x
    simp only [dgs]
    have hp : 1 ≤ 10 ^ n := Nat.pow_pos (by decide)
    have e : (x + 1) * 10 ^ (n + 1) = (10 * x + 10) * 10 ^ n := by rw [Nat.pow_succ, show (10 * x + 10) = (x + 1) * 10 by omega, Nat.mul_assoc, Nat.mul_comm 10]
    split
    · rename_i w
      rw [e]
      exact Nat.le_trans (ih _ _) (Nat.mul_le_mul_right _ (by omega))
    · rw [e]
      exact Nat.le_trans (show x + 1 ≤ 10 * x + 10 by omega) (Nat.le_mul_of_pos_right _ hp)
def stE (L : Nat) (c : Nat → Nat) (p : Nat) (st : Int32) : Prop := (st = nI 7 ∨ st = nI 8 ∨ st = nI 9) ∧ (p < L → fX1_after st (nI (c p)) = if c p = 59 then nI 0 else -1)
/-- days in the automaton -/
theorem days_dfa {L : Nat} {cs mt : Nat → Int32} {c : Nat → Nat} (h : TXN L cs mt c) {p : Nat} (hp : p < L) (h1 : 49 ≤ c p) (h2 : c p ≤ 57) : ∃ st, stE L c (dgs L c 3 p 0).2 st ∧ dfa L cs p (nI 6) = dfa L cs (dgs L c 3 p 0).2 st ∧ p < (dgs L c 3 p 0).2 ∧ (dgs L c 3 p 0).2 ≤ L ∧ ∀ j, p ≤ j → j < (dgs L c 3 p 0).2 → c j ≠ 59 := by
  have s6 : fX1_after (nI 6) (nI (c p)) = nI 7 := by rw [af6 _ (h.2 p hp).2.2, if_pos ⟨h1, h2⟩]
  rw [dfa_go h hp s6 (by decide)]
  have e1 : ∀ x, dgs L c 3 p x = dgs L c 2 (p + 1) (10 * x + c p - 48) := fun x => by
    show (if p < L ∧ 48 ≤ c p ∧ c p ≤ 57 then _ else _) = _
    rw [if_pos ⟨hp, by omega, h2⟩]
  rw [e1]
  generalize 10 * 0 + c p - 48 = x1
  by_cases w1 : p + 1 < L ∧ 48 ≤ c (p + 1) ∧ c (p + 1) ≤ 57
  · have e2 : dgs L c 2 (p + 1) x1 = dgs L c 1 (p + 1 + 1) (10 * x1 + c (p + 1) - 48) := by
      show (if p + 1 < L ∧ 48 ≤ c (p + 1) ∧ c (p + 1) ≤ 57 then _ else _) = _
      rw [if_pos w1]
    rw [e2]
    generalize 10 * x1 + c (p + 1) - 48 = x2
    have s7 : fX1_after (nI 7) (nI (c (p + 1))) = nI 8 := by rw [af7 _ (h.2 _ w1.1).2.2, if_pos w1.2]
    rw [dfa_go h w1.1 s7 (by decide)]
    by_cases w2 : p + 1 + 1 < L ∧ 48 ≤ c (p + 1 + 1) ∧ c (p + 1 + 1) ≤ 57
    · have e3 : dgs L c 1 (p + 1 + 1) x2 = (10 * x2 + c (p + 1 + 1) - 48, p + 1 + 1 + 1) := by
        show (if p + 1 + 1 < L ∧ 48 ≤ c (p + 1 + 1) ∧ c (p + 1 + 1) ≤ 57 then _ else _) = _
        rw [if_pos w2]; rfl
      have s8 : fX1_after (nI 8) (nI (c (p + 1 + 1))) = nI 9 := by rw [af8 _ (h.2 _ w2.1).2.2, if_pos w2.2]
      rw [e3, dfa_go h w2.1 s8 (by decide)]
      refine ⟨nI 9, ⟨Or.inr (Or.inr rfl), fun z => af9 _ (h.2 _ z).2.2⟩, rfl, by show p < p + 1 + 1 + 1; omega, w2.1, fun j j1 j2 => ?_⟩
      have j2 : j < p + 1 + 1 + 1 := j2
      have : j = p ∨ j = p + 1 ∨ j = p + 1 + 1 := by omega
      rcases this with rfl | rfl | rfl <;> omega
    · have e3 : dgs L c 1 (p + 1 + 1) x2 = (x2, p + 1 + 1) := by
        show (if p + 1 + 1 < L ∧ 48 ≤ c (p + 1 + 1) ∧ c (p + 1 + 1) ≤ 57 then _ else _) = _
        rw [if_neg w2]
      rw [e3]
      refine ⟨nI 8, ⟨Or.inr (Or.inl rfl), fun z => ?_⟩, rfl, by show p < p + 1 + 1; omega, w1.1, fun j j1 j2 => ?_⟩
      · rw [af8 _ (h.2 _ z).2.2, if_neg (fun y => w2 ⟨z, y⟩)]
      · have j2 : j < p + 1 + 1 := j2
        have : j = p ∨ j = p + 1 := by omega
        rcases this with rfl | rfl <;> omega
  · have e2 : dgs L c 2 (p + 1) x1 = (x1, p + 1) := by
      show (if p + 1 < L ∧ 48 ≤ c (p + 1) ∧ c (p + 1) ≤ 57 then _ else _) = _
      rw [if_neg w1]
    rw [e2]
    refine ⟨nI 7, ⟨Or.inl rfl, fun z => ?_⟩, rfl, by show p < p + 1; omega, hp, fun j j1 j2 => ?_⟩
    · rw [af7 _ (h.2 _ z).2.2, if_neg (fun y => w1 ⟨z, y⟩)]
    · have j2 : j < p + 1 := j2
      have : j = p := by omega
      subst this; omega

/-! one order -/
def ROW (L : Nat) (cs md : Nat → Int32) (c : Nat → Nat) (k s : Nat) : Prop :=
  s < L ∧ md (3 * k) = nI (c s) ∧
  ((c s = 100 ∧ ∃ a, a ≤ 7 ∧ md (3 * k + 1) = nI a ∧ fX1_digit L cs (nI (s + 1)) = nI a) ∨
   ((c s = 113 ∨ c s = 104) ∧ ∃ a b, a ≤ 7 ∧ b ≤ 7 ∧ md (3 * k + 1) = nI a ∧ fX1_digit L cs (nI (s + 1)) = nI a ∧ md (3 * k + 2) = nI b ∧ fX1_digit L cs (nI (s + 3)) = nI b) ∨
   c s = 114 ∨
   (c s = 116 ∧ ∃ x, x ≤ 999 ∧ md (3 * k + 1) = nI x ∧ fX1_number L cs (s + 1) = nI x))
def RDS (L O P : Nat) (cs md : Nat → Int32) (c : Nat → Nat) (r : (Nat → Int32) × Nat × Nat × Int32) : Prop :=
  (r.2.2.2 = nI 0 ∧ r.2.2.1 ≤ L ∧ dfa L cs P (nI 0) = (nI r.2.2.1, nI 0)) ∨
  (r.2.2.2 = nI 1 ∧ r.2.1 = O + 1 ∧ P < r.2.2.1 ∧ r.2.2.1 ≤ L ∧ (∃ st, stE L c r.2.2.1 st ∧ dfa L cs P (nI 0) = dfa L cs r.2.2.1 st) ∧ (∀ j, P ≤ j → j < r.2.2.1 → c j ≠ 59) ∧ ROW L cs r.1 c O P ∧ ∀ j, j < 3 * O → r.1 j = md j)
theorem upd3_0 {md : Nat → Int32} {O : Nat} {x y z : Int32} : upd (upd (upd md (3 * O) x) (3 * O + 1) y) (3 * O + 2) z (3 * O) = x := by
  rw [upd_ne (by omega), upd_ne (by omega), upd_eq]
theorem upd3_1 {md : Nat → Int32} {O : Nat} {x y z : Int32} : upd (upd (upd md (3 * O) x) (3 * O + 1) y) (3 * O + 2) z (3 * O + 1) = y := by
  rw [upd_ne (by omega), upd_eq]
theorem upd3_2 {md : Nat → Int32} {O : Nat} {x y z : Int32} : upd (upd (upd md (3 * O) x) (3 * O + 1) y) (3 * O + 2) z (3 * O + 2) = z := upd_eq _ _ _
theorem upd3_n {md : Nat → Int32} {O j : Nat} {x y z : Int32} (h : j < 3 * O) : upd (upd (upd md (3 * O) x) (3 * O + 1) y) (3 * O + 2) z j = md j := by
  rw [upd_ne (by omega), upd_ne (by omega), upd_ne (by omega)]
/-- digit, sign, digit -/
theorem two_n {L : Nat} {cs mt : Nat → Int32} {c : Nat → Nat} (h : TXN L cs mt c) {p ch : Nat} {s1 s2 : Int32} (hp : p ≤ L) (hc : ch < 127) (hc9 : ch ≠ 59)
    (e1 : ∀ x, x < 127 → fX1_after s1 (nI x) = if 48 ≤ x ∧ x ≤ 55 then s2 else -1) (e2 : ∀ x, x < 127 → fX1_after s2 (nI x) = if ch ≤ x ∧ x ≤ ch then nI 1 else -1)
    (n1 : ¬ s1 = nI 7 ∧ ¬ s1 = nI 8 ∧ ¬ s1 = nI 9) (n2 : ¬ s2 = nI 7 ∧ ¬ s2 = nI 8 ∧ ¬ s2 = nI 9) (m2 : ¬ s2 = -1) :
    (∃ a b, a ≤ 7 ∧ b ≤ 7 ∧ p + 2 < L ∧ fX5_digit L p mt (nI 1) = (nI a, p + 1, nI 1) ∧ fX5_takes L (p + 1) mt (nI 1) (nI ch) = (p + 1 + 1, nI 1) ∧ fX5_digit L (p + 1 + 1) mt (nI 1) = (nI b, p + 1 + 1 + 1, nI 1) ∧ fX1_digit L cs (nI p) = nI a ∧ fX1_digit L cs (nI (p + 2)) = nI b ∧ dfa L cs p s1 = dfa L cs (p + 1 + 1 + 1) (nI 9) ∧ ∀ j, p ≤ j → j < p + 1 + 1 + 1 → c j ≠ 59) ∨
    (∃ y z, y ≤ L ∧ (fX5_digit L (fX5_takes L (fX5_digit L p mt (nI 1)).2.1 mt (fX5_digit L p mt (nI 1)).2.2 (nI ch)).1 mt (fX5_takes L (fX5_digit L p mt (nI 1)).2.1 mt (fX5_digit L p mt (nI 1)).2.2 (nI ch)).2) = (z, y, nI 0) ∧ dfa L cs p s1 = (nI y, nI 0)) := by
  by_cases d1 : p < L ∧ 48 ≤ c p ∧ c p ≤ 55
  · have E1 : fX5_digit L p mt (nI 1) = (nI (c p - 48), p + 1, nI 1) := by rw [dig_n h hp, if_pos d1]
    have D1 : dfa L cs p s1 = dfa L cs (p + 1) s2 := dfa_go h d1.1 (by rw [e1 _ (h.2 p d1.1).2.2, if_pos d1.2]) m2
    rw [E1, D1]
    by_cases d2 : p + 1 < L ∧ ch ≤ c (p + 1) ∧ c (p + 1) ≤ ch
    · have E2 : fX5_takes L (p + 1) mt (nI 1) (nI ch) = (p + 1 + 1, nI 1) := by rw [tak_n h (by omega) hc, if_pos d2]
      have D2 : dfa L cs (p + 1) s2 = dfa L cs (p + 1 + 1) (nI 1) := dfa_go h d2.1 (by rw [e2 _ (h.2 _ d2.1).2.2, if_pos d2.2]) (by decide)
      rw [D2]
      by_cases d3 : p + 1 + 1 < L ∧ 48 ≤ c (p + 1 + 1) ∧ c (p + 1 + 1) ≤ 55
      · have E3 : fX5_digit L (p + 1 + 1) mt (nI 1) = (nI (c (p + 1 + 1) - 48), p + 1 + 1 + 1, nI 1) := by rw [dig_n h (by omega), if_pos d3]
        refine Or.inl ⟨c p - 48, c (p + 1 + 1) - 48, by omega, by omega, d3.1, rfl, E2, E3, cdig_n h d1.1 d1.2.1 d1.2.2, cdig_n h d3.1 d3.2.1 d3.2.2, dfa_go h d3.1 (by rw [af1 _ (h.2 _ d3.1).2.2, if_pos d3.2]) (by decide), fun j j1 j2 => ?_⟩
        have : j = p ∨ j = p + 1 ∨ j = p + 1 + 1 := by omega
        rcases this with rfl | rfl | rfl <;> omega
      · refine Or.inr ⟨p + 1 + 1, nI 0, by omega, ?_, dfa_fail h (by omega) (by decide) fun z => ?_⟩
        · show fX5_digit L (fX5_takes L (p + 1) mt (nI 1) (nI ch)).1 mt (fX5_takes L (p + 1) mt (nI 1) (nI ch)).2 = _
          rw [E2]
          show fX5_digit L (p + 1 + 1) mt (nI 1) = _
          rw [dig_n h (by omega), if_neg d3]
        · rw [af1 _ (h.2 _ z).2.2, if_neg (fun w => d3 ⟨z, w⟩)]
    · refine Or.inr ⟨p + 1, nI 0, by omega, ?_, dfa_fail h (by omega) n2 fun z => ?_⟩
      · show fX5_digit L (fX5_takes L (p + 1) mt (nI 1) (nI ch)).1 mt (fX5_takes L (p + 1) mt (nI 1) (nI ch)).2 = _
        rw [tak_n h (by omega) hc, if_neg d2]
        exact digit_0
      · rw [e2 _ (h.2 _ z).2.2, if_neg (fun w => d2 ⟨z, w⟩)]
  · refine Or.inr ⟨p, nI 0, hp, ?_, dfa_fail h hp n1 fun z => ?_⟩
    · rw [dig_n h hp, if_neg d1]
      show fX5_digit L (fX5_takes L p mt (nI 0) (nI ch)).1 mt (fX5_takes L p mt (nI 0) (nI ch)).2 = _
      rw [takes_0]
      exact digit_0
    · rw [e1 _ (h.2 _ z).2.2, if_neg (fun w => d1 ⟨z, w⟩)]

theorem reads_n {L : Nat} {cs mt md : Nat → Int32} {c : Nat → Nat} (h : TXN L cs mt c) {O P : Nat} (hP : P ≤ L) : RDS L O P cs md c (fX5_reads L O P mt md (nI 1)) := by
  have h60 := h.1
  unfold fX5_reads
  dsimp only
  rw [if_neg (show ¬ nI 1 = 0 by decide), Nat.add_zero]
  by_cases z : P < L
  · rw [if_neg (show ¬ nI L ≤ nI P from fun w => absurd ((nI_leI (by omega) (by omega)).mp w) (by omega)), (h.2 P z).2.1]
    have hx := (h.2 P z).2.2
    have eq : ∀ y, y < 127 → ((nI (c P) = nI y) ↔ c P = y) := fun y hy => nI_eq (by omega) (by omega)
    have ne : ∀ y, y < 127 → c P ≠ y → ¬ nI (c P) = nI y := fun y hy e w => e ((eq y hy).mp w)
    have go : ∀ st, fX1_after (nI 0) (nI (c P)) = st → ¬ st = -1 → dfa L cs P (nI 0) = dfa L cs (P + 1) st := fun st e n => dfa_go h z e n
    have a0 := af0 _ hx
    by_cases e100 : c P = 100
    · rw [if_pos ((eq 100 (by decide)).mpr e100), if_neg (ne 116 (by decide) (by omega)), if_neg (ne 114 (by decide) (by omega))]
      rw [if_pos e100] at a0
      have D0 := go _ a0 (by decide)
      by_cases d1 : P + 1 < L ∧ 48 ≤ c (P + 1) ∧ c (P + 1) ≤ 55
      · rw [dig_n h (by omega), if_pos d1, if_neg (show ¬ nI 1 = 0 by decide)]
        have D1 : dfa L cs (P + 1) (nI 1) = dfa L cs (P + 1 + 1) (nI 9) := dfa_go h d1.1 (by rw [af1 _ (h.2 _ d1.1).2.2, if_pos d1.2]) (by decide)
        refine Or.inr ⟨rfl, rfl, by show P < P + 1 + 1; omega, d1.1, ⟨nI 9, ⟨Or.inr (Or.inr rfl), fun w => af9 _ (h.2 _ w).2.2⟩, D0.trans D1⟩, fun j j1 j2 => ?_, ⟨z, upd3_0, Or.inl ⟨e100, c (P + 1) - 48, by omega, upd3_1, cdig_n h d1.1 d1.2.1 d1.2.2⟩⟩, fun j hj => upd3_n hj⟩
        have j2 : j < P + 1 + 1 := j2
        have : j = P ∨ j = P + 1 := by omega
        rcases this with rfl | rfl <;> omega
      · rw [dig_n h (by omega), if_neg d1, if_pos (show nI 0 = 0 by decide)]
        refine Or.inl ⟨rfl, z, D0.trans (dfa_fail h z (by decide) fun w => ?_)⟩
        rw [af1 _ (h.2 _ w).2.2, if_neg (fun y => d1 ⟨w, y⟩)]
    · rw [if_neg (ne 100 (by decide) e100)]
      rw [if_neg e100] at a0
      by_cases e113 : c P = 113
      · rw [if_pos ((eq 113 (by decide)).mpr e113), if_neg (ne 116 (by decide) (by omega)), if_neg (ne 114 (by decide) (by omega))]
        rw [if_neg (by omega), if_pos e113] at a0
        have D0 := go _ a0 (by decide)
        rcases two_n h (p := P + 1) (ch := 45) z (by decide) (by decide) af2 af3 (by decide) (by decide) (by decide) with ⟨a, b, a7, b7, hl, E1, E2, E3, g1, g2, D1, q⟩ | ⟨y, x, hy, E, D1⟩
        · rw [E1]
          dsimp only
          rw [E2]
          dsimp only
          rw [E3]
          dsimp only
          rw [if_neg (show ¬ nI 1 = 0 by decide)]
          refine Or.inr ⟨rfl, rfl, by show P < P + 1 + 1 + 1 + 1; omega, hl, ⟨nI 9, ⟨Or.inr (Or.inr rfl), fun w => af9 _ (h.2 _ w).2.2⟩, D0.trans D1⟩, fun j j1 j2 => ?_, ⟨z, upd3_0, Or.inr (Or.inl ⟨Or.inl e113, a, b, a7, b7, upd3_1, g1, upd3_2, g2⟩)⟩, fun j hj => upd3_n hj⟩
          by_cases ej : j = P
          · subst ej; omega
          · exact q j (by omega) j2
        · rw [E]
          dsimp only
          rw [if_pos (show nI 0 = 0 by decide)]
          exact Or.inl ⟨rfl, hy, D0.trans D1⟩
      · rw [if_neg (ne 113 (by decide) e113)]
        by_cases e104 : c P = 104
        · rw [if_pos ((eq 104 (by decide)).mpr e104), if_neg (ne 116 (by decide) (by omega)), if_neg (ne 114 (by decide) (by omega))]
          rw [if_pos e104] at a0
          have D0 := go _ a0 (by decide)
          rcases two_n h (p := P + 1) (ch := 62) z (by decide) (by decide) af4 af5 (by decide) (by decide) (by decide) with ⟨a, b, a7, b7, hl, E1, E2, E3, g1, g2, D1, q⟩ | ⟨y, x, hy, E, D1⟩
          · rw [E1]
            dsimp only
            rw [E2]
            dsimp only
            rw [E3]
            dsimp only
            rw [if_neg (show ¬ nI 1 = 0 by decide)]
            refine Or.inr ⟨rfl, rfl, by show P < P + 1 + 1 + 1 + 1; omega, hl, ⟨nI 9, ⟨Or.inr (Or.inr rfl), fun w => af9 _ (h.2 _ w).2.2⟩, D0.trans D1⟩, fun j j1 j2 => ?_, ⟨z, upd3_0, Or.inr (Or.inl ⟨Or.inr e104, a, b, a7, b7, upd3_1, g1, upd3_2, g2⟩)⟩, fun j hj => upd3_n hj⟩
            by_cases ej : j = P
            · subst ej; omega
            · exact q j (by omega) j2
          · rw [E]
            dsimp only
            rw [if_pos (show nI 0 = 0 by decide)]
            exact Or.inl ⟨rfl, hy, D0.trans D1⟩
        · rw [if_neg (ne 104 (by decide) e104)]
          rw [if_neg e104, if_neg e113] at a0
          by_cases e116 : c P = 116
          · rw [if_pos ((eq 116 (by decide)).mpr e116)]
            rw [if_neg (by omega), if_pos e116] at a0
            have D0 := go _ a0 (by decide)
            have N := next_n h (p := P + 1) (lo := 49) (hi := 57) z (by decide) (by decide)
            by_cases d1 : P + 1 < L ∧ 49 ≤ c (P + 1) ∧ c (P + 1) ≤ 57
            · rw [if_pos d1] at N
              have E : fX5_days L (P + 1) mt (nI 1) = (nI (dgs L c 3 (P + 1) 0).1, (dgs L c 3 (P + 1) 0).2, nI 1) := days_n h N 3 0 (P + 1) 0 z
              rw [E]
              dsimp only
              rw [if_neg (show ¬ nI 1 = 0 by decide)]
              obtain ⟨st, s1, s2, s3, s4, s5⟩ := days_dfa h d1.1 d1.2.1 d1.2.2
              have bd := dgs_bd (L := L) (c := c) 3 (P + 1) 0
              refine Or.inr ⟨rfl, rfl, by show P < (dgs L c 3 (P + 1) 0).2; omega, s4, ⟨st, s1, D0.trans s2⟩, fun j j1 j2 => ?_, ⟨z, upd3_0, Or.inr (Or.inr (Or.inr ⟨e116, (dgs L c 3 (P + 1) 0).1, by omega, upd3_1, num_n h 3 (P + 1) 0 z⟩))⟩, fun j hj => upd3_n hj⟩
              by_cases ej : j = P
              · subst ej; omega
              · exact s5 j (by omega) j2
            · rw [if_neg d1] at N
              rw [days_0 N]
              dsimp only
              rw [if_pos (show nI 0 = 0 by decide)]
              refine Or.inl ⟨rfl, z, D0.trans (dfa_fail h z (by decide) fun w => ?_)⟩
              rw [af6 _ (h.2 _ w).2.2, if_neg (fun y => d1 ⟨w, y⟩)]
          · rw [if_neg (ne 116 (by decide) e116)]
            by_cases e114 : c P = 114
            · rw [if_pos ((eq 114 (by decide)).mpr e114)]
              rw [if_pos e114] at a0
              have D0 := go _ a0 (by decide)
              refine Or.inr ⟨rfl, rfl, by show P < P + 1; omega, z, ⟨nI 9, ⟨Or.inr (Or.inr rfl), fun w => af9 _ (h.2 _ w).2.2⟩, D0⟩, fun j j1 j2 => ?_, ⟨z, upd3_0, Or.inr (Or.inr (Or.inl e114))⟩, fun j hj => upd3_n hj⟩
              have j2 : j < P + 1 := j2
              have : j = P := by omega
              subst this; omega
            · rw [if_neg (ne 114 (by decide) e114), digit_0]
              rw [if_neg e114, if_neg e116] at a0
              dsimp only
              rw [takes_0]
              dsimp only
              rw [digit_0]
              dsimp only
              rw [if_pos (show nI 0 = 0 by decide)]
              exact Or.inl ⟨rfl, hP, dfa_dead h z a0⟩
  · rw [if_pos (show nI L ≤ nI P from (nI_leI (by omega) (by omega)).mpr (by omega)), digit_0]
    dsimp only
    rw [takes_0]
    dsimp only
    rw [digit_0]
    dsimp only
    rw [if_pos (show nI 0 = 0 by decide)]
    exact Or.inl ⟨rfl, hP, dfa_fail h hP (by decide) fun w => absurd w z⟩
theorem reads_0 {L O P : Nat} {mt md : Nat → Int32} : fX5_reads L O P mt md (nI 0) = (md, O, P, nI 0) := by
  unfold fX5_reads
  dsimp only
  rw [if_pos (show nI 0 = 0 by decide), Nat.add_zero, digit_0]
  dsimp only
  rw [takes_0]
  dsimp only
  rw [digit_0]
  dsimp only
  rw [if_pos (show nI 0 = 0 by decide)]
/-- the orders read so far, the last one ends before p -/
def ORD (L : Nat) (cs md : Nat → Int32) (c : Nat → Nat) (O p : Nat) : Prop :=
  ∃ s : Nat → Nat, 0 < O ∧ s 0 = 0 ∧ s O = p + 1 ∧ ∀ k, k < O → s k + 1 < s (k + 1) ∧ s (k + 1) ≤ L + 1 ∧ (k + 1 < O → c (s (k + 1) - 1) = 59) ∧ (∀ j, s k ≤ j → j + 1 < s (k + 1) → c j ≠ 59) ∧ ROW L cs md c k (s k)
theorem ROW.keep {L : Nat} {cs md md' : Nat → Int32} {c : Nat → Nat} {k s : Nat} (h : ROW L cs md c k s) (e : ∀ j, j < 3 * (k + 1) → md' j = md j) : ROW L cs md' c k s := by
  unfold ROW at h ⊢
  rw [e (3 * k) (by omega), e (3 * k + 1) (by omega), e (3 * k + 2) (by omega)]
  exact h
theorem ORD.next {L : Nat} {cs md md' : Nat → Int32} {c : Nat → Nat} {O p q : Nat} (h : ORD L cs md c O p) (hc : c p = 59) (hq : p + 1 < q) (hL : q ≤ L) (h9 : ∀ j, p + 1 ≤ j → j < q → c j ≠ 59) (hR : ROW L cs md' c O (p + 1)) (e : ∀ j, j < 3 * O → md' j = md j) : ORD L cs md' c (O + 1) q := by
  obtain ⟨s, s1, s2, s3, s4⟩ := h
  have at' : ∀ k, k ≤ O → (fun k => if k = O + 1 then q + 1 else s k) k = s k := fun k hk => if_neg (by omega)
  refine ⟨fun k => if k = O + 1 then q + 1 else s k, by omega, by rw [at' 0 (by omega)]; exact s2, if_pos rfl, fun k hk => ?_⟩
  rw [at' k (by omega)]
  by_cases ek : k = O
  · subst ek
    rw [show (fun m => if m = k + 1 then q + 1 else s m) (k + 1) = q + 1 from if_pos rfl, s3]
    exact ⟨by omega, by omega, fun z => absurd z (by omega), fun j j1 j2 => h9 j j1 (by omega), hR⟩
  · rw [at' (k + 1) (by omega)]
    obtain ⟨t1, t2, t3, t4, t5⟩ := s4 k (by omega)
    refine ⟨t1, t2, fun z => ?_, t4, t5.keep fun j hj => e j (by omega)⟩
    by_cases e1 : k + 1 < O
    · exact t3 e1
    · have : k + 1 = O := by omega
      rw [this, s3]
      exact hc
theorem stE.not {L : Nat} {c : Nat → Nat} {p : Nat} {st : Int32} (h : stE L c p st) : (if st = nI 7 then nI 1 else if st = nI 8 then nI 1 else if st = nI 9 then nI 1 else nI 0) = nI 1 := by
  rcases h.1 with rfl | rfl | rfl <;> decide
theorem are_n {L : Nat} {cs mt : Nat → Int32} {c : Nat → Nat} (h : TXN L cs mt c) : ∀ n md O p, p ≤ L → L < p + n →
    (∀ st, stE L c p st → ORD L cs md c O p → ∃ z, fX5_areDays_L19 L mt n md (nI 1) O p = z ∧ dfa L cs p st = (nI z.2.2.2.1, z.1) ∧ (z.1 = nI 0 ∨ z.1 = nI 1 ∧ ORD L cs z.2.1 c z.2.2.1 L)) := by
  have h60 := h.1
  intro n
  induction n with
  | zero => intro md O p h1 h2; omega
  | succ n ih =>
    intro md O p hp hn st hs hO
    refine ⟨_, rfl, ?_⟩
    simp only [fX5_areDays_L19]
    rw [if_neg (show ¬ nI 1 = 0 by decide)]
    by_cases z : p < L
    · rw [if_neg (show ¬ nI L ≤ nI p from fun w => absurd ((nI_leI (by omega) (by omega)).mp w) (by omega)), tak_n h hp (by decide)]
      have hst := hs.2 z
      obtain ⟨n, rfl⟩ : ∃ m, n = m + 1 := ⟨n - 1, by omega⟩
      by_cases e : p < L ∧ 59 ≤ c p ∧ c p ≤ 59
      · rw [if_pos e]
        dsimp only
        have hr := reads_n h (md := md) (O := O) (P := p + 1) z
        rw [if_pos (show c p = 59 by omega)] at hst
        rw [dfa_go h z hst (by decide)]
        generalize fX5_reads L O (p + 1) mt md (nI 1) = r at hr ⊢
        rcases hr with ⟨r1, r2, r3⟩ | ⟨r1, r2, r3, r4, ⟨st', t1, t2⟩, r6, r7, r8⟩
        · rw [r1]
          simp only [fX5_areDays_L19]
          rw [if_pos (show nI 0 = 0 by decide)]
          exact ⟨r3, Or.inl rfl⟩
        · rw [r1, r2, t2]
          obtain ⟨y, y1, y2, y3⟩ := ih r.1 (O + 1) r.2.2.1 r4 (by omega) st' t1 (hO.next (by omega) r3 r4 r6 r7 r8)
          rw [y1]
          exact ⟨y2, y3⟩
      · rw [if_neg e]
        dsimp only
        rw [reads_0]
        simp only [fX5_areDays_L19]
        rw [if_pos (show nI 0 = 0 by decide)]
        rw [if_neg (show ¬ c p = 59 from fun w => e ⟨z, by omega, by omega⟩)] at hst
        exact ⟨dfa_dead h z hst, Or.inl rfl⟩
    · rw [if_pos (show nI L ≤ nI p from (nI_leI (by omega) (by omega)).mpr (by omega))]
      have : p = L := by omega
      subst this
      rw [dfa_end, hs.not]
      exact ⟨rfl, Or.inr ⟨rfl, hO⟩⟩
theorem days_c {L : Nat} {cs mt md : Nat → Int32} {c : Nat → Nat} (h : TXN L cs mt c) : ∃ z, fX5_areDays L mt md = z ∧ fX1_errorIndex L cs = nI z.2.2.2.1 ∧ fX1_isWhole L cs = z.1 ∧ (z.1 = nI 0 ∨ z.1 = nI 1 ∧ ORD L cs z.2.1 c z.2.2.1 L) := by
  have hr := reads_n h (md := md) (O := 0) (P := 0) (Nat.zero_le L)
  refine ⟨_, rfl, ?_⟩
  have hd : (fX1_errorIndex L cs, fX1_isWhole L cs) = dfa L cs 0 (nI 0) := by unfold dfa fX1_errorIndex fX1_isWhole; rfl
  unfold fX5_areDays
  dsimp only
  generalize fX5_reads L 0 0 mt md (nI 1) = r at hr ⊢
  rcases hr with ⟨r1, r2, r3⟩ | ⟨r1, r2, r3, r4, ⟨st', t1, t2⟩, r6, r7, r8⟩
  · rw [r1]
    simp only [fX5_areDays_L19]
    rw [if_pos (show nI 0 = 0 by decide)]
    rw [r3] at hd
    have h1 := congrArg Prod.fst hd
    have h2 := congrArg Prod.snd hd
    exact ⟨h1, h2, Or.inl rfl⟩
  · rw [r1, r2]
    have hO : ORD L cs r.1 c (0 + 1) r.2.2.1 := by
      refine ⟨fun k => if k = 0 then 0 else r.2.2.1 + 1, by omega, rfl, rfl, fun k hk => ?_⟩
      have : k = 0 := by omega
      subst this
      exact ⟨by show 0 + 1 < r.2.2.1 + 1; omega, by show r.2.2.1 + 1 ≤ L + 1; omega, fun z => absurd z (by omega), fun j _ j2 => r6 j (Nat.zero_le _) (by have j2 : j + 1 < r.2.2.1 + 1 := j2; omega), r7⟩
    obtain ⟨y, y1, y2, y3⟩ := are_n h (L + 2) r.1 (0 + 1) r.2.2.1 r4 (by omega) st' t1 hO
    rw [y1]
    rw [t2, y2] at hd
    exact ⟨congrArg Prod.fst hd, congrArg Prod.snd hd, y3⟩
theorem q_first {L : Nat} {cs mt md : Nat → Int32} (h : TXR L cs mt) : (fX5_firstError L mt md).1 = fX4_firstError L cs ∧ (fX5_firstError L mt md).2.2.1 = nI 0 := by
  obtain ⟨z, z1, z2, z3⟩ := days_c (md := md) h.nat
  unfold fX5_firstError fX4_firstError
  rw [z1, z2]
  exact ⟨rfl, rfl⟩
