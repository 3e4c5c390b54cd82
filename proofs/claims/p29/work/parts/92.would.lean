/-! ===== needed, peace ===== -/
theorem bury_ck {ck : Nat → Int32} {P : Nat → Nat → Nat} (hK : CK ck P) (k : Nat) : CK ck (buryP P k) := hK.same (Or.inl rfl) rfl rfl
def neF (P : Nat → Nat → Nat) (k : Nat) : Bool := (P 0 1).testBit k && decide (grN (buryP P k) = 0)
theorem needed17 {v : Nat → Nat → Int32} {P : Nat → Nat → Nat} (hC : CV v P) (hW : WF P) {ck : Nat → Int32} (hK : CK ck P) : ∀ n i v2 o p, i + n = 8 → o 0 = 0 → p 0 = 0 → (fX4_needed_L17 v ck n i (nI (orL (neF P) i)) v2 o p).1 = nI (orL (neF P) 8) ∧ (fX4_needed_L17 v ck n i (nI (orL (neF P) i)) v2 o p).2.2.1 0 = 0 ∧ (fX4_needed_L17 v ck n i (nI (orL (neF P) i)) v2 o p).2.2.2 0 = 0 := by
  intro n
  induction n with
  | zero => intro i v2 o p hi ho hp; have : i = 8 := by omega
            subst this; exact ⟨rfl, ho, hp⟩
  | succ n ih =>
    intro i v2 o p hi ho hp
    have hi8 : i < 8 := by omega
    simp only [fX4_needed_L17]
    rw [lives_n (hC.1 0 (by decide)) (hC.1 1 (by decide)) hW.1.1 hW.1.2.1 hi8]
    cases hb : (P 0 1).testBit i with
    | false =>
      rw [if_pos (by decide)]
      have := ih (i + 1) v2 o p (by omega) ho hp
      rw [orS0 (by unfold neF; simp [hb])] at this
      exact this
    | true =>
      rw [if_neg (by decide)]
      obtain ⟨b1, b2⟩ := bury_n hC hW hi8
      have wb := buryP_w hW hi8
      obtain ⟨a1, a2⟩ := anyCould_n b2 wb (bury_ck hK i) ho hp
      obtain ⟨l1, l2⟩ := look_0 b2 wb ho hp
      rw [shl1 (by omega), nI_or]
      generalize fX2_bury v (nI i) = B at a1 a2 l1 l2 ⊢
      generalize fX4_anyCouldOpen ck o p B.2 = C at a1 a2 ⊢
      rw [← a2] at l1 l2
      by_cases g : grN (buryP P i) = 0
      · rw [if_pos (a1.mpr g)]
        have := ih (i + 1) B.2 C.2.1 C.2.2 (by omega) l1 l2
        rw [orS1 (by unfold neF; simp [hb, g])] at this
        exact this
      · rw [if_neg (fun z => g (a1.mp z))]
        have := ih (i + 1) B.2 C.2.1 C.2.2 (by omega) l1 l2
        rw [orS0 (by unfold neF; simp [g])] at this
        exact this
def neN (P : Nat → Nat → Nat) : Nat := if grN P = 0 then 0 else orL (neF P) 8
theorem needed_n {v vsp : Nat → Nat → Int32} {P : Nat → Nat → Nat} (hC : CV v P) (hW : WF P) {ck : Nat → Int32} (hK : CK ck P) {o p : Nat → Int32} (ho : o 0 = 0) (hp : p 0 = 0) :
    (fX4_needed v vsp ck o p).1 = nI (neN P) ∧ (fX4_needed v vsp ck o p).2.2.1 0 = 0 ∧ (fX4_needed v vsp ck o p).2.2.2 0 = 0 := by
  obtain ⟨a1, a2⟩ := anyCould_n hC hW hK ho hp
  obtain ⟨l1, l2⟩ := look_0 hC hW ho hp
  unfold fX4_needed neN
  simp only []
  generalize fX4_anyCouldOpen ck o p v = C at a1 a2 ⊢
  rw [← a2] at l1 l2
  by_cases g : grN P = 0
  · rw [if_pos (a1.mpr g), if_pos g]; exact ⟨rfl, l1, l2⟩
  · rw [if_neg (fun z => g (a1.mp z)), if_neg g]
    exact needed17 hC hW hK 8 0 vsp C.2.1 C.2.2 rfl l1 l2
theorem orL_cut {f : Nat → Bool} {K n : Nat} (hK : K ≤ n) (h : ∀ k, K ≤ k → k < n → f k = false) : orL f K = orL f n := by
  refine Nat.eq_of_testBit_eq fun j => ?_
  rw [orL_bit, orL_bit]
  by_cases a : j < K
  · have : j < n := by omega
    simp [a, this]
  · by_cases b : j < n
    · simp [a, b, h j (by omega) b]
    · simp [a, b]
/-! peace -/
theorem pop_x {x r i : Nat} (hx : x < 256) (hr : r < 256) (hi : i < 8) (hb : x.testBit i = true) : pop (x &&& r) = pop ((x ^^^ 2 ^ i) &&& r) + (if r.testBit i then 1 else 0) := by
  have h1 : x &&& r < 256 := Nat.lt_of_le_of_lt Nat.and_le_left hx
  have h2 : (x ^^^ 2 ^ i) &&& r < 256 := Nat.lt_of_le_of_lt Nat.and_le_right hr
  rw [pop_bits _ h1, pop_bits _ h2]
  rw [sumN_congr (g := fun k => (if ((x ^^^ 2 ^ i) &&& r).testBit k then 1 else 0) + (if k = i then (if r.testBit i then 1 else 0) else 0)) (fun k hk => ?_), sumN_add, sumN_one, if_pos hi]
  show (if (x &&& r).testBit k then 1 else 0) = (if ((x ^^^ 2 ^ i) &&& r).testBit k then 1 else 0) + (if k = i then (if r.testBit i then 1 else 0) else 0)
  rw [Nat.testBit_and, Nat.testBit_and, Nat.testBit_xor, Nat.testBit_two_pow]
  by_cases e : k = i
  · subst e
    rw [hb]
    cases r.testBit k <;> simp
  · have : ¬ i = k := fun z => e z.symm
    simp [e, this]
theorem prs_tog {P : Nat → Nat → Nat} (hW : WF P) {i j g : Nat} (hij : i < j) (hj : j < 8) (hg : g < 256) (hb : (P 2 i).testBit j = true) : prs P g = prs (togP P i j) g + (if g.testBit i && g.testBit j then 1 else 0) := by
  have hi : i < 8 := by omega
  have hne : i ≠ j := by omega
  have hb2 : (P 2 j).testBit i = true := by rw [← (hW.2 i hi).2.2.2.2.1 j hj]; exact hb
  unfold prs
  rw [sumN_congr (g := fun h => (if g.testBit h then pop (togP P i j 2 h &&& (g % 2 ^ h)) else 0) + (if h = j then (if g.testBit i && g.testBit j then 1 else 0) else 0)) (fun h hh => ?_), sumN_add, sumN_one, if_pos hj]
  show (if g.testBit h then pop (P 2 h &&& (g % 2 ^ h)) else 0) = (if g.testBit h then pop (togP P i j 2 h &&& (g % 2 ^ h)) else 0) + (if h = j then (if g.testBit i && g.testBit j then 1 else 0) else 0)
  rw [togP_at hne]
  by_cases ej : h = j
  · subst ej
    rw [if_pos rfl, if_pos rfl]
    by_cases gb : g.testBit h = true
    · rw [if_pos gb, if_pos gb, pop_x (hW.qm hh) (Nat.lt_of_le_of_lt (Nat.mod_le _ _) hg) hi hb2, Nat.testBit_mod_two_pow, gb]
      simp [hij]
    · have gb' : g.testBit h = false := by simpa using gb
      simp [gb']
  · rw [if_neg ej, if_neg ej, Nat.add_zero]
    by_cases ei : h = i
    · subst ei
      rw [if_pos rfl]
      have : (P 2 h ^^^ 2 ^ j) &&& (g % 2 ^ h) = P 2 h &&& (g % 2 ^ h) := by
        refine Nat.eq_of_testBit_eq fun k => ?_
        rw [Nat.testBit_and, Nat.testBit_and, Nat.testBit_xor, Nat.testBit_two_pow, Nat.testBit_mod_two_pow]
        by_cases e : j = k
        · have : ¬ k < h := by omega
          simp [this]
        · simp [e]
      rw [this]
    · rw [if_neg ei]
def gpB (P : Nat → Nat → Nat) (i j g : Nat) : Bool := decide (g &&& (2 ^ i ||| 2 ^ j) = 2 ^ i ||| 2 ^ j) && (decide (prs P g = 1) && fkB P g)
theorem pair_iff : ∀ i, i < 8 → ∀ j, j < 8 → ∀ g, g < 256 → decide (g &&& (2 ^ i ||| 2 ^ j) = 2 ^ i ||| 2 ^ j) = (g.testBit i && g.testBit j) := by
  intro i hi j hj g hg
  apply Bool.eq_iff_iff.mpr
  rw [decide_eq_true_eq, Bool.and_eq_true]
  constructor
  · intro h
    have e : ∀ k, (2 ^ i ||| 2 ^ j).testBit k = true → g.testBit k = true := fun k hk => by
      have : (g &&& (2 ^ i ||| 2 ^ j)).testBit k = true := by rw [h]; exact hk
      rw [Nat.testBit_and, Bool.and_eq_true] at this
      exact this.1
    exact ⟨e i (by rw [Nat.testBit_or, Nat.testBit_two_pow]; simp), e j (by rw [Nat.testBit_or, Nat.testBit_two_pow, Nat.testBit_two_pow]; simp)⟩
  · rintro ⟨h1, h2⟩
    refine Nat.eq_of_testBit_eq fun k => ?_
    rw [Nat.testBit_and, Nat.testBit_or, Nat.testBit_two_pow, Nat.testBit_two_pow]
    by_cases e1 : i = k
    · subst e1; simp [h1]
    · by_cases e2 : j = k
      · subst e2; simp [h2]
      · simp [e1, e2]
def gaN (P : Nat → Nat → Nat) (i j : Nat) : Nat := if (P 2 i).testBit j then cntF (gpB P i j) 255 1 else 0
theorem gaN_le (P : Nat → Nat → Nat) (i j : Nat) : gaN P i j ≤ 255 := by
  unfold gaN
  have := cntF_le (gpB P i j) 255 1
  split <;> omega
theorem gr_tog {P : Nat → Nat → Nat} (hW : WF P) {i j : Nat} (hij : i < j) (hj : j < 8) (hb : (P 2 i).testBit j = true) : grN (togP P i j) = grN P + gaN P i j := by
  unfold gaN
  rw [if_pos hb]
  unfold grN
  refine cntF_add fun g g1 g2 => ?_
  have hp := prs_tog hW hij hj (show g < 256 by omega) hb
  have ef : fkB (togP P i j) g = fkB P g := rfl
  rw [opB_eq _ (by omega), opB_eq _ (by omega), ef]
  unfold gpB
  rw [pair_iff i (by omega) j hj g (by omega)]
  cases hc : (g.testBit i && g.testBit j) with
  | false =>
    rw [hc] at hp
    have hp : prs P g = prs (togP P i j) g := by simpa using hp
    rw [hp]; simp
  | true =>
    rw [hc] at hp
    have hp : prs P g = prs (togP P i j) g + 1 := by simpa using hp
    cases fkB P g with
    | false => simp
    | true =>
      have e1 : ¬ prs P g = 0 := by omega
      by_cases z : prs (togP P i j) g = 0
      · have : prs P g = 1 := by omega
        simp [z, this]
      · have : ¬ prs P g = 1 := by omega
        simp [z, this, e1]
/-- a gain wants both alive -/
theorem ga_alive {P : Nat → Nat → Nat} {i j : Nat} (hi : i < 8) (hj : j < 8) (h : ¬ ((P 0 1).testBit i = true ∧ (P 0 1).testBit j = true)) : gaN P i j = 0 := by
  unfold gaN
  by_cases hb : (P 2 i).testBit j = true
  · rw [if_pos hb]
    refine Nat.eq_zero_of_not_pos fun hpos => h ?_
    rw [cntF_pos, anyF_iff] at hpos
    obtain ⟨g, g1, g2, g3⟩ := hpos
    unfold gpB at g3
    rw [pair_iff i hi j hj g (by omega)] at g3
    simp only [Bool.and_eq_true] at g3
    obtain ⟨⟨a, b⟩, -, f⟩ := g3
    unfold fkB at f
    simp only [Bool.and_eq_true] at f
    have hs := subB_iff.mp f.2.1
    exact ⟨hs i hi a, hs j hj b⟩
  · rw [if_neg hb]
theorem cntF_split (C : Nat → Bool) : ∀ a n i, cntF C (a + n) i = cntF C a i + cntF C n (i + a) := by
  intro a
  induction a with
  | zero => intro n i; simp [cntF]
  | succ a ih =>
    intro n i
    rw [show a + 1 + n = (a + n) + 1 by omega]
    simp only [cntF]
    rw [ih n (i + 1), show i + 1 + a = i + (a + 1) by omega]
    omega
theorem cntF_none {C : Nat → Bool} : ∀ {n i : Nat}, (∀ k, i ≤ k → k < i + n → C k = false) → cntF C n i = 0 := by
  intro n
  induction n with
  | zero => intro i _; rfl
  | succ n ih =>
    intro i h
    rw [cntF_f (h i (by omega) (by omega))]
    exact ih fun k h1 h2 => h k (by omega) (by omega)
theorem gain_n {v : Nat → Nat → Int32} {P : Nat → Nat → Nat} (hC : CV v P) (hW : WF P) {ck : Nat → Int32} (hK : CK ck P) {o p : Nat → Int32} (hL : looked P o p 256) {i j : Nat} (hi : i < 8) (hj : j < 8) : fX4_gainOfPeace v ck o p i j = nI (gaN P i j) := by
  have hpi := p2le hi
  have hpj := p2le hj
  have hpr : 2 ^ i ||| 2 ^ j < 256 := orlt (by omega) (by omega)
  have hpr1 : 1 ≤ 2 ^ i ||| 2 ^ j := Nat.le_trans (Nat.two_pow_pos i) Nat.left_le_or
  have key : ∀ n g x, g + n = 256 → fX4_gainOfPeace_L28 v ck o p i j n g (nI x) = nI (x + cntF (gpB P i j) n g) := by
    intro n
    induction n with
    | zero => intro g x _; rfl
    | succ n ih =>
      intro g x hg
      have hg8 : g < 256 := by omega
      have hpl := prs_lt P g
      simp only [fX4_gainOfPeace_L28]
      rw [xI_and, pairsIn_n hL hg8]
      have hle : g &&& (2 ^ i ||| 2 ^ j) < 256 := Nat.lt_of_le_of_lt Nat.and_le_left hg8
      by_cases c1 : g &&& (2 ^ i ||| 2 ^ j) = 2 ^ i ||| 2 ^ j
      · rw [if_pos (by rw [c1])]
        by_cases c2 : prs P g = 1
        · rw [if_pos (by rw [c2])]
          by_cases c3 : fkB P g = false
          · rw [if_pos ((findsKey_n hC hW hK hL hg8).mpr c3), ih (g + 1) x (by omega), cntF_f (by unfold gpB; simp [c3])]
          · have c3' : fkB P g = true := by simpa using c3
            rw [if_neg (fun z => c3 ((findsKey_n hC hW hK hL hg8).mp z)), nI_add, ih (g + 1) (x + 1) (by omega), cntF_t (by unfold gpB; simp [c1, c2, c3']), Nat.add_assoc]
        · rw [if_neg (fun z => c2 ((nI_eq (by omega) (by decide)).mp z)), ih (g + 1) x (by omega), cntF_f (by unfold gpB; simp [c2])]
      · rw [if_neg (fun z => c1 ((nI_eq (by omega) (by omega)).mp z)), ih (g + 1) x (by omega), cntF_f (by unfold gpB; simp [c1])]
  unfold fX4_gainOfPeace
  have ea : fX2_areAtOdds v (nI i) (nI j) = fX5_has (v 2 i) (nI j) := by
    unfold fX2_areAtOdds
    rw [nI_clamp (by omega)]
    rfl
  rw [ea, (hC.2 i hi).2.1]
  unfold gaN
  by_cases hb : (P 2 i).testBit j = true
  · suffices ec : cntF (gpB P i j) (256 - (2 ^ i ||| 2 ^ j)) (2 ^ i ||| 2 ^ j) = cntF (gpB P i j) 255 1 by
      rw [if_neg (fun z => by rw [has0 (hW.qm hi) hj, hb] at z; cases z), if_pos hb, ← ec]
      have := key (256 - (2 ^ i ||| 2 ^ j)) (2 ^ i ||| 2 ^ j) 0 (by omega)
      rw [Nat.zero_add] at this
      exact this
    have hs := cntF_split (gpB P i j) ((2 ^ i ||| 2 ^ j) - 1) (256 - (2 ^ i ||| 2 ^ j)) 1
    rw [show (2 ^ i ||| 2 ^ j) - 1 + (256 - (2 ^ i ||| 2 ^ j)) = 255 by omega, show 1 + ((2 ^ i ||| 2 ^ j) - 1) = 2 ^ i ||| 2 ^ j by omega] at hs
    rw [hs, cntF_none (C := gpB P i j) (n := (2 ^ i ||| 2 ^ j) - 1) fun g g1 g2 => ?_, Nat.zero_add]
    unfold gpB
    have : ¬ g &&& (2 ^ i ||| 2 ^ j) = 2 ^ i ||| 2 ^ j := fun z => by
      have := Nat.and_le_left (n := g) (m := 2 ^ i ||| 2 ^ j)
      omega
    simp [this]
  · have hb' : (P 2 i).testBit j = false := by simpa using hb
    rw [if_pos ((has0 (hW.qm hi) hj).mpr hb'), if_neg hb]
/-- the best pair -/
def pjF (G : Nat → Nat → Nat) (la : Int32) (i : Nat) : Nat → Nat → Int32 × Nat → Int32 × Nat
  | 0, _, s => s
  | n + 1, j, s => pjF G la i n (j + 1) (if G i j ≤ s.2 then s else ((if la = 0 then nI i else nI j), G i j))
def piF (G : Nat → Nat → Nat) (la : Int32) : Nat → Nat → Int32 × Nat → Int32 × Nat
  | 0, _, s => s
  | n + 1, i, s => piF G la n (i + 1) (pjF G la i (8 - (i + 1)) (i + 1) s)
theorem pj_skip {G : Nat → Nat → Nat} {la : Int32} {i : Nat} : ∀ n j s, (∀ k, j ≤ k → k < j + n → G i k = 0) → pjF G la i n j s = s := by
  intro n
  induction n with
  | zero => intro j s _; rfl
  | succ n ih =>
    intro j s h
    simp only [pjF]
    rw [if_pos (by rw [h j (by omega) (by omega)]; exact Nat.zero_le _)]
    exact ih (j + 1) s fun k h1 h2 => h k (by omega) (by omega)
theorem pj_app {G : Nat → Nat → Nat} {la : Int32} {i : Nat} : ∀ a n j s, pjF G la i (a + n) j s = pjF G la i n (j + a) (pjF G la i a j s) := by
  intro a
  induction a with
  | zero => intro n j s; simp [pjF]
  | succ a ih =>
    intro n j s
    rw [show a + 1 + n = (a + n) + 1 by omega]
    simp only [pjF]
    rw [ih, show j + 1 + a = j + (a + 1) by omega]
theorem pi_skip {G : Nat → Nat → Nat} {la : Int32} : ∀ n i s, (∀ k j, i ≤ k → k < i + n → j < 8 → G k j = 0) → piF G la n i s = s := by
  intro n
  induction n with
  | zero => intro i s _; rfl
  | succ n ih =>
    intro i s h
    simp only [piF]
    rw [pj_skip _ _ _ (fun k _ _ => h i k (Nat.le_refl _) (by omega) (by omega))]
    exact ih (i + 1) s fun k j h1 h2 h3 => h k j (by omega) (by omega) h3
theorem pi_app {G : Nat → Nat → Nat} {la : Int32} : ∀ a n i s, piF G la (a + n) i s = piF G la n (i + a) (piF G la a i s) := by
  intro a
  induction a with
  | zero => intro n i s; simp [piF]
  | succ a ih =>
    intro n i s
    rw [show a + 1 + n = (a + n) + 1 by omega]
    simp only [piF]
    rw [ih, show i + 1 + a = i + (a + 1) by omega]
theorem peace_c {v : Nat → Nat → Int32} {P : Nat → Nat → Nat} (hC : CV v P) (hW : WF P) {ck : Nat → Int32} (hK : CK ck P) {o p : Nat → Int32} (ho : o 0 = 0) (hp : p 0 = 0) (la : Int32) :
    (fX4_peace v ck o p la).1 = (piF (gaN P) la 8 0 (-1, 0)).1 ∧ (fX4_peace v ck o p la).2.1 0 = 0 ∧ (fX4_peace v ck o p la).2.2 0 = 0 := by
  have hL := look_n hC hW ho hp
  obtain ⟨l1, l2⟩ := look_0 hC hW ho hp
  unfold fX4_peace
  simp only []
  generalize fX3_look o p v = Z at hL l1 l2 ⊢
  have kj : ∀ (kk : Nat → Int32 → Int32 → Int32 × (Nat → Int32) × (Nat → Int32)) i, i < 8 → ∀ n j s, j + n = 8 → s.2 ≤ 255 → ∃ t : Int32 × Nat, t = pjF (gaN P) la i n j s ∧ t.2 ≤ 255 ∧ fX4_peace_L31 kk v ck la Z i n j s.1 (nI s.2) = kk (i + 1) t.1 (nI t.2) := by
    intro kk i hi n
    induction n with
    | zero => intro j s _ hs; exact ⟨s, rfl, hs, rfl⟩
    | succ n ih =>
      intro j s hj hs
      have hle := gaN_le P i j
      simp only [fX4_peace_L31, pjF]
      rw [gain_n hC hW hK hL hi (by omega)]
      by_cases c : gaN P i j ≤ s.2
      · rw [if_pos ((nI_leI (by omega) (by omega)).mpr c), if_pos c]
        exact ih (j + 1) s (by omega) hs
      · rw [if_neg (fun z => c ((nI_leI (by omega) (by omega)).mp z)), if_neg c]
        by_cases e : la = 0
        · rw [if_pos e, if_pos e]
          exact ih (j + 1) (nI i, gaN P i j) (by omega) hle
        · rw [if_neg e, if_neg e]
          exact ih (j + 1) (nI j, gaN P i j) (by omega) hle
  have ki : ∀ n i s, i + n = 8 → s.2 ≤ 255 → fX4_peace_L18 v ck la Z n i s.1 (nI s.2) = ((piF (gaN P) la n i s).1, Z.1, Z.2) := by
    intro n
    induction n with
    | zero => intro i s _ _; rfl
    | succ n ih =>
      intro i s hi hs
      simp only [fX4_peace_L18, piF]
      obtain ⟨t, t1, t2, t3⟩ := kj (fX4_peace_L18 v ck la Z n) i (by omega) (8 - (i + 1)) (i + 1) s (by omega) hs
      rw [t3, ← t1]
      exact ih (i + 1) t (by omega) t2
  have h := ki 8 0 (-1, 0) rfl (Nat.zero_le _)
  rw [show fX4_peace_L18 v ck la Z 8 0 (-1) (nI 0) = _ from h]
  exact ⟨rfl, l1, l2⟩
