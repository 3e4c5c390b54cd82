/-! ===== what holds behind every call: shares are owned by keepers who live; shares that were dealt and not forged tell one key ===== -/
theorem dot_lin1 (f g c : Nat → Nat) (x : Nat) : ∀ n, dotN (fun k => f k + x * g k) c n = dotN f c n + x * dotN g c n := by
  intro n
  induction n with
  | zero => rfl
  | succ n ih =>
    have e : ∀ a : Nat → Nat, dotN a c (n + 1) = dotN a c n + a n * c n := fun _ => rfl
    rw [e, e, e, ih, Nat.add_mul, Nat.mul_add, Nat.mul_assoc]
    omega
theorem dot_mod (f c : Nat → Nat) : ∀ n, dotN (fun k => f k % 251) c n % 251 = dotN f c n % 251 := by
  intro n
  induction n with
  | zero => rfl
  | succ n ih =>
    have e : ∀ a : Nat → Nat, dotN a c (n + 1) = dotN a c n + a n * c n := fun _ => rfl
    rw [e, e, Nat.add_mod, ih, Nat.mod_mul_mod, ← Nat.add_mod]
theorem dot_fc {a b c : Nat → Nat} {n : Nat} (h : ∀ k, k < n → a k = b k) : dotN a c n = dotN b c n := by
  unfold dotN
  exact sumN_congr fun k hk => by rw [h k hk]
theorem tabI : ∀ U, U < 256 → ∀ j, j < 8 → j < pop U → dotN (fun k => (k + 1) ^ j) (coL U 0) 8 % 251 = if j = 0 then 1 else 0 := by decide +kernel
theorem tabPq : ∀ m, m < 256 → ∀ q, q < 9 → q ≤ pop m → pop (lowq m q) = q := by decide +kernel
theorem ipol (c : Nat → Nat) {U : Nat} (hU : U < 256) : ∀ n, n ≤ pop U → dotN (fun k => sumN (fun j => c j * (k + 1) ^ j) n) (coL U 0) 8 % 251 = (if n = 0 then 0 else c 0) % 251 := by
  intro n
  induction n with
  | zero =>
    intro _
    have : ∀ n, dotN (fun _ => 0) (coL U 0) n = 0 := by
      intro n
      induction n with
      | zero => rfl
      | succ n ih => show dotN (fun _ => 0) (coL U 0) n + 0 * coL U 0 n = 0; rw [ih, Nat.zero_mul]
    show dotN (fun _ => 0) (coL U 0) 8 % 251 = _
    rw [this]; rfl
  | succ n ih =>
    intro hn
    have hp := pop_le U
    have t := tabI U hU n (by omega) (by omega)
    have i := ih (by omega)
    show dotN (fun k => sumN (fun j => c j * (k + 1) ^ j) n + c n * (k + 1) ^ n) (coL U 0) 8 % 251 = _
    rw [dot_lin1 (fun k => sumN (fun j => c j * (k + 1) ^ j) n) (fun k => (k + 1) ^ n), Nat.add_mod, i, Nat.mul_mod, t]
    by_cases z : n = 0
    · subst z
      simp
    · simp [z]
theorem lag_poly {a c : Nat → Nat} {q : Nat} (hc : c 0 < 251) (hq1 : 1 ≤ q) (ha : ∀ k, k < 8 → a k = clN c (k + 1) (q - 1)) {U : Nat} (hU : U < 256) (hp : q ≤ pop U) : lag a U 0 = c 0 := by
  unfold lag
  rw [dot_fc (b := fun k => sumN (fun j => c j * (k + 1) ^ j) q % 251) (fun k hk => ?_), dot_mod, ipol c hU q hp, if_neg (by omega), Nat.mod_eq_of_lt hc]
  rw [ha k hk]
  have h1 := clN_eq c (k + 1) (q - 1)
  rw [show q - 1 + 1 = q by omega, Nat.mod_eq_of_lt (clN_lt hc (k + 1) (q - 1))] at h1
  exact h1
def KD (P : Nat → Nat → Nat) : Prop := ∀ m, m < 256 → (∀ k, k < 8 → m.testBit k = true → P 4 k ≠ 0 ∧ (P 0 2).testBit k = false) → P 0 6 ≤ pop m → kyN P m = P 0 5
def IV (P : Nat → Nat → Nat) : Prop := P 0 4 ≠ 0 ∧ (∀ k, k < 8 → P 4 k ≠ 0 → (P 0 1).testBit (P 4 k - 1) = true) ∧ KD P
theorem KD.same {P Q : Nat → Nat → Nat} (h : KD P) (h2 : Q 0 2 = P 0 2) (h5 : Q 5 = P 5) (h6 : Q 0 6 = P 0 6) (h7 : Q 0 5 = P 0 5) (h4 : ∀ k, k < 8 → Q 4 k ≠ 0 → P 4 k ≠ 0) : KD Q := fun m hm hb hp => by
  unfold kyN
  rw [h5, h6, h7]
  rw [h6] at hp
  exact h m hm (fun k hk z => by obtain ⟨a, b⟩ := hb k hk z; exact ⟨h4 k hk a, by rw [← h2]; exact b⟩) hp
theorem IV.same {P Q : Nat → Nat → Nat} (h : IV P) (hs : Q 0 4 ≠ 0) (h1 : Q 0 1 = P 0 1) (h2 : Q 0 2 = P 0 2) (h5 : Q 5 = P 5) (h6 : Q 0 6 = P 0 6) (h7 : Q 0 5 = P 0 5) (h4 : Q 4 = P 4) : IV Q :=
  ⟨hs, fun k hk => by rw [h4, h1]; exact h.2.1 k hk, h.2.2.same h2 h5 h6 h7 (fun k _ z => by rw [h4] at z; exact z)⟩
theorem bit_lor {x y j : Nat} (h : x.testBit j = true) : (x ||| y).testBit j = true := by rw [Nat.testBit_or, h]; rfl
theorem IV.add {P : Nat → Nat → Nat} (h : IV P) : IV (addP P) :=
  ⟨h.1, fun k hk z => bit_lor (h.2.1 k hk z), h.2.2.same rfl rfl rfl rfl (fun _ _ z => z)⟩
theorem IV.bury {P : Nat → Nat → Nat} (h : IV P) (hW : WF P) {k : Nat} (hk : k < 8) : IV (buryP P k) := by
  have h1 : buryP P k 0 1 = rmB (P 0 1) k := rfl
  have h4 : ∀ i, buryP P k 4 i = newO P k i := fun _ => rfl
  refine ⟨h.1, fun i hi z => ?_, h.2.2.same rfl rfl rfl rfl (fun i _ z y => ?_)⟩
  · rw [h4] at z ⊢
    rw [h1]
    unfold newO at z ⊢
    by_cases e : P 4 i = k + 1
    · rw [if_pos e] at z ⊢
      by_cases f : inh P k = true
      · rw [if_pos f] at z ⊢
        unfold inh at f
        simp only [Bool.and_eq_true, decide_eq_true_eq] at f
        have w1 := (hW.2 k hk).1
        have w2 := (hW.2 k hk).2.1
        have h8 := hW.k8
        rw [rmB_bit _ _ (by omega), f.2]
        have : ¬ (P 1 k - 1 = k) := by omega
        simp [this]
      · rw [if_neg f] at z; exact absurd rfl z
    · rw [if_neg e] at z ⊢
      have h9 := hW.ow hi
      rw [rmB_bit _ _ (by omega), h.2.1 i hi z]
      have : ¬ (P 4 i - 1 = k) := by omega
      simp [this]
  · rw [h4] at z
    unfold newO at z
    rw [if_neg (by rw [y]; omega)] at z
    exact z y
theorem IV.forge {P : Nat → Nat → Nat} (h : IV P) {k : Nat} (hk : k < 8) (x : Nat) : IV (forgeP P k x) := by
  refine ⟨h.1, h.2.1, fun m hm hb hp => ?_⟩
  have f2 : forgeP P k x 0 2 = P 0 2 ||| 2 ^ k := rfl
  have fb : ∀ j, j < 8 → m.testBit j = true → j ≠ k ∧ (P 0 2).testBit j = false := fun j hj z => by
    have := (hb j hj z).2
    rw [f2, bit_or2, Bool.or_eq_false_iff] at this
    exact ⟨fun e => by rw [e] at this; simp at this, this.1⟩
  have e : kyN (forgeP P k x) m = kyN P m := by
    unfold kyN
    refine lag_congr fun j hj z => ?_
    have := (fb j hj (lowQ_sub _ _ 8 j z)).1
    show (if 5 = 0 ∧ j = 2 then P 0 2 ||| 2 ^ k else if 5 = 5 ∧ j = k then x else P 5 j) = P 5 j
    rw [if_neg (by simp), if_neg (fun y => this y.2)]
  rw [e]
  exact h.2.2 m hm (fun j hj z => ⟨(hb j hj z).1, (fb j hj z).2⟩) hp
theorem IV.deal {P : Nat → Nat → Nat} (hW : WF P) (hs : P 0 4 ≠ 0) (hq1 : 1 ≤ P 0 6) (hq8 : P 0 6 ≤ 8) : IV (dealP P (P 0 6)) := by
  have h4 : ∀ i, dealP P (P 0 6) 4 i = if (P 0 1).testBit i then i + 1 else 0 := fun _ => rfl
  have h5 : ∀ i, dealP P (P 0 6) 5 i = clN (cfN P) (i + 1) (P 0 6 - 1) := fun _ => rfl
  refine ⟨hs, fun i hi z => ?_, fun m hm hb hp => ?_⟩
  · rw [h4] at z ⊢
    show (P 0 1).testBit _ = true
    by_cases e : (P 0 1).testBit i = true
    · rw [if_pos e]; exact e
    · rw [if_neg e] at z; exact absurd rfl z
  · unfold kyN
    show lag (dealP P (P 0 6) 5) (lowq m (P 0 6)) 0 = P 0 5
    have hp' : P 0 6 ≤ pop m := hp
    exact lag_poly (c := cfN P) (cfN_lt hW 0) hq1 (fun k _ => h5 k) (lowq_lt m (P 0 6)) (by rw [tabPq m hm (P 0 6) (by omega) hp']; exact Nat.le_refl _)
/-! owned shares -/
theorem owG_low (P : Nat → Nat → Nat) {k : Nat} (hk : k < 8) : owG P (2 ^ k - 1) ||| owK P k = owG P (2 ^ (k + 1) - 1) := by
  have e : ∀ k, k < 8 → (2 ^ k - 1) ||| 2 ^ k = 2 ^ (k + 1) - 1 := by decide
  rw [← e k hk, owG_up P hk (Nat.sub_lt (Nat.two_pow_pos k) (by decide))]
theorem owG_zero (P : Nat → Nat → Nat) : owG P 0 = 0 := by
  refine Nat.eq_of_testBit_eq fun j => ?_
  unfold owG; rw [orL_bit]; simp
theorem owK_bit {P : Nat → Nat → Nat} {k j : Nat} (hj : j < 8) : (owK P k).testBit j = decide (P 4 j = k + 1) := by
  unfold owK; rw [orL_bit]; simp [hj]
theorem thM_bit {P : Nat → Nat → Nat} {j : Nat} (hj : j < 8) : (thM P).testBit j = decide (P 4 j ≠ 0) := by
  unfold thM; rw [orL_bit]; simp [hj]
theorem owG_bit2 {P : Nat → Nat → Nat} {g j : Nat} (hj : j < 8) : (owG P g).testBit j = (decide (P 4 j ≠ 0) && g.testBit (P 4 j - 1)) := by
  unfold owG; rw [orL_bit]; simp [hj]
theorem low_bit (k j : Nat) : (2 ^ k - 1).testBit j = decide (j < k) := Nat.testBit_two_pow_sub_one k j
theorem owG_all {P : Nat → Nat → Nat} (hW : WF P) : owG P (2 ^ P 0 0 - 1) = thM P := by
  refine msk_eq (owG_lt _ _) (thM_lt _) fun j hj => ?_
  rw [owG_bit2 hj, thM_bit hj, low_bit]
  have := (hW.2 j hj).2.2.2.2.2.1
  by_cases e : P 4 j = 0
  · simp [e]
  · have : P 4 j - 1 < P 0 0 := by omega
    simp [e, this]
theorem ow_apart (P : Nat → Nat → Nat) (k : Nat) : owG P (2 ^ k - 1) &&& owK P k = 0 := by
  refine msk_eq (Nat.lt_of_le_of_lt Nat.and_le_left (owG_lt _ _)) (by decide) fun j hj => ?_
  rw [Nat.testBit_and, owG_bit2 hj, owK_bit hj, low_bit]
  by_cases e : P 4 j = k + 1
  · simp [e]
  · simp [e]
theorem ow_live {P : Nat → Nat → Nat} (h : IV P) {k : Nat} (hb : (P 0 1).testBit k = false) : owK P k = 0 := by
  refine msk_eq (owK_lt _ _) (by decide) fun j hj => ?_
  rw [owK_bit hj]
  by_cases e : P 4 j = k + 1
  · have := h.2.1 j hj (by omega)
    rw [e, Nat.add_sub_cancel, hb] at this
    cases this
  · simp [e]
/-! pairs -/
theorem sumN_le {f g : Nat → Nat} : ∀ {n : Nat}, (∀ k, k < n → f k ≤ g k) → sumN f n ≤ sumN g n := by
  intro n
  induction n with
  | zero => intro _; exact Nat.le_refl _
  | succ n ih =>
    intro h
    show sumN f n + f n ≤ sumN g n + g n
    exact Nat.add_le_add (ih fun k hk => h k (by omega)) (h n (by omega))
theorem sym2 {b : Nat → Nat → Nat} (hs : ∀ k j, k < 8 → j < 8 → b k j = b j k) (h0 : ∀ k, k < 8 → b k k = 0) : ∀ n, n ≤ 8 → sumN (fun k => sumN (b k) n) n = 2 * sumN (fun k => sumN (b k) k) n := by
  intro n
  induction n with
  | zero => intro _; rfl
  | succ n ih =>
    intro hn
    have e0 : sumN (fun k => sumN (b k) (n + 1)) (n + 1) = sumN (fun k => sumN (b k) (n + 1)) n + (sumN (b n) n + b n n) := rfl
    have e5 : sumN (fun k => sumN (b k) k) (n + 1) = sumN (fun k => sumN (b k) k) n + sumN (b n) n := rfl
    have e2 : sumN (fun k => sumN (b k) (n + 1)) n = sumN (fun k => sumN (b k) n) n + sumN (fun k => b k n) n := sumN_add _ _ n
    have e3 : sumN (fun k => b k n) n = sumN (b n) n := sumN_congr fun k hk => hs k n (by omega) (by omega)
    rw [e0, e5, e2, e3, h0 n (by omega), ih (by omega)]
    omega
theorem sq_even {P : Nat → Nat → Nat} (hW : WF P) : 2 * (sqN P 8 / 2) = sqN P 8 := by
  have e : sqN P 8 = sumN (fun k => sumN (fun j => if (P 2 k).testBit j then 1 else 0) 8) 8 := sumN_congr fun k hk => pop_bits _ (hW.qm hk)
  rw [e, sym2 (b := fun k j => if (P 2 k).testBit j then 1 else 0) (fun k j hk hj => by
    have := (hW.2 k hk).2.2.2.2.1 j hj
    simp only [this]) (fun k hk => by
    have := (hW.2 k hk).2.2.2.1
    simp [this]) 8 (Nat.le_refl _)]
  omega
theorem sq_cut {P : Nat → Nat → Nat} (hW : WF P) : sqN P (P 0 0) = sqN P 8 := by
  have h8 := hW.k8
  have hz : ∀ k, P 0 0 ≤ k → k < 8 → pop (P 2 k) = 0 := fun k h1 h2 => by
    have : P 2 k = 0 := by
      refine msk_eq (hW.qm h2) (by decide) fun j hj => ?_
      rw [(hW.2 k h2).2.2.2.2.1 j hj]
      cases hb : (P 2 j).testBit k with
      | false => simp
      | true => exact absurd (hW.qk hj hb) (by omega)
    rw [this]; decide
  have key : ∀ d, P 0 0 + d ≤ 8 → sqN P (P 0 0 + d) = sqN P (P 0 0) := by
    intro d
    induction d with
    | zero => intro _; rfl
    | succ d ih =>
      intro hd
      show sqN P (P 0 0 + d) + pop (P 2 (P 0 0 + d)) = _
      rw [ih (by omega), hz _ (by omega) (by omega), Nat.add_zero]
  have := key (8 - P 0 0) (by omega)
  rw [show P 0 0 + (8 - P 0 0) = 8 by omega] at this
  exact this.symm
/-! groups -/
theorem pop_mono {a b : Nat} (ha : a < 256) (hb : b < 256) (h : ∀ j, j < 8 → a.testBit j = true → b.testBit j = true) : pop a ≤ pop b := by
  rw [pop_bits a ha, pop_bits b hb]
  refine sumN_le fun k hk => ?_
  by_cases e : a.testBit k = true
  · rw [if_pos e, if_pos (h k hk e)]; exact Nat.le_refl _
  · rw [if_neg e]; exact Nat.zero_le _
theorem sm_R (P : Nat → Nat → Nat) : smR (opB P) 1 256 (smN P) := upS_r (opB P) 255 1 0 rfl (Nat.le_refl 1) (Or.inl ⟨rfl, fun g h1 h2 => by omega⟩)
theorem gr_sm (P : Nat → Nat → Nat) : grN P = 0 ↔ smN P = 0 := by
  have h1 := cntF_pos (opB P) 255 1
  have h2 : anyF (opB P) 255 1 = true ↔ ∃ k, 1 ≤ k ∧ k < 1 + 255 ∧ opB P k = true := anyF_iff
  have h3 := sm_R P
  have e : grN P = cntF (opB P) 255 1 := rfl
  constructor
  · intro z
    rcases h3 with ⟨a, _⟩ | ⟨a, b, d, _⟩
    · exact a
    · have := h1.mpr (h2.mpr ⟨smN P, a, by omega, d⟩)
      omega
  · intro z
    rcases h3 with ⟨_, f⟩ | ⟨a, _⟩
    · by_cases y : 0 < grN P
      · obtain ⟨k, k1, k2, k3⟩ := h2.mp (h1.mp y)
        rw [f k k1 (by omega)] at k3; cases k3
      · omega
    · omega
theorem sm_op {P : Nat → Nat → Nat} (h : smN P ≠ 0) : opB P (smN P) = true := by
  rcases sm_R P with ⟨a, _⟩ | ⟨_, _, d, _⟩
  · exact absurd a h
  · exact d
theorem op_iff {P : Nat → Nat → Nat} {g : Nat} (h1 : 1 ≤ g) : opB P g = true ↔ (prs P g = 0 ∧ P 0 4 = 1 ∧ subB g (P 0 1) = true ∧ P 0 6 ≤ pop (owG P g) ∧ kyN P (owG P g) = P 0 5) := by
  rw [opB_eq P h1]
  unfold fkB
  simp only [Bool.and_eq_true, decide_eq_true_eq]
theorem rea_op {P : Nat → Nat → Nat} {g : Nat} (h1 : 1 ≤ g) (h : opB P g = true) : reaN P g false = 0 ∨ (reaN P g false = 4 ∧ P 0 3 < P 0 7) := by
  obtain ⟨a1, a2, a3, a4, a5⟩ := (op_iff h1).mp h
  unfold reaN
  rw [if_pos a2, if_neg (by omega), if_pos a3, if_pos a1]
  by_cases d : P 0 7 ≤ P 0 3
  · rw [if_pos (Or.inr d), if_pos a4, if_pos a5]; exact Or.inl rfl
  · rw [if_neg (fun z => z.elim (fun y => by cases y) d)]; exact Or.inr ⟨rfl, by omega⟩
theorem ne_sm {P : Nat → Nat → Nat} (hW : WF P) (hI : IV P) (hf : ∀ j, j < 8 → P 4 j ≠ 0 → (P 0 2).testBit j = false) (hs : smN P ≠ 0) : subB (neN P) (smN P) = true := by
  rw [subB_iff]
  intro k hk hb
  have hg : grN P ≠ 0 := fun z => hs ((gr_sm P).mp z)
  unfold neN at hb
  rw [if_neg hg, orL_bit] at hb
  simp only [Bool.and_eq_true, decide_eq_true_eq] at hb
  have hb2 := hb.2
  unfold neF at hb2
  simp only [Bool.and_eq_true, decide_eq_true_eq] at hb2
  obtain ⟨b1, b2⟩ := hb2
  cases hc : (smN P).testBit k with
  | true => rfl
  | false =>
    exfalso
    have h1 : 1 ≤ smN P := by omega
    obtain ⟨a1, a2, a3, a4, a5⟩ := (op_iff h1).mp (sm_op hs)
    have hQ := hI.bury hW hk
    have wQ := buryP_w hW hk
    have q4 : ∀ i, buryP P k 4 i = newO P k i := fun _ => rfl
    have own : ∀ j, j < 8 → (owG P (smN P)).testBit j = true → (owG (buryP P k) (smN P)).testBit j = true := fun j hj z => by
      rw [owG_bit2 hj] at z ⊢
      simp only [Bool.and_eq_true, decide_eq_true_eq] at z ⊢
      have ne : P 4 j ≠ k + 1 := fun e => by
        have := z.2
        rw [e, Nat.add_sub_cancel, hc] at this; cases this
      rw [q4]
      unfold newO
      rw [if_neg ne]
      exact z
    have hp := pop_mono (owG_lt P (smN P)) (owG_lt (buryP P k) (smN P)) own
    have op : opB (buryP P k) (smN P) = true := (op_iff h1).mpr ⟨a1, a2, by
      rw [subB_iff] at a3 ⊢
      intro j hj z
      show (rmB (P 0 1) k).testBit j = true
      rw [rmB_bit _ _ (by omega), a3 j hj z]
      have : ¬ (j = k) := fun e => by rw [e, hc] at z; cases z
      simp [this], Nat.le_trans a4 hp, hQ.2.2 _ (owG_lt _ _) (fun j hj z => by
        obtain ⟨_, z2⟩ := owG_bit z
        refine ⟨z2, hf j hj fun y => ?_⟩
        rw [q4] at z2
        unfold newO at z2
        rw [if_neg (by rw [y]; omega)] at z2
        exact z2 y) (Nat.le_trans a4 hp)⟩
    have := (gr_sm (buryP P k)).mp b2
    rcases sm_R (buryP P k) with ⟨_, f⟩ | ⟨y, _⟩
    · rw [f (smN P) h1 (smN_lt P)] at op; cases op
    · omega
/-! one curve -/
theorem one_KD {P : Nat → Nat → Nat} (hI : KD P) (hf : ∀ j, j < 8 → P 4 j ≠ 0 → (P 0 2).testBit j = false) : ∀ n m, m < 256 → (∀ k, k < 8 → m.testBit k = true → P 4 k ≠ 0) → oneC (P 5) (P 0 6) n m = true := by
  intro n
  induction n with
  | zero => intro m _ _; rfl
  | succ n ih =>
    intro m hm hb
    simp only [oneC]
    by_cases c : pop m ≤ P 0 6
    · rw [if_pos c]
    · have h1 : 1 ≤ m := pop_pos m hm (by omega)
      obtain ⟨d1, d2⟩ := tabL3 m hm h1
      have hd : ∀ k, k < 8 → (dropL m).testBit k = true → P 4 k ≠ 0 := fun k hk z => hb k hk (tabL m hm k hk z)
      have k1 := hI m hm (fun k hk z => ⟨hb k hk z, hf k hk (hb k hk z)⟩) (by omega)
      have k2 := hI (dropL m) d2 (fun k hk z => ⟨hd k hk z, hf k hk (hd k hk z)⟩) (by omega)
      unfold kyN at k1 k2
      rw [if_neg c, if_pos (by rw [k1, k2]), ih (dropL m) d2 hd]
/-- the highest of a set, so many of them -/
def hiQ (m q : Nat) : Nat → Nat
  | 0 => 0
  | k + 1 => hiQ m q k ||| (if m.testBit (7 - k) && decide (pop (hiQ m q k) < q) then 2 ^ (7 - k) else 0)
theorem hiQ_lt : ∀ m, m < 256 → ∀ q, q < 9 → ∀ k, k < 9 → hiQ m q k < 256 := by decide +kernel
theorem hiQ_t : ∀ m, m < 256 → ∀ q, q < 9 → q ≤ pop m → pop (hiQ m q 8) = q ∧ subB (hiQ m q 8) m = true := by decide +kernel
theorem lowq_t : ∀ m, m < 256 → ∀ q, q < 9 → q ≤ pop m → pop (lowq m q) = q ∧ subB (lowq m q) m = true := by decide +kernel
theorem dropL_t : ∀ m, m < 256 → 1 ≤ m → pop (dropL m) + 1 = pop m ∧ subB (dropL m) m = true := by decide +kernel
theorem subB_tr {a b d : Nat} (h1 : subB a b = true) (h2 : subB b d = true) : subB a d = true := by
  rw [subB_iff] at *
  exact fun j hj z => h2 j hj (h1 j hj z)
