/-! ===== the reference's curves ===== -/
theorem lowQ_lt (m q : Nat) : ∀ n, lowQ m q n < 2 ^ n := by
  intro n
  induction n with
  | zero => simp [lowQ]
  | succ n ih =>
    simp only [lowQ]
    refine Nat.or_lt_two_pow ?_ ?_
    · exact Nat.lt_trans ih (Nat.pow_lt_pow_right (by decide) (by omega))
    · split
      · exact Nat.pow_lt_pow_right (by decide) (by omega)
      · exact Nat.two_pow_pos _
theorem lowQ_sub (m q : Nat) : ∀ n k, (lowQ m q n).testBit k = true → m.testBit k = true := by
  intro n
  induction n with
  | zero => intro k h; simp [lowQ] at h
  | succ n ih =>
    intro k h
    simp only [lowQ, Nat.testBit_or, Bool.or_eq_true] at h
    rcases h with h | h
    · exact ih k h
    · by_cases c : (m.testBit n && decide (pop (lowQ m q n) < q)) = true
      · rw [if_pos c, Nat.testBit_two_pow] at h
        have e : n = k := by simpa using h
        subst e
        simp only [Bool.and_eq_true] at c
        exact c.1
      · rw [if_neg c] at h; simp at h
theorem p2_256 {i : Nat} (h : i ≤ 8) : 2 ^ i ≤ 256 := Nat.le_trans (Nat.pow_le_pow_right (by decide) h) (by decide : 2 ^ 8 ≤ 256)
theorem or_z (x : Nat) : nI x ||| nI 0 = nI x := by rw [nI_or]; congr 1; simp
theorem lowest_L {m q : Nat} (hm : m < 256) (hq : q ≤ 8) : ∀ n i, i + n = 8 → fX5_lowest_L4 (nI m) (nI q) n i (nI (lowQ m q i)) = nI (lowQ m q 8) := by
  intro n
  induction n with
  | zero => intro i hi; have : i = 8 := by omega
            subst this; rfl
  | succ n ih =>
    intro i hi
    simp only [fX5_lowest_L4]
    have hlt : lowQ m q i < 256 := Nat.lt_of_lt_of_le (lowQ_lt m q i) (p2_256 (by omega))
    have hp9 := pop_le (lowQ m q i)
    rw [bits_nat _ hlt, or_z, shl1 (by omega), nI_or]
    have e1 : lowQ m q (i + 1) = lowQ m q i ||| (if m.testBit i && decide (pop (lowQ m q i) < q) then 2 ^ i else 0) := rfl
    by_cases hb : m.testBit i = true
    · rw [if_neg (fun z => by rw [has0 hm (by omega), hb] at z; cases z)]
      by_cases hp : pop (lowQ m q i) < q
      · rw [if_neg (fun z => absurd ((nI_leI (by omega) (by omega)).mp z) (by omega))]
        have := ih (i + 1) (by omega)
        rw [e1] at this
        simpa [hb, hp] using this
      · rw [if_pos ((nI_leI (by omega) (by omega)).mpr (by omega))]
        have := ih (i + 1) (by omega)
        rw [e1] at this
        simpa [hb, hp] using this
    · have hb' : m.testBit i = false := by simpa using hb
      rw [if_pos ((has0 hm (by omega)).mpr hb')]
      have := ih (i + 1) (by omega)
      rw [e1] at this
      simpa [hb'] using this
theorem lowest_n {m q : Nat} (hm : m < 256) (hq : q ≤ 8) : fX5_lowest (nI m) (nI q) = nI (lowq m q) := lowest_L hm hq 8 0 rfl
theorem inv_n : ∀ v, v < 251 → fX5_inverse (nI v) = nI (ivT v) := by decide +kernel
theorem up_n : ∀ t, t < 9 → ∀ j, j < 8 → ((((nI t - (nI j)) - (nI 1)) + (nI 251)) - (((nI t - (nI j)) - (nI 1)) + (nI 251)) / (nI 251) * (nI 251)) = nI ((t + 250 - j) % 251) := by decide +kernel
theorem dow_n : ∀ k, k < 8 → ∀ j, j < 8 → ((((nI k) - (nI j)) + (nI 251)) - (((nI k) - (nI j)) + (nI 251)) / (nI 251) * (nI 251)) = nI ((k + 251 - j) % 251) := by decide +kernel
theorem mulmod_i {x y : Nat} (hx : x < 251) (hy : y < 251) : (nI x * nI y) - (nI x * nI y) / (nI 251) * (nI 251) = nI (x * y % 251) := by
  have : x * y ≤ 250 * 250 := Nat.mul_le_mul (by omega) (by omega)
  rw [pk_mul, mod_i (by omega)]
theorem val42 {m t i x s : Nat} (hm : m < 256) (ht : t < 9) (hi : i < 8) (hx : x < 251) (hs : s < 251) (kk : Nat → Int32 → Int32) : ∀ n j, j + n = 8 →
    fX5_valueAt_L42 kk (nI m) (nI t) i (nI s) n j (nI (abN m t i x j)) (nI (beN m i j)) = kk (i + 1) (nI ((s + abN m t i x 8 * ivT (beN m i 8)) % 251)) := by
  intro n
  induction n with
  | zero =>
    intro j hj
    have : j = 8 := by omega
    subst this
    simp only [fX5_valueAt_L42]
    have h1 := abN_lt m t i x hx 8
    have h2 := ivT_lt (beN m i 8)
    have h3 : abN m t i x 8 * ivT (beN m i 8) ≤ 250 * 250 := Nat.mul_le_mul (by omega) (by omega)
    rw [inv_n _ (beN_lt m i 8), pk_mul, nI_add, mod_i (by omega)]
  | succ n ih =>
    intro j hj
    have hj8 : j < 8 := by omega
    simp only [fX5_valueAt_L42]
    have ha : abN m t i x (j + 1) = if j = i then abN m t i x j else if m.testBit j then abN m t i x j * ((t + 250 - j) % 251) % 251 else abN m t i x j := rfl
    have hbe : beN m i (j + 1) = if j = i then beN m i j else if m.testBit j then beN m i j * ((i + 251 - j) % 251) % 251 else beN m i j := rfl
    have step := ih (j + 1) (by omega)
    by_cases e : j = i
    · rw [if_pos (by rw [e])]
      rw [ha, hbe, if_pos e, if_pos e] at step
      exact step
    · rw [if_neg (fun z => e ((nI_eq (by omega) (by omega)).mp z))]
      rw [ha, hbe, if_neg e, if_neg e] at step
      by_cases hb : m.testBit j = true
      · rw [if_neg (fun z => by rw [has0 hm hj8, hb] at z; cases z)]
        rw [if_pos hb, if_pos hb] at step
        rw [up_n t ht j hj8, dow_n i hi j hj8, mulmod_i (abN_lt m t i x hx j) (Nat.mod_lt _ (by decide)), mulmod_i (beN_lt m i j) (Nat.mod_lt _ (by decide))]
        exact step
      · have hb' : m.testBit j = false := by simpa using hb
        rw [if_pos ((has0 hm hj8).mpr hb')]
        rw [if_neg hb, if_neg hb] at step
        exact step
theorem val6 {ms : Nat → Int32} {b m t : Nat} {a : Nat → Nat} (hm : m < 256) (ht : t < 9) (ha : ∀ k, k < 8 → m.testBit k = true → ms (b + 32 + k) = nI (a k) ∧ a k < 251) : ∀ n i, i + n = 8 →
    fX5_valueAt_L6 ms b (nI m) (nI t) n i (nI (dotN a (coL m t) i % 251)) = nI (lag a m t) := by
  intro n
  induction n with
  | zero => intro i hi; have : i = 8 := by omega
            subst this; rfl
  | succ n ih =>
    intro i hi
    have hi8 : i < 8 := by omega
    simp only [fX5_valueAt_L6]
    have step := ih (i + 1) (by omega)
    have hd : dotN a (coL m t) (i + 1) = dotN a (coL m t) i + a i * coL m t i := rfl
    rw [hd] at step
    by_cases hb : m.testBit i = true
    · rw [if_neg (fun z => by rw [has0 hm hi8, hb] at z; cases z)]
      obtain ⟨e1, e2⟩ := ha i hi8 hb
      rw [e1, show nI (a i) = nI (abN m t i (a i) 0) from rfl, show nI 1 = nI (beN m i 0) from rfl, val42 hm ht hi8 e2 (Nat.mod_lt _ (by decide)) _ 8 0 rfl]
      have e3 : (dotN a (coL m t) i % 251 + abN m t i (a i) 8 * ivT (beN m i 8)) % 251 = (dotN a (coL m t) i + a i * coL m t i) % 251 := by
        have e4 : coL m t i = abN m t i 1 8 * ivT (beN m i 8) % 251 := by unfold coL; rw [if_pos hb]
        rw [e4, Nat.mod_add_mod, Nat.add_mod, Nat.mul_mod, abN_mod, ← Nat.mul_mod, Nat.add_mod (dotN a (coL m t) i), Nat.mul_mod_mod, Nat.mul_assoc]
      rw [e3]
      exact step
    · have hb' : m.testBit i = false := by simpa using hb
      rw [if_pos ((has0 hm hi8).mpr hb')]
      have e4 : coL m t i = 0 := by unfold coL; rw [if_neg hb]
      rw [e4, Nat.mul_zero, Nat.add_zero] at step
      exact step
theorem valueAt_n {ms : Nat → Int32} {b m t : Nat} {a : Nat → Nat} (hm : m < 256) (ht : t < 9) (ha : ∀ k, k < 8 → m.testBit k = true → ms (b + 32 + k) = nI (a k) ∧ a k < 251) : fX5_valueAt ms b (nI m) (nI t) = nI (lag a m t) := val6 hm ht ha 8 0 rfl
theorem keyBy_n {ms : Nat → Int32} {b m q : Nat} {a : Nat → Nat} (hm : m < 256) (hq : q ≤ 8) (hms : ms (b + 29) = nI q) (ha : ∀ k, k < 8 → m.testBit k = true → ms (b + 32 + k) = nI (a k) ∧ a k < 251) : fX5_keyBy ms b (nI m) = nI (lag a (lowq m q) 0) := by
  unfold fX5_keyBy
  rw [hms, lowest_n hm hq]
  exact valueAt_n (lowq_lt m q) (by decide) fun k hk hb => ha k hk (lowQ_sub m q 8 k hb)
def allF (C : Nat → Bool) : Nat → Nat → Bool
  | 0, _ => true
  | n + 1, i => C i && allF C n (i + 1)
theorem allF_iff {C : Nat → Bool} : ∀ {n i : Nat}, allF C n i = true ↔ ∀ k, i ≤ k → k < i + n → C k = true := by
  intro n
  induction n with
  | zero => intro i; simp only [allF, true_iff]; intro k h1 h2; omega
  | succ n ih =>
    intro i
    simp only [allF, Bool.and_eq_true]
    rw [ih]
    constructor
    · rintro ⟨h1, h2⟩ k h3 h4
      by_cases e : k = i
      · subst e; exact h1
      · exact h2 k (by omega) (by omega)
    · intro h
      exact ⟨h i (by omega) (by omega), fun k h1 h2 => h k (by omega) (by omega)⟩
def onC (a : Nat → Nat) (q m k : Nat) : Bool := !m.testBit k || decide (lag a (lowq m q) (k + 1) = a k)
theorem keys59 {ms : Nat → Int32} {m q : Nat} {a : Nat → Nat} (hm : m < 256) (hq : q ≤ 8) (hms : ms 29 = nI q) (ha : ∀ k, k < 8 → m.testBit k = true → ms (32 + k) = nI (a k) ∧ a k < 251) : ∀ n i (x : Bool), i + n = 8 →
    fX5_keys_L59 ms (nI m) n i (nI (if x then 1 else 0)) = nI (if x && allF (onC a q m) n i then 1 else 0) := by
  intro n
  induction n with
  | zero =>
    intro i x hi
    simp only [fX5_keys_L59, allF]
    cases x <;> rfl
  | succ n ih =>
    intro i x hi
    have hi8 : i < 8 := by omega
    simp only [fX5_keys_L59, allF]
    rw [hms, lowest_n hm hq]
    cases x with
    | false =>
      rw [if_pos (by decide)]
      exact ih (i + 1) false (by omega)
    | true =>
      rw [if_neg (by decide)]
      by_cases hb : m.testBit i = true
      · rw [if_neg (fun z => by rw [has0 hm hi8, hb] at z; cases z)]
        obtain ⟨e1, e2⟩ := ha i hi8 hb
        rw [valueAt_n (b := 0) (a := a) (lowq_lt m q) (by omega) (fun k hk hbk => by
          have := ha k hk (lowQ_sub m q 8 k hbk)
          rw [show 0 + 32 + k = 32 + k by omega]; exact this), e1]
        have g1 := lag_lt a (lowq m q) (i + 1)
        by_cases e : lag a (lowq m q) (i + 1) = a i
        · rw [if_pos (by rw [e])]
          have := ih (i + 1) true (by omega)
          have hc : onC a q m i = true := by unfold onC; simp [e]
          simpa [hc] using this
        · rw [if_neg (fun z => e ((nI_eq (by omega) (by omega)).mp z))]
          have := ih (i + 1) false (by omega)
          have hc : onC a q m i = false := by unfold onC; simp [e, hb]
          simpa [hc] using this
      · have hb' : m.testBit i = false := by simpa using hb
        rw [if_pos ((has0 hm hi8).mpr hb')]
        have := ih (i + 1) true (by omega)
        have hc : onC a q m i = true := by unfold onC; simp [hb']
        simpa [hc] using this
