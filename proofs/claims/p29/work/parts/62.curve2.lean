theorem lag_congr {a b : Nat → Nat} {m t : Nat} (h : ∀ k, k < 8 → m.testBit k = true → a k = b k) : lag a m t = lag b m t := by
  unfold lag dotN
  rw [sumN_congr (g := fun k => b k * coL m t k) (fun k hk => ?_)]
  by_cases e : m.testBit k = true
  · show a k * coL m t k = b k * coL m t k
    rw [h k hk e]
  · show a k * coL m t k = b k * coL m t k
    unfold coL; rw [if_neg e]; rfl
theorem dot_one (a : Nat → Nat) (i x : Nat) (hi : i < 8) : dotN a (fun j => if j = i then x else 0) 8 = x * a i := by
  unfold dotN
  rw [sumN_congr (g := fun k => if k = i then x * a i else 0) (fun k _ => ?_), sumN_one, if_pos hi]
  by_cases e : k = i
  · subst e; simp [Nat.mul_comm]
  · simp [e]
theorem dot_add (a c d : Nat → Nat) (n : Nat) : dotN a (fun k => c k + d k) n = dotN a c n + dotN a d n := by
  unfold dotN
  rw [← sumN_add]
  exact sumN_congr fun k _ => Nat.mul_add _ _ _
theorem dot_congr {a c d : Nat → Nat} {n : Nat} (h : ∀ k, k < n → c k = d k) : dotN a c n = dotN a d n := by
  unfold dotN
  exact sumN_congr fun k hk => by rw [h k hk]
theorem lagE {a : Nat → Nat} {m k : Nat} (hm : m < 256) (hk : k < 8) (hb : m.testBit k = true) (ha : a k < 251) : lag a m (k + 1) = a k := by
  unfold lag
  rw [dot_congr (d := fun j => if j = k then 1 else 0) (fun j hj => tabE m hm k hk hb j hj), dot_one _ _ _ hk, Nat.one_mul]
  exact Nat.mod_eq_of_lt ha
theorem lag_step (a : Nat → Nat) {U t : Nat} (hU : U < 256) (h2 : 2 ≤ pop U) (hT : topN U < 8) (ht : t < 9) :
    lag a (dropH U) t = (lag a (dropL U) t + nuT U t * (lag a (dropH U) (topN U + 1) + 250 * a (topN U))) % 251 := by
  have hB := tabB U hU h2
  unfold tabBk at hB
  rw [List.all_eq_true] at hB
  have hB := hB t (by simp; omega)
  rw [List.all_eq_true] at hB
  have hc : ∀ j, j < 8 → coL (dropH U) t j = (coL (dropL U) t j + nuT U t * (coL (dropH U) (topN U + 1) j + if j = topN U then 250 else 0)) % 251 := fun j hj => by
    have := hB j (by simp; omega)
    simpa using this
  have h := dot_lin (a := a) (c := coL (dropH U) t) (c1 := coL (dropL U) t) (c2 := fun j => coL (dropH U) (topN U + 1) j + if j = topN U then 250 else 0) (x := 1) (y := nuT U t) (n := 8) (fun j hj => by
    rw [hc j hj, Nat.mod_mod, Nat.one_mul])
  rw [dot_add, dot_one _ _ _ hT] at h
  unfold lag
  rw [h, Nat.one_mul]
  rw [Nat.add_mod, Nat.mul_mod, Nat.add_mod (dotN a (coL (dropH U) (topN U + 1)) 8)]
  conv => rhs; rw [Nat.add_mod, Nat.mul_mod, Nat.add_mod]
  simp only [Nat.mod_mod, Nat.add_mod_mod]
theorem win_iff {a : Nat → Nat} (ha : ∀ k, k < 8 → a k < 251) {U : Nat} (hU : U < 256) (h2 : 2 ≤ pop U) (hT : topN U < 8) :
    (lag a (dropL U) 0 = lag a (dropH U) 0 ↔ lag a (dropH U) (topN U + 1) = a (topN U)) ∧ (lag a (dropH U) (topN U + 1) = a (topN U) → ∀ t, t < 9 → lag a (dropH U) t = lag a (dropL U) t) := by
  have h3 : lag a (dropH U) (topN U + 1) = a (topN U) → ∀ t, t < 9 → lag a (dropH U) t = lag a (dropL U) t := fun e t ht => by
    rw [lag_step a hU h2 hT ht, e]
    have e2 : a (topN U) + 250 * a (topN U) = 251 * a (topN U) := by omega
    rw [e2, Nat.mul_left_comm, Nat.add_mul_mod_self_left]
    exact Nat.mod_eq_of_lt (lag_lt _ _ _)
  refine ⟨⟨fun e => ?_, fun e => (h3 e 0 (by decide)).symm⟩, h3⟩
  have h0 := lag_step a hU h2 hT (t := 0) (by decide)
  have hl := lag_lt a (dropL U) 0
  have hE := lag_lt a (dropH U) (topN U + 1)
  have ha' := ha _ hT
  generalize hEe : lag a (dropH U) (topN U + 1) + 250 * a (topN U) = E at h0
  have h1 : nuT U 0 * E % 251 = 0 := by
    generalize nuT U 0 * E = z at h0 ⊢
    omega
  have h4 : E % 251 = 0 := by
    have h5 := tabV U hU h2
    have h6 : (nuT U 0 * ivT (nuT U 0)) * E % 251 = 0 := by
      rw [Nat.mul_comm (nuT U 0), Nat.mul_assoc, Nat.mul_mod, h1, Nat.mul_zero]
    rw [Nat.mul_mod, h5, Nat.one_mul, Nat.mod_mod] at h6
    exact h6
  omega
def oneC (a : Nat → Nat) (q : Nat) : Nat → Nat → Bool
  | 0, _ => true
  | n + 1, m => if pop m ≤ q then true else if lag a (lowq (dropL m) q) 0 = lag a (lowq m q) 0 then oneC a q n (dropL m) else false
theorem tabL : ∀ m, m < 256 → ∀ k, k < 8 → ((dropL m).testBit k = true → m.testBit k = true) := by decide +kernel
def tabL2k (m q k : Nat) : Bool := !m.testBit k || ((dropL m).testBit k || (lowq m q).testBit k)
theorem tabL2b : ∀ m, m < 256 → ∀ q, q < 9 → 1 ≤ q → ∀ k, k < 8 → tabL2k m q k = true := by decide +kernel
theorem tabL2 (m : Nat) (hm : m < 256) (q : Nat) (hq : q < 9) (hq1 : 1 ≤ q) (k : Nat) (hk : k < 8) (hb : m.testBit k = true) : (dropL m).testBit k = true ∨ (lowq m q).testBit k = true := by
  have h := tabL2b m hm q hq hq1 k hk
  unfold tabL2k at h
  simpa [hb] using h
theorem tabL3 : ∀ m, m < 256 → 1 ≤ m → pop (dropL m) + 1 = pop m ∧ dropL m < 256 := by decide +kernel
theorem oneC_iff {a : Nat → Nat} (ha : ∀ k, k < 8 → a k < 251) {q : Nat} (hq1 : 1 ≤ q) (hq8 : q ≤ 8) : ∀ (n m : Nat), m < 256 → pop m ≤ n + q → (oneC a q n m = true ↔ ∀ k, k < 8 → m.testBit k = true → lag a (lowq m q) (k + 1) = a k) := by
  have base : ∀ m, m < 256 → pop m ≤ q → ∀ k, k < 8 → m.testBit k = true → lag a (lowq m q) (k + 1) = a k := fun m hm hp k hk hb => by
    rw [tabQle m hm q (by omega) hp]
    exact lagE hm hk hb (ha k hk)
  intro n
  induction n with
  | zero =>
    intro m hm hp
    simp only [oneC, true_iff]
    exact base m hm (by omega)
  | succ n ih =>
    intro m hm hp
    simp only [oneC]
    by_cases hpq : pop m ≤ q
    · rw [if_pos hpq]
      simp only [true_iff]
      exact base m hm hpq
    · rw [if_neg hpq]
      have hp9 := pop_le m
      obtain ⟨w1, w2, w3, w4, w5, w6⟩ := tabW m hm q (by omega) hq1 (by omega)
      have hm1 : 1 ≤ m := by
        rcases Nat.eq_zero_or_pos m with e | e
        · subst e; exact absurd (by decide : pop 0 = 0) (by omega)
        · exact e
      obtain ⟨l1, l2⟩ := tabL3 m hm hm1
      obtain ⟨i1, i2⟩ := win_iff ha w5 w3 w6
      rw [← w1, ← w2] at i1
      rw [← w1, ← w2] at i2
      by_cases e : lag a (lowq (dropL m) q) 0 = lag a (lowq m q) 0
      · rw [if_pos e, ih (dropL m) l2 (by omega)]
        have e2 := i2 (i1.mp e)
        constructor
        · intro h k hk hb
          rcases tabL2 m hm q (by omega) hq1 k hk hb with hd | hd
          · rw [e2 (k + 1) (by omega)]; exact h k hk hd
          · exact lagE (lowq_lt m q) hk hd (ha k hk)
        · intro h k hk hb
          rw [← e2 (k + 1) (by omega)]
          exact h k hk (tabL m hm k hk hb)
      · rw [if_neg e]
        constructor
        · intro h; exact absurd h (by decide)
        · intro h
          exact absurd (i1.mpr (h _ w6 w4)) e
/-- 32-bit words of the class's Neville -/
theorem sub_swap {x y : Nat} (h : x ≤ y) : nI x - nI y = nI 0 - nI (y - x) := by
  apply Int32.toBitVec_inj.mp
  show BitVec.ofNat 32 x - BitVec.ofNat 32 y = BitVec.ofNat 32 0 - BitVec.ofNat 32 (y - x)
  apply BitVec.eq_of_toNat_eq
  simp only [BitVec.toNat_sub, BitVec.toNat_ofNat]
  omega
theorem ffm_p : ∀ n, n < 2001 → ffm (nI n) (nI 251) = nI (n % 251) := by decide +kernel
theorem ffm_n : ∀ n, n < 1751 → ffm (nI 0 - nI n) (nI 251) = nI ((1757 - n) % 251) := by decide +kernel
theorem ffm_d {x y : Nat} (hx : x < 2001) (hy : y < 1751) : ffm (nI x - nI y) (nI 251) = nI ((x + 1757 - y) % 251) := by
  by_cases h : x ≤ y
  · rw [sub_swap h, ffm_n _ (by omega)]
    congr 1
    omega
  · rw [pk_sub (by omega), ffm_p _ (by omega)]
    congr 1
    omega
theorem wInv_iv : ∀ d, d < 8 → 1 ≤ d → wInv d = nI (ivT d) := by decide +kernel
theorem mod_i {n : Nat} (h : n < 2 ^ 31) : nI n - nI n / nI 251 * nI 251 = nI (n % 251) := pk_rem h (by decide) (by decide)
/-- one cell of the class's row of keys -/
theorem nev_cell {a : Nat → Nat} {q h l r : Nat} (hh : h < 8) (hl : l < h) (hr : r < 2 ^ l) (hq8 : q ≤ 8) (hp : pop (r ||| 2 ^ l ||| 2 ^ h) ≤ q) :
    ((ffm (((nI (h + 1)) * nI (lag a (lowq (r ||| 2 ^ l) q) 0)) - ((nI (l + 1)) * nI (lag a (lowq (r ||| 2 ^ h) q) 0))) (nI 251)) * (wInv (h - l))) - ((ffm (((nI (h + 1)) * nI (lag a (lowq (r ||| 2 ^ l) q) 0)) - ((nI (l + 1)) * nI (lag a (lowq (r ||| 2 ^ h) q) 0))) (nI 251)) * (wInv (h - l))) / (nI 251) * (nI 251) = nI (lag a (lowq (r ||| 2 ^ l ||| 2 ^ h) q) 0) := by
  have h2l : 2 ^ l ≤ 64 := by
    have : ∀ l, l < 7 → 2 ^ l ≤ 64 := by decide
    exact this l (by omega)
  have h2h : 2 ^ h ≤ 128 := p2le hh
  have m1 : r ||| 2 ^ l < 256 := orlt (by omega) (by omega)
  have m2 : r ||| 2 ^ h < 256 := orlt (by omega) (by omega)
  have m3 : r ||| 2 ^ l ||| 2 ^ h < 256 := orlt m1 (by omega)
  obtain ⟨p1, p2, p3⟩ := tabP h hh l hl r hr
  rw [tabQle _ m1 q (by omega) (by omega), tabQle _ m2 q (by omega) (by omega), tabQle _ m3 q (by omega) hp]
  have k1 := lag_lt a (r ||| 2 ^ l) 0
  have k2 := lag_lt a (r ||| 2 ^ h) 0
  have key := dot_lin (a := a) (n := 8) (tabN h hh l hl r hr)
  have hx : (h + 1) * lag a (r ||| 2 ^ l) 0 ≤ 8 * 250 := Nat.mul_le_mul (by omega) (by omega)
  have hy : (l + 1) * lag a (r ||| 2 ^ h) 0 ≤ 7 * 250 := Nat.mul_le_mul (by omega) (by omega)
  have hiv := ivT_lt (h - l)
  rw [pk_mul, pk_mul, ffm_d (by omega) (by omega), wInv_iv _ (by omega) (by omega), pk_mul, mod_i (by
    have : ((h + 1) * lag a (r ||| 2 ^ l) 0 + 1757 - (l + 1) * lag a (r ||| 2 ^ h) 0) % 251 * ivT (h - l) ≤ 250 * 250 := Nat.mul_le_mul (by omega) (by omega)
    omega)]
  congr 1
  have e0 : lag a (r ||| 2 ^ l ||| 2 ^ h) 0 = dotN a (coL (r ||| 2 ^ l ||| 2 ^ h) 0) 8 % 251 := rfl
  have e1 : lag a (r ||| 2 ^ l) 0 = dotN a (coL (r ||| 2 ^ l) 0) 8 % 251 := rfl
  have e2 : lag a (r ||| 2 ^ h) 0 = dotN a (coL (r ||| 2 ^ h) 0) 8 % 251 := rfl
  have e3 : (h + 1) * lag a (r ||| 2 ^ l) 0 + 1757 - (l + 1) * lag a (r ||| 2 ^ h) 0 + 251 * lag a (r ||| 2 ^ h) 0 = (h + 1) * lag a (r ||| 2 ^ l) 0 + (250 - l) * lag a (r ||| 2 ^ h) 0 + 251 * 7 := by
    have : (l + 1) * lag a (r ||| 2 ^ h) 0 + (250 - l) * lag a (r ||| 2 ^ h) 0 = 251 * lag a (r ||| 2 ^ h) 0 := by
      rw [← Nat.add_mul]
      congr 1
      omega
    omega
  have e4 : ((h + 1) * lag a (r ||| 2 ^ l) 0 + 1757 - (l + 1) * lag a (r ||| 2 ^ h) 0) % 251 = ((h + 1) * lag a (r ||| 2 ^ l) 0 + (250 - l) * lag a (r ||| 2 ^ h) 0) % 251 := by omega
  rw [e0, key, e4, Nat.mod_mul_mod, Nat.mul_comm _ (ivT (h - l)), Nat.mul_add, ← Nat.mul_assoc, ← Nat.mul_assoc, e1, e2]
  rw [Nat.add_mod, Nat.mul_mod_mod, Nat.mul_mod_mod, ← Nat.add_mod]
theorem nev_cut {a : Nat → Nat} {q h l r : Nat} (hh : h < 8) (hl : l < h) (hr : r < 2 ^ l) (hq8 : q ≤ 8) (hp : q < pop (r ||| 2 ^ l ||| 2 ^ h)) : nI (lag a (lowq (r ||| 2 ^ l) q) 0) = nI (lag a (lowq (r ||| 2 ^ l ||| 2 ^ h) q) 0) := by
  rw [tabQh h hh l hl r hr q (by omega) hp]
theorem mask3 : ∀ h, h < 8 → ∀ l, l < h → ∀ r, r < 2 ^ l → r ||| 2 ^ l ||| 2 ^ h = 2 ^ h + 2 ^ l + r ∧ r ||| 2 ^ l = 2 ^ l + r ∧ r ||| 2 ^ h = 2 ^ h + r ∧ 2 ^ l + 2 ^ l ≤ 2 ^ h := by decide +kernel
def keyed (a : Nat → Nat) (q : Nat) (k : Nat → Int32) (n : Nat) : Prop := ∀ m, 1 ≤ m → m < n → k m = nI (lag a (lowq m q) 0)
theorem reck42 {v : Nat → Nat → Int32} {a : Nat → Nat} {q h l : Nat} (hv6 : v 0 6 = nI q) (hq8 : q ≤ 8) (hh : h < 8) (hl : l < h) (kk : Nat → (Nat → Int32) → (Nat → Int32)) : ∀ (n r : Nat) (k : Nat → Int32), r + n = 2 ^ l → keyed a q k (2 ^ h + 2 ^ l + r) → ∃ k', fX0_reckon_L42 kk v h l n r k = kk (l + 1) k' ∧ keyed a q k' (2 ^ h + 2 ^ (l + 1)) := by
  intro n
  induction n with
  | zero =>
    intro r k hr hk
    refine ⟨k, rfl, ?_⟩
    have : 2 ^ h + 2 ^ l + r = 2 ^ h + 2 ^ (l + 1) := by rw [Nat.pow_succ]; omega
    rw [← this]; exact hk
  | succ n ih =>
    intro r k hr hk
    have hr2 : r < 2 ^ l := by omega
    obtain ⟨s1, s2, s3, s4⟩ := mask3 h hh l hl r hr2
    have h2l := Nat.two_pow_pos l
    have h2h : 2 ^ h ≤ 128 := p2le hh
    have m3 : r ||| 2 ^ l ||| 2 ^ h < 256 := by rw [s1]; omega
    have c1 : k (r ||| 2 ^ l) = nI (lag a (lowq (r ||| 2 ^ l) q) 0) := hk _ (by omega) (by omega)
    have c2 : k (r ||| 2 ^ h) = nI (lag a (lowq (r ||| 2 ^ h) q) 0) := hk _ (by omega) (by omega)
    have st : ∀ x, x = nI (lag a (lowq (r ||| 2 ^ l ||| 2 ^ h) q) 0) → keyed a q (upd k (r ||| 2 ^ l ||| 2 ^ h) x) (2 ^ h + 2 ^ l + (r + 1)) := fun x ex m hm1 hm2 => by
      unfold upd
      by_cases e : m = r ||| 2 ^ l ||| 2 ^ h
      · rw [if_pos e, ex, e]
      · rw [if_neg e]; exact hk m hm1 (by omega)
    simp only [fX0_reckon_L42]
    have hfb : fbit (nI (r ||| 2 ^ l ||| 2 ^ h)) = nI (pop (r ||| 2 ^ l ||| 2 ^ h)) := fbit_pop _ m3
    have hp9 := pop_le (r ||| 2 ^ l ||| 2 ^ h)
    rw [hfb, hv6, c1, c2]
    by_cases hp : pop (r ||| 2 ^ l ||| 2 ^ h) ≤ q
    · rw [if_pos ((nI_leI (by omega) (by omega)).mpr hp)]
      exact ih (r + 1) _ (by omega) (st _ (nev_cell hh hl hr2 hq8 hp))
    · rw [if_neg (fun z => hp ((nI_leI (by omega) (by omega)).mp z))]
      exact ih (r + 1) _ (by omega) (st _ (nev_cut hh hl hr2 hq8 (by omega)))
theorem reck27 {v : Nat → Nat → Int32} {a : Nat → Nat} {q h : Nat} (hv6 : v 0 6 = nI q) (hq8 : q ≤ 8) (hh : h < 8) (kk : Nat → (Nat → Int32) → (Nat → Int32)) : ∀ (n l : Nat) (k : Nat → Int32), l + n = h → keyed a q k (2 ^ h + 2 ^ l) → ∃ k', fX0_reckon_L27 kk v h n l k = kk (h + 1) k' ∧ keyed a q k' (2 ^ (h + 1)) := by
  intro n
  induction n with
  | zero =>
    intro l k hl hk
    refine ⟨k, rfl, ?_⟩
    have : 2 ^ h + 2 ^ l = 2 ^ (h + 1) := by rw [Nat.pow_succ]; have : l = h := by omega
                                             subst this; omega
    rw [← this]; exact hk
  | succ n ih =>
    intro l k hl hk
    simp only [fX0_reckon_L27]
    obtain ⟨k1, e1, hk1⟩ := reck42 (a := a) hv6 hq8 hh (show l < h by omega) (fX0_reckon_L27 kk v h n) (2 ^ l) 0 k (by omega) hk
    rw [e1]
    exact ih (l + 1) k1 (by omega) hk1
theorem reck2 {v : Nat → Nat → Int32} {a : Nat → Nat} {q : Nat} (hv6 : v 0 6 = nI q) (hq1 : 1 ≤ q) (hq8 : q ≤ 8) (ha : ∀ k, k < 8 → v 5 k = nI (a k) ∧ a k < 251) : ∀ (n h : Nat) (k : Nat → Int32), h + n = 8 → keyed a q k (2 ^ h) → keyed a q (fX0_reckon_L2 v n h k) 256 := by
  intro n
  induction n with
  | zero =>
    intro h k hh hk
    have : 2 ^ h = 256 := by have : h = 8 := by omega
                             subst this; rfl
    simp only [fX0_reckon_L2]
    rw [← this]; exact hk
  | succ n ih =>
    intro h k hh hk
    simp only [fX0_reckon_L2]
    have hh8 : h < 8 := by omega
    obtain ⟨a1, a2⟩ := ha h hh8
    obtain ⟨k1, e1, hk1⟩ := reck27 (a := a) hv6 hq8 hh8 (fX0_reckon_L2 v n) h 0 (upd k (2 ^ h) (v 5 h)) (by omega) (fun m hm1 hm2 => by
      unfold upd
      by_cases e : m = 2 ^ h
      · rw [if_pos e, e, a1, tabQ1 h hh8 q (by omega) hq1]
        unfold lag
        rw [dot_congr (d := fun j => if j = h then 1 else 0) (fun j hj => tab1 h hh8 j hj), dot_one _ _ _ hh8, Nat.one_mul, Nat.mod_eq_of_lt a2]
      · rw [if_neg e]; exact hk m hm1 (by simp only [Nat.pow_zero] at hm2; omega))
    rw [e1]
    exact ih (h + 1) k1 (by omega) hk1
theorem reck {v : Nat → Nat → Int32} {a : Nat → Nat} {q : Nat} (hv6 : v 0 6 = nI q) (hq1 : 1 ≤ q) (hq8 : q ≤ 8) (ha : ∀ k, k < 8 → v 5 k = nI (a k) ∧ a k < 251) (k : Nat → Int32) : keyed a q (fX0_reckon k v) 256 := by
  unfold fX0_reckon
  refine reck2 hv6 hq1 hq8 ha 8 0 k rfl fun m h1 h2 => ?_
  simp only [Nat.pow_zero] at h2
  omega
theorem keyOf_n {a : Nat → Nat} {q m : Nat} {k : Nat → Int32} (hk : keyed a q k 256) (h1 : 1 ≤ m) (hm : m < 256) : fX0_keyOf k (nI m) = nI (lag a (lowq m q) 0) := by
  unfold fX0_keyOf
  rw [if_neg (nI_pos (by omega)), if_neg (fun z => absurd ((nI_leI (by omega) (by omega)).mp z) (by omega)), nI_clamp (by omega)]
  exact hk m h1 hm
theorem pop_pos : ∀ m, m < 256 → 1 ≤ pop m → 1 ≤ m := by decide +kernel
theorem isOne_n {a : Nat → Nat} {q : Nat} {k : Nat → Int32} (hk : keyed a q k 256) (hq1 : 1 ≤ q) (hq8 : q ≤ 8) : ∀ (n i m : Nat), m < 256 → fX0_isOneCurve_L5 k (nI q) n i (nI m) = nI (if oneC a q n m then 1 else 0) := by
  intro n
  induction n with
  | zero => intro i m _; simp only [fX0_isOneCurve_L5, oneC]; rfl
  | succ n ih =>
    intro i m hm
    simp only [fX0_isOneCurve_L5]
    have hp9 := pop_le m
    rw [fbit_pop m hm]
    by_cases hp : pop m ≤ q
    · have eo : oneC a q (n + 1) m = true := by simp only [oneC]; rw [if_pos hp]
      rw [if_pos ((nI_leI (by omega) (by omega)).mpr hp), eo]; rfl
    · rw [if_neg (fun z => hp ((nI_leI (by omega) (by omega)).mp z))]
      have hm1 := pop_pos m hm (by omega)
      obtain ⟨l1, l2⟩ := tabL3 m hm hm1
      have e1 : nI m &&& (nI m - nI 1) = nI (dropL m) := by rw [pk_sub hm1, xI_and]; rfl
      rw [e1, keyOf_n hk (pop_pos _ l2 (by omega)) l2, keyOf_n hk hm1 hm]
      have g1 := lag_lt a (lowq (dropL m) q) 0
      have g2 := lag_lt a (lowq m q) 0
      by_cases e : lag a (lowq (dropL m) q) 0 = lag a (lowq m q) 0
      · have eo : oneC a q (n + 1) m = oneC a q n (dropL m) := by simp only [oneC]; rw [if_neg hp, if_pos e]
        rw [if_pos (by rw [e]), eo]; exact ih (i + 1) (dropL m) l2
      · have eo : oneC a q (n + 1) m = false := by simp only [oneC]; rw [if_neg hp, if_neg e]
        rw [if_neg (fun z => e ((nI_eq (by omega) (by omega)).mp z)), eo]; rfl
