def fX5_has (g : Int32) (k : Int32) : Int32 := (if ((g >>> (k &&& 31)) &&& (nI 1)) = (nI 1) then ((nI 1)) else ((nI 0)))
def fX5_in (k : Int32) (lo : Int32) (hi : Int32) : Int32 := (if k < lo then ((nI 0)) else (if hi < k then ((nI 0)) else ((nI 1))))
theorem bX5_in (k lo hi : Int32) : fX5_in k lo hi = nI 0 ∨ fX5_in k lo hi = nI 1 := by
  unfold fX5_in
  (repeat' split) <;> simp
theorem in_ne {k lo hi : Int32} (h : ¬ fX5_in k lo hi = 0) : ¬ k < lo ∧ ¬ hi < k := by
  unfold fX5_in at h
  refine ⟨fun q => h (by rw [if_pos q]; rfl), fun q => h ?_⟩
  by_cases a : k < lo
  · rw [if_pos a]; rfl
  · rw [if_neg a, if_pos q]; rfl
theorem in_nat {k : Int32} {n : Nat} (hn : n < 2 ^ 31) (h : ¬ fX5_in k (nI 0) (nI n) = 0) : ∃ j : Nat, j ≤ n ∧ k = nI j := by
  obtain ⟨h1, h2⟩ := in_ne h
  obtain ⟨j, hj, rfl⟩ := nI_of h1
  rw [nI_ltI hn hj] at h2
  exact ⟨j, by omega, rfl⟩
/-! ===== the pure part: bits, sums, masks ===== -/
def orL (f : Nat → Bool) : Nat → Nat
  | 0 => 0
  | n + 1 => orL f n ||| (if f n then 2 ^ n else 0)
theorem orL_bit (f : Nat → Bool) : ∀ (n j : Nat), (orL f n).testBit j = (decide (j < n) && f j) := by
  intro n
  induction n with
  | zero => intro j; simp [orL]
  | succ n ih =>
    intro j
    simp only [orL, Nat.testBit_or, ih]
    rcases Nat.lt_trichotomy j n with e | e | e
    · have h1 : j < n + 1 := by omega
      have h2 : ¬ n = j := by omega
      by_cases h : f n = true <;> simp [h, h1, e, h2, Nat.testBit_two_pow]
    · subst e
      by_cases h : f j = true <;> simp [h, Nat.testBit_two_pow]
    · have h1 : ¬ j < n + 1 := by omega
      have h0 : ¬ j < n := by omega
      have h2 : ¬ n = j := by omega
      by_cases h : f n = true <;> simp [h, h1, h0, h2, Nat.testBit_two_pow]
theorem orL_lt (f : Nat → Bool) (n : Nat) : orL f n < 2 ^ n := by
  refine Nat.lt_pow_two_of_testBit _ fun i hi => ?_
  rw [orL_bit]
  have : ¬ i < n := by omega
  simp [this]
theorem orL_congr {f g : Nat → Bool} {n : Nat} (h : ∀ k, k < n → f k = g k) : orL f n = orL g n := by
  refine Nat.eq_of_testBit_eq fun j => ?_
  rw [orL_bit, orL_bit]
  by_cases hj : j < n
  · simp [hj, h j hj]
  · simp [hj]
theorem bit_hi {m j : Nat} (hm : m < 256) (hj : 8 ≤ j) : m.testBit j = false := by
  refine Nat.testBit_lt_two_pow (Nat.lt_of_lt_of_le hm ?_)
  exact Nat.le_trans (by decide : 256 ≤ 2 ^ 8) (Nat.pow_le_pow_right (by decide) hj)
theorem msk_eq {x y : Nat} (hx : x < 256) (hy : y < 256) (h : ∀ j, j < 8 → x.testBit j = y.testBit j) : x = y := by
  refine Nat.eq_of_testBit_eq fun j => ?_
  by_cases hj : j < 8
  · exact h j hj
  · rw [bit_hi hx (by omega), bit_hi hy (by omega)]
def sumN (f : Nat → Nat) : Nat → Nat
  | 0 => 0
  | n + 1 => sumN f n + f n
theorem sumN_congr {f g : Nat → Nat} : ∀ {n : Nat}, (∀ k, k < n → f k = g k) → sumN f n = sumN g n := by
  intro n
  induction n with
  | zero => intro _; rfl
  | succ n ih =>
    intro h
    simp only [sumN]
    rw [ih (fun k hk => h k (by omega)), h n (by omega)]
theorem sumN_add (f g : Nat → Nat) : ∀ n : Nat, sumN (fun k => f k + g k) n = sumN f n + sumN g n := by
  intro n
  induction n with
  | zero => rfl
  | succ n ih => simp only [sumN]; rw [ih]; omega
theorem sumN_zero {f : Nat → Nat} : ∀ {n : Nat}, (∀ k, k < n → f k = 0) → sumN f n = 0 := by
  intro n
  induction n with
  | zero => intro _; rfl
  | succ n ih =>
    intro h
    simp only [sumN]
    rw [ih (fun k hk => h k (by omega)), h n (by omega)]
theorem sumN_one (i x : Nat) : ∀ n : Nat, sumN (fun k => if k = i then x else 0) n = if i < n then x else 0 := by
  intro n
  induction n with
  | zero => simp [sumN]
  | succ n ih =>
    simp only [sumN]
    rw [ih]
    by_cases h : n = i
    · subst h; simp
    · have : (i < n + 1) = (i < n) := by
        apply propext; omega
      simp [h, this]
theorem sumN_pos {f : Nat → Nat} : ∀ {n : Nat}, 0 < sumN f n ↔ ∃ k, k < n ∧ 0 < f k := by
  intro n
  induction n with
  | zero => simp [sumN]
  | succ n ih =>
    simp only [sumN]
    constructor
    · intro h
      by_cases h0 : 0 < f n
      · exact ⟨n, by omega, h0⟩
      · obtain ⟨k, hk, h1⟩ := ih.mp (by omega)
        exact ⟨k, by omega, h1⟩
    · rintro ⟨k, hk, h1⟩
      by_cases e : k = n
      · subst e; omega
      · have := ih.mpr ⟨k, by omega, h1⟩
        omega
/-- 32-bit words of masks -/
theorem xI_xor (x y : Nat) : nI x ^^^ nI y = nI (x ^^^ y) := by
  apply Int32.toBitVec_inj.mp
  show BitVec.ofNat 32 x ^^^ BitVec.ofNat 32 y = BitVec.ofNat 32 (x ^^^ y)
  apply BitVec.eq_of_toNat_eq
  simp [BitVec.toNat_xor, BitVec.toNat_ofNat, Nat.xor_mod_two_pow]
theorem xI_and (x y : Nat) : nI x &&& nI y = nI (x &&& y) := by
  apply Int32.toBitVec_inj.mp
  show BitVec.ofNat 32 x &&& BitVec.ofNat 32 y = BitVec.ofNat 32 (x &&& y)
  apply BitVec.eq_of_toNat_eq
  simp [BitVec.toNat_and, BitVec.toNat_ofNat, Nat.and_mod_two_pow]
theorem has_nat : ∀ m, m < 256 → ∀ k, k < 8 → fX5_has (nI m) (nI k) = nI (if m.testBit k then 1 else 0) := by decide +kernel
theorem b01z (c : Bool) : (nI (if c then 1 else 0) = 0) ↔ c = false := by cases c <;> decide
theorem has0 {m k : Nat} (hm : m < 256) (hk : k < 8) : (fX5_has (nI m) (nI k) = 0) ↔ m.testBit k = false := by
  rw [has_nat m hm k hk]; exact b01z _
theorem dn_neg : ∀ x, x < 9 → (dn x < 0 ↔ x = 0) := by decide +kernel
theorem dn_m : ∀ x, x < 9 → (dn x = -1 ↔ x = 0) := by decide +kernel
theorem dn_eq : ∀ x, x < 9 → ∀ y, y < 9 → (dn x = dn y ↔ x = y) := by decide +kernel
theorem dn_nI : ∀ x, x < 9 → ∀ y, y < 9 → (dn x = nI y ↔ x = y + 1) := by decide +kernel
theorem or_add2 : ∀ i, i < 8 → ∀ r, r < 2 ^ i → r ||| 2 ^ i = r + 2 ^ i := by decide +kernel
theorem pop_bits : ∀ m, m < 256 → pop m = sumN (fun k => if m.testBit k then 1 else 0) 8 := by decide +kernel
/-- a group within those who live -/
def subN (g y : Nat) : Prop := ∀ j, j < 8 → g.testBit j = true → y.testBit j = true
theorem sub_i {g y : Nat} (hg : g < 256) : ((nI g &&& (nI y ^^^ (-1))) = 0) ↔ subN g y := by
  have e : (-1 : Int32) = nI (2 ^ 32 - 1) := by decide
  have hlt : g &&& (y ^^^ (2 ^ 32 - 1)) < 256 := Nat.lt_of_le_of_lt Nat.and_le_left hg
  rw [e, xI_xor, xI_and, show (0 : Int32) = nI 0 by decide, nI_eq (by omega) (by decide)]
  constructor
  · intro h j hj hgj
    have h1 : (g &&& (y ^^^ (2 ^ 32 - 1))).testBit j = false := by rw [h]; simp
    rw [Nat.testBit_and, Nat.testBit_xor, Nat.testBit_two_pow_sub_one, hgj] at h1
    have h2 : j < 32 := by omega
    simpa [h2] using h1
  · intro h
    refine Nat.eq_of_testBit_eq fun j => ?_
    rw [Nat.testBit_and, Nat.testBit_xor, Nat.testBit_two_pow_sub_one]
    by_cases hj : j < 8
    · by_cases hgj : g.testBit j = true
      · have h2 : j < 32 := by omega
        simp [hgj, h j hj hgj, h2]
      · simp [hgj]
    · have hz := bit_hi hg (show 8 ≤ j by omega)
      simp [hz]
theorem bit_or2 {r i j : Nat} : (r ||| 2 ^ i).testBit j = (r.testBit j || decide (i = j)) := by
  rw [Nat.testBit_or, Nat.testBit_two_pow]
