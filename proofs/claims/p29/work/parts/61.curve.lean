/-! ===== curves over the field of 251: coefficients of the value at a place ===== -/
def ivT (v : Nat) : Nat := v ^ 249 % 251
def abN (m t k : Nat) (x : Nat) : Nat → Nat
  | 0 => x
  | j + 1 => if j = k then abN m t k x j else if m.testBit j then abN m t k x j * ((t + 250 - j) % 251) % 251 else abN m t k x j
def beN (m k : Nat) : Nat → Nat
  | 0 => 1
  | j + 1 => if j = k then beN m k j else if m.testBit j then beN m k j * ((k + 251 - j) % 251) % 251 else beN m k j
def coL (m t k : Nat) : Nat := if m.testBit k then abN m t k 1 8 * ivT (beN m k 8) % 251 else 0
def dotN (a c : Nat → Nat) (n : Nat) : Nat := sumN (fun k => a k * c k) n
/-- the value at the place t of the curve through the shares of the set m -/
def lag (a : Nat → Nat) (m t : Nat) : Nat := dotN a (coL m t) 8 % 251
/-- the lowest of a set, so many of them -/
def lowQ (m q : Nat) : Nat → Nat
  | 0 => 0
  | k + 1 => lowQ m q k ||| (if m.testBit k && decide (pop (lowQ m q k) < q) then 2 ^ k else 0)
def lowq (m q : Nat) : Nat := lowQ m q 8
theorem abN_mod (m t k x : Nat) : ∀ n : Nat, abN m t k x n % 251 = x * abN m t k 1 n % 251 := by
  intro n
  induction n with
  | zero => simp [abN]
  | succ n ih =>
    simp only [abN]
    split
    · exact ih
    · split
      · rw [Nat.mod_mod, Nat.mul_mod, ih, Nat.mul_mod_mod, Nat.mul_mod, Nat.mod_mod, ← Nat.mul_mod, Nat.mul_assoc, Nat.mul_mod_mod]
      · exact ih
theorem abN_lt (m t k x : Nat) (hx : x < 251) : ∀ n : Nat, abN m t k x n < 251 := by
  intro n
  induction n with
  | zero => exact hx
  | succ n ih =>
    simp only [abN]
    split
    · exact ih
    · split
      · exact Nat.mod_lt _ (by decide)
      · exact ih
theorem beN_lt (m k : Nat) : ∀ n : Nat, beN m k n < 251 := by
  intro n
  induction n with
  | zero => simp [beN]
  | succ n ih =>
    simp only [beN]
    split
    · exact ih
    · split
      · exact Nat.mod_lt _ (by decide)
      · exact ih
theorem ivT_lt (v : Nat) : ivT v < 251 := Nat.mod_lt _ (by decide)
theorem dot_lin {a c c1 c2 : Nat → Nat} {x y : Nat} : ∀ {n : Nat}, (∀ k, k < n → c k % 251 = (x * c1 k + y * c2 k) % 251) → dotN a c n % 251 = (x * dotN a c1 n + y * dotN a c2 n) % 251 := by
  intro n
  induction n with
  | zero => intro _; simp [dotN, sumN]
  | succ n ih =>
    intro h
    have h1 := ih (fun k hk => h k (by omega))
    have h2 := h n (by omega)
    simp only [dotN, sumN] at h1 ⊢
    have e : x * (sumN (fun k => a k * c1 k) n + a n * c1 n) + y * (sumN (fun k => a k * c2 k) n + a n * c2 n) = (x * sumN (fun k => a k * c1 k) n + y * sumN (fun k => a k * c2 k) n) + a n * (x * c1 n + y * c2 n) := by
      simp only [Nat.mul_add]
      rw [Nat.mul_left_comm x (a n), Nat.mul_left_comm y (a n)]
      omega
    rw [e, Nat.add_mod, h1, Nat.mul_mod, h2, ← Nat.mul_mod, ← Nat.add_mod]
theorem lag_lt (a : Nat → Nat) (m t : Nat) : lag a m t < 251 := Nat.mod_lt _ (by decide)
/-- Neville's step, at 0 -/
theorem tabN : ∀ h, h < 8 → ∀ l, l < h → ∀ r, r < 2 ^ l → ∀ k, k < 8 →
    coL (r ||| 2 ^ l ||| 2 ^ h) 0 k % 251 = ((ivT (h - l) * (h + 1)) * coL (r ||| 2 ^ l) 0 k + (ivT (h - l) * (250 - l)) * coL (r ||| 2 ^ h) 0 k) % 251 := by decide +kernel
theorem tab1 : ∀ h, h < 8 → ∀ k, k < 8 → coL (2 ^ h) 0 k = if k = h then 1 else 0 := by decide +kernel
theorem tabQ1 : ∀ h, h < 8 → ∀ q, q < 9 → 1 ≤ q → lowq (2 ^ h) q = 2 ^ h := by decide +kernel
theorem tabQle : ∀ m, m < 256 → ∀ q, q < 9 → pop m ≤ q → lowq m q = m := by decide +kernel
theorem tabQh : ∀ h, h < 8 → ∀ l, l < h → ∀ r, r < 2 ^ l → ∀ q, q < 9 → q < pop (r ||| 2 ^ l ||| 2 ^ h) → lowq (r ||| 2 ^ l ||| 2 ^ h) q = lowq (r ||| 2 ^ l) q := by decide +kernel
theorem tabP : ∀ h, h < 8 → ∀ l, l < h → ∀ r, r < 2 ^ l → pop (r ||| 2 ^ l ||| 2 ^ h) = pop r + 2 ∧ pop (r ||| 2 ^ l) = pop r + 1 ∧ pop (r ||| 2 ^ h) = pop r + 1 := by decide +kernel
/-- the set without its highest, its lowest, and its highest's place -/
def topN (m : Nat) : Nat := Nat.log2 m
def dropH (m : Nat) : Nat := m - 2 ^ topN m
def dropL (m : Nat) : Nat := m &&& (m - 1)
theorem tabE : ∀ m, m < 256 → ∀ k, k < 8 → m.testBit k = true → ∀ j, j < 8 → coL m (k + 1) j = if j = k then 1 else 0 := by decide +kernel
def tabWk (m q : Nat) : Bool := !(decide (q < pop m)) || ((lowq m q == dropH (lowq m (q + 1)) && lowq (dropL m) q == dropL (lowq m (q + 1))) && ((decide (2 ≤ pop (lowq m (q + 1))) && m.testBit (topN (lowq m (q + 1)))) && (decide (lowq m (q + 1) < 256) && decide (topN (lowq m (q + 1)) < 8))))
theorem tabWb : ∀ m, m < 256 → ∀ q, q < 8 → 1 ≤ q → tabWk m q = true := by decide +kernel
theorem tabW (m : Nat) (hm : m < 256) (q : Nat) (hq : q < 8) (hq1 : 1 ≤ q) (hp : q < pop m) : lowq m q = dropH (lowq m (q + 1)) ∧ lowq (dropL m) q = dropL (lowq m (q + 1)) ∧ 2 ≤ pop (lowq m (q + 1)) ∧ m.testBit (topN (lowq m (q + 1))) = true ∧ lowq m (q + 1) < 256 ∧ topN (lowq m (q + 1)) < 8 := by
  have h := tabWb m hm q hq hq1
  unfold tabWk at h
  simp only [hp, decide_true, Bool.not_true, Bool.false_or, Bool.and_eq_true, beq_iff_eq, decide_eq_true_eq] at h
  exact ⟨h.1.1, h.1.2, h.2.1.1, h.2.1.2, h.2.2.1, h.2.2.2⟩
def nuT (U t : Nat) : Nat := coL (dropL U) t (topN U)
theorem tabV : ∀ U, U < 256 → 2 ≤ pop U → nuT U 0 * ivT (nuT U 0) % 251 = 1 := by decide +kernel
def tabBk (U : Nat) : Bool := (List.range 9).all fun t => (List.range 8).all fun j => (coL (dropH U) t j == (coL (dropL U) t j + nuT U t * (coL (dropH U) (topN U + 1) j + if j = topN U then 250 else 0)) % 251)
theorem tabB : ∀ U, U < 256 → 2 ≤ pop U → tabBk U = true := by decide +kernel
theorem lowq_lt (m q : Nat) : lowq m q < 256 := by
  have key : ∀ n, lowQ m q n < 2 ^ n := by
    intro n
    induction n with
    | zero => simp [lowQ]
    | succ n ih =>
      simp only [lowQ]
      refine Nat.or_lt_two_pow ?_ ?_
      · exact Nat.lt_trans ih (Nat.pow_lt_pow_right (by decide) (by omega))
      · split
        · exact Nat.pow_lt_pow_right (by decide) (by omega)
        · exact Nat.two_pow_pos _
  exact key 8
