def drX (x : Int32) : Int32 := (nI 171 * x + nI 11213) - (nI 171 * x + nI 11213) / nI 53125 * nI 53125
def drV (x : Int32) : Int32 := drX x - drX x / nI 251 * nI 251
/-! ===== dealing ===== -/
def xN (x : Nat) : Nat → Nat
  | 0 => x
  | p + 1 => (171 * xN x p + 11213) % 53125
def cfN (P : Nat → Nat → Nat) (p : Nat) : Nat := if p = 0 then P 0 5 else xN (P 0 10) p % 251
theorem xN_lt {x : Nat} (h : x < 53125) : ∀ p, xN x p < 53125 := by
  intro p
  cases p with
  | zero => exact h
  | succ p => exact Nat.mod_lt _ (by decide)
theorem cfN_lt {P : Nat → Nat → Nat} (hW : WF P) (p : Nat) : cfN P p < 251 := by
  unfold cfN
  split
  · exact hW.1.2.2.2.2.2.1
  · exact Nat.mod_lt _ (by decide)
def pwN (y : Nat) : Nat → Nat
  | 0 => 1
  | p + 1 => pwN y p * y % 251
def clN (c : Nat → Nat) (y : Nat) : Nat → Nat
  | 0 => c 0
  | p + 1 => (clN c y p + c (p + 1) * pwN y (p + 1)) % 251
def hoN (c : Nat → Nat) (y : Nat) : Nat → Nat → Nat
  | 0, v => v
  | n + 1, v => hoN c y n ((v * y + c n) % 251)
theorem pwN_eq (y : Nat) : ∀ p, pwN y p % 251 = y ^ p % 251 := by
  intro p
  induction p with
  | zero => rfl
  | succ p ih => simp only [pwN]; rw [Nat.mod_mod, Nat.mul_mod, ih, ← Nat.mul_mod, Nat.pow_succ]
theorem pwN_lt (y : Nat) : ∀ p, pwN y p < 251 := by
  intro p
  cases p with
  | zero => show 1 < 251; decide
  | succ p => exact Nat.mod_lt _ (by decide)
theorem clN_eq (c : Nat → Nat) (y : Nat) : ∀ p, clN c y p % 251 = sumN (fun j => c j * y ^ j) (p + 1) % 251 := by
  intro p
  induction p with
  | zero => simp [clN, sumN]
  | succ p ih =>
    have e : sumN (fun j => c j * y ^ j) (p + 1 + 1) = sumN (fun j => c j * y ^ j) (p + 1) + c (p + 1) * y ^ (p + 1) := rfl
    simp only [clN]
    rw [e, Nat.mod_mod, Nat.add_mod, ih, Nat.mul_mod, pwN_eq, ← Nat.mul_mod, ← Nat.add_mod]
theorem clN_lt {c : Nat → Nat} (h0 : c 0 < 251) (y : Nat) : ∀ p, clN c y p < 251 := by
  intro p
  cases p with
  | zero => exact h0
  | succ p => exact Nat.mod_lt _ (by decide)
theorem hoN_eq (c : Nat → Nat) (y : Nat) : ∀ n v, hoN c y n v % 251 = (sumN (fun j => c j * y ^ j) n + v * y ^ n) % 251 := by
  intro n
  induction n with
  | zero => intro v; simp [hoN, sumN]
  | succ n ih =>
    intro v
    have e : sumN (fun j => c j * y ^ j) (n + 1) = sumN (fun j => c j * y ^ j) n + c n * y ^ n := rfl
    have e2 : sumN (fun j => c j * y ^ j) n + c n * y ^ n + v * y ^ (n + 1) = sumN (fun j => c j * y ^ j) n + (v * y + c n) * y ^ n := by
      rw [Nat.add_mul, Nat.pow_succ, Nat.mul_assoc v y, Nat.mul_comm y]; omega
    simp only [hoN]
    rw [ih, e, e2, Nat.add_mod, Nat.mod_mul_mod, ← Nat.add_mod]
theorem hoN_lt (c : Nat → Nat) (y : Nat) : ∀ n v, v < 251 → hoN c y n v < 251 := by
  intro n
  induction n with
  | zero => intro v hv; exact hv
  | succ n ih => intro v _; exact ih _ (Nat.mod_lt _ (by decide))
theorem cl_ho {c : Nat → Nat} (h0 : c 0 < 251) (y p : Nat) : hoN c y (p + 1) 0 = clN c y p := by
  have h1 := hoN_eq c y (p + 1) 0
  have h2 := clN_eq c y p
  simp only [Nat.zero_mul, Nat.add_zero] at h1
  rw [← h2, Nat.mod_eq_of_lt (hoN_lt c y _ 0 (by decide)), Nat.mod_eq_of_lt (clN_lt h0 y p)] at h1
  exact h1
/-- with q powers, 1 to q - 1 drawn -/
def dealP (P : Nat → Nat → Nat) (q : Nat) : Nat → Nat → Nat := fun c d =>
  if c = 0 then (if d = 2 then 0 else if d = 8 then P 0 8 + 1 else if d = 10 then xN (P 0 10) (q - 1) else P 0 d)
  else if c = 4 then (if (P 0 1).testBit d then d + 1 else 0)
  else if c = 5 then clN (cfN P) (d + 1) (q - 1)
  else P c d
theorem dealP_w {P : Nat → Nat → Nat} (hW : WF P) (q : Nat) : WF (dealP P q) := by
  obtain ⟨w0, w1, w2, w3, w4, w5, w6, w7, w8, w9⟩ := hW.1
  refine ⟨⟨w0, w1, by show 0 < 256; decide, w3, w4, w5, w6, w7, w8, xN_lt w9 _⟩, fun i hi => ?_⟩
  obtain ⟨k1, k2, k3, k4, k5, k6, k7⟩ := hW.2 i hi
  refine ⟨k1, k2, k3, k4, k5, ?_, ?_⟩
  · show (if (P 0 1).testBit i then i + 1 else 0) ≤ P 0 0
    split
    · rename_i h; exact hW.lk h
    · omega
  · exact clN_lt (cfN_lt hW 0) _ _
theorem drX_n {x : Nat} (hx : x < 53125) : drX (nI x) = nI ((171 * x + 11213) % 53125) := by
  unfold drX
  rw [pk_mul, nI_add, pk_rem (by omega) (by decide) (by decide)]
theorem drV_n {x : Nat} (hx : x < 53125) : drV (nI x) = nI ((171 * x + 11213) % 53125 % 251) := by
  have := Nat.mod_lt (171 * x + 11213) (by decide : 0 < 53125)
  unfold drV
  rw [drX_n hx, mod_i (by omega)]
/-- the class -/
theorem power_n {y w : Nat} (hy : y ≤ 8) : fX2_powerOf y w = nI (pwN y w) := by
  have key : ∀ n i, i + n = w → fX2_powerOf_L4 y n i (nI (pwN y i)) = nI (pwN y w) := by
    intro n
    induction n with
    | zero => intro i hi; have : i = w := by omega
              subst this; rfl
    | succ n ih =>
      intro i hi
      simp only [fX2_powerOf_L4]
      have := pwN_lt y i
      rw [mulmod_i this (by omega)]
      exact ih (i + 1) (by omega)
  exact key w 0 (by omega)
def dq5 (P : Nat → Nat → Nat) (p i : Nat) : Nat → Nat → Nat := fun c d =>
  if c = 0 then (if d = 2 then 0 else if d = 10 then xN (P 0 10) (p + 1) else P 0 d)
  else if c = 4 then (if (P 0 1).testBit d then d + 1 else 0)
  else if c = 5 then (if d < i then clN (cfN P) (d + 1) (p + 1) else clN (cfN P) (d + 1) p)
  else P c d
theorem dq5_s (P : Nat → Nat → Nat) (p i : Nat) : pU (dq5 P p i) 5 i (clN (cfN P) (i + 1) (p + 1)) = dq5 P p (i + 1) := by
  funext c d
  unfold pU dq5
  by_cases e0 : c = 5
  · subst e0
    by_cases e1 : d = i
    · subst e1; simp
    · by_cases e2 : d < i
      · have : d < i + 1 := by omega
        simp [e1, e2, this]
      · have : ¬ d < i + 1 := by omega
        simp [e1, e2, this]
  · simp [e0]
theorem draw_c {v : Nat → Nat → Int32} {P : Nat → Nat → Nat} {x : Nat} (hC : CV v P) (hx : P 0 10 = x) (hlt : x < 53125) : (fX2_draw v).1 = nI ((171 * x + 11213) % 53125 % 251) ∧ CV (fX2_draw v).2 (pU P 0 10 ((171 * x + 11213) % 53125)) := by
  have h10 := hC.1 10 (by decide)
  rw [hx] at h10
  have e1 : (fX2_draw v).1 = drV (v 0 10) := rfl
  have e2 : (fX2_draw v).2 = sS v 10 (drX (v 0 10)) := rfl
  rw [e1, e2, h10]
  exact ⟨drV_n hlt, CV.num hC (drX_n hlt)⟩
theorem deal65 {v1 : Nat → Nat → Int32} {P : Nat → Nat → Nat} (hW : WF P) {p : Nat} (hc : (fX2_draw v1).1 = nI (cfN P (p + 1))) (kk : Nat → (Nat → Nat → Int32) → Int32 × (Nat → Nat → Int32)) : ∀ n i v0, i + n = 8 → CV v0 (dq5 P p i) → ∃ v', fX2_drawShares_L65 kk (p + 1) v1 n i v0 = kk (p + 1 + 1) v' ∧ CV v' (dq5 P p 8) := by
  intro n
  induction n with
  | zero => intro i v0 hi h0; have : i = 8 := by omega
            subst this; exact ⟨v0, rfl, h0⟩
  | succ n ih =>
    intro i v0 hi h0
    have hi8 : i < 8 := by omega
    simp only [fX2_drawShares_L65]
    have h5 : v0 5 i = nI (clN (cfN P) (i + 1) p) := by
      have := (h0.2 i hi8).2.2.2.2
      rw [this]; unfold dq5; simp
    have g1 := clN_lt (cfN_lt hW 0) (i + 1) p
    have g2 := cfN_lt hW (p + 1)
    have g3 := pwN_lt (i + 1) (p + 1)
    have g4 : cfN P (p + 1) * pwN (i + 1) (p + 1) ≤ 250 * 250 := Nat.mul_le_mul (by omega) (by omega)
    refine ih (i + 1) _ (by omega) ?_
    rw [← dq5_s]
    refine CV.r5 h0 ?_
    rw [h5, hc, power_n (by omega), pk_mul, nI_add, mod_i (by omega)]
    rfl
def dqP (P : Nat → Nat → Nat) (p : Nat) : Nat → Nat → Nat := fun c d =>
  if c = 0 then (if d = 2 then 0 else if d = 10 then xN (P 0 10) p else P 0 d)
  else if c = 4 then (if (P 0 1).testBit d then d + 1 else 0)
  else if c = 5 then clN (cfN P) (d + 1) p
  else P c d
theorem deal50 {P : Nat → Nat → Nat} (hW : WF P) : ∀ n p v0, CV v0 (dqP P p) → (fX2_drawShares_L50 n (p + 1) v0).1 = nI (pop (P 0 1)) ∧ CV (fX2_drawShares_L50 n (p + 1) v0).2 (dealP P (p + n + 1)) := by
  intro n
  induction n with
  | zero =>
    intro p v0 h0
    simp only [fX2_drawShares_L50]
    have h8 : v0 0 8 = nI (P 0 8) := h0.1 8 (by decide)
    have hc : CV (sS v0 8 ((v0 0 8) + (nI 1))) (pU (dqP P p) 0 8 (P 0 8 + 1)) := CV.num h0 (by rw [h8, nI_add])
    refine ⟨?_, hc.ext (fun i hi => ?_) fun r r1 r2 d hd => ?_⟩
    · unfold fX2_livingCount
      have h1 : (sS v0 8 ((v0 0 8) + (nI 1))) 0 1 = nI (P 0 1) := hc.1 1 (by decide)
      rw [h1, fbit_pop _ hW.lv]
    · unfold pU dqP dealP
      by_cases e : i = 8
      · subst e; simp
      · simp [e]
    · have e0 : ¬ r = 0 := by omega
      unfold pU dqP dealP
      simp [e0]
  | succ n ih =>
    intro p v0 h0
    simp only [fX2_drawShares_L50]
    have hx : dqP P p 0 10 = xN (P 0 10) p := rfl
    obtain ⟨d1, d2⟩ := draw_c h0 hx (xN_lt hW.1.2.2.2.2.2.2.2.2.2 p)
    obtain ⟨v', e1, e2⟩ := deal65 hW (p := p) (v1 := v0) d1 (fX2_drawShares_L50 n) 8 0 (fX2_draw v0).2 rfl (d2.ext (fun i hi => by
      unfold pU dqP dq5
      by_cases e : i = 10
      · subst e; simp [xN]
      · simp [e]) fun r r1 r2 d hd => by
      have e0 : ¬ r = 0 := by omega
      unfold pU dqP dq5
      simp [e0])
    rw [e1]
    have h := ih (p + 1) v' (e2.ext (fun i _ => rfl) fun r r1 r2 d hd => by
      unfold dq5 dqP
      by_cases e : r = 5
      · subst e; simp [hd]
      · simp [e])
    rw [show p + (n + 1) + 1 = p + 1 + n + 1 by omega]
    exact h
def dq7 (P : Nat → Nat → Nat) (i : Nat) : Nat → Nat → Nat := fun c d =>
  if c = 0 then (if d = 2 then 0 else P 0 d)
  else if c = 4 ∧ d < i then (if (P 0 1).testBit d then d + 1 else 0)
  else if c = 5 ∧ d < i then P 0 5
  else P c d
theorem deal7 {P : Nat → Nat → Nat} (hW : WF P) {q : Nat} (hq1 : 1 ≤ q) : ∀ n i v0, i + n = 8 → CV v0 (dq7 P i) → (fX2_drawShares_L7 q n i v0).1 = nI (pop (P 0 1)) ∧ CV (fX2_drawShares_L7 q n i v0).2 (dealP P q) := by
  intro n
  induction n with
  | zero =>
    intro i v0 hi h0
    have : i = 8 := by omega
    subst this
    simp only [fX2_drawShares_L7]
    have h := deal50 hW (q - 1) 0 v0 (h0.ext (fun i hi => by
      unfold dq7 dqP
      by_cases e : i = 10
      · subst e; simp [xN]
      · simp [e]) fun r r1 r2 d hd => by
      have e0 : ¬ r = 0 := by omega
      unfold dq7 dqP
      by_cases e4 : r = 4
      · subst e4; simp [hd]
      · by_cases e5 : r = 5
        · subst e5; simp [hd, clN, cfN]
        · simp [e0, e4, e5])
    rw [show 0 + (q - 1) + 1 = q by omega] at h
    exact h
  | succ n ih =>
    intro i v0 hi h0
    have hi8 : i < 8 := by omega
    simp only [fX2_drawShares_L7]
    have h00 : v0 0 0 = nI (P 0 0) := h0.1 0 (by decide)
    have h01 : v0 0 1 = nI (P 0 1) := h0.1 1 (by decide)
    have h05 : v0 0 5 = nI (P 0 5) := h0.1 5 (by decide)
    rw [lives_n h00 h01 hW.1.1 hW.1.2.1 hi8]
    have st : ∀ x, x = dn (if (P 0 1).testBit i then i + 1 else 0) → CV (sR (sR v0 4 (upd (v0 4) i x)) 5 (upd (v0 5) i (v0 0 5))) (dq7 P (i + 1)) := fun x hx => by
      have c1 := CV.r4 h0 (i := i) (n := if (P 0 1).testBit i then i + 1 else 0) (x := x) hx
      have c2 := CV.r5 c1 (i := i) (n := P 0 5) (x := v0 0 5) h05
      have e5 : (sR v0 4 (upd (v0 4) i x)) 5 = v0 5 := by funext j; rw [cp_r, if_neg (by decide)]
      rw [e5] at c2
      refine c2.ext (fun j _ => ?_) fun r r1 r2 d hd => ?_
      · unfold pU dq7; simp
      · have e0 : ¬ r = 0 := by omega
        unfold pU dq7
        by_cases e4 : r = 4
        · subst e4
          by_cases e1 : d = i
          · subst e1; simp
          · by_cases e2 : d < i
            · have : d < i + 1 := by omega
              simp [e1, e2, this]
            · have : ¬ d < i + 1 := by omega
              simp [e1, e2, this]
        · by_cases e5 : r = 5
          · subst e5
            by_cases e1 : d = i
            · subst e1; simp
            · by_cases e2 : d < i
              · have : d < i + 1 := by omega
                simp [e1, e2, this]
              · have : ¬ d < i + 1 := by omega
                simp [e1, e2, this]
          · simp [e0, e4, e5]
    cases hb : (P 0 1).testBit i with
    | false =>
      rw [if_pos (by decide)]
      exact ih (i + 1) _ (by omega) (st _ (by rw [hb]; rfl))
    | true =>
      rw [if_neg (by decide)]
      exact ih (i + 1) _ (by omega) (st _ (by rw [hb]; rfl))
theorem deal_c {v : Nat → Nat → Int32} {P : Nat → Nat → Nat} (hC : CV v P) (hW : WF P) {q : Nat} (hq1 : 1 ≤ q) : (fX2_drawShares q v).1 = nI (pop (P 0 1)) ∧ CV (fX2_drawShares q v).2 (dealP P q) := by
  unfold fX2_drawShares
  refine deal7 hW hq1 8 0 _ rfl ((CV.num hC (i := 2) (n := 0) rfl).ext (fun i _ => ?_) fun r r1 r2 d _ => ?_)
  · unfold pU dq7; by_cases e : i = 2 <;> simp [e]
  · have e0 : ¬ r = 0 := by omega
    unfold pU dq7; simp [e0]
def dq9 (P : Nat → Nat → Nat) (Q i : Nat) (f : Nat) : Nat → Nat → Nat := fun c d =>
  if c = 0 then (if d = 2 then f else if d = 10 then xN (P 0 10) Q else P 0 d)
  else if c = 4 ∧ d < i then (if (P 0 1).testBit d then d + 1 else 0)
  else if c = 5 ∧ d < i then clN (cfN P) (d + 1) Q
  else P c d
theorem cntF_t {C : Nat → Bool} {n i : Nat} (h : C i = true) : cntF C (n + 1) i = 1 + cntF C n (i + 1) := by
  simp only [cntF]
  rw [if_pos h]
theorem cntF_f {C : Nat → Bool} {n i : Nat} (h : C i = false) : cntF C (n + 1) i = cntF C n (i + 1) := by
  simp only [cntF]
  rw [if_neg (by rw [h]; decide), Nat.zero_add]
theorem pop_cnt : ∀ m, m < 256 → cntF (fun j => m.testBit j) 8 0 = pop m := by decide +kernel
