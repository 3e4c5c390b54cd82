/-- seal -/
theorem gs_dup {α : Type} {A B A' B' C : α} {x : Int32} {y : Int32} (h : A = C) (h2 : A' = C) : (if x < y then (if gsR (nI 0) (nI 0) = 0 then A else B) else (if gsR (nI 0) (nI 1) = 0 then A' else B')) = C := by
  by_cases z : x < y
  · rw [if_pos z, if_pos (by decide)]; exact h
  · rw [if_neg z, if_pos (by decide)]; exact h2
theorem q_seal {SL sr : Nat} {vs : Nat → Nat → Nat → Int32} {v : Nat → Nat → Int32} {ck so sp : Nat → Int32} {L : Nat} {cs ms mt : Nat → Int32} (h : REL SL sr vs v ck so sp L cs ms mt) (mc : Nat → Int32) (ky q dt : Int32) :
    ((fX5_in ky (nI 0) (nI 250) = 0 ∨ fX5_in q (nI 1) (nI 8) = 0 ∨ fX5_in dt (nI 0) (nI 9999) = 0) ∧ fX5_seal SL ms mc ky q dt = (nI 0, ms, nI SL, nI 1, mc)) ∨
    (¬ fX5_in ky (nI 0) (nI 250) = 0 ∧ ¬ fX5_in q (nI 1) (nI 8) = 0 ∧ ¬ fX5_in dt (nI 0) (nI 9999) = 0 ∧ ¬ q ≤ fX2_livingCount v ∧ fX5_seal SL ms mc ky q dt = (nI 0, ms, nI SL, nI 2, mc)) ∨
    (∃ Q ms' mc', ¬ fX5_in ky (nI 0) (nI 250) = 0 ∧ q = nI Q ∧ 1 ≤ Q ∧ Q ≤ 8 ∧ ¬ fX5_in dt (nI 0) (nI 9999) = 0 ∧ nI Q ≤ fX2_livingCount v ∧ fX5_seal SL ms mc ky q dt = ((fX4_seal SL sr vs v ck ky Q dt).1, ms', nI (fX4_seal SL sr vs v ck ky Q dt).2.1, nI 0, mc') ∧ REL (fX4_seal SL sr vs v ck ky Q dt).2.1 (fX4_seal SL sr vs v ck ky Q dt).2.2.1 (fX4_seal SL sr vs v ck ky Q dt).2.2.2.1 (fX4_seal SL sr vs v ck ky Q dt).2.2.2.2.1 (fX4_seal SL sr vs v ck ky Q dt).2.2.2.2.2 so sp L cs ms' mt) := by
  obtain ⟨⟨hS, hsr, ho, hp⟩, ⟨P, hW, hC, hR, hK⟩, hSR, hT⟩ := h
  have g00 : gsR (nI 0) (nI 0) = nI 0 := gR0 _
  have g01 : gsR (nI 0) (nI 1) = nI 0 := gR0 _
  have t00 : gsT (nI 0) (nI 0) = nI 1 := gT0 _
  have t01 : gsT (nI 0) (nI 1) = nI 1 := gT0 _
  have m2 : ms 2 = nI (P 0 1) := hR.1.2.2.1
  have e1 : fX2_livingCount v = nI (pop (P 0 1)) := by unfold fX2_livingCount; rw [hC.1 1 (by decide), fbit_pop _ hW.lv]
  have hp9 := pop_le (P 0 1)
  by_cases c1 : fX5_in ky (nI 0) (nI 250) = 0
  · refine Or.inl ⟨Or.inl c1, ?_⟩
    unfold fX5_seal
    rw [if_pos c1]
    exact gs_dup (by rw [t00]) (by rw [t01])
  by_cases c2 : fX5_in q (nI 1) (nI 8) = 0
  · refine Or.inl ⟨Or.inr (Or.inl c2), ?_⟩
    unfold fX5_seal
    rw [if_neg c1, if_pos c2]
    exact gs_dup (by rw [t00]) (by rw [t01])
  by_cases c3 : fX5_in dt (nI 0) (nI 9999) = 0
  · refine Or.inl ⟨Or.inr (Or.inr c3), ?_⟩
    unfold fX5_seal
    rw [if_neg c1, if_neg c2, if_pos c3]
    exact gs_dup (by rw [t00]) (by rw [t01])
  obtain ⟨y, -, hy, rfl⟩ := in_rng (by decide) (by decide) c1
  obtain ⟨Q, hq1, hq8, rfl⟩ := in_rng (by decide) (by decide) c2
  obtain ⟨z, -, hz, rfl⟩ := in_rng (by decide) (by decide) c3
  by_cases e : Q ≤ pop (P 0 1)
  · refine Or.inr (Or.inr ⟨Q, ?_⟩)
    have hv := hR.sv0 (S := SL)
    have w1 := shutP_w hW (ky := y) (q := Q) (dt := z) (by omega) hq1 hq8 hz
    have cc := shutP_c hC y Q z
    have cr := shutP_r hv y Q z
    obtain ⟨a1, a2⟩ := deal_c cc w1 hq1
    obtain ⟨d1, d2, d3⟩ := deal_r (mc := mc) cr w1 (Q := Q - 1)
    have eq : Q - 1 + 1 = Q := by omega
    rw [eq] at d2
    have w' := dealP_w w1 Q
    have ef : fX4_seal SL sr vs v ck (nI y) Q (nI z) = ((fX2_drawShares Q (fX2_shut v (nI y) (nI Q) (nI z))).1, kN SL, kR SL sr, kV SL sr vs v, (fX2_drawShares Q (fX2_shut v (nI y) (nI Q) (nI z))).2, fX0_reckon ck (fX2_drawShares Q (fX2_shut v (nI y) (nI Q) (nI z))).2) := by
      unfold fX4_seal fX4_dealShares fX4_save
      simp only []
    rw [ef]
    dsimp only
    refine ⟨(fX5_deals (Q - 1) (upd (upd (upd (upd (svR SL ms) 27 (nI 1)) 28 (nI y)) 29 (nI Q)) 30 (nI z)) mc 0).2.1, (fX5_deals (Q - 1) (upd (upd (upd (upd (svR SL ms) 27 (nI 1)) 28 (nI y)) 29 (nI Q)) 30 (nI z)) mc 0).2.2, c1, rfl, hq1, hq8, c3, by rw [e1]; exact (nI_leI (by omega) (by omega)).mpr e, ?_, REL.mk' hS hsr hSR hC hW hR hT w' a2 d2 (CK.new a2 w' ck) (fun x j1 j2 => by rw [d3 x j1, upd_ne (by omega), upd_ne (by omega), upd_ne (by omega), upd_ne (by omega)]) ho hp⟩
    unfold fX5_seal
    rw [if_neg c1, if_neg c2, if_neg c3, m2, bits_nat _ hW.lv, if_neg (fun x => absurd ((nI_ltI (by omega) (by omega)).mp x) (by omega)), gR1, if_neg (by decide), gT2, nI_clamp (by omega)]
    refine Prod.ext ?_ (Prod.ext rfl (Prod.ext ?_ (Prod.ext rfl rfl)))
    · show (fX5_deals (Q - 1) _ mc 0).1 = (fX2_drawShares Q (fX2_shut v (nI y) (nI Q) (nI z))).1
      rw [a1, d1]
    · show nI (svS SL) = nI (kN SL)
      rw [kN_svS _ hS]
  · refine Or.inr (Or.inl ⟨c1, c2, c3, by rw [e1]; exact fun x => e ((nI_leI (by omega) (by omega)).mp x), ?_⟩)
    unfold fX5_seal
    rw [if_neg c1, if_neg c2, if_neg c3, m2, bits_nat _ hW.lv, if_pos ((nI_ltI (by omega) (by omega)).mpr (by omega)), gR0' _ (Or.inr rfl), if_pos (by decide), gT1]
/-- groups of keepers who are there -/
theorem every_n {v : Nat → Nat → Int32} {K : Nat} (h0 : v 0 0 = nI K) (h8 : K ≤ 8) : fX2_everybody v = nI (2 ^ K - 1) := by
  unfold fX2_everybody
  rw [h0, shl1 (by omega), pk_sub (Nat.two_pow_pos K)]
theorem s_l2 : ∀ n, n < 32 → ((nI n &&& 31).toBitVec.smod 32).toNat = n := by decide +kernel
theorem isGroup_c {v : Nat → Nat → Int32} {ms : Nat → Int32} {K : Nat} (h0 : v 0 0 = nI K) (h1 : ms 1 = nI K) (h8 : K ≤ 8) (g : Int32) :
    (fX5_isGroup ms g = nI 1 ∧ ¬ g < 0 ∧ g ≤ fX2_everybody v ∧ ∃ m, m < 2 ^ K ∧ g = nI m) ∨ (fX5_isGroup ms g = nI 0 ∧ (g < 0 ∨ (¬ g < 0 ∧ ¬ g ≤ fX2_everybody v))) := by
  have hp := p2_256 h8
  have hpp := Nat.two_pow_pos K
  rw [every_n h0 h8]
  unfold fX5_isGroup fX5_in
  by_cases a : g < 0
  · rw [if_pos (show g < nI 0 from a), if_pos (by decide)]
    exact Or.inr ⟨rfl, Or.inl a⟩
  · rw [if_neg (show ¬ g < nI 0 from a)]
    obtain ⟨m, hm, rfl⟩ := nI_of a
    by_cases b : 255 < m
    · rw [if_pos ((nI_ltI (by decide) hm).mpr b), if_pos (by decide)]
      exact Or.inr ⟨rfl, Or.inr ⟨a, fun z => absurd ((nI_leI hm (by omega)).mp z) (by omega)⟩⟩
    · rw [if_neg (fun z => b ((nI_ltI (by decide) hm).mp z)), if_neg (by decide), h1, pk_shrN (k := K) hm (nI K &&& 31) (s_l2 K (by omega))]
      by_cases e : m < 2 ^ K
      · rw [Nat.div_eq_of_lt e, if_pos (by decide)]
        exact Or.inl ⟨rfl, a, (nI_leI hm (by omega)).mpr (by omega), m, e, rfl⟩
      · have : 1 ≤ m / 2 ^ K := (Nat.le_div_iff_mul_le hpp).mpr (by omega)
        have hle : m / 2 ^ K ≤ m := Nat.div_le_self _ _
        rw [if_neg (nI_ne0 (by omega) (by omega))]
        exact Or.inr ⟨rfl, Or.inr ⟨a, fun z => absurd ((nI_leI hm (by omega)).mp z) (by omega)⟩⟩
theorem reaN_lt (P : Nat → Nat → Nat) (g : Nat) (hc : Bool) : reaN P g hc < 7 := by unfold reaN; (repeat' split) <;> omega
theorem look_0 {v : Nat → Nat → Int32} {P : Nat → Nat → Nat} (hC : CV v P) (hW : WF P) {o p : Nat → Int32} (ho : o 0 = 0) (hp : p 0 = 0) : (fX3_look o p v).1 0 = 0 ∧ (fX3_look o p v).2 0 = 0 := by
  obtain ⟨h1, h2⟩ := look_n hC hW ho hp 0 (by decide)
  have e1 : owG P 0 = 0 := by
    refine Nat.eq_of_testBit_eq fun j => ?_
    unfold owG; rw [orL_bit]; simp
  have e2 : prs P 0 = 0 := by
    unfold prs; exact sumN_zero fun h _ => by simp
  rw [h1, h2, e1, e2]
  exact ⟨by decide, by decide⟩
/-- open -/
theorem open29 {S : Nat} {ms : Nat → Int32} {g : Nat} {P : Nat → Nat → Nat} (hR : RV (svR S ms) 0 P) (hW : WF P) (hg : g < 256) : ∀ n i r, i + n = 8 → RV r 0 (tryQ P g i) → (∀ j, 58 ≤ j → r j = svR S ms j) →
    ∃ ms', fX5_open_L29 S ms (nI g) n i r = (nI (reaN P g false), ms', nI (svS S), gsT (fX5_isGroup ms (nI g)) (nI 1)) ∧ RV ms' 0 (tryP P g (decide (reaN P g false = 0))) ∧ ∀ j, 58 ≤ j → ms' j = svR S ms j := by
  have hr := reason_n hR hW hg false
  have hlt := reaN_lt P g false
  rw [if_neg (by decide)] at hr
  intro n
  induction n with
  | zero =>
    intro i r hi h0 hf
    have : i = 8 := by omega
    subst this
    have m27 : r 27 = nI (P 0 4) := h0.1.2.2.2.1
    have m57 : r 57 = nI (P 0 9) := h0.1.2.2.2.2.2.2.2.2.2
    simp only [fX5_open_L29]
    rw [hr]
    by_cases c : reaN P g false = 0
    · rw [if_pos (by rw [c]; decide)]
      have h1 := RV.n4 h0 (n := 2) (x := nI 2) rfl
      have h2 := RV.n9 h1 (n := P 0 9) (x := (upd r 27 (nI 2)) 57 + nI 0) (by rw [upd_ne (by decide), m57, nI_add, Nat.add_zero])
      refine ⟨_, rfl, h2.ext (fun x hx => ?_) fun q q1 q2 d hd => ?_, fun j hj => by rw [upd_ne (by omega), upd_ne (by omega)]; exact hf j hj⟩
      · unfold tryP pU tryQ
        simp only [c, decide_true, if_true]
        by_cases e : x = 9
        · subst e; simp
        · simp [e]
      · have : ¬ q = 0 := by omega
        unfold tryP pU
        simp only [c, decide_true, if_true]
        simp [this]
    · rw [if_neg (fun z => c (by rw [show (0 : Int32) = nI 0 by decide, nI_eq (by omega) (by decide)] at z; exact z))]
      have h1 := RV.n4 h0 (n := P 0 4) (x := r 27) m27
      have h2 := RV.n9 h1 (n := P 0 9 + 1) (x := (upd r 27 (r 27)) 57 + nI 1) (by rw [upd_ne (by decide), m57, nI_add])
      refine ⟨_, rfl, h2.ext (fun x hx => ?_) fun q q1 q2 d hd => ?_, fun j hj => by rw [upd_ne (by omega), upd_ne (by omega)]; exact hf j hj⟩
      · unfold tryP pU tryQ
        simp only [c, decide_false, if_false]
        by_cases e : x = 9
        · subst e; simp
        · by_cases e4 : x = 4
          · subst e4; simp
          · simp [e, e4]
      · have : ¬ q = 0 := by omega
        unfold tryP pU
        simp only [c, decide_false, if_false]
        simp [this]
  | succ n ih =>
    intro i r hi h0 hf
    have hi8 : i < 8 := by omega
    simp only [fX5_open_L29]
    have m3 : r (19 + i) = nI (P 3 i) := by
      have := (h0.2 i hi8).2.2.1
      rw [Nat.zero_add] at this
      rw [this]; unfold tryQ; rw [if_neg (by omega)]
    have st : ∀ x, x = (if g.testBit i then 1 else 0) → RV (upd r (19 + i) (r (19 + i) + nI x)) 0 (tryQ P g (i + 1)) := fun x hx => by
      have := RV.r3 h0 (i := i) (n := P 3 i + (if g.testBit i then 1 else 0)) hi8 (x := r (19 + i) + nI x) (by rw [m3, nI_add, hx])
      rw [tryQ_s, Nat.zero_add] at this
      exact this
    by_cases hb : g.testBit i = true
    · rw [if_neg (fun z => by rw [has0 hg hi8, hb] at z; cases z)]
      exact ih (i + 1) _ (by omega) (st 1 (by rw [if_pos hb])) fun j hj => by rw [upd_ne (by omega)]; exact hf j hj
    · have hb' : g.testBit i = false := by simpa using hb
      rw [if_pos ((has0 hg hi8).mpr hb')]
      exact ih (i + 1) _ (by omega) (st 0 (by rw [if_neg hb])) fun j hj => by rw [upd_ne (by omega)]; exact hf j hj
theorem q_open {SL sr : Nat} {vs : Nat → Nat → Nat → Int32} {v : Nat → Nat → Int32} {ck so sp : Nat → Int32} {L : Nat} {cs ms mt : Nat → Int32} (h : REL SL sr vs v ck so sp L cs ms mt) (g : Int32) :
    ((g < 0 ∨ (¬ g < 0 ∧ ¬ g ≤ fX2_everybody v)) ∧ fX5_open SL ms g = (nI 0, ms, nI SL, nI 1)) ∨
    (¬ g < 0 ∧ g ≤ fX2_everybody v ∧ ∃ ms', fX5_open SL ms g = ((fX4_open SL sr vs v ck so sp g).1, ms', nI (fX4_open SL sr vs v ck so sp g).2.1, nI 0) ∧ REL (fX4_open SL sr vs v ck so sp g).2.1 (fX4_open SL sr vs v ck so sp g).2.2.1 (fX4_open SL sr vs v ck so sp g).2.2.2.1 (fX4_open SL sr vs v ck so sp g).2.2.2.2.1 ck (fX4_open SL sr vs v ck so sp g).2.2.2.2.2.1 (fX4_open SL sr vs v ck so sp g).2.2.2.2.2.2 L cs ms' mt) := by
  obtain ⟨⟨hS, hsr, ho, hp⟩, ⟨P, hW, hC, hR, hK⟩, hSR, hT⟩ := h
  have h0 := hC.1 0 (by decide)
  have m1 : ms 1 = nI (P 0 0) := hR.1.2.1
  have h8 := hW.k8
  rcases isGroup_c h0 m1 h8 g with ⟨g1, g2, g3, m, hm, rfl⟩ | ⟨g1, g2⟩
  · refine Or.inr ⟨g2, g3, ?_⟩
    have hm8 : m < 256 := Nat.lt_of_lt_of_le hm (p2_256 h8)
    have hv := hR.sv0 (S := SL)
    obtain ⟨ms', e1, e2, e3⟩ := open29 hv hW hm8 8 0 (svR SL ms) rfl (by rw [tryQ_0]; exact hv) (fun _ _ => rfl)
    obtain ⟨r1, r2⟩ := refusal_n hC hW hK ho hp hm8
    have hlt := reaN_lt P m false
    obtain ⟨l1, l2⟩ := look_0 hC hW ho hp
    have hop : decide (reaN P m false = 0) = true → P 0 4 = 1 := fun z => by
      have z := of_decide_eq_true z
      unfold reaN at z
      by_cases y : P 0 4 = 1
      · exact y
      · rw [if_neg y] at z; cases z
    have ec := tryP_c hC hm8 (decide (reaN P m false = 0))
    have ef : fX4_open SL sr vs v ck so sp (nI m) = (nI (reaN P m false), kN SL, kR SL sr, kV SL sr vs v, fX2_countTry v (nI m) (nI (if decide (reaN P m false = 0) then 1 else 0)), (fX3_look so sp v).1, (fX3_look so sp v).2) := by
      unfold fX4_open fX4_save
      simp only []
      rw [r1, r2]
      by_cases c : reaN P m false = 0
      · rw [if_pos (by rw [c]; decide)]; simp [c]
      · rw [if_neg (fun z => c (by rw [show (0 : Int32) = nI 0 by decide, nI_eq (by omega) (by decide)] at z; exact z))]; simp [c]
    rw [ef]
    dsimp only
    refine ⟨ms', ?_, REL.mk' hS hsr hSR hC hW hR hT (tryP_w hW m _ hop) ec e2 (hK.same (Or.inr fun z => ?_) ?_ ?_) (fun x j1 j2 => e3 x j1) l1 l2⟩
    · unfold fX5_open
      rw [g1, gR1, if_neg (by decide), e1, g1, gT2]
      show (_, _, nI (svS SL), _) = (_, _, nI (kN SL), _)
      rw [kN_svS _ hS]
    · intro y
      by_cases c : reaN P m false = 0
      · rw [hop (by simp [c])] at y; exact absurd y (by decide)
      · rw [show decide (reaN P m false = 0) = false by simp [c]] at z
        exact z y
    · cases decide (reaN P m false = 0) <;> rfl
    · cases decide (reaN P m false = 0) <;> rfl
  · refine Or.inl ⟨g2, ?_⟩
    unfold fX5_open
    rw [g1, gR0, if_pos (by decide), gT0]
