/-! ===== the class's state beside the reference's ===== -/
def TXR (L : Nat) (cs mt : Nat → Int32) : Prop := L ≤ 60 ∧ ∀ i, i < L → cs i = mt i ∧ ∃ c : Nat, 33 ≤ c ∧ c ≤ 126 ∧ cs i = nI c
def PLR (v : Nat → Nat → Int32) (ck ms : Nat → Int32) : Prop := ∃ P, WF P ∧ CV v P ∧ RV ms 0 P ∧ CK ck P
def REL (SL sr : Nat) (vs : Nat → Nat → Nat → Int32) (v : Nat → Nat → Int32) (ck so sp : Nat → Int32) (L : Nat) (cs ms mt : Nat → Int32) : Prop :=
  (SL ≤ 6 ∧ sr < 6 ∧ so 0 = 0 ∧ sp 0 = 0) ∧ PLR v ck ms ∧ SR SL sr vs ms ∧ TXR L cs mt
theorem gR0 (x : Int32) : gsR (nI 0) x = nI 0 := by unfold gsR; rw [if_pos (by decide)]
theorem gR0' (x : Int32) (h : x = nI 0 ∨ x = nI 1) : gsR x (nI 0) = nI 0 := by rcases h with rfl | rfl <;> decide
theorem gR1 : gsR (nI 1) (nI 1) = nI 1 := by decide
theorem gT0 (x : Int32) : gsT (nI 0) x = nI 1 := by unfold gsT; rw [if_pos (by decide)]
theorem gT1 : gsT (nI 1) (nI 0) = nI 2 := by decide
theorem gT2 : gsT (nI 1) (nI 1) = nI 0 := by decide
theorem i0 : (nI 0 = 0) = True := by simp only [eq_iff_iff, iff_true]; decide
theorem i1 : (nI 1 = 0) = False := by simp only [eq_iff_iff, iff_false]; decide
/-- a keeper's number -/
theorem hasK_01 (v : Nat → Nat → Int32) (k : Int32) : fX2_hasKeeper v k = nI 0 ∨ fX2_hasKeeper v k = nI 1 := by
  unfold fX2_hasKeeper
  (repeat' split) <;> simp
theorem isK_c {v : Nat → Nat → Int32} {ms : Nat → Int32} {K : Nat} (h0 : v 0 0 = nI K) (h1 : ms 1 = nI K) (h8 : K ≤ 8) (k : Int32) : fX5_isKeeper ms k = fX2_hasKeeper v k := by
  unfold fX5_isKeeper fX5_in fX2_hasKeeper
  rw [h0, h1]
  by_cases a : k < 0
  · rw [if_pos (show k < nI 0 from a), if_pos a]
  · rw [if_neg (show ¬ k < nI 0 from a), if_neg a]
    obtain ⟨j, hj, rfl⟩ := nI_of a
    by_cases b : K ≤ j
    · rw [if_pos ((nI_leI (by omega) hj).mpr b)]
      by_cases c : K = 0
      · subst c
        rw [show nI 0 - nI 1 = -1 by decide, if_pos]
        rw [Int32.lt_iff_toInt_lt, nI_toInt hj, show (-1 : Int32).toInt = -1 by decide]
        omega
      · rw [pk_sub (by omega), if_pos ((nI_ltI (by omega) hj).mpr (by omega))]
    · rw [if_neg (fun z => b ((nI_leI (by omega) hj).mp z)), if_neg (fun z => absurd ((nI_leI (by omega) hj).mp z) (by omega)), pk_sub (by omega), if_neg (fun z => absurd ((nI_ltI (by omega) hj).mp z) (by omega))]
theorem hasK_n {v : Nat → Nat → Int32} {K j : Nat} (h0 : v 0 0 = nI K) (h8 : K ≤ 8) (hj : j < K) : fX2_hasKeeper v (nI j) = nI 1 := by
  unfold fX2_hasKeeper
  rw [h0, if_neg (nI_pos (by omega)), if_neg (fun z => absurd ((nI_leI (by omega) (by omega)).mp z) (by omega)), if_neg (fun z => absurd ((nI_leI (by omega) (by omega)).mp z) (by omega))]
theorem hasK_j {v : Nat → Nat → Int32} {K : Nat} {k : Int32} (h0 : v 0 0 = nI K) (h8 : K ≤ 8) (h : ¬ fX2_hasKeeper v k = 0) : ∃ j : Nat, j < K ∧ k = nI j := by
  unfold fX2_hasKeeper at h
  rw [h0] at h
  by_cases a : k < 0
  · rw [if_pos a] at h; exact absurd (by decide) h
  · obtain ⟨j, hj, rfl⟩ := nI_of a
    rw [if_neg a] at h
    by_cases b : nI K ≤ nI j
    · rw [if_pos b] at h; exact absurd (by decide) h
    · exact ⟨j, Nat.not_le.mp fun z => b ((nI_leI (by omega) hj).mpr z), rfl⟩
theorem lives_has2 {v : Nat → Nat → Int32} {ms : Nat → Int32} {P : Nat → Nat → Nat} (hW : WF P) (hC : CV v P) (hR : RV ms 0 P) {j : Nat} (hj : j < 8) : fX5_has (ms 2) (nI j) = fX2_lives v (nI j) := by
  have h2 : ms 2 = nI (P 0 1) := hR.1.2.2.1
  rw [h2, has_nat _ hW.lv j hj, lives_n (hC.1 0 (by decide)) (hC.1 1 (by decide)) hW.1.1 hW.1.2.1 hj]
theorem CK.same {ck : Nat → Int32} {P Q : Nat → Nat → Nat} (h : CK ck P) (h4 : Q 0 4 = P 0 4 ∨ (Q 0 4 ≠ 0 → P 0 4 ≠ 0)) (h5 : Q 5 = P 5) (h6 : Q 0 6 = P 0 6) : CK ck Q := fun z => by
  rw [h5, h6]
  exact h (by rcases h4 with e | e; rw [← e]; exact z; exact e z)
theorem CK.new {v : Nat → Nat → Int32} {P : Nat → Nat → Nat} (hC : CV v P) (hW : WF P) (k : Nat → Int32) : CK (fX0_reckon k v) P := fun z =>
  reck (hC.1 6 (by decide)) (hW.1.2.2.2.2.2.2.2.1 z) hW.1.2.2.2.2.2.2.1 (fun i hi => ⟨(hC.2 i hi).2.2.2.2, hW.va hi⟩) k
theorem kN_svS (S : Nat) (h : S ≤ 6) : kN S = svS S := by unfold kN svS; (repeat' split) <;> omega
theorem kR_lt {S sr : Nat} (h : sr < 6) : kR S sr < 6 := by unfold kR; split <;> omega
theorem REL.mk' {SL sr : Nat} {vs : Nat → Nat → Nat → Int32} {v v' : Nat → Nat → Int32} {ck' so' sp' : Nat → Int32} {L : Nat} {cs ms ms' mt : Nat → Int32} {P P' : Nat → Nat → Nat} (hS : SL ≤ 6) (hsr : sr < 6) (hSR : SR SL sr vs ms) (hC : CV v P) (hW : WF P) (hR : RV ms 0 P) (hT : TXR L cs mt)
    (w' : WF P') (c' : CV v' P') (r' : RV ms' 0 P') (k' : CK ck' P') (e : ∀ j, 58 ≤ j → j < 406 → ms' j = svR SL ms j) (ho : so' 0 = 0) (hp : sp' 0 = 0) : REL (kN SL) (kR SL sr) (kV SL sr vs v) v' ck' so' sp' L cs ms' mt := by
  refine ⟨⟨by rw [kN_svS _ hS]; exact svS_le hS, kR_lt hsr, ho, hp⟩, ⟨P', w', c', r', k'⟩, ?_, hT⟩
  rw [kN_svS _ hS]
  exact (hSR.save hS hsr hC hW hR).keep (svS_le hS) e
/-- keeper -/
theorem q_keeper {SL sr : Nat} {vs : Nat → Nat → Nat → Int32} {v : Nat → Nat → Int32} {ck so sp : Nat → Int32} {L : Nat} {cs ms mt : Nat → Int32} (h : REL SL sr vs v ck so sp L cs ms mt) :
    (¬ v 0 0 < nI 8 ∧ fX5_keeper SL ms = (nI 0, ms, nI SL, nI 1)) ∨
    (v 0 0 < nI 8 ∧ ∃ ms', fX5_keeper SL ms = ((fX4_keeper SL sr vs v).1, ms', nI (fX4_keeper SL sr vs v).2.1, nI 0) ∧ REL (fX4_keeper SL sr vs v).2.1 (fX4_keeper SL sr vs v).2.2.1 (fX4_keeper SL sr vs v).2.2.2.1 (fX4_keeper SL sr vs v).2.2.2.2 ck so sp L cs ms' mt) := by
  obtain ⟨⟨hS, hsr, ho, hp⟩, ⟨P, hW, hC, hR, hK⟩, hSR, hT⟩ := h
  have h0 := hC.1 0 (by decide)
  have m1 : ms 1 = nI (P 0 0) := hR.1.2.1
  have h8 := hW.k8
  unfold fX5_keeper
  rw [m1, h0]
  by_cases c : P 0 0 < 8
  · refine Or.inr ⟨(nI_ltI (by omega) (by omega)).mpr c, ?_⟩
    rw [if_neg (fun z => absurd ((nI_leI (by omega) (by omega)).mp z) (by omega)), gR1, if_neg (by decide), gT2]
    obtain ⟨a1, a2⟩ := addP_c hC c
    have hs := hR.sv0 (S := SL)
    have s1 : svR SL ms 1 = nI (P 0 0) := hs.1.2.1
    have e1 : upd (svR SL ms) 2 ((svR SL ms 2) ||| ((nI 1) <<< ((svR SL ms 1) &&& 31))) 1 = svR SL ms 1 := upd_ne (by decide)
    have ar := addP_r hs c
    rw [e1, upd_eq]
    refine ⟨_, Prod.ext ?_ (Prod.ext rfl (Prod.ext ?_ rfl)), REL.mk' hS hsr hSR hC hW hR hT (addP_w hW c) a2 ar (hK.same (Or.inl rfl) rfl rfl) (fun j j1 j2 => by rw [upd_ne (by omega), upd_ne (by omega)]) ho hp⟩
    · show svR SL ms 1 + nI 1 - nI 1 = (fX2_addKeeper v).1
      rw [s1, a1, nI_add, pk_sub (by omega), Nat.add_sub_cancel]
    · show nI (svS SL) = nI (kN SL)
      rw [kN_svS _ hS]
  · refine Or.inl ⟨fun z => c ((nI_ltI (by omega) (by omega)).mp z), ?_⟩
    rw [if_pos ((nI_leI (by omega) (by omega)).mpr (by omega)), gR0, if_pos (by decide), gT0]
/-- die -/
theorem q_die {SL sr : Nat} {vs : Nat → Nat → Nat → Int32} {v : Nat → Nat → Int32} {ck so sp : Nat → Int32} {L : Nat} {cs ms mt : Nat → Int32} (h : REL SL sr vs v ck so sp L cs ms mt) (k : Int32) :
    (fX2_hasKeeper v k = 0 ∧ fX5_die SL ms k = (nI 0, ms, nI SL, nI 1)) ∨ (¬ fX2_hasKeeper v k = 0 ∧ fX2_lives v k = 0 ∧ fX5_die SL ms k = (nI 0, ms, nI SL, nI 2)) ∨
    (¬ fX2_hasKeeper v k = 0 ∧ ¬ fX2_lives v k = 0 ∧ ∃ ms', fX5_die SL ms k = ((fX4_die SL sr vs v k).1, ms', nI (fX4_die SL sr vs v k).2.1, nI 0) ∧ REL (fX4_die SL sr vs v k).2.1 (fX4_die SL sr vs v k).2.2.1 (fX4_die SL sr vs v k).2.2.2.1 (fX4_die SL sr vs v k).2.2.2.2 ck so sp L cs ms' mt) := by
  obtain ⟨⟨hS, hsr, ho, hp⟩, ⟨P, hW, hC, hR, hK⟩, hSR, hT⟩ := h
  have h0 := hC.1 0 (by decide)
  have m1 : ms 1 = nI (P 0 0) := hR.1.2.1
  have h8 := hW.k8
  have ek := isK_c h0 m1 h8 k
  unfold fX5_die
  rw [ek]
  by_cases c : fX2_hasKeeper v k = 0
  · refine Or.inl ⟨c, ?_⟩
    have c' : fX2_hasKeeper v k = nI 0 := c
    rw [if_pos c, c', gR0, if_pos (by decide), gT0]
  · have c1 : fX2_hasKeeper v k = nI 1 := (hasK_01 v k).resolve_left c
    obtain ⟨j, hj, rfl⟩ := hasK_j h0 h8 c
    rw [if_neg c, lives_has2 hW hC hR (show j < 8 by omega)]
    by_cases d : fX2_lives v (nI j) = 0
    · refine Or.inr (Or.inl ⟨c, d, ?_⟩)
      rw [if_pos d, c1, gR0' _ (Or.inr rfl), if_pos (by decide), gT1]
    · refine Or.inr (Or.inr ⟨c, d, ?_⟩)
      rw [if_neg d, c1, gR1, if_neg (by decide), gT2, nI_clamp (by omega)]
      obtain ⟨b1, b2⟩ := bury_n hC hW (show j < 8 by omega)
      obtain ⟨d1, d2, d3⟩ := dies_n (hR.sv0 (S := SL)) hW (show j < 8 by omega)
      refine ⟨_, Prod.ext ?_ (Prod.ext rfl (Prod.ext ?_ rfl)), REL.mk' hS hsr hSR hC hW hR hT (buryP_w hW (by omega)) b2 d2 (hK.same (Or.inl rfl) rfl rfl) (fun j j1 j2 => d3 j (by omega)) ho hp⟩
      · show (fX5_dies (svR SL ms) 0 j).1 = (fX2_bury v (nI j)).1
        rw [b1, d1]
      · show nI (svS SL) = nI (kN SL)
        rw [kN_svS _ hS]
