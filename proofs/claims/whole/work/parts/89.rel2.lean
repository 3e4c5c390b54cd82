theorem in_01 (k lo hi : Int32) : fX5_in k lo hi = nI 0 ∨ fX5_in k lo hi = nI 1 := bX5_in k lo hi
theorem in_1 {k lo hi : Int32} (h : ¬ fX5_in k lo hi = 0) : fX5_in k lo hi = nI 1 := (in_01 k lo hi).resolve_left h
theorem dn_of {K : Nat} {h : Int32} {v : Nat → Nat → Int32} (h0 : v 0 0 = nI K) (h8 : K ≤ 8) (hh : h = -1 ∨ ¬ fX2_hasKeeper v h = 0) : ∃ i, i ≤ K ∧ h = dn i := by
  rcases hh with rfl | hh
  · exact ⟨0, Nat.zero_le _, rfl⟩
  · obtain ⟨j, hj, rfl⟩ := hasK_j h0 h8 hh
    exact ⟨j + 1, hj, rfl⟩
theorem m1_hasK (v : Nat → Nat → Int32) : fX2_hasKeeper v (-1) = 0 := by
  unfold fX2_hasKeeper
  rw [if_pos (by decide)]
  decide
/-- heir -/
theorem q_heir {SL sr : Nat} {vs : Nat → Nat → Nat → Int32} {v : Nat → Nat → Int32} {ck so sp : Nat → Int32} {L : Nat} {cs ms mt : Nat → Int32} (h : REL SL sr vs v ck so sp L cs ms mt) (k e : Int32) :
    (fX2_hasKeeper v k = 0 ∧ fX5_heir SL ms k e = (nI 0, ms, nI SL, nI 1)) ∨ (¬ fX2_hasKeeper v k = 0 ∧ ¬ e = -1 ∧ fX2_hasKeeper v e = 0 ∧ fX5_heir SL ms k e = (nI 0, ms, nI SL, nI 1)) ∨
    (¬ fX2_hasKeeper v k = 0 ∧ (e = -1 ∨ ¬ fX2_hasKeeper v e = 0) ∧ fX2_mayName v k e = 0 ∧ fX5_heir SL ms k e = (nI 0, ms, nI SL, nI 2)) ∨
    (¬ fX2_hasKeeper v k = 0 ∧ (e = -1 ∨ ¬ fX2_hasKeeper v e = 0) ∧ ¬ fX2_mayName v k e = 0 ∧ ∃ ms', fX5_heir SL ms k e = ((fX4_heir SL sr vs v k e).1, ms', nI (fX4_heir SL sr vs v k e).2.1, nI 0) ∧ REL (fX4_heir SL sr vs v k e).2.1 (fX4_heir SL sr vs v k e).2.2.1 (fX4_heir SL sr vs v k e).2.2.2.1 (fX4_heir SL sr vs v k e).2.2.2.2 ck so sp L cs ms' mt) := by
  obtain ⟨⟨hS, hsr, ho, hp⟩, ⟨P, hW, hC, hR, hK⟩, hSR, hT⟩ := h
  have h0 := hC.1 0 (by decide)
  have m1 : ms 1 = nI (P 0 0) := hR.1.2.1
  have h8 := hW.k8
  by_cases c : fX2_hasKeeper v k = 0
  · refine Or.inl ⟨c, ?_⟩
    unfold fX5_heir
    rw [isK_c h0 m1 h8 k, if_pos c, gR0, if_pos (by decide), gT0]
  · refine Or.inr ?_
    by_cases ce : ¬ e = -1 ∧ fX2_hasKeeper v e = 0
    · refine Or.inl ⟨c, ce.1, ce.2, ?_⟩
      unfold fX5_heir
      rw [isK_c h0 m1 h8 k, if_neg c, if_neg ce.1, isK_c h0 m1 h8 e, if_pos ce.2, gR0, if_pos (by decide), gT0]
    · refine Or.inr ?_
      have hh : e = -1 ∨ ¬ fX2_hasKeeper v e = 0 := by
        by_cases e1 : e = -1
        · exact Or.inl e1
        · exact Or.inr fun z => ce ⟨e1, z⟩
      obtain ⟨j, hj, rfl⟩ := hasK_j h0 h8 c
      obtain ⟨i, hi, rfl⟩ := dn_of h0 h8 hh
      -- the reference's second test
      have al : (fX2_mayName v (nI j) (dn i) = 0) ↔ (nI j = dn i ∨ fX5_areAlive ms 0 (nI j) (dn i) = 0) := by
        unfold fX2_mayName fX5_areAlive
        rw [show (0 + 2) = 2 from rfl, lives_has2 hW hC hR (show j < 8 by omega)]
        by_cases e1 : nI j = dn i
        · rw [if_pos e1]; exact ⟨fun _ => Or.inl e1, fun _ => by decide⟩
        · rw [if_neg e1]
          by_cases e2 : fX2_lives v (nI j) = 0
          · rw [if_pos e2, if_pos e2]; exact ⟨fun _ => Or.inr (by decide), fun _ => by decide⟩
          · rw [if_neg e2, if_neg e2]
            by_cases e3 : i = 0
            · subst e3
              rw [if_pos (show dn 0 = -1 from rfl), if_pos (show dn 0 < 0 by decide)]
              exact ⟨fun z => Or.inr z, fun z => z.elim (fun q => absurd q e1) id⟩
            · rw [if_neg (fun z => e3 ((dn_m i (by omega)).mp z)), if_neg (fun z => e3 ((dn_neg i (by omega)).mp z)), dn_s i e3, lives_has2 hW hC hR (show i - 1 < 8 by omega)]
              by_cases e4 : fX2_lives v (nI (i - 1)) = 0
              · rw [if_pos e4]; exact ⟨fun _ => Or.inr (by decide), fun _ => by decide⟩
              · rw [if_neg e4]
                rw [dn_s i e3] at e1
                exact ⟨fun z => Or.inr z, fun z => z.elim (fun q => absurd q e1) id⟩
      by_cases d : fX2_mayName v (nI j) (dn i) = 0
      · refine Or.inl ⟨c, hh, d, ?_⟩
        have d' := al.mp d
        unfold fX5_heir
        rw [isK_c h0 m1 h8 (nI j), if_neg c]
        have fin : (if nI j = dn i then (if (gsR (nI 1) (nI 0)) = 0 then ((nI 0), ms, (nI SL), (gsT (nI 1) (nI 0))) else (((svR SL ms) (3 + ((nI j).toNatClampNeg))), (upd (svR SL ms) (3 + ((nI j).toNatClampNeg)) (dn i)), (nI (svS SL)), (gsT (nI 1) (nI 0)))) else (if (fX5_areAlive ms 0 (nI j) (dn i)) = 0 then (if (gsR (nI 1) (nI 0)) = 0 then ((nI 0), ms, (nI SL), (gsT (nI 1) (nI 0))) else (((svR SL ms) (3 + ((nI j).toNatClampNeg))), (upd (svR SL ms) (3 + ((nI j).toNatClampNeg)) (dn i)), (nI (svS SL)), (gsT (nI 1) (nI 0)))) else (if (gsR (nI 1) (nI 1)) = 0 then ((nI 0), ms, (nI SL), (gsT (nI 1) (nI 1))) else (((svR SL ms) (3 + ((nI j).toNatClampNeg))), (upd (svR SL ms) (3 + ((nI j).toNatClampNeg)) (dn i)), (nI (svS SL)), (gsT (nI 1) (nI 1)))))) = (nI 0, ms, nI SL, nI 2) := by
          by_cases e1 : nI j = dn i
          · rw [if_pos e1, gR0' _ (Or.inr rfl), if_pos (by decide), gT1]
          · rw [if_neg e1, if_pos (d'.resolve_left e1), gR0' _ (Or.inr rfl), if_pos (by decide), gT1]
        by_cases em : dn i = -1
        · rw [if_pos em]; exact fin
        · rw [if_neg em, isK_c h0 m1 h8 (dn i), if_neg (hh.resolve_left em)]; exact fin
      · refine Or.inr ⟨c, hh, d, ?_⟩
        have d1 : ¬ nI j = dn i := fun z => d (al.mpr (Or.inl z))
        have d2 : ¬ fX5_areAlive ms 0 (nI j) (dn i) = 0 := fun z => d (al.mpr (Or.inr z))
        have ne : i ≠ j + 1 := fun z => d1 (by rw [z]; rfl)
        obtain ⟨a1, a2⟩ := heirP_c hC (k := j) (h := i) (by omega)
        have hs := hR.sv0 (S := SL)
        have ar := heirP_r hs (k := j) (h := i) (by omega)
        have s1 : svR SL ms (3 + j) = dn (P 1 j) := by have := (hs.2 j (by omega)).1; rw [Nat.zero_add] at this; exact this
        have ef : fX4_heir SL sr vs v (nI j) (dn i) = ((fX2_nameHeir v (nI j) (dn i)).1, kN SL, kR SL sr, kV SL sr vs v, (fX2_nameHeir v (nI j) (dn i)).2) := by
          unfold fX4_heir fX4_save
          simp only []
          split <;> rfl
        rw [ef]
        dsimp only
        refine ⟨upd (svR SL ms) (3 + j) (dn i), ?_, REL.mk' hS hsr hSR hC hW hR hT (heirP_w hW hi ne) a2 ar (hK.same (Or.inl rfl) rfl rfl) (fun x j1 j2 => by rw [upd_ne (by omega)]) ho hp⟩
        show _ = ((fX2_nameHeir v (nI j) (dn i)).1, upd (svR SL ms) (3 + j) (dn i), nI (kN SL), nI 0)
        rw [a1, ← s1, kN_svS _ hS]
        unfold fX5_heir
        rw [isK_c h0 m1 h8 (nI j), if_neg c, nI_clamp (by omega)]
        by_cases em : dn i = -1
        · rw [if_pos em, if_neg d1, if_neg d2, gR1, if_neg (by decide), gT2]
        · rw [if_neg em, isK_c h0 m1 h8 (dn i), if_neg (hh.resolve_left em), if_neg d1, if_neg d2, gR1, if_neg (by decide), gT2]
/-- quarrel -/
theorem q_quarrel {SL sr : Nat} {vs : Nat → Nat → Nat → Int32} {v : Nat → Nat → Int32} {ck so sp : Nat → Int32} {L : Nat} {cs ms mt : Nat → Int32} (h : REL SL sr vs v ck so sp L cs ms mt) (k e : Int32) :
    (fX2_hasKeeper v k = 0 ∧ fX5_quarrel SL ms k e = (nI 0, ms, nI SL, nI 1)) ∨ (¬ fX2_hasKeeper v k = 0 ∧ fX2_hasKeeper v e = 0 ∧ fX5_quarrel SL ms k e = (nI 0, ms, nI SL, nI 1)) ∨
    (¬ fX2_hasKeeper v k = 0 ∧ ¬ fX2_hasKeeper v e = 0 ∧ k = e ∧ fX5_quarrel SL ms k e = (nI 0, ms, nI SL, nI 2)) ∨
    (¬ fX2_hasKeeper v k = 0 ∧ ¬ fX2_hasKeeper v e = 0 ∧ ¬ k = e ∧ ∃ ms', fX5_quarrel SL ms k e = ((fX4_quarrel SL sr vs v k e).1, ms', nI (fX4_quarrel SL sr vs v k e).2.1, nI 0) ∧ REL (fX4_quarrel SL sr vs v k e).2.1 (fX4_quarrel SL sr vs v k e).2.2.1 (fX4_quarrel SL sr vs v k e).2.2.2.1 (fX4_quarrel SL sr vs v k e).2.2.2.2 ck so sp L cs ms' mt) := by
  obtain ⟨⟨hS, hsr, ho, hp⟩, ⟨P, hW, hC, hR, hK⟩, hSR, hT⟩ := h
  have h0 := hC.1 0 (by decide)
  have m1 : ms 1 = nI (P 0 0) := hR.1.2.1
  have h8 := hW.k8
  by_cases c : fX2_hasKeeper v k = 0
  · refine Or.inl ⟨c, ?_⟩
    unfold fX5_quarrel
    rw [isK_c h0 m1 h8 k, if_pos c]
    by_cases e1 : k = e
    · rw [if_pos e1, gR0, if_pos (by decide), gT0]
    · rw [if_neg e1, gR0, if_pos (by decide), gT0]
  · refine Or.inr ?_
    by_cases ce : fX2_hasKeeper v e = 0
    · refine Or.inl ⟨c, ce, ?_⟩
      unfold fX5_quarrel
      rw [isK_c h0 m1 h8 k, if_neg c, isK_c h0 m1 h8 e, if_pos ce]
      by_cases e1 : k = e
      · rw [if_pos e1, gR0, if_pos (by decide), gT0]
      · rw [if_neg e1, gR0, if_pos (by decide), gT0]
    · refine Or.inr ?_
      by_cases e1 : k = e
      · refine Or.inl ⟨c, ce, e1, ?_⟩
        unfold fX5_quarrel
        rw [isK_c h0 m1 h8 k, if_neg c, isK_c h0 m1 h8 e, if_neg ce, if_pos e1, gR0' _ (Or.inr rfl), if_pos (by decide), gT1]
      · refine Or.inr ⟨c, ce, e1, ?_⟩
        obtain ⟨j, hj, rfl⟩ := hasK_j h0 h8 c
        obtain ⟨i, hi, rfl⟩ := hasK_j h0 h8 ce
        have ne : j ≠ i := fun z => e1 (by rw [z])
        obtain ⟨a1, a2⟩ := togP_c hC hW (k := j) (o := i) (by omega) (by omega) ne
        have hs := hR.sv0 (S := SL)
        have ar := togP_r hs (k := j) (o := i) (by omega) (by omega) ne
        rw [Nat.zero_add] at ar
        have ef : fX4_quarrel SL sr vs v (nI j) (nI i) = ((fX2_toggleQuarrel v j i).1, kN SL, kR SL sr, kV SL sr vs v, (fX2_toggleQuarrel v j i).2) := by
          unfold fX4_quarrel fX4_save
          simp only []
          rw [nI_clamp (by omega), nI_clamp (by omega)]
        rw [ef]
        dsimp only
        have wt := togP_w hW hj hi ne
        have at2 := (ar.2 j (by omega)).2.1
        rw [Nat.zero_add] at at2
        unfold fX5_quarrel
        rw [isK_c h0 m1 h8 (nI j), if_neg c, isK_c h0 m1 h8 (nI i), if_neg ce, if_neg e1, gR1, if_neg (by decide), gT2, nI_clamp (by omega), nI_clamp (by omega), at2]
        refine ⟨_, Prod.ext ?_ (Prod.ext rfl (Prod.ext ?_ rfl)), REL.mk' hS hsr hSR hC hW hR hT wt a2 ar (hK.same (Or.inl rfl) rfl rfl) (fun x j1 j2 => by rw [upd_ne (by omega), upd_ne (by omega)]) ho hp⟩
        · show fX5_bits (nI (togP P j i 2 j)) = (fX2_toggleQuarrel v j i).1
          rw [a1, bits_nat _ (wt.qm (by omega))]
        · show nI (svS SL) = nI (kN SL)
          rw [kN_svS _ hS]
/-- pass -/
theorem q_pass {SL sr : Nat} {vs : Nat → Nat → Nat → Int32} {v : Nat → Nat → Int32} {ck so sp : Nat → Int32} {L : Nat} {cs ms mt : Nat → Int32} (h : REL SL sr vs v ck so sp L cs ms mt) (d : Int32) :
    (fX5_in d (nI 1) (nI 999) = 0 ∧ fX5_pass SL ms d = (nI 0, ms, nI SL, nI 1)) ∨ (¬ fX5_in d (nI 1) (nI 999) = 0 ∧ fX2_mayPass v d = 0 ∧ fX5_pass SL ms d = (nI 0, ms, nI SL, nI 2)) ∨
    (¬ fX5_in d (nI 1) (nI 999) = 0 ∧ ¬ fX2_mayPass v d = 0 ∧ ∃ ms', fX5_pass SL ms d = ((fX4_pass SL sr vs v d).1, ms', nI (fX4_pass SL sr vs v d).2.1, nI 0) ∧ REL (fX4_pass SL sr vs v d).2.1 (fX4_pass SL sr vs v d).2.2.1 (fX4_pass SL sr vs v d).2.2.2.1 (fX4_pass SL sr vs v d).2.2.2.2 ck so sp L cs ms' mt) := by
  obtain ⟨⟨hS, hsr, ho, hp⟩, ⟨P, hW, hC, hR, hK⟩, hSR, hT⟩ := h
  have h3 := hC.1 3 (by decide)
  have m3 : ms 31 = nI (P 0 3) := hR.1.2.2.2.2.2.2.2.1
  have hd3 := hW.1.2.2.2.1
  by_cases c : fX5_in d (nI 1) (nI 999) = 0
  · refine Or.inl ⟨c, ?_⟩
    have c' : fX5_in d (nI 1) (nI 999) = nI 0 := c
    unfold fX5_pass
    rw [if_pos c, c', gR0, if_pos (by decide), gT0]
  · refine Or.inr ?_
    have c1 := in_1 c
    obtain ⟨j, hj, rfl⟩ := in_nat1 (n := 998) (by decide) c
    have mp : (fX2_mayPass v (nI (j + 1)) = 0) ↔ 99999 < P 0 3 + (j + 1) := by
      unfold fX2_mayPass
      rw [h3, nI_add]
      by_cases z : 99999 < P 0 3 + (j + 1)
      · rw [if_pos ((nI_ltI (by omega) (by omega)).mpr z)]; simp [z]; decide
      · rw [if_neg (fun y => z ((nI_ltI (by omega) (by omega)).mp y))]; simp [z]; decide
    by_cases e : 99999 < P 0 3 + (j + 1)
    · refine Or.inl ⟨c, mp.mpr e, ?_⟩
      unfold fX5_pass
      rw [if_neg c, m3, pk_sub (by omega), if_pos ((nI_ltI (by omega) (by omega)).mpr (by omega)), c1, gR0' _ (Or.inr rfl), if_pos (by decide), gT1]
    · refine Or.inr ⟨c, fun z => e (mp.mp z), ?_⟩
      have hs := hR.sv0 (S := SL)
      have s3 : svR SL ms 31 = nI (P 0 3) := hs.1.2.2.2.2.2.2.2.1
      have ar := passP_r hs (j + 1)
      have ac := passP_c hC (j + 1)
      unfold fX5_pass
      rw [if_neg c, m3, pk_sub (by omega), if_neg (fun z => absurd ((nI_ltI (by omega) (by omega)).mp z) (by omega)), c1, gR1, if_neg (by decide), gT2]
      refine ⟨_, Prod.ext ?_ (Prod.ext rfl (Prod.ext ?_ rfl)), REL.mk' hS hsr hSR hC hW hR hT (passP_w hW (by omega)) ac ar (hK.same (Or.inl rfl) rfl rfl) (fun x j1 j2 => by rw [upd_ne (by omega)]) ho hp⟩
      · show upd (svR SL ms) 31 (svR SL ms 31 + nI (j + 1)) 31 = v 0 3 + nI (j + 1)
        rw [upd_eq, s3, h3]
      · show nI (svS SL) = nI (kN SL)
        rw [kN_svS _ hS]
/-- undo -/
theorem q_undo {SL sr : Nat} {vs : Nat → Nat → Nat → Int32} {v : Nat → Nat → Int32} {ck so sp : Nat → Int32} {L : Nat} {cs ms mt : Nat → Int32} (h : REL SL sr vs v ck so sp L cs ms mt) :
    (SL = 0 ∧ fX5_undo SL ms = (nI 0, ms, nI SL, nI 1)) ∨
    (1 ≤ SL ∧ ∃ ms', fX5_undo SL ms = ((fX4_undo SL sr vs ck).1, ms', nI (fX4_undo SL sr vs ck).2.1, nI 0) ∧ REL (fX4_undo SL sr vs ck).2.1 sr vs (fX4_undo SL sr vs ck).2.2.1 (fX4_undo SL sr vs ck).2.2.2 so sp L cs ms' mt) := by
  obtain ⟨⟨hS, hsr, ho, hp⟩, ⟨P, hW, hC, hR, hK⟩, hSR, hT⟩ := h
  by_cases c : SL = 0
  · refine Or.inl ⟨c, ?_⟩
    subst c
    unfold fX5_undo
    rw [if_pos (by decide), gR0, if_pos (by decide), gT0]
  · refine Or.inr ⟨by omega, ?_⟩
    obtain ⟨Q, q1, q2, q3⟩ := hSR (SL - 1) (by omega)
    have e1 : SL - 1 + 1 = SL := by omega
    rw [e1] at q3
    have r0 : RV (cpR ms SL 0) 0 Q := RV.cp (t := 0) q3
    unfold fX5_undo
    rw [if_neg (nI_nle (by omega) (by omega)), gR1, if_neg (by decide), gT2]
    refine ⟨_, Prod.ext rfl (Prod.ext rfl (Prod.ext rfl rfl)), ⟨by show SL - 1 ≤ 6; omega, hsr, ho, hp⟩, ⟨Q, q1, q2, r0, CK.new q2 q1 _⟩, hSR.undo hS, hT⟩
theorem in_rng {k : Int32} {lo hi : Nat} (hlo : lo < 2 ^ 31) (hhi : hi < 2 ^ 31) (h : ¬ fX5_in k (nI lo) (nI hi) = 0) : ∃ j : Nat, lo ≤ j ∧ j ≤ hi ∧ k = nI j := by
  obtain ⟨h1, h2⟩ := in_ne h
  have h3 : ¬ k < 0 := by
    intro z
    apply h1
    rw [Int32.lt_iff_toInt_lt, nI_toInt hlo]
    rw [Int32.lt_iff_toInt_lt] at z
    have : (0 : Int32).toInt = 0 := by decide
    omega
  obtain ⟨j, hj, rfl⟩ := nI_of h3
  exact ⟨j, Nat.not_lt.mp fun z => h1 ((nI_ltI hj hlo).mpr z), Nat.not_lt.mp fun z => h2 ((nI_ltI hhi hj).mpr z), rfl⟩
theorem char_nar : ∀ n, n < 127 → vp_nar .char (((nI n).toUInt32 % 65536).toInt32) = nI n := by decide +kernel
/-- append -/
theorem q_append {SL sr : Nat} {vs : Nat → Nat → Nat → Int32} {v : Nat → Nat → Int32} {ck so sp : Nat → Int32} {L : Nat} {cs ms mt : Nat → Int32} (h : REL SL sr vs v ck so sp L cs ms mt) (c : Int32) :
    (fX5_in c (nI 33) (nI 126) = 0 ∧ fX5_append L mt c = (nI 0, mt, nI 1, L)) ∨ (¬ fX5_in c (nI 33) (nI 126) = 0 ∧ ¬ nI L < nI 60 ∧ fX5_append L mt c = (nI 0, mt, nI 2, L)) ∨
    (¬ fX5_in c (nI 33) (nI 126) = 0 ∧ nI L < nI 60 ∧ fX4_append L cs c = (nI (L + 1), upd cs L c, nI (L + 1)) ∧ ∃ mt', fX5_append L mt c = (nI (L + 1), mt', nI 0, L + 1) ∧ REL SL sr vs v ck so sp (L + 1) (upd cs L c) ms mt') := by
  obtain ⟨hA, hB, hSR, hL, hT⟩ := h
  by_cases a : fX5_in c (nI 33) (nI 126) = 0
  · refine Or.inl ⟨a, ?_⟩
    have a' : fX5_in c (nI 33) (nI 126) = nI 0 := a
    unfold fX5_append
    rw [a', gR0, gR0, gT0, gT0]
    by_cases z : nI 60 ≤ nI L
    · rw [if_pos z, if_pos (by decide)]
    · rw [if_neg z, if_pos (by decide)]
  · refine Or.inr ?_
    have a1 := in_1 a
    by_cases b : nI L < nI 60
    · have hb := (nI_ltI (by omega) (by decide)).mp b
      have nb : ¬ nI 60 ≤ nI L := fun z => absurd ((nI_leI (by decide) (by omega)).mp z) (by omega)
      obtain ⟨n, n1, n2, rfl⟩ := in_rng (by decide) (by decide) a
      refine Or.inr ⟨a, b, ?_, ?_⟩
      · unfold fX4_append fX1_add
        rw [if_neg (nI_pos (by omega)), if_neg nb]
      · refine ⟨upd mt L (nI n), ?_, hA, hB, hSR, hb, fun i hi => ?_⟩
        · unfold fX5_append
          rw [if_neg nb, a1, gR1, if_neg (by decide), gT2, char_nar n (by omega)]
        · by_cases e : i = L
          · subst e; rw [upd_eq, upd_eq]; exact ⟨rfl, n, n1, n2, rfl⟩
          · rw [upd_ne e, upd_ne e]; exact hT i (by omega)
    · refine Or.inl ⟨a, b, ?_⟩
      have nb : nI 60 ≤ nI L := (nI_leI (by decide) (by omega)).mpr (Nat.not_lt.mp fun z => b ((nI_ltI (by omega) (by decide)).mpr z))
      unfold fX5_append
      rw [if_pos nb, a1, gR0' _ (Or.inr rfl), if_pos (by decide), gT1]
/-- forge -/
theorem hasShare_n {v : Nat → Nat → Int32} {P : Nat → Nat → Nat} (hC : CV v P) (hW : WF P) {j : Nat} (hj : j < 8) : (fX2_hasShare v (nI j) = 0) ↔ P 4 j = 0 := by
  unfold fX2_hasShare
  rw [if_neg (nI_pos (by omega)), if_neg (fun z => absurd ((nI_leI (by omega) (by omega)).mp z) (by omega)), nI_clamp (by omega), (hC.2 j hj).2.2.2.1]
  by_cases e : P 4 j = 0
  · rw [if_pos ((dn_m _ (hW.ow hj)).mpr e)]; simp [e]; decide
  · rw [if_neg (fun z => e ((dn_m _ (hW.ow hj)).mp z))]; simp [e]; decide
theorem q_forge {SL sr : Nat} {vs : Nat → Nat → Nat → Int32} {v : Nat → Nat → Int32} {ck so sp : Nat → Int32} {L : Nat} {cs ms mt : Nat → Int32} (h : REL SL sr vs v ck so sp L cs ms mt) (k x : Int32) :
    ((fX5_in k (nI 0) (nI 7) = 0 ∨ fX5_in x (nI 0) (nI 250) = 0) ∧ fX5_forge SL ms k x = (nI 0, ms, nI SL, nI 1)) ∨
    (¬ fX5_in k (nI 0) (nI 7) = 0 ∧ ¬ fX5_in x (nI 0) (nI 250) = 0 ∧ fX2_hasShare v k = 0 ∧ fX5_forge SL ms k x = (nI 0, ms, nI SL, nI 2)) ∨
    (¬ fX5_in k (nI 0) (nI 7) = 0 ∧ ¬ fX5_in x (nI 0) (nI 250) = 0 ∧ ¬ fX2_hasShare v k = 0 ∧ ∃ ms', fX5_forge SL ms k x = ((fX4_forge SL sr vs v ck k x).1, ms', nI (fX4_forge SL sr vs v ck k x).2.1, nI 0) ∧ REL (fX4_forge SL sr vs v ck k x).2.1 (fX4_forge SL sr vs v ck k x).2.2.1 (fX4_forge SL sr vs v ck k x).2.2.2.1 (fX4_forge SL sr vs v ck k x).2.2.2.2.1 (fX4_forge SL sr vs v ck k x).2.2.2.2.2 so sp L cs ms' mt) := by
  obtain ⟨⟨hS, hsr, ho, hp⟩, ⟨P, hW, hC, hR, hK⟩, hSR, hT⟩ := h
  by_cases c1 : fX5_in k (nI 0) (nI 7) = 0
  · refine Or.inl ⟨Or.inl c1, ?_⟩
    unfold fX5_forge
    rw [if_pos c1, gR0, if_pos (by decide), gT0]
  · by_cases c2 : fX5_in x (nI 0) (nI 250) = 0
    · refine Or.inl ⟨Or.inr c2, ?_⟩
      unfold fX5_forge
      rw [if_neg c1, if_pos c2]
      by_cases z : ms (40 + k.toNatClampNeg) < 0
      · rw [if_pos z, gR0, if_pos (by decide), gT0]
      · rw [if_neg z, gR0, if_pos (by decide), gT0]
    · refine Or.inr ?_
      obtain ⟨j, -, hj, rfl⟩ := in_rng (by decide) (by decide) c1
      obtain ⟨y, -, hy, rfl⟩ := in_rng (by decide) (by decide) c2
      have hj8 : j < 8 := by omega
      have m40 : ms (40 + j) = dn (P 4 j) := by have := (hR.2 j hj8).2.2.2.2.1; rw [Nat.zero_add] at this; exact this
      have hs := hasShare_n hC hW hj8
      by_cases e : P 4 j = 0
      · refine Or.inl ⟨c1, c2, hs.mpr e, ?_⟩
        unfold fX5_forge
        rw [if_neg c1, if_neg c2, nI_clamp (by omega), m40, if_pos ((dn_neg _ (hW.ow hj8)).mpr e), gR0' _ (Or.inr rfl), if_pos (by decide), gT1]
      · refine Or.inr ⟨c1, c2, fun z => e (hs.mp z), ?_⟩
        obtain ⟨a1, a2⟩ := forgeP_c hC (k := j) (x := y) hj8
        have hv := hR.sv0 (S := SL)
        have ar := forgeP_r hv (k := j) (x := y) hj8
        have s1 : svR SL ms (32 + j) = nI (P 5 j) := by have := (hv.2 j hj8).2.2.2.1 e; rw [Nat.zero_add] at this; exact this
        have w' := forgeP_w hW (k := j) (x := y) hj8 (by omega)
        unfold fX5_forge
        rw [if_neg c1, if_neg c2, nI_clamp (by omega), m40, if_neg (fun z => e ((dn_neg _ (hW.ow hj8)).mp z)), gR1, if_neg (by decide), gT2]
        refine ⟨_, Prod.ext ?_ (Prod.ext rfl (Prod.ext ?_ rfl)), REL.mk' hS hsr hSR hC hW hR hT w' a2 ar (CK.new a2 w' ck) (fun x j1 j2 => by rw [upd_ne (by omega), upd_ne (by omega)]) ho hp⟩
        · show svR SL ms (32 + j) = (fX2_replaceShare v (nI j) (nI y)).1
          rw [a1, s1]
        · show nI (svS SL) = nI (kN SL)
          rw [kN_svS _ hS]
/-- renew -/
theorem mayRenew_n {v : Nat → Nat → Int32} {ms : Nat → Int32} {P : Nat → Nat → Nat} (hC : CV v P) (hR : RV ms 0 P) (hW : WF P) : fX5_canRenew ms 0 = fX2_mayRenew v ∧ (¬ fX2_mayRenew v = 0 → P 0 4 = 1) := by
  have h4 := hC.1 4 (by decide)
  have h6 := hC.1 6 (by decide)
  have h1 := hC.1 1 (by decide)
  obtain ⟨-, -, r1, r4, -, r6, -, -, -, -⟩ := hR.1
  have hs := hW.1.2.2.2.2.1
  have e1 : fX2_livingCount v = nI (pop (P 0 1)) := by unfold fX2_livingCount; rw [h1, fbit_pop _ hW.lv]
  unfold fX5_canRenew fX2_mayRenew
  rw [r4, r1, r6, h4, h6, e1, bits_nat _ hW.lv]
  refine ⟨rfl, fun z => ?_⟩
  by_cases e : P 0 4 = 1
  · exact e
  · rw [if_neg (fun y => e ((nI_eq (by omega) (by decide)).mp y))] at z
    exact absurd (by decide) z
theorem q_renew {SL sr : Nat} {vs : Nat → Nat → Nat → Int32} {v : Nat → Nat → Int32} {ck so sp : Nat → Int32} {L : Nat} {cs ms mt : Nat → Int32} (h : REL SL sr vs v ck so sp L cs ms mt) (mc : Nat → Int32) :
    (fX2_mayRenew v = 0 ∧ ∀ Q, fX5_renew SL Q ms mc = (nI 0, ms, nI SL, nI 1, mc)) ∨
    (¬ fX2_mayRenew v = 0 ∧ ∃ Q ms' mc', Q ≤ 7 ∧ v 0 6 = nI (Q + 1) ∧ ms 29 = nI (Q + 1) ∧ fX5_renew SL Q ms mc = ((fX4_renew SL (Q + 1) sr vs v ck).1, ms', nI (fX4_renew SL (Q + 1) sr vs v ck).2.1, nI 0, mc') ∧ REL (fX4_renew SL (Q + 1) sr vs v ck).2.1 (fX4_renew SL (Q + 1) sr vs v ck).2.2.1 (fX4_renew SL (Q + 1) sr vs v ck).2.2.2.1 (fX4_renew SL (Q + 1) sr vs v ck).2.2.2.2.1 (fX4_renew SL (Q + 1) sr vs v ck).2.2.2.2.2 so sp L cs ms' mt) := by
  obtain ⟨⟨hS, hsr, ho, hp⟩, ⟨P, hW, hC, hR, hK⟩, hSR, hT⟩ := h
  obtain ⟨e1, e2⟩ := mayRenew_n hC hR hW
  by_cases c : fX2_mayRenew v = 0
  · refine Or.inl ⟨c, fun Q => ?_⟩
    have c' : fX2_mayRenew v = nI 0 := c
    unfold fX5_renew
    rw [e1, c', gR0, if_pos (by decide), gT0]
  · have c1 : fX2_mayRenew v = nI 1 := by
      have : fX2_mayRenew v = nI 0 ∨ fX2_mayRenew v = nI 1 := by unfold fX2_mayRenew; (repeat' split) <;> simp
      exact this.resolve_left c
    have p4 := e2 c
    have q1 := hW.1.2.2.2.2.2.2.2.1 (by omega)
    have q8 := hW.1.2.2.2.2.2.2.1
    refine Or.inr ⟨c, P 0 6 - 1, ?_⟩
    have eq : P 0 6 - 1 + 1 = P 0 6 := by omega
    rw [eq]
    obtain ⟨a1, a2⟩ := deal_c hC hW q1
    obtain ⟨d1, d2, d3⟩ := deal_r (mc := mc) (hR.sv0 (S := SL)) hW (Q := P 0 6 - 1)
    rw [eq] at d2
    have w' := dealP_w hW (P 0 6)
    have ef : fX4_renew SL (P 0 6) sr vs v ck = ((fX2_drawShares (P 0 6) v).1, kN SL, kR SL sr, kV SL sr vs v, (fX2_drawShares (P 0 6) v).2, fX0_reckon ck (fX2_drawShares (P 0 6) v).2) := by
      unfold fX4_renew fX4_dealShares fX4_save
      simp only []
    rw [ef]
    dsimp only
    refine ⟨(fX5_deals (P 0 6 - 1) (svR SL ms) mc 0).2.1, (fX5_deals (P 0 6 - 1) (svR SL ms) mc 0).2.2, by omega, hC.1 6 (by decide), hR.1.2.2.2.2.2.1, ?_, REL.mk' hS hsr hSR hC hW hR hT w' a2 d2 (CK.new a2 w' ck) (fun x j1 j2 => d3 x j1) ho hp⟩
    unfold fX5_renew
    rw [e1, c1, gR1, if_neg (by decide), gT2]
    refine Prod.ext ?_ (Prod.ext rfl (Prod.ext ?_ (Prod.ext rfl rfl)))
    · show (fX5_deals (P 0 6 - 1) (svR SL ms) mc 0).1 = (fX2_drawShares (P 0 6) v).1
      rw [a1, d1]
    · show nI (svS SL) = nI (kN SL)
      rw [kN_svS _ hS]
