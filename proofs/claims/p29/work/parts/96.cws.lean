theorem hasK_no {v : Nat → Nat → Int32} {K k : Nat} (h0 : v 0 0 = nI K) (h8 : K ≤ 8) (h31 : k < 2 ^ 31) (hk : ¬ k < K) : fX2_hasKeeper v (nI k) = 0 := by
  unfold fX2_hasKeeper
  rw [h0, if_neg (nI_pos h31), if_pos ((nI_leI (by omega) h31).mpr (by omega))]
  decide
/-! ===== the wrappers, in the words of a place ===== -/
section CWS
variable {l : Launch} {Γ : wG} {D : AD} {P : Nat → Nat → Nat} {S : Nat} {x : ST}
set_option maxHeartbeats 4000000 in
set_option maxRecDepth 100000 in
theorem W_count (h : AB P S x) {w : Nat} (hw : w < 12) : CW l Γ D yL_count wsL_count RM0 [.ref D.1, .int (nI w)] x (fun r u => r = cntV P S w ∧ AB P S u) 0 0 := by
  obtain ⟨SL, sr, vs, v, vsp, ck, so, sp, cs⟩ := x
  obtain ⟨⟨hSe, hS, hsr, ho, hp⟩, hW, hC, hK⟩ := id h
  dsimp only at hSe hsr ho hp hC hK
  subst hSe
  have h0 := hC.1 0 (by decide)
  have h8 := hW.k8
  exact MI.cw (sL_count l Γ D (nI w) (SL, sr, vs, v, vsp, ck, so, sp, cs) (SL, sr, vs, v, vsp, ck, so, sp, cs) (fX4_count (nI SL) v (nI w)) _ (by decide) (by decide) rfl rfl (MI.frame (LI.toMI (kX4_count l Γ D.1 D.2.1 D.2.2.1 D.2.2.2.1 D.2.2.2.2.1 D.2.2.2.2.2.1 D.2.2.2.2.2.2.1 (nI SL) v (nI w) (in12 w hw))) [0, 1] rfl rfl rfl rfl)) ⟨count_n hC hW SL hw, h⟩
set_option maxHeartbeats 4000000 in
set_option maxRecDepth 100000 in
theorem W_keeperOf (h : AB P S x) {k w : Nat} (hk : k < P 0 0) (hw : w < 5) : CW l Γ D yL_keeperOf wsL_keeperOf RM0 [.ref D.1, .int (nI k), .int (nI w)] x (fun r u => r = koV P k w ∧ AB P S u) 0 0 := by
  obtain ⟨SL, sr, vs, v, vsp, ck, so, sp, cs⟩ := x
  obtain ⟨⟨hSe, hS, hsr, ho, hp⟩, hW, hC, hK⟩ := id h
  dsimp only at hSe hsr ho hp hC hK
  subst hSe
  have h0 := hC.1 0 (by decide)
  have h8 := hW.k8
  exact MI.cw (sL_keeperOf l Γ D (nI k) (nI w) (SL, sr, vs, v, vsp, ck, so, sp, cs) (SL, sr, vs, v, vsp, ck, so, sp, cs) (fX4_keeperOf v (nI k) (nI w)) _ (by decide) (by decide) rfl rfl (MI.frame (LI.toMI (kX4_keeperOf l Γ D.1 D.2.1 D.2.2.1 D.2.2.2.1 D.2.2.2.2.1 D.2.2.2.2.2.1 D.2.2.2.2.2.2.1 (nI SL) v (nI k) (nI w) (hasK_of h0 h8 hk) (in5 w hw))) [0, 1] rfl rfl rfl rfl)) ⟨keeperOf_n hC hW (by omega) hw, h⟩
set_option maxHeartbeats 4000000 in
set_option maxRecDepth 100000 in
theorem W_share (h : AB P S x) {j w : Nat} (hj : j < 8) (hw : w < 3) : CW l Γ D yL_share wsL_share RM0 [.ref D.1, .int (nI j), .int (nI w)] x (fun r u => r = shV P j w ∧ AB P S u) 0 0 := by
  obtain ⟨SL, sr, vs, v, vsp, ck, so, sp, cs⟩ := x
  obtain ⟨⟨hSe, hS, hsr, ho, hp⟩, hW, hC, hK⟩ := id h
  dsimp only at hSe hsr ho hp hC hK
  subst hSe
  have h0 := hC.1 0 (by decide)
  have h8 := hW.k8
  exact MI.cw (sL_share l Γ D (nI j) (nI w) (SL, sr, vs, v, vsp, ck, so, sp, cs) (SL, sr, vs, v, vsp, ck, so, sp, cs) (fX4_share v (nI j) (nI w)) _ (by decide) (by decide) rfl rfl (MI.frame (LI.toMI (kX4_share l Γ D.1 D.2.1 D.2.2.1 D.2.2.2.1 D.2.2.2.2.1 D.2.2.2.2.2.1 D.2.2.2.2.2.2.1 (nI SL) v (nI j) (nI w) (nr (by decide) (by omega) (Nat.zero_le _)) (nr2 (by omega) (by decide) (by omega)) (nr (by decide) (by omega) (Nat.zero_le _)) (nr2 (by omega) (by decide) (by omega)))) [0, 1] rfl rfl rfl rfl)) ⟨share_n hC hW hj hw, h⟩
set_option maxHeartbeats 4000000 in
set_option maxRecDepth 100000 in
theorem W_told (h : AB P S x) {g : Nat} (hg : g < 256) : CW l Γ D yL_told wsL_told RM0 [.ref D.1, .int (nI g)] x (fun r u => r = toV P g ∧ AB P S u) 0 0 := by
  obtain ⟨SL, sr, vs, v, vsp, ck, so, sp, cs⟩ := x
  obtain ⟨⟨hSe, hS, hsr, ho, hp⟩, hW, hC, hK⟩ := id h
  dsimp only at hSe hsr ho hp hC hK
  subst hSe
  have h0 := hC.1 0 (by decide)
  have h8 := hW.k8
  exact MI.cw (sL_told l Γ D (nI g) (SL, sr, vs, v, vsp, ck, so, sp, cs) (SL, sr, vs, v, vsp, ck, so, sp, cs) (fX4_told v ck (nI g)) _ (by decide) (by decide) rfl rfl (MI.frame (LI.toMI (kX4_told l Γ D.1 D.2.1 D.2.2.1 D.2.2.2.1 D.2.2.2.2.1 D.2.2.2.2.2.1 D.2.2.2.2.2.2.1 (nI SL) v ck (nI g) (nr (by decide) (by omega) (Nat.zero_le _)) (nr2 (by omega) (by decide) (by omega)))) [0, 1, 4] rfl rfl rfl rfl)) ⟨told_n hC hW hK hg, h⟩
set_option maxHeartbeats 4000000 in
set_option maxRecDepth 100000 in
theorem W_possible (h : AB P S x) {g : Nat} (hg : g < 256) : CW l Γ D yL_possible wsL_possible RM0 [.ref D.1, .int (nI g)] x (fun r u => r = poV P g ∧ AB P S u) 0 0 := by
  obtain ⟨SL, sr, vs, v, vsp, ck, so, sp, cs⟩ := x
  obtain ⟨⟨hSe, hS, hsr, ho, hp⟩, hW, hC, hK⟩ := id h
  dsimp only at hSe hsr ho hp hC hK
  subst hSe
  have h0 := hC.1 0 (by decide)
  have h8 := hW.k8
  exact MI.cw (sL_possible l Γ D (nI g) (SL, sr, vs, v, vsp, ck, so, sp, cs) (SL, sr, vs, v, vsp, ck, so, sp, cs) (fX4_possible v ck (nI g)) _ (by decide) (by decide) rfl rfl (MI.frame (LI.toMI (kX4_possible l Γ D.1 D.2.1 D.2.2.1 D.2.2.2.1 D.2.2.2.2.1 D.2.2.2.2.2.1 D.2.2.2.2.2.2.1 (nI SL) v ck (nI g) (nr (by decide) (by omega) (Nat.zero_le _)) (nr2 (by omega) (by decide) (by omega)))) [0, 1, 4] rfl rfl rfl rfl)) ⟨possible_n hC hW hK hg, h⟩
set_option maxHeartbeats 4000000 in
set_option maxRecDepth 100000 in
theorem W_why (h : AB P S x) {g : Nat} (hg : g < 2 ^ P 0 0) : CW l Γ D yL_why wsL_why RM0 [.ref D.1, .int (nI g)] x (fun r u => r = nI (reaN P g false) ∧ AB P S u) 0 0 := by
  obtain ⟨SL, sr, vs, v, vsp, ck, so, sp, cs⟩ := x
  obtain ⟨⟨hSe, hS, hsr, ho, hp⟩, hW, hC, hK⟩ := id h
  dsimp only at hSe hsr ho hp hC hK
  subst hSe
  have h0 := hC.1 0 (by decide)
  have h8 := hW.k8
  have hp8 := p2_256 h8
  have hk := kX4_why l Γ D.1 D.2.1 D.2.2.1 D.2.2.2.1 D.2.2.2.2.1 D.2.2.2.2.2.1 D.2.2.2.2.2.2.1 (nI SL) v ck so sp (nI g) (nr (b := 0) (by decide) (by omega) (Nat.zero_le _)) (by rw [every_n h0 h8]; exact nr2 (by omega) (by omega) (by omega))
  obtain ⟨r1, r2⟩ := refusal_n hC hW hK ho hp (show g < 256 by omega)
  obtain ⟨l1, l2⟩ := look_0 hC hW ho hp
  have e1 : (fX4_why v ck so sp (nI g)).1 = nI (reaN P g false) := by unfold fX4_why; exact r1
  have e2 : (fX4_why v ck so sp (nI g)).2.1 0 = 0 := by unfold fX4_why; dsimp only; rw [r2]; exact l1
  have e3 : (fX4_why v ck so sp (nI g)).2.2 0 = 0 := by unfold fX4_why; dsimp only; rw [r2]; exact l2
  generalize fX4_why v ck so sp (nI g) = Z at hk e1 e2 e3
  exact MI.cw (sL_why l Γ D (nI g) (SL, sr, vs, v, vsp, ck, so, sp, cs) (SL, sr, vs, v, vsp, ck, Z.2.1, Z.2.2, cs) (Z.1) _ (by decide) (by decide) rfl rfl (MI.frame hk [0, 1, 4, 5] rfl rfl (by simp only [List.map_cons, List.map_nil, suB_w, plB_w, cuB_w, txB_w, mnC_w, saB_w]) rfl)) ⟨e1, ⟨rfl, hS, hsr, e2, e3⟩, hW, hC, hK⟩
set_option maxHeartbeats 4000000 in
set_option maxRecDepth 100000 in
theorem W_smallest (h : AB P S x) {w : Nat} (hw : w < 2) : CW l Γ D yL_smallest wsL_smallest RM0 [.ref D.1, .int (nI w)] x (fun r u => r = smA P (nI w) ∧ AB P S u) 0 0 := by
  obtain ⟨SL, sr, vs, v, vsp, ck, so, sp, cs⟩ := x
  obtain ⟨⟨hSe, hS, hsr, ho, hp⟩, hW, hC, hK⟩ := id h
  dsimp only at hSe hsr ho hp hC hK
  subst hSe
  have h0 := hC.1 0 (by decide)
  have h8 := hW.k8
  have hk := kX4_smallest l Γ D.1 D.2.1 D.2.2.1 D.2.2.2.1 D.2.2.2.2.1 D.2.2.2.2.2.1 D.2.2.2.2.2.2.1 (nI SL) v ck so sp (nI w) (nr (by decide) (by omega) (Nat.zero_le _)) (nr2 (by omega) (by decide) (by omega))
  have hw2 : nI w = nI 0 ∨ nI w = nI 1 := by rcases (show w = 0 ∨ w = 1 by omega) with rfl | rfl; exact Or.inl rfl; exact Or.inr rfl
  obtain ⟨r1, r2⟩ := smallest_n hC hW hK ho hp hw2
  obtain ⟨l1, l2⟩ := look_0 hC hW ho hp
  rw [← r2] at l1 l2
  generalize fX4_smallest v ck so sp (nI w) = Z at hk r1 l1 l2
  exact MI.cw (sL_smallest l Γ D (nI w) (SL, sr, vs, v, vsp, ck, so, sp, cs) (SL, sr, vs, v, vsp, ck, Z.2.1, Z.2.2, cs) (Z.1) _ (by decide) (by decide) rfl rfl (MI.frame hk [0, 1, 4, 5] rfl rfl (by simp only [List.map_cons, List.map_nil, suB_w, plB_w, cuB_w, txB_w, mnC_w, saB_w]) rfl)) ⟨r1, ⟨rfl, hS, hsr, l1, l2⟩, hW, hC, hK⟩
set_option maxHeartbeats 4000000 in
set_option maxRecDepth 100000 in
theorem V_groups (h : AB P S x) : CW l Γ D yX4_groups wsX4_groups ({ frames := 3, cells := 0, slots := 0, locals := 66 }) [.ref D.1] x (fun r u => r = nI (grN P) ∧ AB P S u) 0 0 := by
  obtain ⟨SL, sr, vs, v, vsp, ck, so, sp, cs⟩ := x
  obtain ⟨⟨hSe, hS, hsr, ho, hp⟩, hW, hC, hK⟩ := id h
  dsimp only at hSe hsr ho hp hC hK
  subst hSe
  have h0 := hC.1 0 (by decide)
  have h8 := hW.k8
  have hk := kX4_groups l Γ D.1 D.2.1 D.2.2.1 D.2.2.2.1 D.2.2.2.2.1 D.2.2.2.2.2.1 D.2.2.2.2.2.2.1 (nI SL) v ck so sp
  obtain ⟨r1, r2⟩ := groups_n hC hW hK ho hp
  obtain ⟨l1, l2⟩ := look_0 hC hW ho hp
  rw [← r2] at l1 l2
  generalize fX4_groups v ck so sp = Z at hk r1 l1 l2
  exact MI.cw (u := (SL, sr, vs, v, vsp, ck, Z.2.1, Z.2.2, cs)) (MI.frame hk [0, 1, 4, 5] rfl rfl (by simp only [List.map_cons, List.map_nil, suB_w, plB_w, cuB_w, txB_w, mnC_w, saB_w]) rfl) ⟨r1, ⟨rfl, hS, hsr, l1, l2⟩, hW, hC, hK⟩
set_option maxHeartbeats 4000000 in
set_option maxRecDepth 100000 in
theorem V_needed (h : AB P S x) : CW l Γ D yX4_needed wsX4_needed ({ frames := 4, cells := 0, slots := 0, locals := 88 }) [.ref D.1] x (fun r u => r = nI (neN P) ∧ AB P S u) 0 0 := by
  obtain ⟨SL, sr, vs, v, vsp, ck, so, sp, cs⟩ := x
  obtain ⟨⟨hSe, hS, hsr, ho, hp⟩, hW, hC, hK⟩ := id h
  dsimp only at hSe hsr ho hp hC hK
  subst hSe
  have h0 := hC.1 0 (by decide)
  have h8 := hW.k8
  have hk := kX4_needed l Γ D.1 D.2.1 D.2.2.1 D.2.2.2.1 D.2.2.2.2.1 D.2.2.2.2.2.1 D.2.2.2.2.2.2.1 (nI SL) v vsp ck so sp
  obtain ⟨r1, l1, l2⟩ := needed_n (vsp := vsp) hC hW hK ho hp
  generalize fX4_needed v vsp ck so sp = Z at hk r1 l1 l2
  exact MI.cw (u := (SL, sr, vs, v, Z.2.1, ck, Z.2.2.1, Z.2.2.2, cs)) (MI.frame hk [0, 1, 2, 4, 5] rfl rfl (by simp only [List.map_cons, List.map_nil, suB_w, plB_w, cuB_w, txB_w, mnC_w, saB_w]) rfl) ⟨r1, ⟨rfl, hS, hsr, l1, l2⟩, hW, hC, hK⟩
set_option maxHeartbeats 4000000 in
set_option maxRecDepth 100000 in
theorem V_peace (h : AB P S x) (la : Int32) : CW l Γ D yX4_peace wsX4_peace ({ frames := 3, cells := 0, slots := 0, locals := 69 }) [.ref D.1, .int (la)] x (fun r u => r = (piF (gaN P) la 8 0 (-1, 0)).1 ∧ AB P S u) 0 0 := by
  obtain ⟨SL, sr, vs, v, vsp, ck, so, sp, cs⟩ := x
  obtain ⟨⟨hSe, hS, hsr, ho, hp⟩, hW, hC, hK⟩ := id h
  dsimp only at hSe hsr ho hp hC hK
  subst hSe
  have h0 := hC.1 0 (by decide)
  have h8 := hW.k8
  have hk := kX4_peace l Γ D.1 D.2.1 D.2.2.1 D.2.2.2.1 D.2.2.2.2.1 D.2.2.2.2.2.1 D.2.2.2.2.2.2.1 (nI SL) v ck so sp la
  obtain ⟨r1, l1, l2⟩ := peace_c hC hW hK ho hp la
  generalize fX4_peace v ck so sp la = Z at hk r1 l1 l2
  exact MI.cw (u := (SL, sr, vs, v, vsp, ck, Z.2.1, Z.2.2, cs)) (MI.frame hk [0, 1, 4, 5] rfl rfl (by simp only [List.map_cons, List.map_nil, suB_w, plB_w, cuB_w, txB_w, mnC_w, saB_w]) rfl) ⟨r1, ⟨rfl, hS, hsr, l1, l2⟩, hW, hC, hK⟩
set_option maxHeartbeats 4000000 in
set_option maxRecDepth 100000 in
theorem V_firstError (h : AB P S x) : CW l Γ D yX4_firstError wsX4_firstError ({ frames := 3, cells := 0, slots := 0, locals := 63 }) [.ref D.1] x (fun r u => r = nI 0 ∧ AB P S u) 0 0 := by
  obtain ⟨SL, sr, vs, v, vsp, ck, so, sp, cs⟩ := x
  obtain ⟨⟨hSe, hS, hsr, ho, hp⟩, hW, hC, hK⟩ := id h
  dsimp only at hSe hsr ho hp hC hK
  subst hSe
  have h0 := hC.1 0 (by decide)
  have h8 := hW.k8
  exact MI.cw (u := (SL, sr, vs, v, vsp, ck, so, sp, cs)) (MI.frame (LI.toMI (kX4_firstError l Γ D.1 D.2.1 D.2.2.1 D.2.2.2.1 D.2.2.2.2.1 D.2.2.2.2.2.1 D.2.2.2.2.2.2.1 0 (nI SL) cs (by decide))) [0, 6] rfl rfl rfl rfl) ⟨rfl, h⟩
set_option maxHeartbeats 4000000 in
set_option maxRecDepth 100000 in
theorem W_keeper (h : AB P S x) (hk8 : P 0 0 < 8) : CW l Γ D yL_keeper wsL_keeper RM0 [.ref D.1] x (fun r u => r = nI (P 0 0) ∧ AB (addP P) (svS S) u ∧ TOP P u) 0 0 := by
  obtain ⟨SL, sr, vs, v, vsp, ck, so, sp, cs⟩ := x
  obtain ⟨⟨hSe, hS, hsr, ho, hp⟩, hW, hC, hK⟩ := id h
  dsimp only at hSe hsr ho hp hC hK
  subst hSe
  have h0 := hC.1 0 (by decide)
  have h8 := hW.k8
  obtain ⟨a1, a2⟩ := addP_c hC hk8
  have hM9 := kX4_keeper l Γ D.1 D.2.1 D.2.2.1 D.2.2.2.1 D.2.2.2.2.1 D.2.2.2.2.2.1 D.2.2.2.2.2.2.1 SL D.2.2.2.2.2.2.2 sr vs v hS hsr (by rw [h0]; exact (nI_ltI (by omega) (by decide)).mpr hk8)
  exact MI.cw (sL_keeper l Γ D (SL, sr, vs, v, vsp, ck, so, sp, cs) (kN SL, kR SL sr, kV SL sr vs v, (fX2_addKeeper v).2, vsp, ck, so, sp, cs) _ _ (by decide) (by decide) rfl rfl (MI.frame hM9 [0, 3, 1] rfl rfl (by simp only [List.map_cons, List.map_nil, suB_w, plB_w, cuB_w, txB_w, mnC_w, saB_w]) rfl)) ⟨a1, AB.op hS hsr hW hC (addP_w hW hk8) a2 (hK.same (Or.inl rfl) rfl rfl) ho hp⟩
set_option maxHeartbeats 4000000 in
set_option maxRecDepth 100000 in
theorem W_die (h : AB P S x) {k : Nat} (hk : k < P 0 0) (hb : (P 0 1).testBit k = true) : CW l Γ D yL_die wsL_die RM0 [.ref D.1, .int (nI k)] x (fun r u => r = nI (buN P k) ∧ AB (buryP P k) (svS S) u ∧ TOP P u) 0 0 := by
  obtain ⟨SL, sr, vs, v, vsp, ck, so, sp, cs⟩ := x
  obtain ⟨⟨hSe, hS, hsr, ho, hp⟩, hW, hC, hK⟩ := id h
  dsimp only at hSe hsr ho hp hC hK
  subst hSe
  have h0 := hC.1 0 (by decide)
  have h8 := hW.k8
  obtain ⟨a1, a2⟩ := bury_n hC hW (show k < 8 by omega)
  have hM9 := kX4_die l Γ D.1 D.2.1 D.2.2.1 D.2.2.2.1 D.2.2.2.2.1 D.2.2.2.2.2.1 D.2.2.2.2.2.2.1 SL D.2.2.2.2.2.2.2 sr vs v (nI k) hS hsr (hasK_of h0 h8 hk) (by rw [lives_n h0 (hC.1 1 (by decide)) hW.1.1 hW.1.2.1 (show k < 8 by omega), hb]; decide)
  exact MI.cw (sL_die l Γ D (nI k) (SL, sr, vs, v, vsp, ck, so, sp, cs) (kN SL, kR SL sr, kV SL sr vs v, (fX2_bury v (nI k)).2, vsp, ck, so, sp, cs) _ _ (by decide) (by decide) rfl rfl (MI.frame hM9 [0, 3, 1] rfl rfl (by simp only [List.map_cons, List.map_nil, suB_w, plB_w, cuB_w, txB_w, mnC_w, saB_w]) rfl)) ⟨a1, AB.op hS hsr hW hC (buryP_w hW (by omega)) a2 (hK.same (Or.inl rfl) rfl rfl) ho hp⟩
set_option maxHeartbeats 4000000 in
set_option maxRecDepth 100000 in
theorem W_heir (h : AB P S x) {k i : Nat} (hk : k < P 0 0) (hb : (P 0 1).testBit k = true) (hi : i ≤ P 0 0) (hne : i ≠ k + 1) (hl : i ≠ 0 → (P 0 1).testBit (i - 1) = true) : CW l Γ D yL_heir wsL_heir RM0 [.ref D.1, .int (nI k), .int (dn i)] x (fun r u => r = dn (P 1 k) ∧ AB (heirP P k i) (svS S) u ∧ TOP P u) 0 0 := by
  obtain ⟨SL, sr, vs, v, vsp, ck, so, sp, cs⟩ := x
  obtain ⟨⟨hSe, hS, hsr, ho, hp⟩, hW, hC, hK⟩ := id h
  dsimp only at hSe hsr ho hp hC hK
  subst hSe
  have h0 := hC.1 0 (by decide)
  have h8 := hW.k8
  obtain ⟨a1, a2⟩ := heirP_c hC (k := k) (h := i) (by omega)
  have hh : dn i = (-1) ∨ ¬ fX2_hasKeeper v (dn i) = 0 := by
    by_cases e : i = 0
    · subst e; exact Or.inl rfl
    · rw [dn_s i e]; exact Or.inr (hasK_of h0 h8 (by omega))
  have hm : ¬ fX2_mayName v (nI k) (dn i) = 0 := by
    unfold fX2_mayName
    rw [if_neg (fun z => hne ((dn_nI i (by omega) k (by omega)).mp z.symm)), lives_n h0 (hC.1 1 (by decide)) hW.1.1 hW.1.2.1 (show k < 8 by omega), hb, if_neg (by decide)]
    by_cases e : i = 0
    · subst e; rw [if_pos (show dn 0 = -1 from rfl)]; decide
    · rw [if_neg (fun z => e ((dn_m i (by omega)).mp z)), dn_s i e, lives_n h0 (hC.1 1 (by decide)) hW.1.1 hW.1.2.1 (show i - 1 < 8 by omega), hl e, if_neg (by decide)]; decide
  have hM9 := kX4_heir l Γ D.1 D.2.1 D.2.2.1 D.2.2.2.1 D.2.2.2.2.1 D.2.2.2.2.2.1 D.2.2.2.2.2.2.1 SL D.2.2.2.2.2.2.2 sr vs v (nI k) (dn i) hS hsr (hasK_of h0 h8 hk) hh hm
  have ef : fX4_heir SL sr vs v (nI k) (dn i) = ((fX2_nameHeir v (nI k) (dn i)).1, kN SL, kR SL sr, kV SL sr vs v, (fX2_nameHeir v (nI k) (dn i)).2) := by
    unfold fX4_heir fX4_save
    simp only []
    split <;> rfl
  rw [ef] at hM9
  exact MI.cw (sL_heir l Γ D (nI k) (dn i) (SL, sr, vs, v, vsp, ck, so, sp, cs) (kN SL, kR SL sr, kV SL sr vs v, (fX2_nameHeir v (nI k) (dn i)).2, vsp, ck, so, sp, cs) _ _ (by decide) (by decide) rfl rfl (MI.frame hM9 [0, 3, 1] rfl rfl (by simp only [List.map_cons, List.map_nil, suB_w, plB_w, cuB_w, txB_w, mnC_w, saB_w]) rfl)) ⟨a1, AB.op hS hsr hW hC (heirP_w hW hi hne) a2 (hK.same (Or.inl rfl) rfl rfl) ho hp⟩
set_option maxHeartbeats 4000000 in
set_option maxRecDepth 100000 in
theorem W_quarrel (h : AB P S x) {k i : Nat} (hk : k < P 0 0) (hi : i < P 0 0) (hne : k ≠ i) : CW l Γ D yL_quarrel wsL_quarrel RM0 [.ref D.1, .int (nI k), .int (nI i)] x (fun r u => r = nI (pop (togP P k i 2 k)) ∧ AB (togP P k i) (svS S) u ∧ TOP P u) 0 0 := by
  obtain ⟨SL, sr, vs, v, vsp, ck, so, sp, cs⟩ := x
  obtain ⟨⟨hSe, hS, hsr, ho, hp⟩, hW, hC, hK⟩ := id h
  dsimp only at hSe hsr ho hp hC hK
  subst hSe
  have h0 := hC.1 0 (by decide)
  have h8 := hW.k8
  obtain ⟨a1, a2⟩ := togP_c hC hW (k := k) (o := i) (by omega) (by omega) hne
  have hM9 := kX4_quarrel l Γ D.1 D.2.1 D.2.2.1 D.2.2.2.1 D.2.2.2.2.1 D.2.2.2.2.2.1 D.2.2.2.2.2.2.1 SL D.2.2.2.2.2.2.2 sr vs v (nI k) (nI i) hS hsr (hasK_of h0 h8 hk) (hasK_of h0 h8 hi) (ne5 (by omega) (by omega) hne)
  have ef : fX4_quarrel SL sr vs v (nI k) (nI i) = ((fX2_toggleQuarrel v k i).1, kN SL, kR SL sr, kV SL sr vs v, (fX2_toggleQuarrel v k i).2) := by
    unfold fX4_quarrel fX4_save
    simp only []
    rw [nI_clamp (by omega), nI_clamp (by omega)]
  rw [ef] at hM9
  exact MI.cw (sL_quarrel l Γ D (nI k) (nI i) (SL, sr, vs, v, vsp, ck, so, sp, cs) (kN SL, kR SL sr, kV SL sr vs v, (fX2_toggleQuarrel v k i).2, vsp, ck, so, sp, cs) _ _ (by decide) (by decide) rfl rfl (MI.frame hM9 [0, 3, 1] rfl rfl (by simp only [List.map_cons, List.map_nil, suB_w, plB_w, cuB_w, txB_w, mnC_w, saB_w]) rfl)) ⟨a1, AB.op hS hsr hW hC (togP_w hW hk hi hne) a2 (hK.same (Or.inl rfl) rfl rfl) ho hp⟩
set_option maxHeartbeats 4000000 in
set_option maxRecDepth 100000 in
theorem W_seal (h : AB P S x) {ky q dt : Nat} (hk : ky < 251) (hq1 : 1 ≤ q) (hq8 : q ≤ 8) (hd : dt ≤ 9999) (hl : q ≤ pop (P 0 1)) : CW l Γ D yL_seal wsL_seal RM0 [.ref D.1, .int (nI ky), .int (nI q), .int (nI dt)] x (fun r u => r = nI (pop (P 0 1)) ∧ AB (dealP (shutP P ky q dt) q) (svS S) u ∧ TOP P u) 0 0 := by
  obtain ⟨SL, sr, vs, v, vsp, ck, so, sp, cs⟩ := x
  obtain ⟨⟨hSe, hS, hsr, ho, hp⟩, hW, hC, hK⟩ := id h
  dsimp only at hSe hsr ho hp hC hK
  subst hSe
  have h0 := hC.1 0 (by decide)
  have h8 := hW.k8
  have hpp := pop_le (P 0 1)
  have w1 := shutP_w hW (ky := ky) (q := q) (dt := dt) hk hq1 hq8 hd
  obtain ⟨a1, a2⟩ := deal_c (shutP_c hC ky q dt) w1 hq1
  have hM9 := kX4_seal l Γ D.1 D.2.1 D.2.2.1 D.2.2.2.1 D.2.2.2.2.1 D.2.2.2.2.2.1 D.2.2.2.2.2.2.1 SL D.2.2.2.2.2.2.2 sr vs v ck (nI ky) q (nI dt) hS hsr (nr (by decide) (by omega) (Nat.zero_le _)) (nr2 (by omega) (by decide) (by omega)) hq1 hq8 (nr (by decide) (by omega) (Nat.zero_le _)) (nr2 (by omega) (by decide) (by omega)) (by unfold fX2_livingCount; rw [hC.1 1 (by decide), fbit_pop _ hW.lv]; exact nr2 (by omega) (by omega) hl)
  exact MI.cw (sL_seal l Γ D (nI ky) (nI q) (nI dt) (SL, sr, vs, v, vsp, ck, so, sp, cs) (kN SL, kR SL sr, kV SL sr vs v, (fX2_drawShares q (fX2_shut v (nI ky) (nI q) (nI dt))).2, vsp, (fX0_reckon ck (fX2_drawShares q (fX2_shut v (nI ky) (nI q) (nI dt))).2), so, sp, cs) _ _ (by decide) (by decide) rfl rfl (MI.frame hM9 [0, 3, 1, 4] rfl rfl (by simp only [List.map_cons, List.map_nil, suB_w, plB_w, cuB_w, txB_w, mnC_w, saB_w]) rfl)) ⟨a1, AB.op hS hsr hW hC (dealP_w w1 q) a2 (CK.new a2 (dealP_w w1 q) ck) ho hp⟩
set_option maxHeartbeats 4000000 in
set_option maxRecDepth 100000 in
theorem W_renew (h : AB P S x) (h4 : P 0 4 = 1) (hl : P 0 6 ≤ pop (P 0 1)) : CW l Γ D yL_renew wsL_renew RM0 [.ref D.1] x (fun r u => r = nI (pop (P 0 1)) ∧ AB (dealP P (P 0 6)) (svS S) u ∧ TOP P u) 0 0 := by
  obtain ⟨SL, sr, vs, v, vsp, ck, so, sp, cs⟩ := x
  obtain ⟨⟨hSe, hS, hsr, ho, hp⟩, hW, hC, hK⟩ := id h
  dsimp only at hSe hsr ho hp hC hK
  subst hSe
  have h0 := hC.1 0 (by decide)
  have h8 := hW.k8
  have hpp := pop_le (P 0 1)
  have hq1 := hW.1.2.2.2.2.2.2.2.1 (by omega)
  have hq8 := hW.1.2.2.2.2.2.2.1
  obtain ⟨a1, a2⟩ := deal_c hC hW hq1
  have hm : ¬ fX2_mayRenew v = 0 := by
    unfold fX2_mayRenew fX2_livingCount
    rw [hC.1 4 (by decide), hC.1 6 (by decide), hC.1 1 (by decide), fbit_pop _ hW.lv, h4, if_pos rfl, if_neg (nr (by omega) (by omega) hl)]; decide
  have hM9 := kX4_renew l Γ D.1 D.2.1 D.2.2.1 D.2.2.2.1 D.2.2.2.2.1 D.2.2.2.2.2.1 D.2.2.2.2.2.2.1 SL (P 0 6) D.2.2.2.2.2.2.2 sr vs v ck hS hsr (fun _ => hC.1 6 (by decide)) hq1 hq8 hm
  exact MI.cw (sL_renew l Γ D (SL, sr, vs, v, vsp, ck, so, sp, cs) (kN SL, kR SL sr, kV SL sr vs v, (fX2_drawShares (P 0 6) v).2, vsp, (fX0_reckon ck (fX2_drawShares (P 0 6) v).2), so, sp, cs) _ _ (by decide) (by decide) rfl rfl (MI.frame hM9 [0, 3, 1, 4] rfl rfl (by simp only [List.map_cons, List.map_nil, suB_w, plB_w, cuB_w, txB_w, mnC_w, saB_w]) rfl)) ⟨a1, AB.op hS hsr hW hC (dealP_w hW (P 0 6)) a2 (CK.new a2 (dealP_w hW (P 0 6)) ck) ho hp⟩
set_option maxHeartbeats 4000000 in
set_option maxRecDepth 100000 in
theorem W_forge (h : AB P S x) {k y : Nat} (hk : k < 8) (hy : y < 251) (h4 : P 4 k ≠ 0) : CW l Γ D yL_forge wsL_forge RM0 [.ref D.1, .int (nI k), .int (nI y)] x (fun r u => r = nI (P 5 k) ∧ AB (forgeP P k y) (svS S) u ∧ TOP P u) 0 0 := by
  obtain ⟨SL, sr, vs, v, vsp, ck, so, sp, cs⟩ := x
  obtain ⟨⟨hSe, hS, hsr, ho, hp⟩, hW, hC, hK⟩ := id h
  dsimp only at hSe hsr ho hp hC hK
  subst hSe
  have h0 := hC.1 0 (by decide)
  have h8 := hW.k8
  obtain ⟨a1, a2⟩ := forgeP_c hC (k := k) (x := y) hk
  have hM9 := kX4_forge l Γ D.1 D.2.1 D.2.2.1 D.2.2.2.1 D.2.2.2.2.1 D.2.2.2.2.2.1 D.2.2.2.2.2.2.1 SL D.2.2.2.2.2.2.2 sr vs v ck (nI k) (nI y) hS hsr (nr (by decide) (by omega) (Nat.zero_le _)) (nr2 (by omega) (by decide) (by omega)) (nr (by decide) (by omega) (Nat.zero_le _)) (nr2 (by omega) (by decide) (by omega)) (fun z => h4 ((hasShare_n hC hW hk).mp z))
  exact MI.cw (sL_forge l Γ D (nI k) (nI y) (SL, sr, vs, v, vsp, ck, so, sp, cs) (kN SL, kR SL sr, kV SL sr vs v, (fX2_replaceShare v (nI k) (nI y)).2, vsp, (fX0_reckon ck (fX2_replaceShare v (nI k) (nI y)).2), so, sp, cs) _ _ (by decide) (by decide) rfl rfl (MI.frame hM9 [0, 3, 1, 4] rfl rfl (by simp only [List.map_cons, List.map_nil, suB_w, plB_w, cuB_w, txB_w, mnC_w, saB_w]) rfl)) ⟨a1, AB.op hS hsr hW hC (forgeP_w hW hk hy) a2 (CK.new a2 (forgeP_w hW hk hy) ck) ho hp⟩
set_option maxHeartbeats 4000000 in
set_option maxRecDepth 100000 in
theorem W_pass (h : AB P S x) {d : Nat} (h1 : 1 ≤ d) (h2 : d ≤ 999) (h3 : P 0 3 + d ≤ 99999) : CW l Γ D yL_pass wsL_pass RM0 [.ref D.1, .int (nI d)] x (fun r u => r = nI (P 0 3 + d) ∧ AB (passP P d) (svS S) u ∧ TOP P u) 0 0 := by
  obtain ⟨SL, sr, vs, v, vsp, ck, so, sp, cs⟩ := x
  obtain ⟨⟨hSe, hS, hsr, ho, hp⟩, hW, hC, hK⟩ := id h
  dsimp only at hSe hsr ho hp hC hK
  subst hSe
  have h0 := hC.1 0 (by decide)
  have h8 := hW.k8
  have hM9 := kX4_pass l Γ D.1 D.2.1 D.2.2.1 D.2.2.2.1 D.2.2.2.2.1 D.2.2.2.2.2.1 D.2.2.2.2.2.2.1 SL D.2.2.2.2.2.2.2 sr vs v (nI d) hS hsr (nr (by decide) (by omega) h1) (nr2 (by omega) (by decide) h2) (by unfold fX2_mayPass; rw [hC.1 3 (by decide), nI_add, if_neg (nr (by omega) (by decide) h3)]; decide)
  exact MI.cw (sL_pass l Γ D (nI d) (SL, sr, vs, v, vsp, ck, so, sp, cs) (kN SL, kR SL sr, kV SL sr vs v, (sS v 3 ((v 0 3) + nI d)), vsp, ck, so, sp, cs) _ _ (by decide) (by decide) rfl rfl (MI.frame hM9 [0, 3, 1] rfl rfl (by simp only [List.map_cons, List.map_nil, suB_w, plB_w, cuB_w, txB_w, mnC_w, saB_w]) rfl)) ⟨(by show v 0 3 + nI d = _; rw [hC.1 3 (by decide), nI_add]), AB.op hS hsr hW hC (passP_w hW h3) (passP_c hC d) (hK.same (Or.inl rfl) rfl rfl) ho hp⟩
set_option maxHeartbeats 4000000 in
set_option maxRecDepth 100000 in
theorem W_open (h : AB P S x) {g : Nat} (hg : g < 2 ^ P 0 0) : CW l Γ D yL_open wsL_open RM0 [.ref D.1, .int (nI g)] x (fun r u => r = nI (reaN P g false) ∧ AB (tryP P g (decide (reaN P g false = 0))) (svS S) u ∧ TOP P u) 0 0 := by
  obtain ⟨SL, sr, vs, v, vsp, ck, so, sp, cs⟩ := x
  obtain ⟨⟨hSe, hS, hsr, ho, hp⟩, hW, hC, hK⟩ := id h
  dsimp only at hSe hsr ho hp hC hK
  subst hSe
  have h0 := hC.1 0 (by decide)
  have h8 := hW.k8
  have hp8 := p2_256 h8
  have hg8 : g < 256 := by omega
  obtain ⟨r1, r2⟩ := refusal_n hC hW hK ho hp hg8
  obtain ⟨l1, l2⟩ := look_0 hC hW ho hp
  have hlt := reaN_lt P g false
  have hop : decide (reaN P g false = 0) = true → P 0 4 = 1 := fun z => by
    have z := of_decide_eq_true z
    unfold reaN at z
    by_cases y : P 0 4 = 1
    · exact y
    · rw [if_neg y] at z; cases z
  have hM9 := kX4_open l Γ D.1 D.2.1 D.2.2.1 D.2.2.2.1 D.2.2.2.2.1 D.2.2.2.2.2.1 D.2.2.2.2.2.2.1 SL D.2.2.2.2.2.2.2 sr vs v ck so sp (nI g) hS hsr (nr (b := 0) (by decide) (by omega) (Nat.zero_le _)) (by rw [every_n h0 h8]; exact nr2 (by omega) (by omega) (by omega))
  have ef : fX4_open SL sr vs v ck so sp (nI g) = (nI (reaN P g false), kN SL, kR SL sr, kV SL sr vs v, fX2_countTry v (nI g) (nI (if decide (reaN P g false = 0) then 1 else 0)), (fX3_look so sp v).1, (fX3_look so sp v).2) := by
    unfold fX4_open fX4_save
    simp only []
    rw [r1, r2]
    by_cases c : reaN P g false = 0
    · rw [if_pos (by rw [c]; decide)]; simp [c]
    · rw [if_neg (fun z => c (by rw [show (0 : Int32) = nI 0 by decide, nI_eq (by omega) (by decide)] at z; exact z))]; simp [c]
  rw [ef] at hM9
  refine MI.cw (sL_open l Γ D (nI g) (SL, sr, vs, v, vsp, ck, so, sp, cs) (kN SL, kR SL sr, kV SL sr vs v, (fX2_countTry v (nI g) (nI (if decide (reaN P g false = 0) then 1 else 0))), vsp, ck, (fX3_look so sp v).1, (fX3_look so sp v).2, cs) _ _ (by decide) (by decide) rfl rfl (MI.frame hM9 [0, 3, 1, 4, 5] rfl rfl (by simp only [List.map_cons, List.map_nil, suB_w, plB_w, cuB_w, txB_w, mnC_w, saB_w]) rfl)) ⟨rfl, AB.op hS hsr hW hC (tryP_w hW g _ hop) (tryP_c hC hg8 (decide (reaN P g false = 0))) (hK.same (Or.inr fun z => ?_) ?_ ?_) l1 l2⟩
  · intro y
    by_cases c : reaN P g false = 0
    · rw [hop (by simp [c])] at y; exact absurd y (by decide)
    · rw [show decide (reaN P g false = 0) = false by simp [c]] at z
      exact z y
  · cases decide (reaN P g false = 0) <;> rfl
  · cases decide (reaN P g false = 0) <;> rfl
set_option maxHeartbeats 4000000 in
set_option maxRecDepth 100000 in
theorem W_undo {T : Nat → Nat → Nat} (h : AB P S x) (ht : TOP T x) : CW l Γ D yL_undo wsL_undo RM0 [.ref D.1] x (fun r u => r = nI (S - 1) ∧ AB T (S - 1) u) 0 0 := by
  obtain ⟨SL, sr, vs, v, vsp, ck, so, sp, cs⟩ := x
  obtain ⟨⟨hSe, hS, hsr, ho, hp⟩, hW, hC, hK⟩ := id h
  dsimp only at hSe hsr ho hp hC hK
  subst hSe
  have h0 := hC.1 0 (by decide)
  have h8 := hW.k8
  obtain ⟨t1, t2, t3⟩ := ht
  dsimp only at t1 t3
  have hk := kX4_undo l Γ D.1 D.2.1 D.2.2.1 D.2.2.2.1 D.2.2.2.2.1 D.2.2.2.2.2.1 D.2.2.2.2.2.2.1 SL D.2.2.2.2.2.2.2 sr vs v ck hS t1 hsr
  exact MI.cw (sL_undo l Γ D (SL, sr, vs, v, vsp, ck, so, sp, cs) (SL - 1, sr, vs, vs ((SL - 1 + sr) % 6), vsp, fX0_reckon ck (vs ((SL - 1 + sr) % 6)), so, sp, cs) _ _ (by decide) (by decide) rfl rfl (MI.frame hk [0, 3, 1, 4] rfl rfl (by simp only [List.map_cons, List.map_nil, suB_w, plB_w, cuB_w, txB_w, mnC_w, saB_w]) rfl)) ⟨rfl, ⟨rfl, by omega, hsr, ho, hp⟩, t2, t3, CK.new t3 t2 ck⟩
set_option maxHeartbeats 4000000 in
set_option maxRecDepth 100000 in
theorem X_keeper (hfl : l.stackTraces = false) (h : AB P S x) (hk8 : ¬ P 0 0 < 8) : CW l Γ D yL_keeper wsL_keeper RM1 [.ref D.1] x (fun r u => r = -2000001 ∧ AB P S u) 1 6 := by
  obtain ⟨SL, sr, vs, v, vsp, ck, so, sp, cs⟩ := x
  obtain ⟨⟨hSe, hS, hsr, ho, hp⟩, hW, hC, hK⟩ := id h
  dsimp only at hSe hsr ho hp hC hK
  subst hSe
  have h0 := hC.1 0 (by decide)
  have h8 := hW.k8
  exact MJ.cw (xL_keeper_1 l Γ D (SL, sr, vs, v, vsp, ck, so, sp, cs) _ (by decide) (by decide) rfl rfl (TX.frame (tX4_keeper_a l hfl Γ D.1 D.2.1 D.2.2.1 D.2.2.2.1 D.2.2.2.2.1 D.2.2.2.2.2.1 D.2.2.2.2.2.2.1 (nI SL) v (by rw [h0]; exact fun z => hk8 ((nI_ltI (by omega) (by decide)).mp z))) [0, 1] rfl rfl)) ⟨rfl, h⟩
set_option maxHeartbeats 4000000 in
set_option maxRecDepth 100000 in
theorem X_die1 (hfl : l.stackTraces = false) (h : AB P S x) {k : Nat} (hk : ¬ k < P 0 0) (h31 : k < 2 ^ 31) : CW l Γ D yL_die wsL_die RM1 [.ref D.1, .int (nI k)] x (fun r u => r = -2000001 ∧ AB P S u) 1 6 := by
  obtain ⟨SL, sr, vs, v, vsp, ck, so, sp, cs⟩ := x
  obtain ⟨⟨hSe, hS, hsr, ho, hp⟩, hW, hC, hK⟩ := id h
  dsimp only at hSe hsr ho hp hC hK
  subst hSe
  have h0 := hC.1 0 (by decide)
  have h8 := hW.k8
  exact MJ.cw (xL_die_1 l Γ D (nI k) (SL, sr, vs, v, vsp, ck, so, sp, cs) _ (by decide) (by decide) rfl rfl (TX.frame (tX4_die_a l hfl Γ D.1 D.2.1 D.2.2.1 D.2.2.2.1 D.2.2.2.2.1 D.2.2.2.2.2.1 D.2.2.2.2.2.2.1 (nI SL) v (nI k) (hasK_no h0 h8 h31 hk)) [0, 1] rfl rfl)) ⟨rfl, h⟩
set_option maxHeartbeats 4000000 in
set_option maxRecDepth 100000 in
theorem X_die2 (hfl : l.stackTraces = false) (h : AB P S x) {k : Nat} (hk : k < P 0 0) (hb : (P 0 1).testBit k = false) : CW l Γ D yL_die wsL_die RM1 [.ref D.1, .int (nI k)] x (fun r u => r = -2000002 ∧ AB P S u) 1 6 := by
  obtain ⟨SL, sr, vs, v, vsp, ck, so, sp, cs⟩ := x
  obtain ⟨⟨hSe, hS, hsr, ho, hp⟩, hW, hC, hK⟩ := id h
  dsimp only at hSe hsr ho hp hC hK
  subst hSe
  have h0 := hC.1 0 (by decide)
  have h8 := hW.k8
  exact MJ.cw (xL_die_2 l Γ D (nI k) (SL, sr, vs, v, vsp, ck, so, sp, cs) _ (by decide) (by decide) rfl rfl (TX.frame (tX4_die_b l hfl Γ D.1 D.2.1 D.2.2.1 D.2.2.2.1 D.2.2.2.2.1 D.2.2.2.2.2.1 D.2.2.2.2.2.2.1 (nI SL) v (nI k) (hasK_of h0 h8 hk) (by rw [lives_n h0 (hC.1 1 (by decide)) hW.1.1 hW.1.2.1 (show k < 8 by omega), hb]; decide)) [0, 1] rfl rfl)) ⟨rfl, h⟩
set_option maxHeartbeats 4000000 in
set_option maxRecDepth 100000 in
theorem X_heir1 (hfl : l.stackTraces = false) (h : AB P S x) {k : Nat} (e : Int32) (hk : ¬ k < P 0 0) (h31 : k < 2 ^ 31) : CW l Γ D yL_heir wsL_heir RM1 [.ref D.1, .int (nI k), .int (e)] x (fun r u => r = -2000001 ∧ AB P S u) 1 6 := by
  obtain ⟨SL, sr, vs, v, vsp, ck, so, sp, cs⟩ := x
  obtain ⟨⟨hSe, hS, hsr, ho, hp⟩, hW, hC, hK⟩ := id h
  dsimp only at hSe hsr ho hp hC hK
  subst hSe
  have h0 := hC.1 0 (by decide)
  have h8 := hW.k8
  exact MJ.cw (xL_heir_1 l Γ D (nI k) (e) (SL, sr, vs, v, vsp, ck, so, sp, cs) _ (by decide) (by decide) rfl rfl (TX.frame (tX4_heir_a l hfl Γ D.1 D.2.1 D.2.2.1 D.2.2.2.1 D.2.2.2.2.1 D.2.2.2.2.2.1 D.2.2.2.2.2.2.1 (nI SL) v (nI k) e (hasK_no h0 h8 h31 hk)) [0, 1] rfl rfl)) ⟨rfl, h⟩
set_option maxHeartbeats 4000000 in
set_option maxRecDepth 100000 in
theorem X_heir3 (hfl : l.stackTraces = false) (h : AB P S x) {k : Nat} {e : Int32} (hk : k < P 0 0) (he : ¬ e = (-1)) (hh : ∀ v : Nat → Nat → Int32, v 0 0 = nI (P 0 0) → fX2_hasKeeper v e = 0) : CW l Γ D yL_heir wsL_heir RM1 [.ref D.1, .int (nI k), .int (e)] x (fun r u => r = -2000001 ∧ AB P S u) 1 6 := by
  obtain ⟨SL, sr, vs, v, vsp, ck, so, sp, cs⟩ := x
  obtain ⟨⟨hSe, hS, hsr, ho, hp⟩, hW, hC, hK⟩ := id h
  dsimp only at hSe hsr ho hp hC hK
  subst hSe
  have h0 := hC.1 0 (by decide)
  have h8 := hW.k8
  exact MJ.cw (xL_heir_1 l Γ D (nI k) (e) (SL, sr, vs, v, vsp, ck, so, sp, cs) _ (by decide) (by decide) rfl rfl (TX.frame (tX4_heir_b l hfl Γ D.1 D.2.1 D.2.2.1 D.2.2.2.1 D.2.2.2.2.1 D.2.2.2.2.2.1 D.2.2.2.2.2.2.1 (nI SL) v (nI k) e (hasK_of h0 h8 hk) he (hh v h0)) [0, 1] rfl rfl)) ⟨rfl, h⟩
set_option maxHeartbeats 4000000 in
set_option maxRecDepth 100000 in
theorem X_heir2 (hfl : l.stackTraces = false) (h : AB P S x) {k i : Nat} (hk : k < P 0 0) (hi : i ≤ P 0 0) (hno : (P 0 1).testBit k = false ∨ i = k + 1 ∨ (i ≠ 0 ∧ (P 0 1).testBit (i - 1) = false)) : CW l Γ D yL_heir wsL_heir RM1 [.ref D.1, .int (nI k), .int (dn i)] x (fun r u => r = -2000002 ∧ AB P S u) 1 6 := by
  obtain ⟨SL, sr, vs, v, vsp, ck, so, sp, cs⟩ := x
  obtain ⟨⟨hSe, hS, hsr, ho, hp⟩, hW, hC, hK⟩ := id h
  dsimp only at hSe hsr ho hp hC hK
  subst hSe
  have h0 := hC.1 0 (by decide)
  have h8 := hW.k8
  have hh : dn i = (-1) ∨ ¬ fX2_hasKeeper v (dn i) = 0 := by
    by_cases e : i = 0
    · subst e; exact Or.inl rfl
    · rw [dn_s i e]; exact Or.inr (hasK_of h0 h8 (by omega))
  have hm : fX2_mayName v (nI k) (dn i) = 0 := by
    unfold fX2_mayName
    by_cases e1 : nI k = dn i
    · rw [if_pos e1]; decide
    · rw [if_neg e1, lives_n h0 (hC.1 1 (by decide)) hW.1.1 hW.1.2.1 (show k < 8 by omega)]
      cases hb : (P 0 1).testBit k with
      | false => rw [if_pos (by decide)]; decide
      | true =>
        rw [if_neg (by decide)]
        rcases hno with z | z | ⟨z1, z2⟩
        · rw [hb] at z; cases z
        · exact absurd (by rw [z]; rfl) e1
        · rw [if_neg (fun y => z1 ((dn_m i (by omega)).mp y)), dn_s i z1, lives_n h0 (hC.1 1 (by decide)) hW.1.1 hW.1.2.1 (show i - 1 < 8 by omega), z2, if_pos (by decide)]; decide
  exact MJ.cw (xL_heir_2 l Γ D (nI k) (dn i) (SL, sr, vs, v, vsp, ck, so, sp, cs) _ (by decide) (by decide) rfl rfl (TX.frame (tX4_heir_c l hfl Γ D.1 D.2.1 D.2.2.1 D.2.2.2.1 D.2.2.2.2.1 D.2.2.2.2.2.1 D.2.2.2.2.2.2.1 (nI SL) v (nI k) (dn i) (hasK_of h0 h8 hk) hh hm) [0, 1] rfl rfl)) ⟨rfl, h⟩
set_option maxHeartbeats 4000000 in
set_option maxRecDepth 100000 in
theorem X_quarrel1 (hfl : l.stackTraces = false) (h : AB P S x) {k : Nat} (e : Int32) (hk : ¬ k < P 0 0) (h31 : k < 2 ^ 31) : CW l Γ D yL_quarrel wsL_quarrel RM1 [.ref D.1, .int (nI k), .int (e)] x (fun r u => r = -2000001 ∧ AB P S u) 1 6 := by
  obtain ⟨SL, sr, vs, v, vsp, ck, so, sp, cs⟩ := x
  obtain ⟨⟨hSe, hS, hsr, ho, hp⟩, hW, hC, hK⟩ := id h
  dsimp only at hSe hsr ho hp hC hK
  subst hSe
  have h0 := hC.1 0 (by decide)
  have h8 := hW.k8
  exact MJ.cw (xL_quarrel_1 l Γ D (nI k) (e) (SL, sr, vs, v, vsp, ck, so, sp, cs) _ (by decide) (by decide) rfl rfl (TX.frame (tX4_quarrel_a l hfl Γ D.1 D.2.1 D.2.2.1 D.2.2.2.1 D.2.2.2.2.1 D.2.2.2.2.2.1 D.2.2.2.2.2.2.1 (nI SL) v (nI k) e (hasK_no h0 h8 h31 hk)) [0, 1] rfl rfl)) ⟨rfl, h⟩
set_option maxHeartbeats 4000000 in
set_option maxRecDepth 100000 in
theorem X_quarrel3 (hfl : l.stackTraces = false) (h : AB P S x) {k i : Nat} (hk : k < P 0 0) (hi : ¬ i < P 0 0) (h31 : i < 2 ^ 31) : CW l Γ D yL_quarrel wsL_quarrel RM1 [.ref D.1, .int (nI k), .int (nI i)] x (fun r u => r = -2000001 ∧ AB P S u) 1 6 := by
  obtain ⟨SL, sr, vs, v, vsp, ck, so, sp, cs⟩ := x
  obtain ⟨⟨hSe, hS, hsr, ho, hp⟩, hW, hC, hK⟩ := id h
  dsimp only at hSe hsr ho hp hC hK
  subst hSe
  have h0 := hC.1 0 (by decide)
  have h8 := hW.k8
  exact MJ.cw (xL_quarrel_1 l Γ D (nI k) (nI i) (SL, sr, vs, v, vsp, ck, so, sp, cs) _ (by decide) (by decide) rfl rfl (TX.frame (tX4_quarrel_b l hfl Γ D.1 D.2.1 D.2.2.1 D.2.2.2.1 D.2.2.2.2.1 D.2.2.2.2.2.1 D.2.2.2.2.2.2.1 (nI SL) v (nI k) (nI i) (hasK_of h0 h8 hk) (hasK_no h0 h8 h31 hi)) [0, 1] rfl rfl)) ⟨rfl, h⟩
set_option maxHeartbeats 4000000 in
set_option maxRecDepth 100000 in
theorem X_quarrel2 (hfl : l.stackTraces = false) (h : AB P S x) {k : Nat} (hk : k < P 0 0) : CW l Γ D yL_quarrel wsL_quarrel RM1 [.ref D.1, .int (nI k), .int (nI k)] x (fun r u => r = -2000002 ∧ AB P S u) 1 6 := by
  obtain ⟨SL, sr, vs, v, vsp, ck, so, sp, cs⟩ := x
  obtain ⟨⟨hSe, hS, hsr, ho, hp⟩, hW, hC, hK⟩ := id h
  dsimp only at hSe hsr ho hp hC hK
  subst hSe
  have h0 := hC.1 0 (by decide)
  have h8 := hW.k8
  exact MJ.cw (xL_quarrel_2 l Γ D (nI k) (nI k) (SL, sr, vs, v, vsp, ck, so, sp, cs) _ (by decide) (by decide) rfl rfl (TX.frame (tX4_quarrel_c l hfl Γ D.1 D.2.1 D.2.2.1 D.2.2.2.1 D.2.2.2.2.1 D.2.2.2.2.2.1 D.2.2.2.2.2.2.1 (nI SL) v (nI k) (nI k) (hasK_of h0 h8 hk) (hasK_of h0 h8 hk) rfl) [0, 1] rfl rfl)) ⟨rfl, h⟩
set_option maxHeartbeats 4000000 in
set_option maxRecDepth 100000 in
theorem X_seal1 (hfl : l.stackTraces = false) (h : AB P S x) (q dt : Int32) : CW l Γ D yL_seal wsL_seal RM1 [.ref D.1, .int (nI 251), .int (q), .int (dt)] x (fun r u => r = -2000001 ∧ AB P S u) 1 6 := by
  obtain ⟨SL, sr, vs, v, vsp, ck, so, sp, cs⟩ := x
  obtain ⟨⟨hSe, hS, hsr, ho, hp⟩, hW, hC, hK⟩ := id h
  dsimp only at hSe hsr ho hp hC hK
  subst hSe
  have h0 := hC.1 0 (by decide)
  have h8 := hW.k8
  exact MJ.cw (xL_seal_1 l Γ D (nI 251) (q) (dt) (SL, sr, vs, v, vsp, ck, so, sp, cs) _ (by decide) (by decide) rfl rfl (TX.frame (tX4_seal_b5 l hfl Γ D.1 D.2.1 D.2.2.1 D.2.2.2.1 D.2.2.2.2.1 D.2.2.2.2.2.1 D.2.2.2.2.2.2.1 (nI SL) v (nI 251) q dt (by decide) (by decide)) [0, 1] rfl rfl)) ⟨rfl, h⟩
set_option maxHeartbeats 4000000 in
set_option maxRecDepth 100000 in
theorem X_seal2 (hfl : l.stackTraces = false) (h : AB P S x) {ky q dt : Nat} (hk : ky < 251) (hq1 : 1 ≤ q) (hq8 : q ≤ 8) (hd : dt ≤ 9999) (hl : ¬ q ≤ pop (P 0 1)) : CW l Γ D yL_seal wsL_seal RM1 [.ref D.1, .int (nI ky), .int (nI q), .int (nI dt)] x (fun r u => r = -2000002 ∧ AB P S u) 1 6 := by
  obtain ⟨SL, sr, vs, v, vsp, ck, so, sp, cs⟩ := x
  obtain ⟨⟨hSe, hS, hsr, ho, hp⟩, hW, hC, hK⟩ := id h
  dsimp only at hSe hsr ho hp hC hK
  subst hSe
  have h0 := hC.1 0 (by decide)
  have h8 := hW.k8
  exact MJ.cw (xL_seal_2 l Γ D (nI ky) (nI q) (nI dt) (SL, sr, vs, v, vsp, ck, so, sp, cs) _ (by decide) (by decide) rfl rfl (TX.frame (tX4_seal_c l hfl Γ D.1 D.2.1 D.2.2.1 D.2.2.2.1 D.2.2.2.2.1 D.2.2.2.2.2.1 D.2.2.2.2.2.2.1 (nI SL) v (nI ky) (nI q) (nI dt) (nr (by decide) (by omega) (Nat.zero_le _)) (nr2 (by omega) (by decide) (by omega)) (nr (by decide) (by omega) hq1) (nr2 (by omega) (by decide) hq8) (nr (by decide) (by omega) (Nat.zero_le _)) (nr2 (by omega) (by decide) (by omega)) (by have hpp := pop_le (P 0 1); unfold fX2_livingCount; rw [hC.1 1 (by decide), fbit_pop _ hW.lv]; exact fun z => hl ((nI_leI (by omega) (by omega)).mp z))) [0, 1] rfl rfl)) ⟨rfl, h⟩
set_option maxHeartbeats 4000000 in
set_option maxRecDepth 100000 in
theorem X_renew (hfl : l.stackTraces = false) (h : AB P S x) (hno : ¬ (P 0 4 = 1 ∧ P 0 6 ≤ pop (P 0 1))) : CW l Γ D yL_renew wsL_renew RM1 [.ref D.1] x (fun r u => r = -2000001 ∧ AB P S u) 1 6 := by
  obtain ⟨SL, sr, vs, v, vsp, ck, so, sp, cs⟩ := x
  obtain ⟨⟨hSe, hS, hsr, ho, hp⟩, hW, hC, hK⟩ := id h
  dsimp only at hSe hsr ho hp hC hK
  subst hSe
  have h0 := hC.1 0 (by decide)
  have h8 := hW.k8
  have hpp := pop_le (P 0 1)
  have w4 := hW.1.2.2.2.2.1
  have hq8 := hW.1.2.2.2.2.2.2.1
  have hm : fX2_mayRenew v = 0 := by
    unfold fX2_mayRenew fX2_livingCount
    rw [hC.1 4 (by decide), hC.1 6 (by decide), hC.1 1 (by decide), fbit_pop _ hW.lv]
    by_cases c : P 0 4 = 1
    · rw [c, if_pos rfl, if_pos ((nI_ltI (by omega) (by omega)).mpr (Nat.not_le.mp fun z => hno ⟨c, z⟩))]; decide
    · rw [if_neg (ne5 (by omega) (by decide) c)]; decide
  exact MJ.cw (xL_renew_1 l Γ D (SL, sr, vs, v, vsp, ck, so, sp, cs) _ (by decide) (by decide) rfl rfl (TX.frame (tX4_renew_a l hfl Γ D.1 D.2.1 D.2.2.1 D.2.2.2.1 D.2.2.2.2.1 D.2.2.2.2.2.1 D.2.2.2.2.2.2.1 (nI SL) v hm) [0, 1] rfl rfl)) ⟨rfl, h⟩
set_option maxHeartbeats 4000000 in
set_option maxRecDepth 100000 in
theorem X_forge1 (hfl : l.stackTraces = false) (h : AB P S x) (y : Int32) : CW l Γ D yL_forge wsL_forge RM1 [.ref D.1, .int (nI 8), .int (y)] x (fun r u => r = -2000001 ∧ AB P S u) 1 6 := by
  obtain ⟨SL, sr, vs, v, vsp, ck, so, sp, cs⟩ := x
  obtain ⟨⟨hSe, hS, hsr, ho, hp⟩, hW, hC, hK⟩ := id h
  dsimp only at hSe hsr ho hp hC hK
  subst hSe
  have h0 := hC.1 0 (by decide)
  have h8 := hW.k8
  exact MJ.cw (xL_forge_1 l Γ D (nI 8) (y) (SL, sr, vs, v, vsp, ck, so, sp, cs) _ (by decide) (by decide) rfl rfl (TX.frame (tX4_forge_b4 l hfl Γ D.1 D.2.1 D.2.2.1 D.2.2.2.1 D.2.2.2.2.1 D.2.2.2.2.2.1 D.2.2.2.2.2.2.1 (nI SL) v (nI 8) y (by decide) (by decide)) [0, 1] rfl rfl)) ⟨rfl, h⟩
set_option maxHeartbeats 4000000 in
set_option maxRecDepth 100000 in
theorem X_forge2 (hfl : l.stackTraces = false) (h : AB P S x) {k y : Nat} (hk : k < 8) (hy : y < 251) (h4 : P 4 k = 0) : CW l Γ D yL_forge wsL_forge RM1 [.ref D.1, .int (nI k), .int (nI y)] x (fun r u => r = -2000002 ∧ AB P S u) 1 6 := by
  obtain ⟨SL, sr, vs, v, vsp, ck, so, sp, cs⟩ := x
  obtain ⟨⟨hSe, hS, hsr, ho, hp⟩, hW, hC, hK⟩ := id h
  dsimp only at hSe hsr ho hp hC hK
  subst hSe
  have h0 := hC.1 0 (by decide)
  have h8 := hW.k8
  exact MJ.cw (xL_forge_2 l Γ D (nI k) (nI y) (SL, sr, vs, v, vsp, ck, so, sp, cs) _ (by decide) (by decide) rfl rfl (TX.frame (tX4_forge_c l hfl Γ D.1 D.2.1 D.2.2.1 D.2.2.2.1 D.2.2.2.2.1 D.2.2.2.2.2.1 D.2.2.2.2.2.2.1 (nI SL) v (nI k) (nI y) (nr (by decide) (by omega) (Nat.zero_le _)) (nr2 (by omega) (by decide) (by omega)) (nr (by decide) (by omega) (Nat.zero_le _)) (nr2 (by omega) (by decide) (by omega)) ((hasShare_n hC hW hk).mpr h4)) [0, 1] rfl rfl)) ⟨rfl, h⟩
set_option maxHeartbeats 4000000 in
set_option maxRecDepth 100000 in
theorem X_pass1 (hfl : l.stackTraces = false) (h : AB P S x) : CW l Γ D yL_pass wsL_pass RM1 [.ref D.1, .int (nI 0)] x (fun r u => r = -2000001 ∧ AB P S u) 1 6 := by
  obtain ⟨SL, sr, vs, v, vsp, ck, so, sp, cs⟩ := x
  obtain ⟨⟨hSe, hS, hsr, ho, hp⟩, hW, hC, hK⟩ := id h
  dsimp only at hSe hsr ho hp hC hK
  subst hSe
  have h0 := hC.1 0 (by decide)
  have h8 := hW.k8
  exact MJ.cw (xL_pass_1 l Γ D (nI 0) (SL, sr, vs, v, vsp, ck, so, sp, cs) _ (by decide) (by decide) rfl rfl (TX.frame (tX4_pass_a5 l hfl Γ D.1 D.2.1 D.2.2.1 D.2.2.2.1 D.2.2.2.2.1 D.2.2.2.2.2.1 D.2.2.2.2.2.2.1 (nI SL) v (nI 0) (by decide)) [0, 1] rfl rfl)) ⟨rfl, h⟩
set_option maxHeartbeats 4000000 in
set_option maxRecDepth 100000 in
theorem X_pass2 (hfl : l.stackTraces = false) (h : AB P S x) {d : Nat} (h1 : 1 ≤ d) (h2 : d ≤ 999) (h3 : ¬ P 0 3 + d ≤ 99999) : CW l Γ D yL_pass wsL_pass RM1 [.ref D.1, .int (nI d)] x (fun r u => r = -2000002 ∧ AB P S u) 1 6 := by
  obtain ⟨SL, sr, vs, v, vsp, ck, so, sp, cs⟩ := x
  obtain ⟨⟨hSe, hS, hsr, ho, hp⟩, hW, hC, hK⟩ := id h
  dsimp only at hSe hsr ho hp hC hK
  subst hSe
  have h0 := hC.1 0 (by decide)
  have h8 := hW.k8
  exact MJ.cw (xL_pass_2 l Γ D (nI d) (SL, sr, vs, v, vsp, ck, so, sp, cs) _ (by decide) (by decide) rfl rfl (TX.frame (tX4_pass_c l hfl Γ D.1 D.2.1 D.2.2.1 D.2.2.2.1 D.2.2.2.2.1 D.2.2.2.2.2.1 D.2.2.2.2.2.2.1 (nI SL) v (nI d) (nr (by decide) (by omega) h1) (nr2 (by omega) (by decide) h2) (by have w3 := hW.1.2.2.2.1; unfold fX2_mayPass; rw [hC.1 3 (by decide), nI_add, if_pos ((nI_ltI (by decide) (by omega)).mpr (by omega))]; decide)) [0, 1] rfl rfl)) ⟨rfl, h⟩
set_option maxHeartbeats 4000000 in
set_option maxRecDepth 100000 in
theorem X_open1 (hfl : l.stackTraces = false) (h : AB P S x) : CW l Γ D yL_open wsL_open RM1 [.ref D.1, .int (nI 256)] x (fun r u => r = -2000001 ∧ AB P S u) 1 6 := by
  obtain ⟨SL, sr, vs, v, vsp, ck, so, sp, cs⟩ := x
  obtain ⟨⟨hSe, hS, hsr, ho, hp⟩, hW, hC, hK⟩ := id h
  dsimp only at hSe hsr ho hp hC hK
  subst hSe
  have h0 := hC.1 0 (by decide)
  have h8 := hW.k8
  exact MJ.cw (xL_open_1 l Γ D (nI 256) (SL, sr, vs, v, vsp, ck, so, sp, cs) _ (by decide) (by decide) rfl rfl (TX.frame (tX4_open_b l hfl Γ D.1 D.2.1 D.2.2.1 D.2.2.2.1 D.2.2.2.2.1 D.2.2.2.2.2.1 D.2.2.2.2.2.2.1 (nI SL) v (nI 256) (by decide) (by have hp8 := p2_256 h8; rw [every_n h0 h8]; exact fun z => absurd ((nI_leI (by decide) (by omega)).mp z) (by omega))) [0, 1] rfl rfl)) ⟨rfl, h⟩
set_option maxHeartbeats 4000000 in
set_option maxRecDepth 100000 in
theorem X_append1 (hfl : l.stackTraces = false) (h : AB P S x) : CW l Γ D yL_append wsL_append RM1 [.ref D.1, .int (nI 32)] x (fun r u => r = -2000001 ∧ AB P S u) 1 6 := by
  obtain ⟨SL, sr, vs, v, vsp, ck, so, sp, cs⟩ := x
  obtain ⟨⟨hSe, hS, hsr, ho, hp⟩, hW, hC, hK⟩ := id h
  dsimp only at hSe hsr ho hp hC hK
  subst hSe
  have h0 := hC.1 0 (by decide)
  have h8 := hW.k8
  exact MJ.cw (xL_append_1 l Γ D (nI 32) (SL, sr, vs, v, vsp, ck, so, sp, cs) _ (by decide) (by decide) rfl rfl (TX.frame (tX4_append_a5 l hfl Γ D.1 D.2.1 D.2.2.1 D.2.2.2.1 D.2.2.2.2.1 D.2.2.2.2.2.1 D.2.2.2.2.2.2.1 0 (nI SL) cs (nI 32) (by decide) (by decide)) [0, 6] rfl rfl)) ⟨rfl, h⟩
set_option maxHeartbeats 4000000 in
set_option maxRecDepth 100000 in
theorem X_live1 (hfl : l.stackTraces = false) (h : AB P S x) : CW l Γ D yL_live wsL_live RM1 [.ref D.1] x (fun r u => r = -2000001 ∧ AB P S u) 1 6 := by
  obtain ⟨SL, sr, vs, v, vsp, ck, so, sp, cs⟩ := x
  obtain ⟨⟨hSe, hS, hsr, ho, hp⟩, hW, hC, hK⟩ := id h
  dsimp only at hSe hsr ho hp hC hK
  subst hSe
  have h0 := hC.1 0 (by decide)
  have h8 := hW.k8
  exact MJ.cw (xL_live_1 l Γ D (SL, sr, vs, v, vsp, ck, so, sp, cs) _ (by decide) (by decide) rfl rfl (TX.frame (tX4_live_a l hfl Γ D.1 D.2.1 D.2.2.1 D.2.2.2.1 D.2.2.2.2.1 D.2.2.2.2.2.1 D.2.2.2.2.2.2.1 0 (nI SL) cs (by decide) (by rfl)) [0, 6] rfl rfl)) ⟨rfl, h⟩
set_option maxHeartbeats 4000000 in
set_option maxRecDepth 100000 in
theorem X_undo1 (hfl : l.stackTraces = false) (h : AB P 0 x) : CW l Γ D yL_undo wsL_undo RM1 [.ref D.1] x (fun r u => r = -2000001 ∧ AB P 0 u) 1 6 := by
  obtain ⟨SL, sr, vs, v, vsp, ck, so, sp, cs⟩ := x
  obtain ⟨⟨hSe, hS, hsr, ho, hp⟩, hW, hC, hK⟩ := id h
  dsimp only at hSe
  subst hSe
  exact MJ.cw (xL_undo_1 l Γ D (0, sr, vs, v, vsp, ck, so, sp, cs) _ (by decide) (by decide) rfl rfl (TX.frame (tX4_undo_a l hfl Γ D.1 D.2.1 D.2.2.1 D.2.2.2.1 D.2.2.2.2.1 D.2.2.2.2.2.1 D.2.2.2.2.2.2.1) [0] rfl rfl)) ⟨rfl, h⟩
set_option maxHeartbeats 4000000 in
set_option maxRecDepth 100000 in
theorem X_keeperOf1 (hfl : l.stackTraces = false) (h : AB P S x) {k : Nat} (w : Int32) (hk : ¬ k < P 0 0) (h31 : k < 2 ^ 31) : CW l Γ D yL_keeperOf wsL_keeperOf RM1 [.ref D.1, .int (nI k), .int (w)] x (fun r u => r = -2000001 ∧ AB P S u) 1 6 := by
  obtain ⟨SL, sr, vs, v, vsp, ck, so, sp, cs⟩ := x
  obtain ⟨⟨hSe, hS, hsr, ho, hp⟩, hW, hC, hK⟩ := id h
  dsimp only at hSe hsr ho hp hC hK
  subst hSe
  have h0 := hC.1 0 (by decide)
  have h8 := hW.k8
  exact MJ.cw (xL_keeperOf_1 l Γ D (nI k) (w) (SL, sr, vs, v, vsp, ck, so, sp, cs) _ (by decide) (by decide) rfl rfl (TX.frame (tX4_keeperOf_a l hfl Γ D.1 D.2.1 D.2.2.1 D.2.2.2.1 D.2.2.2.2.1 D.2.2.2.2.2.1 D.2.2.2.2.2.2.1 (nI SL) v (nI k) w (hasK_no h0 h8 h31 hk)) [0, 1] rfl rfl)) ⟨rfl, h⟩
set_option maxHeartbeats 4000000 in
set_option maxRecDepth 100000 in
theorem X_keeperOf2 (hfl : l.stackTraces = false) (h : AB P S x) {k : Nat} (hk : k < P 0 0) : CW l Γ D yL_keeperOf wsL_keeperOf RM1 [.ref D.1, .int (nI k), .int (nI 5)] x (fun r u => r = -2000002 ∧ AB P S u) 1 6 := by
  obtain ⟨SL, sr, vs, v, vsp, ck, so, sp, cs⟩ := x
  obtain ⟨⟨hSe, hS, hsr, ho, hp⟩, hW, hC, hK⟩ := id h
  dsimp only at hSe hsr ho hp hC hK
  subst hSe
  have h0 := hC.1 0 (by decide)
  have h8 := hW.k8
  exact MJ.cw (xL_keeperOf_2 l Γ D (nI k) (nI 5) (SL, sr, vs, v, vsp, ck, so, sp, cs) _ (by decide) (by decide) rfl rfl (TX.frame (tX4_keeperOf_b l hfl Γ D.1 D.2.1 D.2.2.1 D.2.2.2.1 D.2.2.2.2.1 D.2.2.2.2.2.1 D.2.2.2.2.2.2.1 (nI SL) v (nI k) (nI 5) (hasK_of h0 h8 hk) (by decide) (by decide) (by decide) (by decide) (by decide)) [0, 1] rfl rfl)) ⟨rfl, h⟩
set_option maxHeartbeats 4000000 in
set_option maxRecDepth 100000 in
theorem X_share1 (hfl : l.stackTraces = false) (h : AB P S x) : CW l Γ D yL_share wsL_share RM1 [.ref D.1, .int (nI 0), .int (nI 3)] x (fun r u => r = -2000001 ∧ AB P S u) 1 6 := by
  obtain ⟨SL, sr, vs, v, vsp, ck, so, sp, cs⟩ := x
  obtain ⟨⟨hSe, hS, hsr, ho, hp⟩, hW, hC, hK⟩ := id h
  dsimp only at hSe hsr ho hp hC hK
  subst hSe
  have h0 := hC.1 0 (by decide)
  have h8 := hW.k8
  exact MJ.cw (xL_share_1 l Γ D (nI 0) (nI 3) (SL, sr, vs, v, vsp, ck, so, sp, cs) _ (by decide) (by decide) rfl rfl (TX.frame (tX4_share_b10 l hfl Γ D.1 D.2.1 D.2.2.1 D.2.2.2.1 D.2.2.2.2.1 D.2.2.2.2.2.1 D.2.2.2.2.2.2.1 (nI SL) v (nI 0) (nI 3) (by decide) (by decide) (by decide) (by decide)) [0, 1] rfl rfl)) ⟨rfl, h⟩
set_option maxHeartbeats 4000000 in
set_option maxRecDepth 100000 in
theorem X_count1 (hfl : l.stackTraces = false) (h : AB P S x) : CW l Γ D yL_count wsL_count RM1 [.ref D.1, .int (nI 12)] x (fun r u => r = -2000001 ∧ AB P S u) 1 6 := by
  obtain ⟨SL, sr, vs, v, vsp, ck, so, sp, cs⟩ := x
  obtain ⟨⟨hSe, hS, hsr, ho, hp⟩, hW, hC, hK⟩ := id h
  dsimp only at hSe hsr ho hp hC hK
  subst hSe
  have h0 := hC.1 0 (by decide)
  have h8 := hW.k8
  exact MJ.cw (xL_count_1 l Γ D (nI 12) (SL, sr, vs, v, vsp, ck, so, sp, cs) _ (by decide) (by decide) rfl rfl (TX.frame (tX4_count_a l hfl Γ D.1 D.2.1 D.2.2.1 D.2.2.2.1 D.2.2.2.2.1 D.2.2.2.2.2.1 D.2.2.2.2.2.2.1 (nI SL) v (nI 12) (by decide) (by decide) (by decide) (by decide) (by decide) (by decide) (by decide) (by decide) (by decide) (by decide) (by decide) (by decide)) [0, 1] rfl rfl)) ⟨rfl, h⟩
set_option maxHeartbeats 4000000 in
set_option maxRecDepth 100000 in
theorem X_told1 (hfl : l.stackTraces = false) (h : AB P S x) : CW l Γ D yL_told wsL_told RM1 [.ref D.1, .int (nI 256)] x (fun r u => r = -2000001 ∧ AB P S u) 1 6 := by
  obtain ⟨SL, sr, vs, v, vsp, ck, so, sp, cs⟩ := x
  obtain ⟨⟨hSe, hS, hsr, ho, hp⟩, hW, hC, hK⟩ := id h
  dsimp only at hSe hsr ho hp hC hK
  subst hSe
  have h0 := hC.1 0 (by decide)
  have h8 := hW.k8
  exact MJ.cw (xL_told_1 l Γ D (nI 256) (SL, sr, vs, v, vsp, ck, so, sp, cs) _ (by decide) (by decide) rfl rfl (TX.frame (tX4_told_b5 l hfl Γ D.1 D.2.1 D.2.2.1 D.2.2.2.1 D.2.2.2.2.1 D.2.2.2.2.2.1 D.2.2.2.2.2.2.1 (nI SL) v ck (nI 256) (by decide) (by decide)) [0, 1, 4] rfl rfl)) ⟨rfl, h⟩
set_option maxHeartbeats 4000000 in
set_option maxRecDepth 100000 in
theorem X_possible1 (hfl : l.stackTraces = false) (h : AB P S x) : CW l Γ D yL_possible wsL_possible RM1 [.ref D.1, .int (-1)] x (fun r u => r = -2000001 ∧ AB P S u) 1 6 := by
  obtain ⟨SL, sr, vs, v, vsp, ck, so, sp, cs⟩ := x
  obtain ⟨⟨hSe, hS, hsr, ho, hp⟩, hW, hC, hK⟩ := id h
  dsimp only at hSe hsr ho hp hC hK
  subst hSe
  have h0 := hC.1 0 (by decide)
  have h8 := hW.k8
  exact MJ.cw (xL_possible_1 l Γ D (-1) (SL, sr, vs, v, vsp, ck, so, sp, cs) _ (by decide) (by decide) rfl rfl (TX.frame (tX4_possible_a5 l hfl Γ D.1 D.2.1 D.2.2.1 D.2.2.2.1 D.2.2.2.2.1 D.2.2.2.2.2.1 D.2.2.2.2.2.2.1 (nI SL) v ck (-1) (by decide)) [0, 1, 4] rfl rfl)) ⟨rfl, h⟩
set_option maxHeartbeats 4000000 in
set_option maxRecDepth 100000 in
theorem X_smallest1 (hfl : l.stackTraces = false) (h : AB P S x) : CW l Γ D yL_smallest wsL_smallest RM1 [.ref D.1, .int (nI 2)] x (fun r u => r = -2000001 ∧ AB P S u) 1 6 := by
  obtain ⟨SL, sr, vs, v, vsp, ck, so, sp, cs⟩ := x
  obtain ⟨⟨hSe, hS, hsr, ho, hp⟩, hW, hC, hK⟩ := id h
  dsimp only at hSe hsr ho hp hC hK
  subst hSe
  have h0 := hC.1 0 (by decide)
  have h8 := hW.k8
  exact MJ.cw (xL_smallest_1 l Γ D (nI 2) (SL, sr, vs, v, vsp, ck, so, sp, cs) _ (by decide) (by decide) rfl rfl (TX.frame (tX4_smallest_b3 l hfl Γ D.1 D.2.1 D.2.2.1 D.2.2.2.1 D.2.2.2.2.1 D.2.2.2.2.2.1 D.2.2.2.2.2.2.1 (nI SL) v ck so sp (nI 2) (by decide) (by decide)) [0, 1, 4, 5] rfl rfl)) ⟨rfl, h⟩
end CWS
