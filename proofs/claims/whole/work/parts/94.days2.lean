/-! ===== living the days ===== -/
theorem save_k (SL sr : Nat) (vs : Nat → Nat → Nat → Int32) (v : Nat → Nat → Int32) : fX4_save SL sr vs v = (kN SL, kR SL sr, kV SL sr vs v) := by
  unfold fX4_save
  (repeat' split) <;> rfl
theorem lives_k {v : Nat → Nat → Int32} {P : Nat → Nat → Nat} (hC : CV v P) (hW : WF P) {a : Nat} (ha : a ≤ 7) : (fX2_lives v (nI a) = 0) ↔ (P 0 1).testBit a = false := by
  rw [lives_n (hC.1 0 (by decide)) (hC.1 1 (by decide)) hW.1.1 hW.1.2.1 (show a < 8 by omega)]
  exact b01z _
theorem hasK_0 {v : Nat → Nat → Int32} {K a : Nat} (h0 : v 0 0 = nI K) (h8 : K ≤ 8) (ha : a ≤ 7) : (fX2_hasKeeper v (nI a) = 0) ↔ K ≤ a := by
  constructor
  · intro h
    by_cases z : a < K
    · rw [hasK_n h0 h8 z] at h; exact absurd h (by decide)
    · omega
  · intro h
    by_cases z : fX2_hasKeeper v (nI a) = 0
    · exact z
    · obtain ⟨j, hj, e⟩ := hasK_j h0 h8 z
      have := (nI_eq (show a < 2 ^ 31 by omega) (show j < 2 ^ 31 by omega)).mp e
      omega
def ONE (v : Nat → Nat → Int32) (ms : Nat → Int32) (x : Int32 × (Nat → Nat → Int32) × (Nat → Int32)) (y : Int32 × (Nat → Int32) × (Nat → Int32)) : Prop :=
  y.1 = x.1 ∧ PLR x.2.1 x.2.2 y.2.1 ∧ ∀ j, 58 ≤ j → y.2.1 j = ms j
theorem one_n {L Q : Nat} {cs mt md ms mc ck : Nat → Int32} {v : Nat → Nat → Int32} {c : Nat → Nat} {P : Nat → Nat → Nat} (h : TXN L cs mt c) (hW : WF P) (hC : CV v P) (hR : RV ms 0 P) (hK : CK ck P) (hQ : P 0 4 = 1 → P 0 6 = Q + 1) {k s : Nat} (hr : ROW L cs md c k s) :
    ONE v ms (fX4_carryOut L (Q + 1) v ck cs s) (fX5_does Q ms mc md k) := by
  obtain ⟨hs, m0, hr⟩ := hr
  have h0 := hC.1 0 (by decide)
  have m1 : ms 1 = nI (P 0 0) := hR.1.2.1
  have h8 := hW.k8
  have hx := (h.2 s hs).2.2
  have ne : ∀ y, y < 127 → c s ≠ y → ¬ nI (c s) = nI y := fun y hy e w => e ((nI_eq (by omega) (by omega)).mp w)
  have same : ONE v ms (nI 0, v, ck) (nI 0, ms, mc) := ⟨rfl, ⟨P, hW, hC, hR, hK⟩, fun j _ => rfl⟩
  unfold fX4_carryOut fX5_does
  dsimp only
  rw [code_n h hs, m0]
  rcases hr with ⟨e, a, a7, ma, ga⟩ | ⟨e, a, b, a7, b7, ma, ga, mb, gb⟩ | e | ⟨e, x, x9, mx, gx⟩
  · -- die
    rw [ma, ga, e, if_pos (show nI 100 = nI 100 from rfl), if_neg (show ¬ nI 100 = nI 116 by decide), if_neg (show ¬ nI 100 = nI 114 by decide), if_pos (show nI 100 = nI 100 from rfl), isK_c h0 m1 h8 (nI a)]
    unfold fX4_buryIfAlive fX5_areAlive
    rw [show (0 + 2) = 2 from rfl, lives_has2 hW hC hR (show a < 8 by omega), if_pos (show (-1 : Int32) < 0 by decide)]
    by_cases d : fX2_lives v (nI a) = 0
    · rw [if_pos d, if_pos d, if_pos (show nI 0 = 0 by decide)]
      by_cases z : fX2_hasKeeper v (nI a) = 0
      · rw [if_pos z]; exact same
      · rw [if_neg z]; exact same
    · rw [if_neg d, if_neg d, if_neg (show ¬ nI 1 = 0 by decide)]
      have la : (P 0 1).testBit a = true := by
        have := fun z => d ((lives_k hC hW a7).mpr z)
        simpa using this
      have lk := hW.lk la
      rw [if_neg (show ¬ fX2_hasKeeper v (nI a) = 0 from fun z => absurd ((hasK_0 h0 h8 a7).mp z) (by omega)), nI_clamp (by omega)]
      obtain ⟨b1, b2⟩ := bury_n hC hW (show a < 8 by omega)
      obtain ⟨d1, d2, d3⟩ := dies_n hR hW (show a < 8 by omega)
      exact ⟨rfl, ⟨buryP P a, buryP_w hW (by omega), b2, d2, hK.same (Or.inl rfl) rfl rfl⟩, fun j hj => d3 j (by omega)⟩
  · rw [ma, ga, mb, gb]
    have h100 : ¬ nI (c s) = nI 100 := ne 100 (by decide) (by omega)
    rw [if_neg h100, if_neg (show ¬ nI (c s) = nI 116 from ne 116 (by decide) (by omega)), if_neg (show ¬ nI (c s) = nI 114 from ne 114 (by decide) (by omega)), isK_c h0 m1 h8 (nI a), isK_c h0 m1 h8 (nI b), if_neg h100]
    have eab : (nI a = nI b) ↔ a = b := nI_eq (by omega) (by omega)
    rcases e with e | e
    · -- quarrel
      rw [e, if_neg (show ¬ nI 113 = nI 104 by decide), if_pos (show nI 113 = nI 113 from rfl), if_neg (show ¬ nI 113 = nI 104 by decide)]
      unfold fX4_toggleIfThere
      by_cases z1 : fX2_hasKeeper v (nI a) = 0
      · rw [if_pos z1, if_pos z1]
        by_cases w : nI a = nI b
        · rw [if_pos w]; exact same
        · rw [if_neg w]; exact same
      · rw [if_neg z1, if_neg z1]
        by_cases z2 : fX2_hasKeeper v (nI b) = 0
        · rw [if_pos z2, if_pos z2]
          by_cases w : nI a = nI b
          · rw [if_pos w]; exact same
          · rw [if_neg w]; exact same
        · rw [if_neg z2, if_neg z2]
          by_cases w : nI a = nI b
          · rw [if_pos w, if_pos w]; exact same
          · rw [if_neg w, if_neg w, nI_clamp (by omega), nI_clamp (by omega)]
            have nab : a ≠ b := fun y => w (eab.mpr y)
            have ka : a < P 0 0 := Nat.not_le.mp fun y => z1 ((hasK_0 h0 h8 a7).mpr y)
            have kb : b < P 0 0 := Nat.not_le.mp fun y => z2 ((hasK_0 h0 h8 b7).mpr y)
            obtain ⟨-, a2⟩ := togP_c hC hW (k := a) (o := b) (by omega) (by omega) nab
            have ar := togP_r hR (k := a) (o := b) (by omega) (by omega) nab
            rw [Nat.zero_add] at ar
            exact ⟨rfl, ⟨togP P a b, togP_w hW ka kb nab, a2, ar, hK.same (Or.inl rfl) rfl rfl⟩, fun j hj => by show upd (upd ms _ _) _ _ j = ms j; rw [upd_ne (by omega), upd_ne (by omega)]⟩
    · -- heir
      rw [e, if_pos (show nI 104 = nI 104 from rfl), if_pos (show nI 104 = nI 104 from rfl)]
      unfold fX4_nameIfFree fX2_mayName fX5_areAlive
      rw [show (0 + 2) = 2 from rfl, lives_has2 hW hC hR (show a < 8 by omega), lives_has2 hW hC hR (show b < 8 by omega), if_neg (show ¬ nI b < 0 from nI_pos (by omega)), if_neg (show ¬ nI b = -1 from fun y => absurd (show nI b < 0 by rw [y]; decide) (nI_pos (by omega)))]
      by_cases w : nI a = nI b
      · rw [if_pos w, if_pos w, if_pos (show nI 0 = 0 by decide)]
        by_cases z1 : fX2_hasKeeper v (nI a) = 0
        · rw [if_pos z1]; exact same
        · rw [if_neg z1]
          by_cases z2 : fX2_hasKeeper v (nI b) = 0
          · rw [if_pos z2]; exact same
          · rw [if_neg z2]; exact same
      · rw [if_neg w, if_neg w]
        have kk : ∀ y, y ≤ 7 → fX2_hasKeeper v (nI y) = 0 → fX2_lives v (nI y) = 0 := fun y hy z => by
          rw [lives_k hC hW hy]
          have := (hasK_0 h0 h8 hy).mp z
          cases hb : (P 0 1).testBit y with
          | false => rfl
          | true => exact absurd (hW.lk hb) (by omega)
        by_cases l1 : fX2_lives v (nI a) = 0
        · rw [if_pos l1, if_pos l1, if_pos (show nI 0 = 0 by decide), if_pos (show nI 0 = 0 by decide)]
          by_cases z1 : fX2_hasKeeper v (nI a) = 0
          · rw [if_pos z1]; exact same
          · rw [if_neg z1]
            by_cases z2 : fX2_hasKeeper v (nI b) = 0
            · rw [if_pos z2]; exact same
            · rw [if_neg z2]; exact same
        · rw [if_neg l1, if_neg l1, if_neg (fun z => l1 (kk a a7 z))]
          by_cases l2 : fX2_lives v (nI b) = 0
          · rw [if_pos l2, if_pos (show nI 0 = 0 by decide)]
            by_cases z2 : fX2_hasKeeper v (nI b) = 0
            · rw [if_pos z2]; exact same
            · rw [if_neg z2]; exact same
          · rw [if_neg l2, if_neg (show ¬ nI 1 = 0 by decide), if_neg (show ¬ fX2_hasKeeper v (nI b) = 0 from fun z => l2 (kk b b7 z)), nI_clamp (by omega)]
            have lb : (P 0 1).testBit b = true := by
              have := fun z => l2 ((lives_k hC hW b7).mpr z)
              simpa using this
            have kb := hW.lk lb
            have nab : b + 1 ≠ a + 1 := fun y => w (eab.mpr (by omega))
            obtain ⟨-, a2⟩ := heirP_c hC (k := a) (h := b + 1) (by omega)
            have ar := heirP_r hR (k := a) (h := b + 1) (by omega)
            have eb : dn (b + 1) = nI b := by rw [dn_s (b + 1) (by omega)]; rfl
            rw [eb] at a2 ar
            exact ⟨rfl, ⟨heirP P a (b + 1), heirP_w hW (by omega) nab, a2, ar, hK.same (Or.inl rfl) rfl rfl⟩, fun j hj => by show upd ms _ _ j = ms j; rw [upd_ne (by omega)]⟩
  · -- renew
    rw [e, if_neg (show ¬ nI 114 = nI 100 by decide), if_neg (show ¬ nI 114 = nI 104 by decide), if_neg (show ¬ nI 114 = nI 113 by decide), if_neg (show ¬ nI 114 = nI 116 by decide), if_neg (show ¬ nI 114 = nI 116 by decide), if_pos (show nI 114 = nI 114 from rfl), if_neg (show ¬ nI 114 = nI 100 by decide), if_neg (show ¬ nI 114 = nI 104 by decide)]
    obtain ⟨e1, e2⟩ := mayRenew_n hC hR hW
    unfold fX4_renewIfShut fX4_dealShares
    rw [e1]
    by_cases d : fX2_mayRenew v = 0
    · rw [if_pos d, if_pos d]; exact same
    · rw [if_neg d, if_neg d]
      have p4 := e2 d
      have p6 := hQ p4
      obtain ⟨a1, a2⟩ := deal_c hC hW (q := Q + 1) (by omega)
      obtain ⟨d1, d2, d3⟩ := deal_r (mc := mc) hR hW (Q := Q)
      have w' : WF (dealP P (Q + 1)) := by rw [← p6]; exact dealP_w hW (P 0 6)
      exact ⟨rfl, ⟨dealP P (Q + 1), w', a2, d2, CK.new a2 w' ck⟩, fun j hj => d3 j hj⟩
  · -- pass
    rw [mx, gx, e, if_neg (show ¬ nI 116 = nI 100 by decide), if_neg (show ¬ nI 116 = nI 104 by decide), if_neg (show ¬ nI 116 = nI 113 by decide), if_pos (show nI 116 = nI 116 from rfl), if_pos (show nI 116 = nI 116 from rfl), if_neg (show ¬ nI 116 = nI 100 by decide), if_neg (show ¬ nI 116 = nI 104 by decide)]
    have h3 := hC.1 3 (by decide)
    have m3 : ms 31 = nI (P 0 3) := hR.1.2.2.2.2.2.2.2.1
    have hd3 := hW.1.2.2.2.1
    unfold fX4_passIfInTime fX2_mayPass
    rw [m3, h3, nI_add, pk_sub (by omega)]
    by_cases z : 99999 < P 0 3 + x
    · rw [if_pos (show nI 99999 < nI (P 0 3 + x) from (nI_ltI (by omega) (by omega)).mpr z), if_pos (show nI 0 = 0 by decide), if_pos (show nI (99999 - x) < nI (P 0 3) from (nI_ltI (by omega) (by omega)).mpr (by omega))]
      exact same
    · rw [if_neg (show ¬ nI 99999 < nI (P 0 3 + x) from fun y => z ((nI_ltI (by omega) (by omega)).mp y)), if_neg (show ¬ nI 1 = 0 by decide), if_neg (show ¬ nI (99999 - x) < nI (P 0 3) from fun y => absurd ((nI_ltI (by omega) (by omega)).mp y) (by omega))]
      have ar := passP_r hR x
      have ac := passP_c hC x
      rw [m3, nI_add] at ar
      rw [h3, nI_add] at ac
      exact ⟨rfl, ⟨passP P x, passP_w hW (by omega), ac, ar, hK.same (Or.inl rfl) rfl rfl⟩, fun j hj => by show upd ms _ _ j = ms j; rw [upd_ne (by omega)]⟩
