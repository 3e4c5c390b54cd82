/-! ===== the law's acts ===== -/
section AC
variable {p : Program} {l : Launch} {e : Env} {R : Room} {s : State} {m : MethodId} {args : Array Value} {below : List Frame} {meth : Method} {c : Code} {H : Heap} {locs : List Loc} {cells slots : Nat} {Q : State → Prop}
variable {pc : Nat} {ls : Array Slot} {rest st0 : List Value} {cc : ByteArray} {A : Nat → Prop} {Γ : wG} {D : AD} {x : ST} {nL : Nat} {Ts : List Cond} {P : Nat → Nat → Nat} {S idx mc ms : Nat} {Post : Int32 → ST → Prop}
def gpN (P : Nat → Nat → Nat) (Y : Nat) : Nat := (Y / 16 % 256) &&& (2 ^ P 0 0 - 1)
def ACT (P : Nat → Nat → Nat) (S Y : Nat) (r : Int32) (u : ST) : Prop :=
  (¬ (-2000000 : Int32) < r ∧ AB P S u ∧ Y % 16 ≤ 12) ∨
  ((-2000000 : Int32) < r ∧ ∃ P' : Nat → Nat → Nat, AB P' (svS S) u ∧ (IV P → IV P') ∧ (P 0 0 ≤ P' 0 0 ∧ P' 0 3 ≤ P 0 3 + 5) ∧
    (12 < Y % 16 → P' = tryP P (gpN P Y) (decide (reaN P (gpN P Y) false = 0)) ∧ r = nI (reaN P (gpN P Y) false)) ∧
    (Y % 16 = 12 → r = nI (P 0 3 + (1 + Y / 16 % 5)) ∧ P' 0 3 = P 0 3 + (1 + Y / 16 % 5)) ∧
    ((Y % 16 = 1 ∨ Y % 16 = 2) → pop (thM P') ≤ pop (thM P) ∧ Y / 16 % 9 < P' 0 0 ∧ owK P' (Y / 16 % 9) = 0))
def WA (Γ : wG) (D : AD) (A : Nat → Prop) (s : State) (P : Nat → Nat → Nat) (S Y : Nat) (r : Int32) (H : Heap) (locs : List Loc) : Prop := ∃ u : ST, va_P Γ.1 vwCl (wcat (W7 Γ D u)) H ∧ va_D A (wcat (W7 Γ D u)) ∧ va_S A s.heap H locs ∧ ACT P S Y r u
theorem gtN {k : Nat} (h : k < 2 ^ 31) : (-2000000 : Int32) < nI k := by
  rw [Int32.lt_iff_toInt_lt, nI_toInt h, show (-2000000 : Int32).toInt = -2000000 by decide]
  omega
theorem gtD : ∀ i, i < 9 → (-2000000 : Int32) < dn i := by decide +kernel
theorem WA.no {Y : Nat} {r : Int32} (w : WD Γ D A s P S H locs) (hr : ¬ (-2000000 : Int32) < r) (hY : Y % 16 ≤ 12) : WA Γ D A s P S Y r H locs := by
  obtain ⟨x, h1, h2, h3, h4⟩ := w
  exact ⟨x, h1, h2, h3, Or.inl ⟨hr, h4, hY⟩⟩
theorem WA.yes {Y : Nat} {r : Int32} {P' T : Nat → Nat → Nat} (w : WT Γ D A s P' (svS S) T H locs) (hr : (-2000000 : Int32) < r) (hI : IV P → IV P') (h0 : P 0 0 ≤ P' 0 0 ∧ P' 0 3 ≤ P 0 3 + 5) (f1 : 12 < Y % 16 → P' = tryP P (gpN P Y) (decide (reaN P (gpN P Y) false = 0)) ∧ r = nI (reaN P (gpN P Y) false))
    (f2 : Y % 16 = 12 → r = nI (P 0 3 + (1 + Y / 16 % 5)) ∧ P' 0 3 = P 0 3 + (1 + Y / 16 % 5)) (f3 : (Y % 16 = 1 ∨ Y % 16 = 2) → pop (thM P') ≤ pop (thM P) ∧ Y / 16 % 9 < P' 0 0 ∧ owK P' (Y / 16 % 9) = 0) : WA Γ D A s P S Y r H locs := by
  obtain ⟨x, h1, h2, h3, h4, _⟩ := w
  exact ⟨x, h1, h2, h3, Or.inr ⟨hr, P', h4, hI, h0, f1, f2, f3⟩⟩
theorem bury_th {P : Nat → Nat → Nat} (hW : WF P) {k : Nat} (hk : k < 8) : pop (thM (buryP P k)) ≤ pop (thM P) ∧ owK (buryP P k) k = 0 := by
  have q4 : ∀ i, buryP P k 4 i = newO P k i := fun _ => rfl
  constructor
  · refine pop_mono (thM_lt _) (thM_lt _) fun j hj z => ?_
    rw [thM_bit hj, decide_eq_true_eq] at z ⊢
    intro y
    rw [q4] at z
    unfold newO at z
    rw [if_neg (by rw [y]; omega)] at z
    exact z y
  · refine msk_eq (owK_lt _ _) (by decide) fun j hj => ?_
    rw [owK_bit hj, q4]
    unfold newO
    have := (hW.2 k hk).2.1
    by_cases e : P 4 j = k + 1
    · rw [if_pos e]
      by_cases f : inh P k = true
      · rw [if_pos f]; simp [this]
      · rw [if_neg f]; simp
    · rw [if_neg e]; simp [e]
theorem IV.tries {P : Nat → Nat → Nat} (h : IV P) (g : Nat) (op : Bool) : IV (tryP P g op) := by
  cases op
  · exact h.same h.1 rfl rfl rfl rfl rfl rfl
  · exact h.same (by show (2 : Nat) ≠ 0; decide) rfl rfl rfl rfl rfl rfl
theorem tryP_0 (P : Nat → Nat → Nat) (g : Nat) (op : Bool) : tryP P g op 0 0 = P 0 0 ∧ tryP P g op 0 3 = P 0 3 := by cases op <;> exact ⟨rfl, rfl⟩
theorem dn_sub : ∀ i, i < 9 → nI i - nI 1 = dn i := by decide +kernel
theorem dn_no {K i : Nat} (h8 : K ≤ 8) (hi : i < 9) (h : K < i) : ∀ v : Nat → Nat → Int32, v 0 0 = nI K → fX2_hasKeeper v (dn i) = 0 := fun v h0 => by
  rw [dn_s i (by omega)]
  exact hasK_no h0 h8 (by omega) (by omega)
set_option maxHeartbeats 4000000 in
set_option maxRecDepth 100000 in
theorem a_keeper (hfl : l.stackTraces = false) (C : CX p R s m args c A Γ cL_acts 3 wsL_acts) (hc1 : cells + 1 ≤ R.cells ∧ slots + 6 ≤ R.slots) (hW : WF P) {Y Z : Nat} (hZ : Z = Y / 16) (hY : Y < 2 ^ 31) (hk : Y % 16 = 0) (ex : ∀ (H : Heap) (locs : List Loc) (ls : Array Slot) (pc : Nat) (r : Int32), WA Γ D A s P S Y r H locs → decode cL_acts pc = .ok (.ireturn, 1) → W p l e R s m args below meth c H locs (cells + 1) (slots + 6) Q (F0 m pc ls [.int r])) (w : WD Γ D A s P S H locs) (hl : lv_has ls 3 [(2, .int (nI Z)), (1, .int (nI Y)), (0, .ref D.1)]) : W p l e R s m args below meth c H locs cells slots Q (F0 m 76 ls []) := by
  obtain ⟨hx, hb, hml, hown, hts, hK, hAm, hA, hR1, hR2⟩ := id C
  have h8 := hW.k8
  have hZl : Z < 2 ^ 31 := by rw [hZ]; omega
  have hc : cells ≤ R.cells ∧ slots ≤ R.slots := ⟨by omega, by omega⟩
  refine lv_aload_n hx hb dL_acts_76 rfl (lv_at hl 2 rfl) ?_
  by_cases h1 : P 0 0 < 8
  · refine n_keeper C gL_acts_L_keeper w h1 hl.1 (Nat.le_of_ble_eq_true rfl) dL_acts_77 hc (fun H locs w => ?_)
    refine W.widen (k := cells + 1) (n := slots + 6) (Nat.le_succ _) (Nat.le_add_right _ _) ?_
    exact ex H locs ls _ _ (WA.yes w (gtN (by omega)) (fun hI => hI.add) (⟨Nat.le_succ _, Nat.le_add_right _ _⟩) (fun z => by omega) (fun z => by omega) (fun z => by omega)) dL_acts_80
  · refine n_keeper1 hfl C gL_acts_L_keeper w h1 hl.1 (Nat.le_of_ble_eq_true rfl) dL_acts_77 hc1 (fun H locs w => ?_)
    exact ex H locs ls _ _ (WA.no w (by decide) (by omega)) dL_acts_80
theorem bu_lt (P : Nat → Nat → Nat) (k : Nat) : buN P k < 9 := by
  unfold buN
  split
  · exact Nat.lt_succ_of_le (cntF_le _ 8 0)
  · decide
set_option maxHeartbeats 4000000 in
set_option maxRecDepth 100000 in
theorem a_die (hfl : l.stackTraces = false) (C : CX p R s m args c A Γ cL_acts 3 wsL_acts) (hc1 : cells + 1 ≤ R.cells ∧ slots + 6 ≤ R.slots) (hW : WF P) {Y Z : Nat} (hZ : Z = Y / 16) (hY : Y < 2 ^ 31) (hk : Y % 16 = 1 ∨ Y % 16 = 2) (ex : ∀ (H : Heap) (locs : List Loc) (ls : Array Slot) (pc : Nat) (r : Int32), WA Γ D A s P S Y r H locs → decode cL_acts pc = .ok (.ireturn, 1) → W p l e R s m args below meth c H locs (cells + 1) (slots + 6) Q (F0 m pc ls [.int r])) (w : WD Γ D A s P S H locs) (hl : lv_has ls 3 [(2, .int (nI Z)), (1, .int (nI Y)), (0, .ref D.1)]) : W p l e R s m args below meth c H locs cells slots Q (F0 m 81 ls []) := by
  obtain ⟨hx, hb, hml, hown, hts, hK, hAm, hA, hR1, hR2⟩ := id C
  have h8 := hW.k8
  have hZl : Z < 2 ^ 31 := by rw [hZ]; omega
  have hc : cells ≤ R.cells ∧ slots ≤ R.slots := ⟨by omega, by omega⟩
  refine lv_aload_n hx hb dL_acts_81 rfl (lv_at hl 2 rfl) ?_
  refine lv_iload_n hx hb dL_acts_82 rfl (lv_at hl 0 rfl) ?_
  refine lv_bipush (v := nI 9) hx hb dL_acts_83 (by decide) ?_
  refine lv_irem hx hb dL_acts_85 (by decide) ?_
  refine lv_eqi (y := nI (Z % 9)) (pk_rem (by omega) (by decide) (by decide)) ?_
  by_cases h1 : Z % 9 < P 0 0
  · cases h2 : (P 0 1).testBit (Z % 9) with
    | true =>
      refine n_die C gL_acts_L_die w (k := Z % 9) h1 h2 hl.1 (Nat.le_of_ble_eq_true rfl) dL_acts_86 hc (fun H locs w => ?_)
      have hbt := bury_th hW (show Z % 9 < 8 by omega)
      refine W.widen (k := cells + 1) (n := slots + 6) (Nat.le_succ _) (Nat.le_add_right _ _) ?_
      exact ex H locs ls _ _ (WA.yes w (gtN (Nat.lt_trans (bu_lt P (Z % 9)) (by decide))) (fun hI => hI.bury hW (by omega)) (⟨Nat.le_refl _, Nat.le_add_right _ _⟩) (fun z => by omega) (fun z => by omega) (fun _ => by rw [← hZ]; exact ⟨hbt.1, h1, hbt.2⟩)) dL_acts_89
    | false =>
      refine n_die2 hfl C gL_acts_L_die w (k := Z % 9) h1 h2 hl.1 (Nat.le_of_ble_eq_true rfl) dL_acts_86 hc1 (fun H locs w => ?_)
      exact ex H locs ls _ _ (WA.no w (by decide) (by omega)) dL_acts_89
  · refine n_die1 hfl C gL_acts_L_die w (k := Z % 9) h1 (by omega) hl.1 (Nat.le_of_ble_eq_true rfl) dL_acts_86 hc1 (fun H locs w => ?_)
    exact ex H locs ls _ _ (WA.no w (by decide) (by omega)) dL_acts_89
set_option maxHeartbeats 4000000 in
set_option maxRecDepth 100000 in
theorem a_heir (hfl : l.stackTraces = false) (C : CX p R s m args c A Γ cL_acts 3 wsL_acts) (hc1 : cells + 1 ≤ R.cells ∧ slots + 6 ≤ R.slots) (hW : WF P) {Y Z : Nat} (hZ : Z = Y / 16) (hY : Y < 2 ^ 31) (hk : Y % 16 = 3 ∨ Y % 16 = 4 ∨ Y % 16 = 5) (ex : ∀ (H : Heap) (locs : List Loc) (ls : Array Slot) (pc : Nat) (r : Int32), WA Γ D A s P S Y r H locs → decode cL_acts pc = .ok (.ireturn, 1) → W p l e R s m args below meth c H locs (cells + 1) (slots + 6) Q (F0 m pc ls [.int r])) (w : WD Γ D A s P S H locs) (hl : lv_has ls 3 [(2, .int (nI Z)), (1, .int (nI Y)), (0, .ref D.1)]) : W p l e R s m args below meth c H locs cells slots Q (F0 m 90 ls []) := by
  obtain ⟨hx, hb, hml, hown, hts, hK, hAm, hA, hR1, hR2⟩ := id C
  have h8 := hW.k8
  have hZl : Z < 2 ^ 31 := by rw [hZ]; omega
  have hc : cells ≤ R.cells ∧ slots ≤ R.slots := ⟨by omega, by omega⟩
  refine lv_aload_n hx hb dL_acts_90 rfl (lv_at hl 2 rfl) ?_
  refine lv_iload_n hx hb dL_acts_91 rfl (lv_at hl 0 rfl) ?_
  refine lv_bipush (v := nI 8) hx hb dL_acts_92 (by decide) ?_
  refine lv_irem hx hb dL_acts_94 (by decide) ?_
  refine lv_eqi (y := nI (Z % 8)) (pk_rem (by omega) (by decide) (by decide)) ?_
  refine lv_iload_n hx hb dL_acts_95 rfl (lv_at hl 0 rfl) ?_
  refine lv_bipush (v := nI 8) hx hb dL_acts_96 (by decide) ?_
  refine lv_idiv hx hb dL_acts_98 (by decide) ?_
  refine lv_eqi (y := nI (Z / 8)) (pk_div (by omega) (by decide) (by decide)) ?_
  refine lv_bipush (v := nI 9) hx hb dL_acts_99 (by decide) ?_
  refine lv_irem hx hb dL_acts_101 (by decide) ?_
  refine lv_eqi (y := nI ((Z / 8) % 9)) (pk_rem (by omega) (by decide) (by decide)) ?_
  refine lv_iconst (v := nI 1) hx hb dL_acts_102 (by decide) ?_
  refine lv_isub hx hb dL_acts_103 ?_
  refine lv_eqi (y := dn (Z / 8 % 9)) (dn_sub _ (by omega)) ?_
  by_cases h1 : Z % 8 < P 0 0
  · by_cases h3 : Z / 8 % 9 ≤ P 0 0
    · by_cases h4 : (P 0 1).testBit (Z % 8) = true ∧ Z / 8 % 9 ≠ Z % 8 + 1 ∧ (Z / 8 % 9 ≠ 0 → (P 0 1).testBit (Z / 8 % 9 - 1) = true)
      · refine n_heir C gL_acts_L_heir w (k := Z % 8) (i := Z / 8 % 9) h1 h4.1 h3 h4.2.1 h4.2.2 hl.1 (Nat.le_of_ble_eq_true rfl) dL_acts_104 hc (fun H locs w => ?_)
        refine W.widen (k := cells + 1) (n := slots + 6) (Nat.le_succ _) (Nat.le_add_right _ _) ?_
        exact ex H locs ls _ _ (WA.yes w (gtD _ (hW.he (by omega))) (fun hI => hI.same hI.1 rfl rfl rfl rfl rfl rfl) (⟨Nat.le_refl _, Nat.le_add_right _ _⟩) (fun z => by omega) (fun z => by omega) (fun z => by omega)) dL_acts_107
      · have hno : (P 0 1).testBit (Z % 8) = false ∨ Z / 8 % 9 = Z % 8 + 1 ∨ (Z / 8 % 9 ≠ 0 ∧ (P 0 1).testBit (Z / 8 % 9 - 1) = false) := by
          cases hq : (P 0 1).testBit (Z % 8) with
          | false => exact Or.inl rfl
          | true =>
            by_cases h5 : Z / 8 % 9 = Z % 8 + 1
            · exact Or.inr (Or.inl h5)
            · refine Or.inr (Or.inr ?_)
              by_cases h6 : Z / 8 % 9 = 0
              · exact absurd ⟨hq, h5, fun y => absurd h6 y⟩ h4
              · refine ⟨h6, ?_⟩
                cases hr : (P 0 1).testBit (Z / 8 % 9 - 1) with
                | false => rfl
                | true => exact absurd ⟨hq, h5, fun _ => hr⟩ h4
        refine n_heir2 hfl C gL_acts_L_heir w (k := Z % 8) (i := Z / 8 % 9) h1 h3 hno hl.1 (Nat.le_of_ble_eq_true rfl) dL_acts_104 hc1 (fun H locs w => ?_)
        exact ex H locs ls _ _ (WA.no w (by decide) (by omega)) dL_acts_107
    · have hne : ¬ dn (Z / 8 % 9) = -1 := fun y => by have := (dn_m _ (show Z / 8 % 9 < 9 by omega)).mp y; omega
      refine n_heir3 hfl C gL_acts_L_heir w (k := Z % 8) h1 hne (dn_no h8 (by omega) (by omega)) hl.1 (Nat.le_of_ble_eq_true rfl) dL_acts_104 hc1 (fun H locs w => ?_)
      exact ex H locs ls _ _ (WA.no w (by decide) (by omega)) dL_acts_107
  · refine n_heir1 hfl C gL_acts_L_heir w (k := Z % 8) h1 (by omega) hl.1 (Nat.le_of_ble_eq_true rfl) dL_acts_104 hc1 (fun H locs w => ?_)
    exact ex H locs ls _ _ (WA.no w (by decide) (by omega)) dL_acts_107
set_option maxHeartbeats 4000000 in
set_option maxRecDepth 100000 in
theorem a_quarrel (hfl : l.stackTraces = false) (C : CX p R s m args c A Γ cL_acts 3 wsL_acts) (hc1 : cells + 1 ≤ R.cells ∧ slots + 6 ≤ R.slots) (hW : WF P) {Y Z : Nat} (hZ : Z = Y / 16) (hY : Y < 2 ^ 31) (hk : Y % 16 = 6 ∨ Y % 16 = 7) (ex : ∀ (H : Heap) (locs : List Loc) (ls : Array Slot) (pc : Nat) (r : Int32), WA Γ D A s P S Y r H locs → decode cL_acts pc = .ok (.ireturn, 1) → W p l e R s m args below meth c H locs (cells + 1) (slots + 6) Q (F0 m pc ls [.int r])) (w : WD Γ D A s P S H locs) (hl : lv_has ls 3 [(2, .int (nI Z)), (1, .int (nI Y)), (0, .ref D.1)]) : W p l e R s m args below meth c H locs cells slots Q (F0 m 108 ls []) := by
  obtain ⟨hx, hb, hml, hown, hts, hK, hAm, hA, hR1, hR2⟩ := id C
  have h8 := hW.k8
  have hZl : Z < 2 ^ 31 := by rw [hZ]; omega
  have hc : cells ≤ R.cells ∧ slots ≤ R.slots := ⟨by omega, by omega⟩
  refine lv_aload_n hx hb dL_acts_108 rfl (lv_at hl 2 rfl) ?_
  refine lv_iload_n hx hb dL_acts_109 rfl (lv_at hl 0 rfl) ?_
  refine lv_bipush (v := nI 8) hx hb dL_acts_110 (by decide) ?_
  refine lv_irem hx hb dL_acts_112 (by decide) ?_
  refine lv_eqi (y := nI (Z % 8)) (pk_rem (by omega) (by decide) (by decide)) ?_
  refine lv_iload_n hx hb dL_acts_113 rfl (lv_at hl 0 rfl) ?_
  refine lv_bipush (v := nI 8) hx hb dL_acts_114 (by decide) ?_
  refine lv_idiv hx hb dL_acts_116 (by decide) ?_
  refine lv_eqi (y := nI (Z / 8)) (pk_div (by omega) (by decide) (by decide)) ?_
  refine lv_bipush (v := nI 8) hx hb dL_acts_117 (by decide) ?_
  refine lv_irem hx hb dL_acts_119 (by decide) ?_
  refine lv_eqi (y := nI ((Z / 8) % 8)) (pk_rem (by omega) (by decide) (by decide)) ?_
  by_cases h1 : Z % 8 < P 0 0
  · by_cases h2 : Z / 8 % 8 < P 0 0
    · by_cases h3 : Z % 8 = Z / 8 % 8
      · rw [← h3]
        refine n_quarrel2 hfl C gL_acts_L_quarrel w (k := Z % 8) h1 hl.1 (Nat.le_of_ble_eq_true rfl) dL_acts_120 hc1 (fun H locs w => ?_)
        exact ex H locs ls _ _ (WA.no w (by decide) (by omega)) dL_acts_123
      · refine n_quarrel C gL_acts_L_quarrel w (k := Z % 8) (i := Z / 8 % 8) h1 h2 h3 hl.1 (Nat.le_of_ble_eq_true rfl) dL_acts_120 hc (fun H locs w => ?_)
        refine W.widen (k := cells + 1) (n := slots + 6) (Nat.le_succ _) (Nat.le_add_right _ _) ?_
        exact ex H locs ls _ _ (WA.yes w (gtN (Nat.lt_trans (pop_le _) (by decide))) (fun hI => hI.same hI.1 rfl rfl rfl rfl rfl rfl) (⟨Nat.le_refl _, Nat.le_add_right _ _⟩) (fun z => by omega) (fun z => by omega) (fun z => by omega)) dL_acts_123
    · refine n_quarrel3 hfl C gL_acts_L_quarrel w (k := Z % 8) (i := Z / 8 % 8) h1 h2 (by omega) hl.1 (Nat.le_of_ble_eq_true rfl) dL_acts_120 hc1 (fun H locs w => ?_)
      exact ex H locs ls _ _ (WA.no w (by decide) (by omega)) dL_acts_123
  · refine n_quarrel1 hfl C gL_acts_L_quarrel w (k := Z % 8) h1 (by omega) hl.1 (Nat.le_of_ble_eq_true rfl) dL_acts_120 hc1 (fun H locs w => ?_)
    exact ex H locs ls _ _ (WA.no w (by decide) (by omega)) dL_acts_123
set_option maxHeartbeats 4000000 in
set_option maxRecDepth 100000 in
theorem a_seal (hfl : l.stackTraces = false) (C : CX p R s m args c A Γ cL_acts 3 wsL_acts) (hc1 : cells + 1 ≤ R.cells ∧ slots + 6 ≤ R.slots) (hW : WF P) {Y Z : Nat} (hZ : Z = Y / 16) (hY : Y < 2 ^ 31) (hk : Y % 16 = 8 ∨ Y % 16 = 9) (ex : ∀ (H : Heap) (locs : List Loc) (ls : Array Slot) (pc : Nat) (r : Int32), WA Γ D A s P S Y r H locs → decode cL_acts pc = .ok (.ireturn, 1) → W p l e R s m args below meth c H locs (cells + 1) (slots + 6) Q (F0 m pc ls [.int r])) (w : WD Γ D A s P S H locs) (hl : lv_has ls 3 [(2, .int (nI Z)), (1, .int (nI Y)), (0, .ref D.1)]) : W p l e R s m args below meth c H locs cells slots Q (F0 m 124 ls []) := by
  obtain ⟨hx, hb, hml, hown, hts, hK, hAm, hA, hR1, hR2⟩ := id C
  have h8 := hW.k8
  have hZl : Z < 2 ^ 31 := by rw [hZ]; omega
  have hc : cells ≤ R.cells ∧ slots ≤ R.slots := ⟨by omega, by omega⟩
  refine lv_aload_n hx hb dL_acts_124 rfl (lv_at hl 2 rfl) ?_
  refine lv_iload_n hx hb dL_acts_125 rfl (lv_at hl 0 rfl) ?_
  refine lv_sipush (v := nI 251) hx hb dL_acts_126 (by decide) ?_
  refine lv_irem hx hb dL_acts_129 (by decide) ?_
  refine lv_eqi (y := nI (Z % 251)) (pk_rem (by omega) (by decide) (by decide)) ?_
  refine lv_iconst (v := nI 1) hx hb dL_acts_130 (by decide) ?_
  refine lv_iload_n hx hb dL_acts_131 rfl (lv_at hl 0 rfl) ?_
  refine lv_sipush (v := nI 256) hx hb dL_acts_132 (by decide) ?_
  refine lv_idiv hx hb dL_acts_135 (by decide) ?_
  refine lv_eqi (y := nI (Z / 256)) (pk_div (by omega) (by decide) (by decide)) ?_
  refine lv_iconst (v := nI 5) hx hb dL_acts_136 (by decide) ?_
  refine lv_irem hx hb dL_acts_137 (by decide) ?_
  refine lv_eqi (y := nI ((Z / 256) % 5)) (pk_rem (by omega) (by decide) (by decide)) ?_
  refine lv_iadd hx hb dL_acts_138 ?_
  refine lv_eqi (y := nI (1 + Z / 256 % 5)) (nI_add _ _) ?_
  refine lv_iload_n hx hb dL_acts_139 rfl (lv_at hl 0 rfl) ?_
  refine lv_sipush (v := nI 2048) hx hb dL_acts_140 (by decide) ?_
  refine lv_idiv hx hb dL_acts_143 (by decide) ?_
  refine lv_eqi (y := nI (Z / 2048)) (pk_div (by omega) (by decide) (by decide)) ?_
  refine lv_iconst (v := nI 4) hx hb dL_acts_144 (by decide) ?_
  refine lv_irem hx hb dL_acts_145 (by decide) ?_
  refine lv_eqi (y := nI ((Z / 2048) % 4)) (pk_rem (by omega) (by decide) (by decide)) ?_
  by_cases h5 : 1 + Z / 256 % 5 ≤ pop (P 0 1)
  · refine n_seal C gL_acts_L_seal w (k := Z % 251) (i := 1 + Z / 256 % 5) (d := Z / 2048 % 4) (by omega) (by omega) (by omega) (by omega) h5 hl.1 (Nat.le_of_ble_eq_true rfl) dL_acts_146 hc (fun H locs w => ?_)
    have w1 := shutP_w hW (ky := Z % 251) (q := 1 + Z / 256 % 5) (dt := Z / 2048 % 4) (by omega) (by omega) (by omega) (by omega)
    refine W.widen (k := cells + 1) (n := slots + 6) (Nat.le_succ _) (Nat.le_add_right _ _) ?_
    exact ex H locs ls _ _ (WA.yes w (gtN (Nat.lt_trans (pop_le _) (by decide))) (fun _ => IV.deal w1 (by show (1 : Nat) ≠ 0; decide) (by show 1 ≤ 1 + Z / 256 % 5; omega) (by show 1 + Z / 256 % 5 ≤ 8; omega)) (⟨Nat.le_refl _, Nat.le_add_right _ _⟩) (fun z => by omega) (fun z => by omega) (fun z => by omega)) dL_acts_149
  · refine n_seal2 hfl C gL_acts_L_seal w (k := Z % 251) (i := 1 + Z / 256 % 5) (d := Z / 2048 % 4) (by omega) (by omega) (by omega) (by omega) h5 hl.1 (Nat.le_of_ble_eq_true rfl) dL_acts_146 hc1 (fun H locs w => ?_)
    exact ex H locs ls _ _ (WA.no w (by decide) (by omega)) dL_acts_149
set_option maxHeartbeats 4000000 in
set_option maxRecDepth 100000 in
theorem a_renew (hfl : l.stackTraces = false) (C : CX p R s m args c A Γ cL_acts 3 wsL_acts) (hc1 : cells + 1 ≤ R.cells ∧ slots + 6 ≤ R.slots) (hW : WF P) {Y Z : Nat} (hZ : Z = Y / 16) (hY : Y < 2 ^ 31) (hk : Y % 16 = 10) (ex : ∀ (H : Heap) (locs : List Loc) (ls : Array Slot) (pc : Nat) (r : Int32), WA Γ D A s P S Y r H locs → decode cL_acts pc = .ok (.ireturn, 1) → W p l e R s m args below meth c H locs (cells + 1) (slots + 6) Q (F0 m pc ls [.int r])) (w : WD Γ D A s P S H locs) (hl : lv_has ls 3 [(2, .int (nI Z)), (1, .int (nI Y)), (0, .ref D.1)]) : W p l e R s m args below meth c H locs cells slots Q (F0 m 150 ls []) := by
  obtain ⟨hx, hb, hml, hown, hts, hK, hAm, hA, hR1, hR2⟩ := id C
  have h8 := hW.k8
  have hZl : Z < 2 ^ 31 := by rw [hZ]; omega
  have hc : cells ≤ R.cells ∧ slots ≤ R.slots := ⟨by omega, by omega⟩
  refine lv_aload_n hx hb dL_acts_150 rfl (lv_at hl 2 rfl) ?_
  by_cases h1 : P 0 4 = 1 ∧ P 0 6 ≤ pop (P 0 1)
  · refine n_renew C gL_acts_L_renew w h1.1 h1.2 hl.1 (Nat.le_of_ble_eq_true rfl) dL_acts_151 hc (fun H locs w => ?_)
    refine W.widen (k := cells + 1) (n := slots + 6) (Nat.le_succ _) (Nat.le_add_right _ _) ?_
    exact ex H locs ls _ _ (WA.yes w (gtN (Nat.lt_trans (pop_le _) (by decide))) (fun _ => IV.deal hW (by omega) (hW.1.2.2.2.2.2.2.2.1 (by omega)) hW.1.2.2.2.2.2.2.1) (⟨Nat.le_refl _, Nat.le_add_right _ _⟩) (fun z => by omega) (fun z => by omega) (fun z => by omega)) dL_acts_154
  · refine n_renew1 hfl C gL_acts_L_renew w h1 hl.1 (Nat.le_of_ble_eq_true rfl) dL_acts_151 hc1 (fun H locs w => ?_)
    exact ex H locs ls _ _ (WA.no w (by decide) (by omega)) dL_acts_154
set_option maxHeartbeats 4000000 in
set_option maxRecDepth 100000 in
theorem a_forge (hfl : l.stackTraces = false) (C : CX p R s m args c A Γ cL_acts 3 wsL_acts) (hc1 : cells + 1 ≤ R.cells ∧ slots + 6 ≤ R.slots) (hW : WF P) {Y Z : Nat} (hZ : Z = Y / 16) (hY : Y < 2 ^ 31) (hk : Y % 16 = 11) (ex : ∀ (H : Heap) (locs : List Loc) (ls : Array Slot) (pc : Nat) (r : Int32), WA Γ D A s P S Y r H locs → decode cL_acts pc = .ok (.ireturn, 1) → W p l e R s m args below meth c H locs (cells + 1) (slots + 6) Q (F0 m pc ls [.int r])) (w : WD Γ D A s P S H locs) (hl : lv_has ls 3 [(2, .int (nI Z)), (1, .int (nI Y)), (0, .ref D.1)]) : W p l e R s m args below meth c H locs cells slots Q (F0 m 155 ls []) := by
  obtain ⟨hx, hb, hml, hown, hts, hK, hAm, hA, hR1, hR2⟩ := id C
  have h8 := hW.k8
  have hZl : Z < 2 ^ 31 := by rw [hZ]; omega
  have hc : cells ≤ R.cells ∧ slots ≤ R.slots := ⟨by omega, by omega⟩
  refine lv_aload_n hx hb dL_acts_155 rfl (lv_at hl 2 rfl) ?_
  refine lv_iload_n hx hb dL_acts_156 rfl (lv_at hl 0 rfl) ?_
  refine lv_bipush (v := nI 8) hx hb dL_acts_157 (by decide) ?_
  refine lv_irem hx hb dL_acts_159 (by decide) ?_
  refine lv_eqi (y := nI (Z % 8)) (pk_rem (by omega) (by decide) (by decide)) ?_
  refine lv_iload_n hx hb dL_acts_160 rfl (lv_at hl 0 rfl) ?_
  refine lv_bipush (v := nI 8) hx hb dL_acts_161 (by decide) ?_
  refine lv_idiv hx hb dL_acts_163 (by decide) ?_
  refine lv_eqi (y := nI (Z / 8)) (pk_div (by omega) (by decide) (by decide)) ?_
  refine lv_sipush (v := nI 251) hx hb dL_acts_164 (by decide) ?_
  refine lv_irem hx hb dL_acts_167 (by decide) ?_
  refine lv_eqi (y := nI ((Z / 8) % 251)) (pk_rem (by omega) (by decide) (by decide)) ?_
  by_cases h1 : P 4 (Z % 8) = 0
  · refine n_forge2 hfl C gL_acts_L_forge w (k := Z % 8) (i := Z / 8 % 251) (by omega) (by omega) h1 hl.1 (Nat.le_of_ble_eq_true rfl) dL_acts_168 hc1 (fun H locs w => ?_)
    exact ex H locs ls _ _ (WA.no w (by decide) (by omega)) dL_acts_171
  · refine n_forge C gL_acts_L_forge w (k := Z % 8) (i := Z / 8 % 251) (by omega) (by omega) h1 hl.1 (Nat.le_of_ble_eq_true rfl) dL_acts_168 hc (fun H locs w => ?_)
    have hva := hW.va (show Z % 8 < 8 by omega)
    refine W.widen (k := cells + 1) (n := slots + 6) (Nat.le_succ _) (Nat.le_add_right _ _) ?_
    exact ex H locs ls _ _ (WA.yes w (gtN (by omega)) (fun hI => hI.forge (by omega) _) (⟨Nat.le_refl _, Nat.le_add_right _ _⟩) (fun z => by omega) (fun z => by omega) (fun z => by omega)) dL_acts_171
set_option maxHeartbeats 4000000 in
set_option maxRecDepth 100000 in
theorem a_pass (hfl : l.stackTraces = false) (C : CX p R s m args c A Γ cL_acts 3 wsL_acts) (hc1 : cells + 1 ≤ R.cells ∧ slots + 6 ≤ R.slots) (hW : WF P) {Y Z : Nat} (hZ : Z = Y / 16) (hY : Y < 2 ^ 31) (hk : Y % 16 = 12) (ex : ∀ (H : Heap) (locs : List Loc) (ls : Array Slot) (pc : Nat) (r : Int32), WA Γ D A s P S Y r H locs → decode cL_acts pc = .ok (.ireturn, 1) → W p l e R s m args below meth c H locs (cells + 1) (slots + 6) Q (F0 m pc ls [.int r])) (w : WD Γ D A s P S H locs) (hl : lv_has ls 3 [(2, .int (nI Z)), (1, .int (nI Y)), (0, .ref D.1)]) : W p l e R s m args below meth c H locs cells slots Q (F0 m 172 ls []) := by
  obtain ⟨hx, hb, hml, hown, hts, hK, hAm, hA, hR1, hR2⟩ := id C
  have h8 := hW.k8
  have hZl : Z < 2 ^ 31 := by rw [hZ]; omega
  have hc : cells ≤ R.cells ∧ slots ≤ R.slots := ⟨by omega, by omega⟩
  refine lv_aload_n hx hb dL_acts_172 rfl (lv_at hl 2 rfl) ?_
  refine lv_iconst (v := nI 1) hx hb dL_acts_173 (by decide) ?_
  refine lv_iload_n hx hb dL_acts_174 rfl (lv_at hl 0 rfl) ?_
  refine lv_iconst (v := nI 5) hx hb dL_acts_175 (by decide) ?_
  refine lv_irem hx hb dL_acts_176 (by decide) ?_
  refine lv_eqi (y := nI (Z % 5)) (pk_rem (by omega) (by decide) (by decide)) ?_
  refine lv_iadd hx hb dL_acts_177 ?_
  refine lv_eqi (y := nI (1 + Z % 5)) (nI_add _ _) ?_
  by_cases h1 : P 0 3 + (1 + Z % 5) ≤ 99999
  · refine n_pass C gL_acts_L_pass w (k := 1 + Z % 5) (by omega) (by omega) h1 hl.1 (Nat.le_of_ble_eq_true rfl) dL_acts_178 hc (fun H locs w => ?_)
    refine W.widen (k := cells + 1) (n := slots + 6) (Nat.le_succ _) (Nat.le_add_right _ _) ?_
    exact ex H locs ls _ _ (WA.yes w (gtN (by omega)) (fun hI => hI.same hI.1 rfl rfl rfl rfl rfl rfl) (⟨Nat.le_refl _, by show P 0 3 + (1 + Z % 5) ≤ _; omega⟩) (fun z => by omega) (fun _ => by rw [← hZ]; exact ⟨rfl, rfl⟩) (fun z => by omega)) dL_acts_181
  · refine n_pass2 hfl C gL_acts_L_pass w (k := 1 + Z % 5) (by omega) (by omega) h1 hl.1 (Nat.le_of_ble_eq_true rfl) dL_acts_178 hc1 (fun H locs w => ?_)
    exact ex H locs ls _ _ (WA.no w (by decide) (by omega)) dL_acts_181
theorem gp_lt (P : Nat → Nat → Nat) (Y : Nat) : gpN P Y < 2 ^ P 0 0 := by
  unfold gpN
  exact Nat.lt_of_le_of_lt Nat.and_le_right (Nat.sub_lt (Nat.two_pow_pos _) (by decide))
set_option maxHeartbeats 4000000 in
set_option maxRecDepth 100000 in
theorem a_open (hfl : l.stackTraces = false) (C : CX p R s m args c A Γ cL_acts 3 wsL_acts) (hc1 : cells + 1 ≤ R.cells ∧ slots + 6 ≤ R.slots) (hW : WF P) {Y Z : Nat} (hZ : Z = Y / 16) (hY : Y < 2 ^ 31) (hk : 12 < Y % 16) (ex : ∀ (H : Heap) (locs : List Loc) (ls : Array Slot) (pc : Nat) (r : Int32), WA Γ D A s P S Y r H locs → decode cL_acts pc = .ok (.ireturn, 1) → W p l e R s m args below meth c H locs (cells + 1) (slots + 6) Q (F0 m pc ls [.int r])) (w : WD Γ D A s P S H locs) (hl : lv_has ls 3 [(2, .int (nI Z)), (1, .int (nI Y)), (0, .ref D.1)]) : W p l e R s m args below meth c H locs cells slots Q (F0 m 182 ls []) := by
  obtain ⟨hx, hb, hml, hown, hts, hK, hAm, hA, hR1, hR2⟩ := id C
  have h8 := hW.k8
  have hZl : Z < 2 ^ 31 := by rw [hZ]; omega
  have hc : cells ≤ R.cells ∧ slots ≤ R.slots := ⟨by omega, by omega⟩
  refine lv_aload_n hx hb dL_acts_182 rfl (lv_at hl 2 rfl) ?_
  refine lv_iload_n hx hb dL_acts_183 rfl (lv_at hl 0 rfl) ?_
  refine lv_sipush (v := nI 256) hx hb dL_acts_184 (by decide) ?_
  refine lv_irem hx hb dL_acts_187 (by decide) ?_
  refine lv_eqi (y := nI (Z % 256)) (pk_rem (by omega) (by decide) (by decide)) ?_
  refine lv_iconst (v := nI 1) hx hb dL_acts_188 (by decide) ?_
  refine lv_aload_n hx hb dL_acts_189 rfl (lv_at hl 2 rfl) ?_
  refine lv_iconst (v := nI 0) hx hb dL_acts_190 (by decide) ?_
  refine n_count C gL_acts_L_count w (k := 0) (by decide) (f := (nI (P 0 0))) (rfl) hl.1 (Nat.le_of_ble_eq_true rfl) dL_acts_191 hc (fun H locs w => ?_)
  refine lv_ishl hx hb dL_acts_194 ?_
  refine lv_eqi (y := nI (2 ^ P 0 0)) (shl1 (by omega)) ?_
  refine lv_iconst (v := nI 1) hx hb dL_acts_195 (by decide) ?_
  refine lv_isub hx hb dL_acts_196 ?_
  refine lv_eqi (y := nI (2 ^ P 0 0 - 1)) (pk_sub (Nat.two_pow_pos _)) ?_
  refine lv_iand hx hb dL_acts_197 ?_
  refine lv_eqi (y := nI (gpN P Y)) (by rw [xI_and, hZ]; rfl) ?_
  refine n_open C gL_acts_L_open w (k := gpN P Y) (gp_lt P Y) hl.1 (Nat.le_of_ble_eq_true rfl) dL_acts_198 hc (fun H locs w => ?_)
  have ht0 := tryP_0 P (gpN P Y) (decide (reaN P (gpN P Y) false = 0))
  refine W.widen (k := cells + 1) (n := slots + 6) (Nat.le_succ _) (Nat.le_add_right _ _) ?_
  exact ex H locs ls _ _ (WA.yes w (gtN (Nat.lt_trans (reaN_lt P _ _) (by decide))) (fun hI => hI.tries _ _) (⟨by rw [ht0.1]; exact Nat.le_refl _, by rw [ht0.2]; omega⟩) (fun _ => ⟨rfl, rfl⟩) (fun z => by omega) (fun z => by omega)) dL_acts_201
set_option maxHeartbeats 4000000 in
set_option maxRecDepth 100000 in
theorem a_entry (hfl : l.stackTraces = false) (C : CX p R s m args c A Γ cL_acts 3 wsL_acts) (hc1 : cells + 1 ≤ R.cells ∧ slots + 6 ≤ R.slots) (hW : WF P) {Y : Nat} (hY : Y < 2 ^ 31) (ex : ∀ (H : Heap) (locs : List Loc) (ls : Array Slot) (pc : Nat) (r : Int32), WA Γ D A s P S Y r H locs → decode cL_acts pc = .ok (.ireturn, 1) → W p l e R s m args below meth c H locs (cells + 1) (slots + 6) Q (F0 m pc ls [.int r])) (w : WD Γ D A s P S H locs) (hl : lv_has ls 3 [(1, .int (nI Y)), (0, .ref D.1)]) : W p l e R s m args below meth c H locs cells slots Q (F0 m 0 ls []) := by
  obtain ⟨hx, hb, hml, hown, hts, hK, hAm, hA, hR1, hR2⟩ := id C
  refine lv_iload_n hx hb dL_acts_0 rfl (lv_at hl 0 rfl) ?_
  refine lv_bipush (v := nI 16) hx hb dL_acts_1 (by decide) ?_
  refine lv_idiv hx hb dL_acts_3 (by decide) ?_
  refine lv_eqi (y := nI (Y / 16)) (pk_div hY (by decide) (by decide)) ?_
  refine lv_istore_n (lv' := [(2, .int (nI (Y / 16))), (1, .int (nI Y)), (0, .ref D.1)]) hx hb dL_acts_4 rfl hl (by decide) rfl (fun ls hl => ?_)
  refine lv_iload_n hx hb dL_acts_5 rfl (lv_at hl 1 rfl) ?_
  refine lv_bipush (v := nI 16) hx hb dL_acts_6 (by decide) ?_
  refine lv_irem hx hb dL_acts_8 (by decide) ?_
  refine lv_eqi (y := nI (Y % 16)) (pk_rem hY (by decide) (by decide)) ?_
  by_cases hbig : 12 < Y % 16
  · refine lv_tableOut (tgt := 182) hx hb dL_acts_9 (Or.inr (by rw [nI_toInt (by omega)]; omega)) (by decide) ?_
    exact a_open hfl C hc1 hW rfl hY hbig ex w hl
  · have hcs : Y % 16 = 0 ∨ Y % 16 = 1 ∨ Y % 16 = 2 ∨ Y % 16 = 3 ∨ Y % 16 = 4 ∨ Y % 16 = 5 ∨ Y % 16 = 6 ∨ Y % 16 = 7 ∨ Y % 16 = 8 ∨ Y % 16 = 9 ∨ Y % 16 = 10 ∨ Y % 16 = 11 ∨ Y % 16 = 12 := by omega
    rcases hcs with hk | hk | hk | hk | hk | hk | hk | hk | hk | hk | hk | hk | hk
    · rw [hk]
      refine lv_tableIn (off := 67) (tgt := 76) hx hb dL_acts_9 (by decide) (by decide) (by decide) (by decide) ?_
      exact a_keeper hfl C hc1 hW rfl hY hk ex w hl
    · rw [hk]
      refine lv_tableIn (off := 72) (tgt := 81) hx hb dL_acts_9 (by decide) (by decide) (by decide) (by decide) ?_
      exact a_die hfl C hc1 hW rfl hY (Or.inl hk) ex w hl
    · rw [hk]
      refine lv_tableIn (off := 72) (tgt := 81) hx hb dL_acts_9 (by decide) (by decide) (by decide) (by decide) ?_
      exact a_die hfl C hc1 hW rfl hY (Or.inr hk) ex w hl
    · rw [hk]
      refine lv_tableIn (off := 81) (tgt := 90) hx hb dL_acts_9 (by decide) (by decide) (by decide) (by decide) ?_
      exact a_heir hfl C hc1 hW rfl hY (Or.inl hk) ex w hl
    · rw [hk]
      refine lv_tableIn (off := 81) (tgt := 90) hx hb dL_acts_9 (by decide) (by decide) (by decide) (by decide) ?_
      exact a_heir hfl C hc1 hW rfl hY (Or.inr (Or.inl hk)) ex w hl
    · rw [hk]
      refine lv_tableIn (off := 81) (tgt := 90) hx hb dL_acts_9 (by decide) (by decide) (by decide) (by decide) ?_
      exact a_heir hfl C hc1 hW rfl hY (Or.inr (Or.inr hk)) ex w hl
    · rw [hk]
      refine lv_tableIn (off := 99) (tgt := 108) hx hb dL_acts_9 (by decide) (by decide) (by decide) (by decide) ?_
      exact a_quarrel hfl C hc1 hW rfl hY (Or.inl hk) ex w hl
    · rw [hk]
      refine lv_tableIn (off := 99) (tgt := 108) hx hb dL_acts_9 (by decide) (by decide) (by decide) (by decide) ?_
      exact a_quarrel hfl C hc1 hW rfl hY (Or.inr hk) ex w hl
    · rw [hk]
      refine lv_tableIn (off := 115) (tgt := 124) hx hb dL_acts_9 (by decide) (by decide) (by decide) (by decide) ?_
      exact a_seal hfl C hc1 hW rfl hY (Or.inl hk) ex w hl
    · rw [hk]
      refine lv_tableIn (off := 115) (tgt := 124) hx hb dL_acts_9 (by decide) (by decide) (by decide) (by decide) ?_
      exact a_seal hfl C hc1 hW rfl hY (Or.inr hk) ex w hl
    · rw [hk]
      refine lv_tableIn (off := 141) (tgt := 150) hx hb dL_acts_9 (by decide) (by decide) (by decide) (by decide) ?_
      exact a_renew hfl C hc1 hW rfl hY hk ex w hl
    · rw [hk]
      refine lv_tableIn (off := 146) (tgt := 155) hx hb dL_acts_9 (by decide) (by decide) (by decide) (by decide) ?_
      exact a_forge hfl C hc1 hW rfl hY hk ex w hl
    · rw [hk]
      refine lv_tableIn (off := 163) (tgt := 172) hx hb dL_acts_9 (by decide) (by decide) (by decide) (by decide) ?_
      exact a_pass hfl C hc1 hW rfl hY hk ex w hl
end AC
set_option maxHeartbeats 4000000 in
set_option maxRecDepth 100000 in
theorem k_acts (l : Launch) (hfl : l.stackTraces = false) (Γ : wG) (D : AD) {P : Nat → Nat → Nat} {S Y : Nat} {x : ST} (h : AB P S x) (hY : Y < 2 ^ 31) : CW l Γ D yL_acts wsL_acts ({ frames := 11, cells := 1, slots := 6, locals := 385 }) [.ref D.1, .int (nI Y)] x (fun r u => ACT P S Y r u) 1 6 := by
  intro sz
  refine Met.ofW (cc := cL_acts) (maxL := 3) (ret := (some .int)) (by decide) rfl ?_
  intro p e s m args below meth c s₁ B hml hv
  obtain ⟨rfl, hsz, hP, hK, hD0, hAm⟩ := hv
  have hx := B.exec
  have hb := B.bytes
  have hr := B.returns
  have hts := atoms_spec (ws := wsL_acts) B.pre
  have hown : s.vm.findClass RL = some m.cls := findClass_of_methodNamed B.named
  subst hsz
  have hD := hD0.self (sz := s.heap.size)
  generalize hAe : va_A (wcat (W7 Γ D x)) s.heap.size = A at hD hAm ⊢
  have hA : ∀ q : Nat, s.heap.size ≤ q → A q := fun q h => by rw [← hAe]; exact Or.inr h
  have hS : va_S A s.heap s.heap [] := va_S.rf
  have hl := lv_entry ([.ref D.1, .int (nI Y)]) (n := 3) (Nat.le_of_ble_eq_true rfl)
  rw [lg_entry_eq]
  generalize (lg_sl ([.ref D.1, .int (nI Y)]) ++ List.replicate (3 - (lg_sl ([.ref D.1, .int (nI Y)])).length) Slot.unset).toArray = ls at hl ⊢
  have hl : lv_has ls 3 [(0, .ref D.1), (1, .int (nI Y))] := hl
  refine a_entry (P := P) (S := S) hfl ⟨hx, hb, hml, hown, hts, hK, hAm, hA, Nat.le_of_ble_eq_true rfl, Nat.le_of_ble_eq_true rfl⟩ ⟨Nat.le_refl _, Nat.le_refl _⟩ h.2.1 hY (fun H locs ls pc r w hdg => ?_) ⟨x, hP, hD, hS, h⟩ (lv_sub hl [1, 0] rfl)
  obtain ⟨u, hP, hD, hS, hB⟩ := w
  exact W.iret (v := r) hx hb hr (fun t ht hW => eCW hP hS ht hB) hS.2.2 hdg
