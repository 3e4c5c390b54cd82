theorem deals_low {Q : Nat} {ms mc : Nat → Int32} {j : Nat} (h0 : j ≠ 0) (hj : j < 32) : (fX5_deals Q ms mc 0).2.1 j = ms j := by
  have k87 : ∀ (kk : Nat → Int32 → (Nat → Int32) → Int32 × (Nat → Int32) × (Nat → Int32)) (mc0 : Nat → Int32) (i : Nat) (x2 : Int32) (r : Nat → Int32), (∀ i x r, (kk i x r).2.1 j = r j) → ∀ n x, (fX5_deals_L87 kk 0 mc0 i x2 r n x).2.1 j = r j := by
    intro kk mc0 i x2 r hk n
    induction n with
    | zero =>
      intro x
      simp only [fX5_deals_L87]
      split
      · rw [hk, upd_ne (by omega), upd_ne (by omega), upd_ne (by omega)]
      · rw [hk, upd_ne (by omega), upd_ne (by omega), upd_ne (by omega)]
    | succ n ih => intro x; exact ih _
  have k51 : ∀ mc0 n i x r, (fX5_deals_L51 Q 0 mc0 n i x r).2.1 j = r j := by
    intro mc0 n
    induction n with
    | zero => intro i x r; simp only [fX5_deals_L51]; rw [upd_ne (by omega)]
    | succ n ih => intro i x r; exact k87 _ _ _ _ _ ih _ _
  have k17 : ∀ n i r m, (fX5_deals_L17 Q 0 n i r m).2.1 j = r j := by
    intro n
    induction n with
    | zero => intro i r m; exact k51 _ _ _ _ _
    | succ n ih => intro i r m; simp only [fX5_deals_L17]; rw [ih, upd_ne (by omega)]
  exact k17 _ _ _ _
theorem dies_raw {ms : Nat → Int32} {b k j : Nat} (h2 : j ≠ b + 2) (h4 : j < b + 40 ∨ b + 48 ≤ j) : (fX5_dies ms b k).2 j = ms j := by
  have key : ∀ n i x3 x4 x5 r, i + n = 8 → (fX5_dies_L43 b k n i x3 x4 x5 r).2 j = r j := by
    intro n
    induction n with
    | zero => intro i x3 x4 x5 r _; simp only [fX5_dies_L43]; rw [upd_ne h2]
    | succ n ih =>
      intro i x3 x4 x5 r hi
      simp only [fX5_dies_L43]
      split
      · split
        · rw [ih _ _ _ _ _ (by omega), upd_ne (by omega)]
        · rw [ih _ _ _ _ _ (by omega), upd_ne (by omega)]
      · exact ih _ _ _ _ _ (by omega)
  unfold fX5_dies
  split
  · exact key _ _ _ _ _ _ rfl
  · split <;> exact key _ _ _ _ _ _ rfl
theorem does_keep {Q K : Nat} {ms mc md : Nat → Int32} {k : Nat} (hMK : ms 1 = nI K) (hK8 : K ≤ 8) {j : Nat} (hj : j = 1 ∨ j = 27 ∨ j = 29) : (fX5_does Q ms mc md k).2.1 j = ms j := by
  have hd : (fX5_deals Q ms mc 0).2.1 j = ms j := deals_low (by omega) (by omega)
  have hb : ∀ k', (fX5_dies ms 0 k').2 j = ms j := fun _ => dies_raw (by omega) (by omega)
  have hp : ∀ x, upd ms 31 x j = ms j := fun _ => upd_ne (by omega)
  have hh : ∀ y z, ¬ fX5_isKeeper ms y = 0 → upd ms (3 + y.toNatClampNeg) z j = ms j := fun y z h => by
    obtain ⟨i, hi, rfl⟩ := isK hMK hK8 h
    rw [nI_clamp (by omega)]
    exact upd_ne (by omega)
  have hq : ∀ y y' z z', ¬ fX5_isKeeper ms y = 0 → ¬ fX5_isKeeper ms y' = 0 → upd (upd ms (11 + y.toNatClampNeg) z) (11 + y'.toNatClampNeg) z' j = ms j := fun y y' z z' h h' => by
    obtain ⟨i, hi, rfl⟩ := isK hMK hK8 h
    obtain ⟨i', hi', rfl⟩ := isK hMK hK8 h'
    rw [nI_clamp (by omega), nI_clamp (by omega), upd_ne (by omega)]
    exact upd_ne (by omega)
  unfold fX5_does
  simp only []
  generalize md (3 * k) = y1
  generalize md (3 * k + 1) = y2
  generalize md (3 * k + 2) = y3
  (repeat' split)
  all_goals first | with_reducible rfl | with_reducible exact hp _ | with_reducible exact hd | with_reducible exact hb _ | exact hh _ _ (by assumption) | exact hq _ _ _ _ (by assumption) (by assumption)
theorem does_keep2 {Q K : Nat} {ms mc md : Nat → Int32} {k : Nat} (hMK : ms 1 = nI K) (hK8 : K ≤ 8) (hQ : ms 27 = nI 1 → ms 29 = nI (Q + 1)) : (fX5_does Q ms mc md k).2.1 1 = nI K ∧ ((fX5_does Q ms mc md k).2.1 27 = nI 1 → (fX5_does Q ms mc md k).2.1 29 = nI (Q + 1)) := by
  rw [does_keep hMK hK8 (Or.inl rfl), does_keep hMK hK8 (Or.inr (Or.inl rfl)), does_keep hMK hK8 (Or.inr (Or.inr rfl))]
  exact ⟨hMK, hQ⟩
theorem areDays_le {T : Nat} {mt md : Nat → Int32} (hT : T ≤ 60) : (fX5_areDays T mt md).2.2.1 ≤ T := by
  have key : ∀ n md m5 O P, O ≤ P → P ≤ T → (fX5_areDays_L19 T mt n md m5 O P).2.2.1 ≤ T := by
    intro n
    induction n with
    | zero => intro md m5 O P h1 h2; exact Nat.le_trans h1 h2
    | succ n ih =>
      intro md m5 O P h1 h2
      simp only [fX5_areDays_L19]
      split
      · exact Nat.le_trans h1 h2
      · split
        · exact Nat.le_trans h1 h2
        · have a := takes_fx (P := P) (mt := mt) (m5 := m5) (ch := nI 59) hT h2
          have b := reads_fx (O := O) (P := (fX5_takes T P mt m5 (nI 59)).1) (mt := mt) (md := md) (m5 := (fX5_takes T P mt m5 (nI 59)).2) hT a.2.1
          exact ih _ _ _ _ (by have := b.2.2.1; omega) b.2.1
  have b := reads_fx (O := 0) (P := 0) (mt := mt) (md := md) (m5 := nI 1) hT (Nat.zero_le _)
  exact key _ _ _ _ _ (by have := b.2.2.1; omega) b.2.1
theorem cpR7 {ms : Nat → Int32} {j : Nat} (hj : j < 406) : cpR ms 0 7 j = ms j := by
  unfold cpR
  rw [if_neg (by omega)]
theorem needs_low {K : Nat} {ms : Nat → Int32} {j : Nat} (hj : j < 406) : (fX5_needs K ms).2 j = ms j := by
  have key : ∀ n i x r, (fX5_needs_L12 n i x r).2 j = r j := by
    intro n
    induction n with
    | zero => intro i x r; rfl
    | succ n ih =>
      intro i x r
      simp only [fX5_needs_L12]
      split
      · exact ih _ _ _
      · split
        · rw [ih, dies_raw (by omega) (by omega), cpR7 hj]
        · rw [ih, dies_raw (by omega) (by omega), cpR7 hj]
  unfold fX5_needs
  split
  · rfl
  · exact key _ _ _ _
theorem peace_low {K : Nat} {ms : Nat → Int32} {la : Int32} {j : Nat} (hj : j < 406) : (fX5_makesPeace K ms la).2 j = ms j := by
  have k28 : ∀ (kk : Nat → Int32 → Int32 → (Nat → Int32) → Int32 × (Nat → Int32)) i, (∀ i x y r, (kk i x y r).2 j = r j) → ∀ n i2 x y r, (fX5_makesPeace_L28 kk la i n i2 x y r).2 j = r j := by
    intro kk i hk n
    induction n with
    | zero => intro i2 x y r; exact hk _ _ _ _
    | succ n ih =>
      intro i2 x y r
      have e : ∀ z z', upd (upd (cpR r 0 7) (417 + i) z) (417 + i2) z' j = r j := fun z z' => by
        rw [upd_ne (by omega), upd_ne (by omega), cpR7 hj]
      simp only [fX5_makesPeace_L28]
      (repeat' split)
      · exact ih _ _ _ _
      · exact ih _ _ _ _
      · rw [ih]; exact e _ _
      · rw [ih]; exact e _ _
      · rw [ih]; exact e _ _
  have k11 : ∀ n i x y r, (fX5_makesPeace_L11 K la n i x y r).2 j = r j := by
    intro n
    induction n with
    | zero => intro i x y r; rfl
    | succ n ih => intro i x y r; exact k28 _ _ ih _ _ _ _ _
  exact k11 _ _ _ _ _
def fX5_live_L25 (S : Nat) (Q : Nat) (r_1 : Int32 × (Nat → Int32) × Nat × Nat × Int32) : Nat → Nat → (Nat → Int32) → (Nat → Int32) → Int32 × (Nat → Int32) × Int32 × Int32 × (Nat → Int32) × (Nat → Int32) × Int32 × Nat × Nat × Int32
  | 0, i25, ms0_25, mc0_25 => ((nI i25), ms0_25, (nI (svS (S))), (gsT r_1.1 (nI 1)), mc0_25, r_1.2.1, (nI 0), (r_1.2.2.1), (r_1.2.2.2.1), r_1.2.2.2.2)
  | n25 + 1, i25, ms0_25, mc0_25 => (let r_3 := (fX5_does Q ms0_25 mc0_25 r_1.2.1 (i25)); (if r_3.1 = 0 then ((nI i25), r_3.2.1, (nI (svS (S))), (gsT r_1.1 (nI 1)), r_3.2.2, r_1.2.1, (nI 0), (r_1.2.2.1), (r_1.2.2.2.1), r_1.2.2.2.2) else (fX5_live_L25 S Q r_1 n25 (i25 + 1) r_3.2.1 r_3.2.2)))
def fX5_live (S : Nat) (T : Nat) (Q : Nat) (ms : (Nat → Int32)) (mt : (Nat → Int32)) (mc : (Nat → Int32)) (md : (Nat → Int32)) : Int32 × (Nat → Int32) × Int32 × Int32 × (Nat → Int32) × (Nat → Int32) × Int32 × Nat × Nat × Int32 := (let r_1 := (fX5_areDays (T) mt md); (if (gsR r_1.1 (nI 1)) = 0 then ((nI 0), ms, (nI S), (gsT r_1.1 (nI 1)), mc, r_1.2.1, (nI T), (r_1.2.2.1), (r_1.2.2.2.1), r_1.2.2.2.2) else (fX5_live_L25 S Q r_1 (r_1.2.2.1) 0 (svR (S) ms) mc)))
set_option maxHeartbeats 4000000 in
set_option maxRecDepth 100000 in
theorem kX5_live (l : Launch) (Γ : wG) (a : Nat → Nat) (S : Nat) (T : Nat) (K : Nat) (Q : Nat) (ms : (Nat → Int32)) (mt : (Nat → Int32)) (mc : (Nat → Int32)) (md : (Nat → Int32)) (m1 : Int32) (m3 : Int32) (m4 : Int32) (m5 : Int32) (hS6 : S ≤ 6) (hT : T ≤ 60) (hMK : ms 1 = nI K) (hK8 : K ≤ 8) (hQ : ms 27 = nI 1 → ms 29 = nI (Q + 1)) (hQ7 : Q ≤ 7) : MI l Γ yX5_live wsX5_live ({ frames := 5, cells := 0, slots := 0, locals := 109 }) [.ref (a 0)] [moB Γ a ms mt mc md (nI S) m1 (nI T) m3 m4 m5] [moB Γ a (fX5_live S T Q ms mt mc md).2.1 mt (fX5_live S T Q ms mt mc md).2.2.2.2.1 (fX5_live S T Q ms mt mc md).2.2.2.2.2.1 (fX5_live S T Q ms mt mc md).2.2.1 (fX5_live S T Q ms mt mc md).2.2.2.1 (fX5_live S T Q ms mt mc md).2.2.2.2.2.2.1 (nI (((fX5_live S T Q ms mt mc md).2.2.2.2.2.2.2.1))) (nI (((fX5_live S T Q ms mt mc md).2.2.2.2.2.2.2.2.1))) (fX5_live S T Q ms mt mc md).2.2.2.2.2.2.2.2.2] (fX5_live S T Q ms mt mc md).1 := by
  intro sz
  refine Met.ofW (cc := cX5_live) (maxL := 2) (ret := (some .int)) (by decide) rfl ?_
  intro p e s m args below meth c s₁ B hml hv
  obtain ⟨rfl, hsz, hP, hK, hD0, hAm⟩ := hv
  have hx := B.exec
  have hb := B.bytes
  have hr := B.returns
  have hts := atoms_spec (ws := wsX5_live) B.pre
  have hown : s.vm.findClass RX5 = some m.cls := findClass_of_methodNamed B.named
  have hlocks := B.notSynchronized
  subst hsz
  have hD := hD0.self (sz := s.heap.size)
  generalize hAe : va_A (wcat [moB Γ a ms mt mc md (nI S) m1 (nI T) m3 m4 m5]) s.heap.size = A at hD hAm ⊢
  have hA : ∀ q : Nat, s.heap.size ≤ q → A q := fun q h => by rw [← hAe]; exact Or.inr h
  have hAB : ∀ q : Nat, A q → A q := fun _ h => h
  have hS : va_S A s.heap s.heap [] := va_S.rf
  have hl := lv_entry ([.ref (a 0)]) (n := 2) (Nat.le_of_ble_eq_true rfl)
  rw [lg_entry_eq]
  generalize (lg_sl ([.ref (a 0)]) ++ List.replicate (2 - (lg_sl ([.ref (a 0)])).length) Slot.unset).toArray = ls at hl ⊢
  have hl : lv_has ls 2 [(0, .ref (a 0))] := hl
  have hi5 : ∀ w ∈ wsX50, w ∈ wsX5_live := by decide +kernel
  have kf101 := hts (.fieldLink RX5 101 "CapsuleKeepersModel" "typed" "I") (by decide +kernel)
  have kf125 := hts (.fieldLink RX5 125 "CapsuleKeepersModel" "orders" "I") (by decide +kernel)
  have hq : (fX5_live S T Q ms mt mc md) = (let r_1 := (fX5_areDays (T) mt md); (if (gsR r_1.1 (nI 1)) = 0 then ((nI 0), ms, (nI S), (gsT r_1.1 (nI 1)), mc, r_1.2.1, (nI T), (r_1.2.2.1), (r_1.2.2.2.1), r_1.2.2.2.2) else (fX5_live_L25 S Q r_1 (r_1.2.2.1) 0 (svR (S) ms) mc))) := rfl
  refine lv_aload_n hx hb dX5_live_0 rfl (lv_at hl 0 rfl) ?_
  refine lv_aload_n hx hb dX5_live_1 rfl (lv_at hl 0 rfl) ?_
  have kc := (kX5_areDays l Γ a (T) ms mt mc md (nI S) m1 m3 m4 m5 (by first | decide | assumption | omega))
  have hfr_1 : (fX5_areDays (T) mt md).2.2.1 ≤ T := areDays_le hT
  generalize hr_1 : (fX5_areDays (T) mt md) = r_1 at hfr_1 kc hq
  replace hq : (fX5_live S T Q ms mt mc md) = (if (gsR r_1.1 (nI 1)) = 0 then ((nI 0), ms, (nI S), (gsT r_1.1 (nI 1)), mc, r_1.2.1, (nI T), (r_1.2.2.1), (r_1.2.2.2.1), r_1.2.2.2.2) else (fX5_live_L25 S Q r_1 (r_1.2.2.1) 0 (svR (S) ms) mc)) := hq
  refine cMI (bc' := [moB Γ a ms mt mc r_1.2.1 (nI S) m1 (nI T) (nI (r_1.2.2.1)) (nI (r_1.2.2.2.1)) r_1.2.2.2.2]) (va_runV (As := []) (rest := [.ref (a 0)]) ⟨hx, hb, hml, hown, hts⟩ (kc _) (cwV 0 hts gX5_live_X5_areDays rfl rfl rfl (by decide +kernel) ⟨Nat.le_of_ble_eq_true rfl, Nat.le_of_ble_eq_true rfl⟩) ⟨wPre_blind, va_recv hK hP (ci := 5) (q0 := 0) rfl rfl, wPre_mk hP hD hK hS hA hAB hAm [0] rfl rfl⟩ rfl rfl hl.1 rfl (lv_room (Nat.le_of_ble_eq_true rfl)) dX5_live_2 ⟨Nat.zero_le _, Nat.zero_le _⟩) hP hD hS hA [0] rfl (by simp only [List.map_cons, List.map_nil, suB_w, plB_w, cuB_w, txB_w, mnC_w, moB_w, ouB_w, saB_w]) (bs' := [moB Γ a ms mt mc r_1.2.1 (nI S) m1 (nI T) (nI (r_1.2.2.1)) (nI (r_1.2.2.2.1)) r_1.2.2.2.2]) rfl (fun H locs hP hD hS => ?_)
  refine lv_iconst (v := (nI 1)) hx hb dX5_live_5 (by decide) ?_
  refine cMI (bc' := [moB Γ a ms mt mc r_1.2.1 (nI S) (gsT r_1.1 (nI 1)) (nI T) (nI (r_1.2.2.1)) (nI (r_1.2.2.2.1)) r_1.2.2.2.2]) (va_runV (As := [.int r_1.1, .int (nI 1)]) (rest := []) ⟨hx, hb, hml, hown, hts⟩ ((nX5_goes l Γ a ms mt mc r_1.2.1 (nI S) m1 (nI T) (nI (r_1.2.2.1)) (nI (r_1.2.2.2.1)) r_1.2.2.2.2 r_1.1 (nI 1)) _) (cwV 2 hts gX5_live_X5_goes rfl rfl rfl (by decide +kernel) ⟨Nat.le_of_ble_eq_true rfl, Nat.le_of_ble_eq_true rfl⟩) ⟨wPre_blind, va_recv hK hP (ci := 5) (q0 := 0) rfl rfl, wPre_mk hP hD hK hS hA hAB hAm [0] rfl rfl⟩ rfl rfl hl.1 rfl (lv_room (Nat.le_of_ble_eq_true rfl)) dX5_live_6 ⟨Nat.zero_le _, Nat.zero_le _⟩) hP hD hS hA [0] rfl (by simp only [List.map_cons, List.map_nil, suB_w, plB_w, cuB_w, txB_w, mnC_w, moB_w, ouB_w, saB_w]) (bs' := [moB Γ a ms mt mc r_1.2.1 (nI S) (gsT r_1.1 (nI 1)) (nI T) (nI (r_1.2.2.1)) (nI (r_1.2.2.2.1)) r_1.2.2.2.2]) rfl (fun H locs hP hD hS => ?_)
  refine lv_if_ne (tgt := 14) hx hb dX5_live_9 (by decide) (fun c_2 => ?_) (fun c_2 => ?_)
  · have hq := hq.trans (if_neg c_2)
    refine lv_aload_n hx hb dX5_live_14 rfl (lv_at hl 0 rfl) ?_
    refine cMV (bc' := [moB Γ a (svR (S) ms) mt mc r_1.2.1 (nI (svS (S))) (gsT r_1.1 (nI 1)) (nI T) (nI (r_1.2.2.1)) (nI (r_1.2.2.2.1)) r_1.2.2.2.2]) (va_runV (As := []) (rest := []) ⟨hx, hb, hml, hown, hts⟩ ((nX5_saves l Γ a (S) ms mt mc r_1.2.1 (gsT r_1.1 (nI 1)) (nI T) (nI (r_1.2.2.1)) (nI (r_1.2.2.2.1)) r_1.2.2.2.2 (by first | decide | assumption | omega)) _) (cwV 0 hts gX5_live_X5_saves rfl rfl rfl (by decide +kernel) ⟨Nat.le_of_ble_eq_true rfl, Nat.le_of_ble_eq_true rfl⟩) ⟨wPre_blind, va_recv hK hP (ci := 5) (q0 := 0) rfl rfl, wPre_mk hP hD hK hS hA hAB hAm [0] rfl rfl⟩ rfl rfl hl.1 rfl (lv_room (Nat.le_of_ble_eq_true rfl)) dX5_live_15 ⟨Nat.zero_le _, Nat.zero_le _⟩) hP hD hS hA [0] rfl (by simp only [List.map_cons, List.map_nil, suB_w, plB_w, cuB_w, txB_w, mnC_w, moB_w, ouB_w, saB_w]) (bs' := [moB Γ a (svR (S) ms) mt mc r_1.2.1 (nI (svS (S))) (gsT r_1.1 (nI 1)) (nI T) (nI (r_1.2.2.1)) (nI (r_1.2.2.2.1)) r_1.2.2.2.2]) rfl (fun H locs hP hD hS => ?_)
    refine lv_aload_n hx hb dX5_live_18 rfl (lv_at hl 0 rfl) ?_
    refine lv_iconst (v := (nI 0)) hx hb dX5_live_19 (by decide) ?_
    refine va_put (D := Γ.1) (ci := 5) (v := .int (nI 0)) (ty := .int) (C := RX5) (T := TX5) (N := 10) hx hb hts hi5 tyX5 tyX5_ok nmX5 hown hK hP hD hS 0 rfl rfl 4 (by decide) kf101 (fun _ h9 => h9) rfl (by decide +kernel) rfl rfl (Nat.le_of_ble_eq_true rfl) dX5_live_20 (fun H locs hP hD hS => ?_)
    have hP : va_P Γ.1 vwCl (wcat [moB Γ a (svR (S) ms) mt mc r_1.2.1 (nI (svS (S))) (gsT r_1.1 (nI 1)) (nI 0) (nI (r_1.2.2.1)) (nI (r_1.2.2.2.1)) r_1.2.2.2.2]) H := hP
    have hD : va_D A (wcat [moB Γ a (svR (S) ms) mt mc r_1.2.1 (nI (svS (S))) (gsT r_1.1 (nI 1)) (nI 0) (nI (r_1.2.2.1)) (nI (r_1.2.2.2.1)) r_1.2.2.2.2]) := hD
    refine lv_iconst (v := (nI 0)) hx hb dX5_live_23 (by decide) ?_
    refine lv_istore_n (lv' := [(1, .int (nI 0)), (0, .ref (a 0))]) hx hb dX5_live_24 rfl hl (by decide) rfl (fun ls hl => ?_)
    refine wl (pc := 25) (σ := Nat × (Nat → Int32) × (Nat → Int32)) (fun n (i25, ms0_25, mc0_25) H locs ls => (i25 + n = r_1.2.2.1 ∧ (ms0_25 1 = nI K ∧ (ms0_25 27 = nI 1 → ms0_25 29 = nI (Q + 1)))) ∧ (fX5_live S T Q ms mt mc md) = fX5_live_L25 S Q r_1 n i25 ms0_25 mc0_25 ∧ va_P Γ.1 vwCl (wcat [moB Γ a ms0_25 mt mc0_25 r_1.2.1 (nI (svS (S))) (gsT r_1.1 (nI 1)) (nI 0) (nI (r_1.2.2.1)) (nI (r_1.2.2.2.1)) r_1.2.2.2.2]) H ∧ va_D A (wcat [moB Γ a ms0_25 mt mc0_25 r_1.2.1 (nI (svS (S))) (gsT r_1.1 (nI 1)) (nI 0) (nI (r_1.2.2.1)) (nI (r_1.2.2.2.1)) r_1.2.2.2.2]) ∧ va_S A s.heap H locs ∧ lv_has ls 2 [(1, .int (nI i25)), (0, .ref (a 0))]) ?_ ?_ (r_1.2.2.1) (0, (svR (S) ms), mc) _ _ _ ⟨⟨by omega, (svR_low (by decide)).trans hMK, fun z => (svR_low (by decide)).trans (hQ ((svR_low (by decide)).symm.trans z))⟩, hq, hP, hD, hS, lv_sub hl [0, 1] rfl⟩
    · intro ⟨i25, ms0_25, mc0_25⟩ H locs ls h
      obtain ⟨hn25, hq, hP, hD, hS, hl⟩ := h
      try dsimp only at hn25 hq hP hD hl
      obtain ⟨hn25, hk25, hq25⟩ := hn25
      replace hq : (fX5_live S T Q ms mt mc md) = ((nI i25), ms0_25, (nI (svS (S))), (gsT r_1.1 (nI 1)), mc0_25, r_1.2.1, (nI 0), (r_1.2.2.1), (r_1.2.2.2.1), r_1.2.2.2.2) := hq
      refine lv_iload_n hx hb dX5_live_25 rfl (lv_at hl 0 rfl) ?_
      refine lv_aload_n hx hb dX5_live_26 rfl (lv_at hl 1 rfl) ?_
      refine va_get (D := Γ.1) (ci := 5) (v := .int (nI (r_1.2.2.1))) (C := RX5) (T := TX5) (N := 10) hx hb hts hi5 hown hK hP 0 rfl rfl 7 (by decide) kf125 (fun _ h9 => h9) rfl dX5_live_27 ?_
      refine lv_icmp_ge (tgt := 47) hx hb dX5_live_30 (by decide) (fun c_30 => ?_) (fun c_30 => absurd (nI_le (by omega) (by omega)) c_30)
      refine lv_iload_n hx hb dX5_live_47 rfl (lv_at hl 0 rfl) ?_
      exact W.iret (v := (nI i25)) hx hb hr (fun t ht hW => eMI (by rw [hq]; exact hP) hS ht (by rw [hq])) hS.2.2 dX5_live_48
    · intro n25 ih25 ⟨i25, ms0_25, mc0_25⟩ H locs ls h
      obtain ⟨hn25, hq, hP, hD, hS, hl⟩ := h
      try dsimp only at hn25 hq hP hD hl
      obtain ⟨hn25, hk25, hq25⟩ := hn25
      replace hq : (fX5_live S T Q ms mt mc md) = (let r_3 := (fX5_does Q ms0_25 mc0_25 r_1.2.1 (i25)); (if r_3.1 = 0 then ((nI i25), r_3.2.1, (nI (svS (S))), (gsT r_1.1 (nI 1)), r_3.2.2, r_1.2.1, (nI 0), (r_1.2.2.1), (r_1.2.2.2.1), r_1.2.2.2.2) else (fX5_live_L25 S Q r_1 n25 (i25 + 1) r_3.2.1 r_3.2.2))) := hq
      refine lv_iload_n hx hb dX5_live_25 rfl (lv_at hl 0 rfl) ?_
      refine lv_aload_n hx hb dX5_live_26 rfl (lv_at hl 1 rfl) ?_
      refine va_get (D := Γ.1) (ci := 5) (v := .int (nI (r_1.2.2.1))) (C := RX5) (T := TX5) (N := 10) hx hb hts hi5 hown hK hP 0 rfl rfl 7 (by decide) kf125 (fun _ h9 => h9) rfl dX5_live_27 ?_
      refine lv_icmp_ge (tgt := 47) hx hb dX5_live_30 (by decide) (fun c_30 => absurd c_30 (nI_ge (by omega) (by omega))) (fun c_30 => ?_)
      refine lv_aload_n hx hb dX5_live_33 rfl (lv_at hl 1 rfl) ?_
      refine lv_iload_n hx hb dX5_live_34 rfl (lv_at hl 0 rfl) ?_
      have kc := (kX5_does l Γ a K Q ms0_25 mt mc0_25 r_1.2.1 (nI (svS (S))) (gsT r_1.1 (nI 1)) (nI 0) (nI (r_1.2.2.1)) (nI (r_1.2.2.2.1)) r_1.2.2.2.2 (i25) (by first | decide | assumption | omega) (hk25) (by first | decide | assumption | omega) (hq25) (by first | decide | assumption | omega))
      have hfr_3 : (fX5_does Q ms0_25 mc0_25 r_1.2.1 (i25)).2.1 1 = nI K ∧ ((fX5_does Q ms0_25 mc0_25 r_1.2.1 (i25)).2.1 27 = nI 1 → (fX5_does Q ms0_25 mc0_25 r_1.2.1 (i25)).2.1 29 = nI (Q + 1)) := does_keep2 hk25 hK8 hq25
      generalize hr_3 : (fX5_does Q ms0_25 mc0_25 r_1.2.1 (i25)) = r_3 at hfr_3 kc hq
      replace hq : (fX5_live S T Q ms mt mc md) = (if r_3.1 = 0 then ((nI i25), r_3.2.1, (nI (svS (S))), (gsT r_1.1 (nI 1)), r_3.2.2, r_1.2.1, (nI 0), (r_1.2.2.1), (r_1.2.2.2.1), r_1.2.2.2.2) else (fX5_live_L25 S Q r_1 n25 (i25 + 1) r_3.2.1 r_3.2.2)) := hq
      refine cMI (bc' := [moB Γ a r_3.2.1 mt r_3.2.2 r_1.2.1 (nI (svS (S))) (gsT r_1.1 (nI 1)) (nI 0) (nI (r_1.2.2.1)) (nI (r_1.2.2.2.1)) r_1.2.2.2.2]) (va_runV (As := [.int (nI i25)]) (rest := []) ⟨hx, hb, hml, hown, hts⟩ (kc _) (cwV 1 hts gX5_live_X5_does rfl rfl rfl (by decide +kernel) ⟨Nat.le_of_ble_eq_true rfl, Nat.le_of_ble_eq_true rfl⟩) ⟨wPre_blind, va_recv hK hP (ci := 5) (q0 := 0) rfl rfl, wPre_mk hP hD hK hS hA hAB hAm [0] rfl rfl⟩ rfl rfl hl.1 rfl (lv_room (Nat.le_of_ble_eq_true rfl)) dX5_live_35 ⟨Nat.zero_le _, Nat.zero_le _⟩) hP hD hS hA [0] rfl (by simp only [List.map_cons, List.map_nil, suB_w, plB_w, cuB_w, txB_w, mnC_w, moB_w, ouB_w, saB_w]) (bs' := [moB Γ a r_3.2.1 mt r_3.2.2 r_1.2.1 (nI (svS (S))) (gsT r_1.1 (nI 1)) (nI 0) (nI (r_1.2.2.1)) (nI (r_1.2.2.2.1)) r_1.2.2.2.2]) rfl (fun H locs hP hD hS => ?_)
      refine lv_if_eq (tgt := 47) hx hb dX5_live_38 (by decide) (fun c_4 => ?_) (fun c_4 => ?_)
      · have hq := hq.trans (if_pos c_4)
        refine lv_iload_n hx hb dX5_live_47 rfl (lv_at hl 0 rfl) ?_
        exact W.iret (v := (nI i25)) hx hb hr (fun t ht hW => eMI (by rw [hq]; exact hP) hS ht (by rw [hq])) hS.2.2 dX5_live_48
      · have hq := hq.trans (if_neg c_4)
        refine lv_iinc (v := (nI (i25 + 1))) (lv' := [(1, .int (nI (i25 + 1))), (0, .ref (a 0))]) hx hb dX5_live_41 hl (k := 0) rfl (nI_1 _) (by decide) rfl (fun ls hl => ?_)
        refine lv_goto (tgt := 25) hx hb dX5_live_44 (by decide) ?_
        exact ih25 ((i25 + 1), r_3.2.1, r_3.2.2) H locs ls ⟨⟨by omega, by assumption⟩, hq, hP, hD, hS, lv_sub hl [0, 1] rfl⟩
  · have hq := hq.trans (if_pos c_2)
    refine lv_iconst (v := (nI 0)) hx hb dX5_live_12 (by decide) ?_
    exact W.iret (v := (nI 0)) hx hb hr (fun t ht hW => eMI (by rw [hq]; exact hP) hS ht (by rw [hq])) hS.2.2 dX5_live_13
