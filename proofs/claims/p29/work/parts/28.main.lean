def nm2 : List String := ["java/lang/RuntimeException", "java/lang/Exception"]
def thB (X : String) : List Cond := [.castable X X, .declares (Bundle.initS "java/lang/RuntimeException"), .declares (Bundle.initS "java/lang/Exception"), .declares (Bundle.initS "java/lang/Throwable")]
theorem thr_hat {A : Nat → Prop} {args : Array Value} {s : State} {ic : Nat} {X : String} (hAm : Amb A s) (hX : X ∈ wX) (h2 : ∀ w ∈ (vx_atS RX4 ic X nm2).filter (fun w => !goodWord w), w ∈ thB X) (h1 : ∀ w ∈ (vx_atS RX4 ic X nm2).filter goodWord, w.before args s = true) : ∀ w ∈ vx_atS RX4 ic X nm2, w.before args s = true := by
  obtain ⟨-, -, -, -, -, hc1, hc2, -⟩ := hAm
  exact vx_hat h1 h2 (vx_c (va_Nw.use rfl (hc1 X hX)) (vx_c (va_Nw.use rfl (hc2 _ (by decide +kernel))) (vx_c (va_Nw.use rfl (hc2 _ (by decide +kernel))) (vx_c (va_Nw.use rfl (hc2 _ (by decide +kernel))) vx_n))))
theorem xF {A : Nat → Prop} {s t : State} {H : Heap} {locs : List Loc} (hS : va_S A s.heap H locs) (h1 : H.size ≤ t.heap.size) (h2 : ∀ q : Nat, q < H.size → t.heap[q]? = H[q]?) : va_F A s t :=
  ⟨Nat.le_trans hS.1 h1, fun q hq hn => (h2 q (Nat.lt_of_lt_of_le hq hS.1)).trans (hS.2.1 q hq hn)⟩
theorem hasK_nat {v : Nat → Nat → Int32} {k : Int32} (h : ¬ fX2_hasKeeper v k = 0) : ∃ j : Nat, j < 8 ∧ k = nI j := by
  have h0 : nI 0 = 0 := by decide
  unfold fX2_hasKeeper at h
  by_cases a : k < 0
  · rw [if_pos a] at h; exact absurd h0 h
  · rw [if_neg a] at h
    by_cases b : v 0 0 ≤ k
    · rw [if_pos b] at h; exact absurd h0 h
    · rw [if_neg b] at h
      by_cases c : nI 8 ≤ k
      · rw [if_pos c] at h; exact absurd h0 h
      · obtain ⟨j, hj, rfl⟩ := nI_of a
        exact ⟨j, ltN hj (by decide) c, rfl⟩
theorem lives_has {v : Nat → Nat → Int32} {k : Int32} (h : ¬ fX2_lives v k = 0) : ¬ fX2_hasKeeper v k = 0 := by
  intro q
  apply h
  unfold fX2_lives
  rw [if_pos q]
  decide
theorem hasK_in {v : Nat → Nat → Int32} {k : Int32} (h : ¬ fX2_hasKeeper v k = 0) : vp_in k 8 := by
  obtain ⟨j, hj, rfl⟩ := hasK_nat h
  exact vp_in_nI hj (by decide)
theorem mayName_in {v : Nat → Nat → Int32} {k h : Int32} (hh : ¬ fX2_mayName v k h = 0) : ¬ fX2_lives v k = 0 := by
  have h0 : nI 0 = 0 := by decide
  intro q
  apply hh
  unfold fX2_mayName
  by_cases a : k = h
  · rw [if_pos a]; exact h0
  · rw [if_neg a, if_pos q]; exact h0
theorem mayRenew_ne {v : Nat → Nat → Int32} (h : ¬ fX2_mayRenew v = 0) : v 0 4 = nI 1 := by
  have h0 : nI 0 = 0 := by decide
  unfold fX2_mayRenew at h
  by_cases a : v 0 4 = nI 1
  · exact a
  · rw [if_neg a] at h; exact absurd h0 h
def fX4_checkKeeper : Unit := ()
set_option maxHeartbeats 4000000 in
set_option maxRecDepth 100000 in
theorem kX4_checkKeeper (l : Launch) (Γ : wG) (q : Nat) (an : Nat → Nat) (ap : Nat → Nat) (qs : Nat) (ac : Nat → Nat) (au : Nat → Nat) (ax : Nat → Nat) (nn : Int32) (v : (Nat → Nat → Int32)) (k : Int32) (hv : ¬ fX2_hasKeeper v k = 0) : LV l Γ yX4_checkKeeper wsX4_checkKeeper ({ frames := 1, cells := 0, slots := 0, locals := 21 }) [.ref q, .int k] [mnC q an ap qs ac au ax nn, plB Γ an v] := by
  intro sz
  refine Met.ofW (cc := cX4_checkKeeper) (maxL := 2) (ret := none) (by decide) rfl ?_
  intro p e s m args below meth c s₁ B hml hv
  obtain ⟨rfl, hsz, hP, hK, hD0, hAm⟩ := hv
  have hx := B.exec
  have hb := B.bytes
  have hr := B.returns
  have hts := atoms_spec (ws := wsX4_checkKeeper) B.pre
  have hown : s.vm.findClass RX4 = some m.cls := findClass_of_methodNamed B.named
  have hlocks := B.notSynchronized
  subst hsz
  have hD := hD0.self (sz := s.heap.size)
  generalize hBe : va_A (wcat [mnC q an ap qs ac au ax nn, plB Γ an v]) s.heap.size = B0 at hD hAm
  obtain ⟨A, hAe⟩ : ∃ A, A = va_A [] s.heap.size := ⟨_, rfl⟩
  rw [← hAe]
  have hA : ∀ q : Nat, s.heap.size ≤ q → A q := fun q h => by rw [hAe]; exact Or.inr h
  have hAB : ∀ q : Nat, A q → B0 q := fun q h => by rw [hAe] at h; rw [← hBe]; exact Or.inr (wnone h)
  have hS : va_S A s.heap s.heap [] := va_S.rf
  have hl := lv_entry ([.ref q, .int k]) (n := 2) (Nat.le_of_ble_eq_true rfl)
  rw [lg_entry_eq]
  generalize (lg_sl ([.ref q, .int k]) ++ List.replicate (2 - (lg_sl ([.ref q, .int k])).length) Slot.unset).toArray = ls at hl ⊢
  have hl : lv_has ls 2 [(0, .ref q), (1, .int k)] := hl
  have hi4 : ∀ w ∈ wsX40, w ∈ wsX4_checkKeeper := by decide +kernel
  have kf10 := hts (.fieldLink RX4 10 "CapsuleKeepers" "now" "LCapsuleKeepers$Place;") (by decide +kernel)
  have hq : fX4_checkKeeper = () := rfl
  refine lv_aload_n hx hb dX4_checkKeeper_0 rfl (lv_at hl 0 rfl) ?_
  refine va_get (D := Γ.1) (ci := 4) (v := .ref (an 0)) (C := RX4) (T := TX4) (N := 7) hx hb hts hi4 hown hK hP 0 rfl rfl 0 (by decide) kf10 (fun _ h9 => h9) rfl dX4_checkKeeper_1 ?_
  refine lv_iload_n hx hb dX4_checkKeeper_4 rfl (lv_at hl 1 rfl) ?_
  refine cLI (va_runV (As := [.int k]) (rest := []) ⟨hx, hb, hml, hown, hts⟩ ((kX2_hasKeeper l Γ an v k) _) (cwV 1 hts gX4_checkKeeper_X2_hasKeeper rfl rfl rfl (by decide +kernel) ⟨Nat.le_of_ble_eq_true rfl, Nat.le_of_ble_eq_true rfl⟩) ⟨wPre_blind, va_recv hK hP (ci := 2) (q0 := 1) rfl rfl, wPre_mk hP hD hK hS hA hAB hAm [1] rfl rfl⟩ rfl rfl hl.1 rfl (lv_room (Nat.le_of_ble_eq_true rfl)) dX4_checkKeeper_5 ⟨Nat.zero_le _, Nat.zero_le _⟩) hP hS hA (fun H locs hP hS => ?_)
  refine lv_if_ne (tgt := 22) hx hb dX4_checkKeeper_8 (by decide) (fun c_8 => ?_) (fun c_8 => absurd c_8 hv)
  exact W.vret hx hb hr (fun t ht hW => eLV hS ht) hS.2.2 dX4_checkKeeper_22
set_option maxHeartbeats 4000000 in
set_option maxRecDepth 100000 in
theorem tX4_checkKeeper (l : Launch) (hfl : l.stackTraces = false) (Γ : wG) (q : Nat) (an : Nat → Nat) (ap : Nat → Nat) (qs : Nat) (ac : Nat → Nat) (au : Nat → Nat) (ax : Nat → Nat) (nn : Int32) (v : (Nat → Nat → Int32)) (k : Int32) (hv : fX2_hasKeeper v k = 0) : TX l Γ yX4_checkKeeper wsX4_checkKeeper ({ frames := 6, cells := 1, slots := 6, locals := 90 }) [.ref q, .int k] [mnC q an ap qs ac au ax nn, plB Γ an v] "java/lang/IndexOutOfBoundsException" := by
  intro sz
  refine vx_ofW (cc := cX4_checkKeeper) (maxL := 2) (ret := none) (by decide) rfl ?_
  intro p e s m args below meth c s₁ B hml hnt hv
  obtain ⟨rfl, hsz, hP, hK, hD0, hAm⟩ := hv
  have hx := B.exec
  have hb := B.bytes
  have hr := B.returns
  have hts := atoms_spec (ws := wsX4_checkKeeper) B.pre
  have hown : s.vm.findClass RX4 = some m.cls := findClass_of_methodNamed B.named
  have hlocks := B.notSynchronized
  subst hsz
  have hD := hD0.self (sz := s.heap.size)
  generalize hBe : va_A (wcat [mnC q an ap qs ac au ax nn, plB Γ an v]) s.heap.size = B0 at hD hAm
  obtain ⟨A, hAe⟩ : ∃ A, A = va_A [] s.heap.size := ⟨_, rfl⟩
  rw [← hAe]
  have hA : ∀ q : Nat, s.heap.size ≤ q → A q := fun q h => by rw [hAe]; exact Or.inr h
  have hAB : ∀ q : Nat, A q → B0 q := fun q h => by rw [hAe] at h; rw [← hBe]; exact Or.inr (wnone h)
  have hS : va_S A s.heap s.heap [] := va_S.rf
  have hl := lv_entry ([.ref q, .int k]) (n := 2) (Nat.le_of_ble_eq_true rfl)
  rw [lg_entry_eq]
  generalize (lg_sl ([.ref q, .int k]) ++ List.replicate (2 - (lg_sl ([.ref q, .int k])).length) Slot.unset).toArray = ls at hl ⊢
  have hl : lv_has ls 2 [(0, .ref q), (1, .int k)] := hl
  have hi4 : ∀ w ∈ wsX40, w ∈ wsX4_checkKeeper := by decide +kernel
  have kf10 := hts (.fieldLink RX4 10 "CapsuleKeepers" "now" "LCapsuleKeepers$Place;") (by decide +kernel)
  refine lv_aload_n hx hb dX4_checkKeeper_0 rfl (lv_at hl 0 rfl) ?_
  refine va_get (D := Γ.1) (ci := 4) (v := .ref (an 0)) (C := RX4) (T := TX4) (N := 7) hx hb hts hi4 hown hK hP 0 rfl rfl 0 (by decide) kf10 (fun _ h9 => h9) rfl dX4_checkKeeper_1 ?_
  refine lv_iload_n hx hb dX4_checkKeeper_4 rfl (lv_at hl 1 rfl) ?_
  refine cLI (va_runV (As := [.int k]) (rest := []) ⟨hx, hb, hml, hown, hts⟩ ((kX2_hasKeeper l Γ an v k) _) (cwV 1 hts gX4_checkKeeper_X2_hasKeeper rfl rfl rfl (by decide +kernel) ⟨Nat.le_of_ble_eq_true rfl, Nat.le_of_ble_eq_true rfl⟩) ⟨wPre_blind, va_recv hK hP (ci := 2) (q0 := 1) rfl rfl, wPre_mk hP hD hK hS hA hAB hAm [1] rfl rfl⟩ rfl rfl hl.1 rfl (lv_room (Nat.le_of_ble_eq_true rfl)) dX4_checkKeeper_5 ⟨Nat.zero_le _, Nat.zero_le _⟩) hP hS hA (fun H locs hP hS => ?_)
  refine lv_if_ne (tgt := 22) hx hb dX4_checkKeeper_8 (by decide) (fun c_8 => absurd hv c_8) (fun c_8 => ?_)
  obtain ⟨sx, hstr⟩ := hAm.2.2.2.2.1 (297, "there is no such keeper") (by decide +kernel)
  exact vx_throwSW (names := nm2) (A := A) hx hb hfl hown (by decide +kernel) (by decide +kernel) (hts (.classLink RX4 295 "java/lang/IndexOutOfBoundsException") (by decide +kernel)) (hts (.initialized "java/lang/IndexOutOfBoundsException") (by decide +kernel)) hstr (thr_hat hAm (by decide +kernel) (by decide +kernel) (fun w hw => hts w ((by decide +kernel : ∀ w ∈ (vx_atS RX4 299 "java/lang/IndexOutOfBoundsException" nm2).filter goodWord, w ∈ wsX4_checkKeeper) w hw))) (by decide +kernel) ((hAm.narrow hAB).2.2.1) ((hAm.narrow hAB).2.2.2.1) hS (by rw [hml]; exact hl.1) dX4_checkKeeper_11 dX4_checkKeeper_14 dX4_checkKeeper_15 dX4_checkKeeper_18 dX4_checkKeeper_21 (fun x hx => (hnt x hx).elim) (Nat.le_of_ble_eq_true rfl) (Nat.le_of_ble_eq_true rfl) (Nat.le_of_ble_eq_true rfl) (Nat.le_of_ble_eq_true rfl) hlocks (fun t _ h1 h2 => ⟨(), trivial, rfl, xF hS h1 h2⟩) hS.2.2 (Nat.le_of_ble_eq_true rfl) (Nat.le_of_ble_eq_true rfl)
def fX4_checkGroup : Unit := ()
set_option maxHeartbeats 4000000 in
set_option maxRecDepth 100000 in
theorem kX4_checkGroup (l : Launch) (Γ : wG) (q : Nat) (an : Nat → Nat) (ap : Nat → Nat) (qs : Nat) (ac : Nat → Nat) (au : Nat → Nat) (ax : Nat → Nat) (nn : Int32) (v : (Nat → Nat → Int32)) (g : Int32) (hv : ¬ g < 0) (hv2 : g ≤ fX2_everybody v) : LV l Γ yX4_checkGroup wsX4_checkGroup ({ frames := 1, cells := 0, slots := 0, locals := 20 }) [.ref q, .int g] [mnC q an ap qs ac au ax nn, plB Γ an v] := by
  intro sz
  refine Met.ofW (cc := cX4_checkGroup) (maxL := 2) (ret := none) (by decide) rfl ?_
  intro p e s m args below meth c s₁ B hml hv
  obtain ⟨rfl, hsz, hP, hK, hD0, hAm⟩ := hv
  have hx := B.exec
  have hb := B.bytes
  have hr := B.returns
  have hts := atoms_spec (ws := wsX4_checkGroup) B.pre
  have hown : s.vm.findClass RX4 = some m.cls := findClass_of_methodNamed B.named
  have hlocks := B.notSynchronized
  subst hsz
  have hD := hD0.self (sz := s.heap.size)
  generalize hBe : va_A (wcat [mnC q an ap qs ac au ax nn, plB Γ an v]) s.heap.size = B0 at hD hAm
  obtain ⟨A, hAe⟩ : ∃ A, A = va_A [] s.heap.size := ⟨_, rfl⟩
  rw [← hAe]
  have hA : ∀ q : Nat, s.heap.size ≤ q → A q := fun q h => by rw [hAe]; exact Or.inr h
  have hAB : ∀ q : Nat, A q → B0 q := fun q h => by rw [hAe] at h; rw [← hBe]; exact Or.inr (wnone h)
  have hS : va_S A s.heap s.heap [] := va_S.rf
  have hl := lv_entry ([.ref q, .int g]) (n := 2) (Nat.le_of_ble_eq_true rfl)
  rw [lg_entry_eq]
  generalize (lg_sl ([.ref q, .int g]) ++ List.replicate (2 - (lg_sl ([.ref q, .int g])).length) Slot.unset).toArray = ls at hl ⊢
  have hl : lv_has ls 2 [(0, .ref q), (1, .int g)] := hl
  have hi4 : ∀ w ∈ wsX40, w ∈ wsX4_checkGroup := by decide +kernel
  have kf10 := hts (.fieldLink RX4 10 "CapsuleKeepers" "now" "LCapsuleKeepers$Place;") (by decide +kernel)
  have hq : fX4_checkGroup = () := rfl
  refine lv_iload_n hx hb dX4_checkGroup_0 rfl (lv_at hl 1 rfl) ?_
  refine lv_if_lt (tgt := 15) hx hb dX4_checkGroup_1 (by decide) (fun c_1 => absurd c_1 hv) (fun c_1 => ?_)
  refine lv_iload_n hx hb dX4_checkGroup_4 rfl (lv_at hl 1 rfl) ?_
  refine lv_aload_n hx hb dX4_checkGroup_5 rfl (lv_at hl 0 rfl) ?_
  refine va_get (D := Γ.1) (ci := 4) (v := .ref (an 0)) (C := RX4) (T := TX4) (N := 7) hx hb hts hi4 hown hK hP 0 rfl rfl 0 (by decide) kf10 (fun _ h9 => h9) rfl dX4_checkGroup_6 ?_
  refine cLI (va_runV (As := []) (rest := [.int g]) ⟨hx, hb, hml, hown, hts⟩ ((kX2_everybody l Γ an v) _) (cwV 0 hts gX4_checkGroup_X2_everybody rfl rfl rfl (by decide +kernel) ⟨Nat.le_of_ble_eq_true rfl, Nat.le_of_ble_eq_true rfl⟩) ⟨wPre_blind, va_recv hK hP (ci := 2) (q0 := 1) rfl rfl, wPre_mk hP hD hK hS hA hAB hAm [1] rfl rfl⟩ rfl rfl hl.1 rfl (lv_room (Nat.le_of_ble_eq_true rfl)) dX4_checkGroup_9 ⟨Nat.zero_le _, Nat.zero_le _⟩) hP hS hA (fun H locs hP hS => ?_)
  refine lv_icmp_le (tgt := 26) hx hb dX4_checkGroup_12 (by decide) (fun c_12 => ?_) (fun c_12 => absurd hv2 c_12)
  exact W.vret hx hb hr (fun t ht hW => eLV hS ht) hS.2.2 dX4_checkGroup_26
set_option maxHeartbeats 4000000 in
set_option maxRecDepth 100000 in
theorem tX4_checkGroup_a (l : Launch) (hfl : l.stackTraces = false) (Γ : wG) (q : Nat) (an : Nat → Nat) (ap : Nat → Nat) (qs : Nat) (ac : Nat → Nat) (au : Nat → Nat) (ax : Nat → Nat) (nn : Int32) (v : (Nat → Nat → Int32)) (g : Int32) (hv : g < 0) : TX l Γ yX4_checkGroup wsX4_checkGroup ({ frames := 6, cells := 1, slots := 6, locals := 90 }) [.ref q, .int g] [mnC q an ap qs ac au ax nn, plB Γ an v] "java/lang/IllegalArgumentException" := by
  intro sz
  refine vx_ofW (cc := cX4_checkGroup) (maxL := 2) (ret := none) (by decide) rfl ?_
  intro p e s m args below meth c s₁ B hml hnt hv
  obtain ⟨rfl, hsz, hP, hK, hD0, hAm⟩ := hv
  have hx := B.exec
  have hb := B.bytes
  have hr := B.returns
  have hts := atoms_spec (ws := wsX4_checkGroup) B.pre
  have hown : s.vm.findClass RX4 = some m.cls := findClass_of_methodNamed B.named
  have hlocks := B.notSynchronized
  subst hsz
  have hD := hD0.self (sz := s.heap.size)
  generalize hBe : va_A (wcat [mnC q an ap qs ac au ax nn, plB Γ an v]) s.heap.size = B0 at hD hAm
  obtain ⟨A, hAe⟩ : ∃ A, A = va_A [] s.heap.size := ⟨_, rfl⟩
  rw [← hAe]
  have hA : ∀ q : Nat, s.heap.size ≤ q → A q := fun q h => by rw [hAe]; exact Or.inr h
  have hAB : ∀ q : Nat, A q → B0 q := fun q h => by rw [hAe] at h; rw [← hBe]; exact Or.inr (wnone h)
  have hS : va_S A s.heap s.heap [] := va_S.rf
  have hl := lv_entry ([.ref q, .int g]) (n := 2) (Nat.le_of_ble_eq_true rfl)
  rw [lg_entry_eq]
  generalize (lg_sl ([.ref q, .int g]) ++ List.replicate (2 - (lg_sl ([.ref q, .int g])).length) Slot.unset).toArray = ls at hl ⊢
  have hl : lv_has ls 2 [(0, .ref q), (1, .int g)] := hl
  refine lv_iload_n hx hb dX4_checkGroup_0 rfl (lv_at hl 1 rfl) ?_
  refine lv_if_lt (tgt := 15) hx hb dX4_checkGroup_1 (by decide) (fun c_1 => ?_) (fun c_1 => absurd hv c_1)
  obtain ⟨sx, hstr⟩ := hAm.2.2.2.2.1 (303, "the group has a keeper who is not there") (by decide +kernel)
  exact vx_throwSW (names := nm2) (A := A) hx hb hfl hown (by decide +kernel) (by decide +kernel) (hts (.classLink RX4 162 "java/lang/IllegalArgumentException") (by decide +kernel)) (hts (.initialized "java/lang/IllegalArgumentException") (by decide +kernel)) hstr (thr_hat hAm (by decide +kernel) (by decide +kernel) (fun w hw => hts w ((by decide +kernel : ∀ w ∈ (vx_atS RX4 166 "java/lang/IllegalArgumentException" nm2).filter goodWord, w ∈ wsX4_checkGroup) w hw))) (by decide +kernel) ((hAm.narrow hAB).2.2.1) ((hAm.narrow hAB).2.2.2.1) hS (by rw [hml]; exact hl.1) dX4_checkGroup_15 dX4_checkGroup_18 dX4_checkGroup_19 dX4_checkGroup_22 dX4_checkGroup_25 (fun x hx => (hnt x hx).elim) (Nat.le_of_ble_eq_true rfl) (Nat.le_of_ble_eq_true rfl) (Nat.le_of_ble_eq_true rfl) (Nat.le_of_ble_eq_true rfl) hlocks (fun t _ h1 h2 => ⟨(), trivial, rfl, xF hS h1 h2⟩) hS.2.2 (Nat.le_of_ble_eq_true rfl) (Nat.le_of_ble_eq_true rfl)
set_option maxHeartbeats 4000000 in
set_option maxRecDepth 100000 in
theorem tX4_checkGroup_b (l : Launch) (hfl : l.stackTraces = false) (Γ : wG) (q : Nat) (an : Nat → Nat) (ap : Nat → Nat) (qs : Nat) (ac : Nat → Nat) (au : Nat → Nat) (ax : Nat → Nat) (nn : Int32) (v : (Nat → Nat → Int32)) (g : Int32) (hv : ¬ g < 0) (hv2 : ¬ g ≤ fX2_everybody v) : TX l Γ yX4_checkGroup wsX4_checkGroup ({ frames := 6, cells := 1, slots := 6, locals := 90 }) [.ref q, .int g] [mnC q an ap qs ac au ax nn, plB Γ an v] "java/lang/IllegalArgumentException" := by
  intro sz
  refine vx_ofW (cc := cX4_checkGroup) (maxL := 2) (ret := none) (by decide) rfl ?_
  intro p e s m args below meth c s₁ B hml hnt hv
  obtain ⟨rfl, hsz, hP, hK, hD0, hAm⟩ := hv
  have hx := B.exec
  have hb := B.bytes
  have hr := B.returns
  have hts := atoms_spec (ws := wsX4_checkGroup) B.pre
  have hown : s.vm.findClass RX4 = some m.cls := findClass_of_methodNamed B.named
  have hlocks := B.notSynchronized
  subst hsz
  have hD := hD0.self (sz := s.heap.size)
  generalize hBe : va_A (wcat [mnC q an ap qs ac au ax nn, plB Γ an v]) s.heap.size = B0 at hD hAm
  obtain ⟨A, hAe⟩ : ∃ A, A = va_A [] s.heap.size := ⟨_, rfl⟩
  rw [← hAe]
  have hA : ∀ q : Nat, s.heap.size ≤ q → A q := fun q h => by rw [hAe]; exact Or.inr h
  have hAB : ∀ q : Nat, A q → B0 q := fun q h => by rw [hAe] at h; rw [← hBe]; exact Or.inr (wnone h)
  have hS : va_S A s.heap s.heap [] := va_S.rf
  have hl := lv_entry ([.ref q, .int g]) (n := 2) (Nat.le_of_ble_eq_true rfl)
  rw [lg_entry_eq]
  generalize (lg_sl ([.ref q, .int g]) ++ List.replicate (2 - (lg_sl ([.ref q, .int g])).length) Slot.unset).toArray = ls at hl ⊢
  have hl : lv_has ls 2 [(0, .ref q), (1, .int g)] := hl
  have hi4 : ∀ w ∈ wsX40, w ∈ wsX4_checkGroup := by decide +kernel
  have kf10 := hts (.fieldLink RX4 10 "CapsuleKeepers" "now" "LCapsuleKeepers$Place;") (by decide +kernel)
  refine lv_iload_n hx hb dX4_checkGroup_0 rfl (lv_at hl 1 rfl) ?_
  refine lv_if_lt (tgt := 15) hx hb dX4_checkGroup_1 (by decide) (fun c_1 => absurd c_1 hv) (fun c_1 => ?_)
  refine lv_iload_n hx hb dX4_checkGroup_4 rfl (lv_at hl 1 rfl) ?_
  refine lv_aload_n hx hb dX4_checkGroup_5 rfl (lv_at hl 0 rfl) ?_
  refine va_get (D := Γ.1) (ci := 4) (v := .ref (an 0)) (C := RX4) (T := TX4) (N := 7) hx hb hts hi4 hown hK hP 0 rfl rfl 0 (by decide) kf10 (fun _ h9 => h9) rfl dX4_checkGroup_6 ?_
  refine cLI (va_runV (As := []) (rest := [.int g]) ⟨hx, hb, hml, hown, hts⟩ ((kX2_everybody l Γ an v) _) (cwV 0 hts gX4_checkGroup_X2_everybody rfl rfl rfl (by decide +kernel) ⟨Nat.le_of_ble_eq_true rfl, Nat.le_of_ble_eq_true rfl⟩) ⟨wPre_blind, va_recv hK hP (ci := 2) (q0 := 1) rfl rfl, wPre_mk hP hD hK hS hA hAB hAm [1] rfl rfl⟩ rfl rfl hl.1 rfl (lv_room (Nat.le_of_ble_eq_true rfl)) dX4_checkGroup_9 ⟨Nat.zero_le _, Nat.zero_le _⟩) hP hS hA (fun H locs hP hS => ?_)
  refine lv_icmp_le (tgt := 26) hx hb dX4_checkGroup_12 (by decide) (fun c_12 => absurd c_12 hv2) (fun c_12 => ?_)
  obtain ⟨sx, hstr⟩ := hAm.2.2.2.2.1 (303, "the group has a keeper who is not there") (by decide +kernel)
  exact vx_throwSW (names := nm2) (A := A) hx hb hfl hown (by decide +kernel) (by decide +kernel) (hts (.classLink RX4 162 "java/lang/IllegalArgumentException") (by decide +kernel)) (hts (.initialized "java/lang/IllegalArgumentException") (by decide +kernel)) hstr (thr_hat hAm (by decide +kernel) (by decide +kernel) (fun w hw => hts w ((by decide +kernel : ∀ w ∈ (vx_atS RX4 166 "java/lang/IllegalArgumentException" nm2).filter goodWord, w ∈ wsX4_checkGroup) w hw))) (by decide +kernel) ((hAm.narrow hAB).2.2.1) ((hAm.narrow hAB).2.2.2.1) hS (by rw [hml]; exact hl.1) dX4_checkGroup_15 dX4_checkGroup_18 dX4_checkGroup_19 dX4_checkGroup_22 dX4_checkGroup_25 (fun x hx => (hnt x hx).elim) (Nat.le_of_ble_eq_true rfl) (Nat.le_of_ble_eq_true rfl) (Nat.le_of_ble_eq_true rfl) (Nat.le_of_ble_eq_true rfl) hlocks (fun t _ h1 h2 => ⟨(), trivial, rfl, xF hS h1 h2⟩) hS.2.2 (Nat.le_of_ble_eq_true rfl) (Nat.le_of_ble_eq_true rfl)
def fX4_checkRange : Unit := ()
set_option maxHeartbeats 4000000 in
set_option maxRecDepth 100000 in
theorem kX4_checkRange (l : Launch) (Γ : wG) (k : Int32) (lo : Int32) (hi : Int32) (hv : ¬ k < lo) (hv2 : k ≤ hi) : LV l Γ yX4_checkRange wsX4_checkRange ({ frames := 0, cells := 0, slots := 0, locals := 0 }) [.int k, .int lo, .int hi] [] := by
  intro sz
  refine Met.ofW (cc := cX4_checkRange) (maxL := 3) (ret := none) (by decide) rfl ?_
  intro p e s m args below meth c s₁ B hml hv
  obtain ⟨rfl, hsz, hP, hK, hD0, hAm⟩ := hv
  have hx := B.exec
  have hb := B.bytes
  have hr := B.returns
  have hts := atoms_spec (ws := wsX4_checkRange) B.pre
  have hown : s.vm.findClass RX4 = some m.cls := findClass_of_methodNamed B.named
  have hlocks := B.notSynchronized
  subst hsz
  have hD := hD0.self (sz := s.heap.size)
  generalize hBe : va_A (wcat []) s.heap.size = B0 at hD hAm
  obtain ⟨A, hAe⟩ : ∃ A, A = va_A [] s.heap.size := ⟨_, rfl⟩
  rw [← hAe]
  have hA : ∀ q : Nat, s.heap.size ≤ q → A q := fun q h => by rw [hAe]; exact Or.inr h
  have hAB : ∀ q : Nat, A q → B0 q := fun q h => by rw [hAe] at h; rw [← hBe]; exact Or.inr (wnone h)
  have hS : va_S A s.heap s.heap [] := va_S.rf
  have hl := lv_entry ([.int k, .int lo, .int hi]) (n := 3) (Nat.le_of_ble_eq_true rfl)
  rw [lg_entry_eq]
  generalize (lg_sl ([.int k, .int lo, .int hi]) ++ List.replicate (3 - (lg_sl ([.int k, .int lo, .int hi])).length) Slot.unset).toArray = ls at hl ⊢
  have hl : lv_has ls 3 [(0, .int k), (1, .int lo), (2, .int hi)] := hl
  have hq : fX4_checkRange = () := rfl
  refine lv_iload_n hx hb dX4_checkRange_0 rfl (lv_at hl 0 rfl) ?_
  refine lv_iload_n hx hb dX4_checkRange_1 rfl (lv_at hl 1 rfl) ?_
  refine lv_icmp_lt (tgt := 10) hx hb dX4_checkRange_2 (by decide) (fun c_2 => absurd c_2 hv) (fun c_2 => ?_)
  refine lv_iload_n hx hb dX4_checkRange_5 rfl (lv_at hl 0 rfl) ?_
  refine lv_iload_n hx hb dX4_checkRange_6 rfl (lv_at hl 2 rfl) ?_
  refine lv_icmp_le (tgt := 21) hx hb dX4_checkRange_7 (by decide) (fun c_7 => ?_) (fun c_7 => absurd hv2 c_7)
  exact W.vret hx hb hr (fun t ht hW => eLV hS ht) hS.2.2 dX4_checkRange_21
set_option maxHeartbeats 4000000 in
set_option maxRecDepth 100000 in
theorem tX4_checkRange_a (l : Launch) (hfl : l.stackTraces = false) (Γ : wG) (k : Int32) (lo : Int32) (hi : Int32) (hv : k < lo) : TX l Γ yX4_checkRange wsX4_checkRange ({ frames := 6, cells := 1, slots := 6, locals := 90 }) [.int k, .int lo, .int hi] [] "java/lang/IllegalArgumentException" := by
  intro sz
  refine vx_ofW (cc := cX4_checkRange) (maxL := 3) (ret := none) (by decide) rfl ?_
  intro p e s m args below meth c s₁ B hml hnt hv
  obtain ⟨rfl, hsz, hP, hK, hD0, hAm⟩ := hv
  have hx := B.exec
  have hb := B.bytes
  have hr := B.returns
  have hts := atoms_spec (ws := wsX4_checkRange) B.pre
  have hown : s.vm.findClass RX4 = some m.cls := findClass_of_methodNamed B.named
  have hlocks := B.notSynchronized
  subst hsz
  have hD := hD0.self (sz := s.heap.size)
  generalize hBe : va_A (wcat []) s.heap.size = B0 at hD hAm
  obtain ⟨A, hAe⟩ : ∃ A, A = va_A [] s.heap.size := ⟨_, rfl⟩
  rw [← hAe]
  have hA : ∀ q : Nat, s.heap.size ≤ q → A q := fun q h => by rw [hAe]; exact Or.inr h
  have hAB : ∀ q : Nat, A q → B0 q := fun q h => by rw [hAe] at h; rw [← hBe]; exact Or.inr (wnone h)
  have hS : va_S A s.heap s.heap [] := va_S.rf
  have hl := lv_entry ([.int k, .int lo, .int hi]) (n := 3) (Nat.le_of_ble_eq_true rfl)
  rw [lg_entry_eq]
  generalize (lg_sl ([.int k, .int lo, .int hi]) ++ List.replicate (3 - (lg_sl ([.int k, .int lo, .int hi])).length) Slot.unset).toArray = ls at hl ⊢
  have hl : lv_has ls 3 [(0, .int k), (1, .int lo), (2, .int hi)] := hl
  refine lv_iload_n hx hb dX4_checkRange_0 rfl (lv_at hl 0 rfl) ?_
  refine lv_iload_n hx hb dX4_checkRange_1 rfl (lv_at hl 1 rfl) ?_
  refine lv_icmp_lt (tgt := 10) hx hb dX4_checkRange_2 (by decide) (fun c_2 => ?_) (fun c_2 => absurd hv c_2)
  obtain ⟨sx, hstr⟩ := hAm.2.2.2.2.1 (305, "an argument is out of range") (by decide +kernel)
  exact vx_throwSW (names := nm2) (A := A) hx hb hfl hown (by decide +kernel) (by decide +kernel) (hts (.classLink RX4 162 "java/lang/IllegalArgumentException") (by decide +kernel)) (hts (.initialized "java/lang/IllegalArgumentException") (by decide +kernel)) hstr (thr_hat hAm (by decide +kernel) (by decide +kernel) (fun w hw => hts w ((by decide +kernel : ∀ w ∈ (vx_atS RX4 166 "java/lang/IllegalArgumentException" nm2).filter goodWord, w ∈ wsX4_checkRange) w hw))) (by decide +kernel) ((hAm.narrow hAB).2.2.1) ((hAm.narrow hAB).2.2.2.1) hS (by rw [hml]; exact hl.1) dX4_checkRange_10 dX4_checkRange_13 dX4_checkRange_14 dX4_checkRange_17 dX4_checkRange_20 (fun x hx => (hnt x hx).elim) (Nat.le_of_ble_eq_true rfl) (Nat.le_of_ble_eq_true rfl) (Nat.le_of_ble_eq_true rfl) (Nat.le_of_ble_eq_true rfl) hlocks (fun t _ h1 h2 => ⟨(), trivial, rfl, xF hS h1 h2⟩) hS.2.2 (Nat.le_of_ble_eq_true rfl) (Nat.le_of_ble_eq_true rfl)
set_option maxHeartbeats 4000000 in
set_option maxRecDepth 100000 in
theorem tX4_checkRange_b (l : Launch) (hfl : l.stackTraces = false) (Γ : wG) (k : Int32) (lo : Int32) (hi : Int32) (hv : ¬ k < lo) (hv2 : ¬ k ≤ hi) : TX l Γ yX4_checkRange wsX4_checkRange ({ frames := 6, cells := 1, slots := 6, locals := 90 }) [.int k, .int lo, .int hi] [] "java/lang/IllegalArgumentException" := by
  intro sz
  refine vx_ofW (cc := cX4_checkRange) (maxL := 3) (ret := none) (by decide) rfl ?_
  intro p e s m args below meth c s₁ B hml hnt hv
  obtain ⟨rfl, hsz, hP, hK, hD0, hAm⟩ := hv
  have hx := B.exec
  have hb := B.bytes
  have hr := B.returns
  have hts := atoms_spec (ws := wsX4_checkRange) B.pre
  have hown : s.vm.findClass RX4 = some m.cls := findClass_of_methodNamed B.named
  have hlocks := B.notSynchronized
  subst hsz
  have hD := hD0.self (sz := s.heap.size)
  generalize hBe : va_A (wcat []) s.heap.size = B0 at hD hAm
  obtain ⟨A, hAe⟩ : ∃ A, A = va_A [] s.heap.size := ⟨_, rfl⟩
  rw [← hAe]
  have hA : ∀ q : Nat, s.heap.size ≤ q → A q := fun q h => by rw [hAe]; exact Or.inr h
  have hAB : ∀ q : Nat, A q → B0 q := fun q h => by rw [hAe] at h; rw [← hBe]; exact Or.inr (wnone h)
  have hS : va_S A s.heap s.heap [] := va_S.rf
  have hl := lv_entry ([.int k, .int lo, .int hi]) (n := 3) (Nat.le_of_ble_eq_true rfl)
  rw [lg_entry_eq]
  generalize (lg_sl ([.int k, .int lo, .int hi]) ++ List.replicate (3 - (lg_sl ([.int k, .int lo, .int hi])).length) Slot.unset).toArray = ls at hl ⊢
  have hl : lv_has ls 3 [(0, .int k), (1, .int lo), (2, .int hi)] := hl
  refine lv_iload_n hx hb dX4_checkRange_0 rfl (lv_at hl 0 rfl) ?_
  refine lv_iload_n hx hb dX4_checkRange_1 rfl (lv_at hl 1 rfl) ?_
  refine lv_icmp_lt (tgt := 10) hx hb dX4_checkRange_2 (by decide) (fun c_2 => absurd c_2 hv) (fun c_2 => ?_)
  refine lv_iload_n hx hb dX4_checkRange_5 rfl (lv_at hl 0 rfl) ?_
  refine lv_iload_n hx hb dX4_checkRange_6 rfl (lv_at hl 2 rfl) ?_
  refine lv_icmp_le (tgt := 21) hx hb dX4_checkRange_7 (by decide) (fun c_7 => absurd c_7 hv2) (fun c_7 => ?_)
  obtain ⟨sx, hstr⟩ := hAm.2.2.2.2.1 (305, "an argument is out of range") (by decide +kernel)
  exact vx_throwSW (names := nm2) (A := A) hx hb hfl hown (by decide +kernel) (by decide +kernel) (hts (.classLink RX4 162 "java/lang/IllegalArgumentException") (by decide +kernel)) (hts (.initialized "java/lang/IllegalArgumentException") (by decide +kernel)) hstr (thr_hat hAm (by decide +kernel) (by decide +kernel) (fun w hw => hts w ((by decide +kernel : ∀ w ∈ (vx_atS RX4 166 "java/lang/IllegalArgumentException" nm2).filter goodWord, w ∈ wsX4_checkRange) w hw))) (by decide +kernel) ((hAm.narrow hAB).2.2.1) ((hAm.narrow hAB).2.2.2.1) hS (by rw [hml]; exact hl.1) dX4_checkRange_10 dX4_checkRange_13 dX4_checkRange_14 dX4_checkRange_17 dX4_checkRange_20 (fun x hx => (hnt x hx).elim) (Nat.le_of_ble_eq_true rfl) (Nat.le_of_ble_eq_true rfl) (Nat.le_of_ble_eq_true rfl) (Nat.le_of_ble_eq_true rfl) hlocks (fun t _ h1 h2 => ⟨(), trivial, rfl, xF hS h1 h2⟩) hS.2.2 (Nat.le_of_ble_eq_true rfl) (Nat.le_of_ble_eq_true rfl)
def fX4_dealShares (Qn : Nat) (v : (Nat → Nat → Int32)) (ck : (Nat → Int32)) : Int32 × (Nat → Nat → Int32) × (Nat → Int32) := (let y_1 := (fX2_drawShares Qn v).1; (y_1, (fX2_drawShares Qn v).2, (fX0_reckon ck (fX2_drawShares Qn v).2)))
set_option maxHeartbeats 4000000 in
set_option maxRecDepth 100000 in
theorem kX4_dealShares (l : Launch) (Γ : wG) (q : Nat) (an : Nat → Nat) (ap : Nat → Nat) (qs : Nat) (ac : Nat → Nat) (au : Nat → Nat) (ax : Nat → Nat) (Qn : Nat) (nn : Int32) (v : (Nat → Nat → Int32)) (ck : (Nat → Int32)) (hqv : v 0 6 = nI Qn) (hq1 : 1 ≤ Qn) (hq8 : Qn ≤ 8) : MI l Γ yX4_dealShares wsX4_dealShares ({ frames := 3, cells := 0, slots := 0, locals := 65 }) [.ref q] [mnC q an ap qs ac au ax nn, plB Γ an v, cuB Γ ac ck] [mnC q an ap qs ac au ax nn, plB Γ an (fX4_dealShares Qn v ck).2.1, cuB Γ ac (fX4_dealShares Qn v ck).2.2] (fX4_dealShares Qn v ck).1 := by
  intro sz
  refine Met.ofW (cc := cX4_dealShares) (maxL := 2) (ret := (some .int)) (by decide) rfl ?_
  intro p e s m args below meth c s₁ B hml hv
  obtain ⟨rfl, hsz, hP, hK, hD0, hAm⟩ := hv
  have hx := B.exec
  have hb := B.bytes
  have hr := B.returns
  have hts := atoms_spec (ws := wsX4_dealShares) B.pre
  have hown : s.vm.findClass RX4 = some m.cls := findClass_of_methodNamed B.named
  have hlocks := B.notSynchronized
  subst hsz
  have hD := hD0.self (sz := s.heap.size)
  generalize hAe : va_A (wcat [mnC q an ap qs ac au ax nn, plB Γ an v, cuB Γ ac ck]) s.heap.size = A at hD hAm ⊢
  have hA : ∀ q : Nat, s.heap.size ≤ q → A q := fun q h => by rw [← hAe]; exact Or.inr h
  have hAB : ∀ q : Nat, A q → A q := fun _ h => h
  have hS : va_S A s.heap s.heap [] := va_S.rf
  have hl := lv_entry ([.ref q]) (n := 2) (Nat.le_of_ble_eq_true rfl)
  rw [lg_entry_eq]
  generalize (lg_sl ([.ref q]) ++ List.replicate (2 - (lg_sl ([.ref q])).length) Slot.unset).toArray = ls at hl ⊢
  have hl : lv_has ls 2 [(0, .ref q)] := hl
  have hi4 : ∀ w ∈ wsX40, w ∈ wsX4_dealShares := by decide +kernel
  have kf10 := hts (.fieldLink RX4 10 "CapsuleKeepers" "now" "LCapsuleKeepers$Place;") (by decide +kernel)
  have kf30 := hts (.fieldLink RX4 30 "CapsuleKeepers" "curves" "LCapsuleKeepers$Curves;") (by decide +kernel)
  have hq : (fX4_dealShares Qn v ck) = (let y_1 := (fX2_drawShares Qn v).1; (y_1, (fX2_drawShares Qn v).2, (fX0_reckon ck (fX2_drawShares Qn v).2))) := rfl
  refine lv_aload_n hx hb dX4_dealShares_0 rfl (lv_at hl 0 rfl) ?_
  refine va_get (D := Γ.1) (ci := 4) (v := .ref (an 0)) (C := RX4) (T := TX4) (N := 7) hx hb hts hi4 hown hK hP 0 rfl rfl 0 (by decide) kf10 (fun _ h9 => h9) rfl dX4_dealShares_1 ?_
  refine cMI (bc' := [plB Γ an (fX2_drawShares Qn v).2]) (va_runV (As := []) (rest := []) ⟨hx, hb, hml, hown, hts⟩ ((kX2_drawShares l Γ an Qn v (by first | assumption | omega) (by first | assumption | omega) (by first | assumption | omega)) _) (cwV 0 hts gX4_dealShares_X2_drawShares rfl rfl rfl (by decide +kernel) ⟨Nat.le_of_ble_eq_true rfl, Nat.le_of_ble_eq_true rfl⟩) ⟨wPre_blind, va_recv hK hP (ci := 2) (q0 := 1) rfl rfl, wPre_mk hP hD hK hS hA hAB hAm [1] rfl rfl⟩ rfl rfl hl.1 rfl (lv_room (Nat.le_of_ble_eq_true rfl)) dX4_dealShares_4 ⟨Nat.zero_le _, Nat.zero_le _⟩) hP hD hS hA [1] rfl rfl (bs' := [mnC q an ap qs ac au ax nn, plB Γ an (fX2_drawShares Qn v).2, cuB Γ ac ck]) rfl (fun H locs hP hD hS => ?_)
  refine lv_topi (fun y_1 ey_1 => ?_)
  replace hq : (fX4_dealShares Qn v ck) = (y_1, (fX2_drawShares Qn v).2, (fX0_reckon ck (fX2_drawShares Qn v).2)) := hq.trans (by first | rw [ey_1] | rfl)
  refine lv_istore_n (lv' := [(1, .int y_1), (0, .ref q)]) hx hb dX4_dealShares_7 rfl hl (by decide) rfl (fun ls hl => ?_)
  refine lv_aload_n hx hb dX4_dealShares_8 rfl (lv_at hl 1 rfl) ?_
  refine va_get (D := Γ.1) (ci := 4) (v := .ref (ac 0)) (C := RX4) (T := TX4) (N := 7) hx hb hts hi4 hown hK hP 0 rfl rfl 4 (by decide) kf30 (fun _ h9 => h9) rfl dX4_dealShares_9 ?_
  refine lv_aload_n hx hb dX4_dealShares_12 rfl (lv_at hl 1 rfl) ?_
  refine va_get (D := Γ.1) (ci := 4) (v := .ref (an 0)) (C := RX4) (T := TX4) (N := 7) hx hb hts hi4 hown hK hP 0 rfl rfl 0 (by decide) kf10 (fun _ h9 => h9) rfl dX4_dealShares_13 ?_
  refine cMV (bc' := [cuB Γ ac (fX0_reckon ck (fX2_drawShares Qn v).2), plB Γ an (fX2_drawShares Qn v).2]) (va_runV (As := [.ref (an 0)]) (rest := []) ⟨hx, hb, hml, hown, hts⟩ ((kX0_reckon l Γ ac an ck (fX2_drawShares Qn v).2) _) (cwV 1 hts gX4_dealShares_X0_reckon rfl rfl rfl (by decide +kernel) ⟨Nat.le_of_ble_eq_true rfl, Nat.le_of_ble_eq_true rfl⟩) ⟨wPre_blind, va_recv hK hP (ci := 0) (q0 := 7) rfl rfl, wPre_mk hP hD hK hS hA hAB hAm [2, 1] rfl rfl⟩ rfl rfl hl.1 rfl (lv_room (Nat.le_of_ble_eq_true rfl)) dX4_dealShares_16 ⟨Nat.zero_le _, Nat.zero_le _⟩) hP hD hS hA [2, 1] rfl rfl (bs' := [mnC q an ap qs ac au ax nn, plB Γ an (fX2_drawShares Qn v).2, cuB Γ ac (fX0_reckon ck (fX2_drawShares Qn v).2)]) rfl (fun H locs hP hD hS => ?_)
  refine lv_iload_n hx hb dX4_dealShares_19 rfl (lv_at hl 0 rfl) ?_
  exact W.iret (v := y_1) hx hb hr (fun t ht hW => eMI (by rw [hq]; exact hP) hS ht (by rw [hq])) hS.2.2 dX4_dealShares_20
def fX4_refusal (v : (Nat → Nat → Int32)) (ck : (Nat → Int32)) (so : (Nat → Int32)) (sp : (Nat → Int32)) (g : Int32) : Int32 × (Nat → Int32) × (Nat → Int32) := (let r_1 := (fX3_look so sp v); (if (v 0 4) = (nI 1) then (if g = 0 then ((nI 2), r_1.1, r_1.2) else (if (fX2_allLive v g) = 0 then ((nI 2), r_1.1, r_1.2) else (if (fX3_pairsIn r_1.2 g) ≤ 0 then (if (v 0 7) ≤ (v 0 3) then (if (v 0 6) ≤ (fbit (fX3_sharesOf r_1.1 g)) then (if (fX0_keyOf ck (fX3_sharesOf r_1.1 g)) = (v 0 5) then ((nI 0), r_1.1, r_1.2) else ((nI 6), r_1.1, r_1.2)) else ((nI 5), r_1.1, r_1.2)) else ((nI 4), r_1.1, r_1.2)) else ((nI 3), r_1.1, r_1.2)))) else ((nI 1), r_1.1, r_1.2)))
set_option maxHeartbeats 4000000 in
set_option maxRecDepth 100000 in
theorem kX4_refusal (l : Launch) (Γ : wG) (q : Nat) (an : Nat → Nat) (ap : Nat → Nat) (qs : Nat) (ac : Nat → Nat) (au : Nat → Nat) (ax : Nat → Nat) (nn : Int32) (v : (Nat → Nat → Int32)) (ck : (Nat → Int32)) (so : (Nat → Int32)) (sp : (Nat → Int32)) (g : Int32) : MI l Γ yX4_refusal wsX4_refusal ({ frames := 2, cells := 0, slots := 0, locals := 48 }) [.ref q, .int g] [mnC q an ap qs ac au ax nn, plB Γ an v, cuB Γ ac ck, suB Γ au so sp] [mnC q an ap qs ac au ax nn, plB Γ an v, cuB Γ ac ck, suB Γ au (fX4_refusal v ck so sp g).2.1 (fX4_refusal v ck so sp g).2.2] (fX4_refusal v ck so sp g).1 := by
  intro sz
  refine Met.ofW (cc := cX4_refusal) (maxL := 2) (ret := (some .int)) (by decide) rfl ?_
  intro p e s m args below meth c s₁ B hml hv
  obtain ⟨rfl, hsz, hP, hK, hD0, hAm⟩ := hv
  have hx := B.exec
  have hb := B.bytes
  have hr := B.returns
  have hts := atoms_spec (ws := wsX4_refusal) B.pre
  have hown : s.vm.findClass RX4 = some m.cls := findClass_of_methodNamed B.named
  have hlocks := B.notSynchronized
  subst hsz
  have hD := hD0.self (sz := s.heap.size)
  generalize hAe : va_A (wcat [mnC q an ap qs ac au ax nn, plB Γ an v, cuB Γ ac ck, suB Γ au so sp]) s.heap.size = A at hD hAm ⊢
  have hA : ∀ q : Nat, s.heap.size ≤ q → A q := fun q h => by rw [← hAe]; exact Or.inr h
  have hAB : ∀ q : Nat, A q → A q := fun _ h => h
  have hS : va_S A s.heap s.heap [] := va_S.rf
  have hl := lv_entry ([.ref q, .int g]) (n := 2) (Nat.le_of_ble_eq_true rfl)
  rw [lg_entry_eq]
  generalize (lg_sl ([.ref q, .int g]) ++ List.replicate (2 - (lg_sl ([.ref q, .int g])).length) Slot.unset).toArray = ls at hl ⊢
  have hl : lv_has ls 2 [(0, .ref q), (1, .int g)] := hl
  have hi2 : ∀ w ∈ wsX20, w ∈ wsX4_refusal := by decide +kernel
  have hi4 : ∀ w ∈ wsX40, w ∈ wsX4_refusal := by decide +kernel
  have kf10 := hts (.fieldLink RX4 10 "CapsuleKeepers" "now" "LCapsuleKeepers$Place;") (by decide +kernel)
  have kf132 := hts (.fieldLink RX4 132 "CapsuleKeepers$Place" "day" "I") (by decide +kernel)
  have kf202 := hts (.fieldLink RX4 202 "CapsuleKeepers$Place" "stage" "I") (by decide +kernel)
  have kf205 := hts (.fieldLink RX4 205 "CapsuleKeepers$Place" "quorum" "I") (by decide +kernel)
  have kf208 := hts (.fieldLink RX4 208 "CapsuleKeepers$Place" "date" "I") (by decide +kernel)
  have kf30 := hts (.fieldLink RX4 30 "CapsuleKeepers" "curves" "LCapsuleKeepers$Curves;") (by decide +kernel)
  have kf319 := hts (.fieldLink RX4 319 "CapsuleKeepers$Place" "key" "I") (by decide +kernel)
  have kf37 := hts (.fieldLink RX4 37 "CapsuleKeepers" "survey" "LCapsuleKeepers$Survey;") (by decide +kernel)
  have hq : (fX4_refusal v ck so sp g) = (let r_1 := (fX3_look so sp v); (if (v 0 4) = (nI 1) then (if g = 0 then ((nI 2), r_1.1, r_1.2) else (if (fX2_allLive v g) = 0 then ((nI 2), r_1.1, r_1.2) else (if (fX3_pairsIn r_1.2 g) ≤ 0 then (if (v 0 7) ≤ (v 0 3) then (if (v 0 6) ≤ (fbit (fX3_sharesOf r_1.1 g)) then (if (fX0_keyOf ck (fX3_sharesOf r_1.1 g)) = (v 0 5) then ((nI 0), r_1.1, r_1.2) else ((nI 6), r_1.1, r_1.2)) else ((nI 5), r_1.1, r_1.2)) else ((nI 4), r_1.1, r_1.2)) else ((nI 3), r_1.1, r_1.2)))) else ((nI 1), r_1.1, r_1.2))) := rfl
  refine lv_aload_n hx hb dX4_refusal_0 rfl (lv_at hl 0 rfl) ?_
  refine va_get (D := Γ.1) (ci := 4) (v := .ref (au 0)) (C := RX4) (T := TX4) (N := 7) hx hb hts hi4 hown hK hP 0 rfl rfl 5 (by decide) kf37 (fun _ h9 => h9) rfl dX4_refusal_1 ?_
  refine lv_aload_n hx hb dX4_refusal_4 rfl (lv_at hl 0 rfl) ?_
  refine va_get (D := Γ.1) (ci := 4) (v := .ref (an 0)) (C := RX4) (T := TX4) (N := 7) hx hb hts hi4 hown hK hP 0 rfl rfl 0 (by decide) kf10 (fun _ h9 => h9) rfl dX4_refusal_5 ?_
  refine cMV (bc' := [suB Γ au (fX3_look so sp v).1 (fX3_look so sp v).2, plB Γ an v]) (va_runV (As := [.ref (an 0)]) (rest := []) ⟨hx, hb, hml, hown, hts⟩ ((kX3_look l Γ au an so sp v) _) (cwV 1 hts gX4_refusal_X3_look rfl rfl rfl (by decide +kernel) ⟨Nat.le_of_ble_eq_true rfl, Nat.le_of_ble_eq_true rfl⟩) ⟨wPre_blind, va_recv hK hP (ci := 3) (q0 := 9) rfl rfl, wPre_mk hP hD hK hS hA hAB hAm [3, 1] rfl rfl⟩ rfl rfl hl.1 rfl (lv_room (Nat.le_of_ble_eq_true rfl)) dX4_refusal_8 ⟨Nat.zero_le _, Nat.zero_le _⟩) hP hD hS hA [3, 1] rfl rfl (bs' := [mnC q an ap qs ac au ax nn, plB Γ an v, cuB Γ ac ck, suB Γ au (fX3_look so sp v).1 (fX3_look so sp v).2]) rfl (fun H locs hP hD hS => ?_)
  generalize hr_1 : (fX3_look so sp v) = r_1 at hP hD hq
  replace hq : (fX4_refusal v ck so sp g) = (if (v 0 4) = (nI 1) then (if g = 0 then ((nI 2), r_1.1, r_1.2) else (if (fX2_allLive v g) = 0 then ((nI 2), r_1.1, r_1.2) else (if (fX3_pairsIn r_1.2 g) ≤ 0 then (if (v 0 7) ≤ (v 0 3) then (if (v 0 6) ≤ (fbit (fX3_sharesOf r_1.1 g)) then (if (fX0_keyOf ck (fX3_sharesOf r_1.1 g)) = (v 0 5) then ((nI 0), r_1.1, r_1.2) else ((nI 6), r_1.1, r_1.2)) else ((nI 5), r_1.1, r_1.2)) else ((nI 4), r_1.1, r_1.2)) else ((nI 3), r_1.1, r_1.2)))) else ((nI 1), r_1.1, r_1.2)) := hq
  refine lv_aload_n hx hb dX4_refusal_11 rfl (lv_at hl 0 rfl) ?_
  refine va_get (D := Γ.1) (ci := 4) (v := .ref (an 0)) (C := RX4) (T := TX4) (N := 7) hx hb hts hi4 hown hK hP 0 rfl rfl 0 (by decide) kf10 (fun _ h9 => h9) rfl dX4_refusal_12 ?_
  refine va_get (D := Γ.1) (ci := 2) (v := .int (v 0 4)) (C := RX2) (T := TX2) (N := 16) hx hb hts hi2 hown hK hP 1 rfl rfl 9 (by decide) kf202 (fun _ h9 => h9) rfl dX4_refusal_15 ?_
  refine lv_iconst (v := (nI 1)) hx hb dX4_refusal_18 (by decide) ?_
  refine lv_icmp_eq (tgt := 24) hx hb dX4_refusal_19 (by decide) (fun c_2 => ?_) (fun c_2 => ?_)
  · have hq := hq.trans (if_pos c_2)
    refine lv_iload_n hx hb dX4_refusal_24 rfl (lv_at hl 1 rfl) ?_
    refine lv_if_eq (tgt := 39) hx hb dX4_refusal_25 (by decide) (fun c_3 => ?_) (fun c_3 => ?_)
    · have hq := hq.trans (if_pos c_3)
      refine lv_iconst (v := (nI 2)) hx hb dX4_refusal_39 (by decide) ?_
      exact W.iret (v := (nI 2)) hx hb hr (fun t ht hW => eMI (by rw [hq]; exact hP) hS ht (by rw [hq])) hS.2.2 dX4_refusal_40
    · have hq := hq.trans (if_neg c_3)
      refine lv_aload_n hx hb dX4_refusal_28 rfl (lv_at hl 0 rfl) ?_
      refine va_get (D := Γ.1) (ci := 4) (v := .ref (an 0)) (C := RX4) (T := TX4) (N := 7) hx hb hts hi4 hown hK hP 0 rfl rfl 0 (by decide) kf10 (fun _ h9 => h9) rfl dX4_refusal_29 ?_
      refine lv_iload_n hx hb dX4_refusal_32 rfl (lv_at hl 1 rfl) ?_
      refine cLI (va_runV (As := [.int g]) (rest := []) ⟨hx, hb, hml, hown, hts⟩ ((kX2_allLive l Γ an v g) _) (cwV 1 hts gX4_refusal_X2_allLive rfl rfl rfl (by decide +kernel) ⟨Nat.le_of_ble_eq_true rfl, Nat.le_of_ble_eq_true rfl⟩) ⟨wPre_blind, va_recv hK hP (ci := 2) (q0 := 1) rfl rfl, wPre_mk hP hD hK hS hA hAB hAm [1] rfl rfl⟩ rfl rfl hl.1 rfl (lv_room (Nat.le_of_ble_eq_true rfl)) dX4_refusal_33 ⟨Nat.zero_le _, Nat.zero_le _⟩) hP hS hA (fun H locs hP hS => ?_)
      refine lv_if_ne (tgt := 41) hx hb dX4_refusal_36 (by decide) (fun c_4 => ?_) (fun c_4 => ?_)
      · have hq := hq.trans (if_neg c_4)
        refine lv_aload_n hx hb dX4_refusal_41 rfl (lv_at hl 0 rfl) ?_
        refine va_get (D := Γ.1) (ci := 4) (v := .ref (au 0)) (C := RX4) (T := TX4) (N := 7) hx hb hts hi4 hown hK hP 0 rfl rfl 5 (by decide) kf37 (fun _ h9 => h9) rfl dX4_refusal_42 ?_
        refine lv_iload_n hx hb dX4_refusal_45 rfl (lv_at hl 1 rfl) ?_
        refine cLI (va_runV (As := [.int g]) (rest := []) ⟨hx, hb, hml, hown, hts⟩ ((kX3_pairsIn l Γ au r_1.1 r_1.2 g) _) (cwV 1 hts gX4_refusal_X3_pairsIn rfl rfl rfl (by decide +kernel) ⟨Nat.le_of_ble_eq_true rfl, Nat.le_of_ble_eq_true rfl⟩) ⟨wPre_blind, va_recv hK hP (ci := 3) (q0 := 9) rfl rfl, wPre_mk hP hD hK hS hA hAB hAm [3] rfl rfl⟩ rfl rfl hl.1 rfl (lv_room (Nat.le_of_ble_eq_true rfl)) dX4_refusal_46 ⟨Nat.zero_le _, Nat.zero_le _⟩) hP hS hA (fun H locs hP hS => ?_)
        refine lv_if_le (tgt := 54) hx hb dX4_refusal_49 (by decide) (fun c_5 => ?_) (fun c_5 => ?_)
        · have hq := hq.trans (if_pos c_5)
          refine lv_aload_n hx hb dX4_refusal_54 rfl (lv_at hl 0 rfl) ?_
          refine va_get (D := Γ.1) (ci := 4) (v := .ref (an 0)) (C := RX4) (T := TX4) (N := 7) hx hb hts hi4 hown hK hP 0 rfl rfl 0 (by decide) kf10 (fun _ h9 => h9) rfl dX4_refusal_55 ?_
          refine va_get (D := Γ.1) (ci := 2) (v := .int (v 0 3)) (C := RX2) (T := TX2) (N := 16) hx hb hts hi2 hown hK hP 1 rfl rfl 8 (by decide) kf132 (fun _ h9 => h9) rfl dX4_refusal_58 ?_
          refine lv_aload_n hx hb dX4_refusal_61 rfl (lv_at hl 0 rfl) ?_
          refine va_get (D := Γ.1) (ci := 4) (v := .ref (an 0)) (C := RX4) (T := TX4) (N := 7) hx hb hts hi4 hown hK hP 0 rfl rfl 0 (by decide) kf10 (fun _ h9 => h9) rfl dX4_refusal_62 ?_
          refine va_get (D := Γ.1) (ci := 2) (v := .int (v 0 7)) (C := RX2) (T := TX2) (N := 16) hx hb hts hi2 hown hK hP 1 rfl rfl 12 (by decide) kf208 (fun _ h9 => h9) rfl dX4_refusal_65 ?_
          refine lv_icmp_ge (tgt := 73) hx hb dX4_refusal_68 (by decide) (fun c_6 => ?_) (fun c_6 => ?_)
          · have hq := hq.trans (if_pos c_6)
            refine lv_aload_n hx hb dX4_refusal_73 rfl (lv_at hl 0 rfl) ?_
            refine va_get (D := Γ.1) (ci := 4) (v := .ref (au 0)) (C := RX4) (T := TX4) (N := 7) hx hb hts hi4 hown hK hP 0 rfl rfl 5 (by decide) kf37 (fun _ h9 => h9) rfl dX4_refusal_74 ?_
            refine lv_iload_n hx hb dX4_refusal_77 rfl (lv_at hl 1 rfl) ?_
            refine cLI (va_runV (As := [.int g]) (rest := []) ⟨hx, hb, hml, hown, hts⟩ ((kX3_sharesOf l Γ au r_1.1 r_1.2 g) _) (cwV 1 hts gX4_refusal_X3_sharesOf rfl rfl rfl (by decide +kernel) ⟨Nat.le_of_ble_eq_true rfl, Nat.le_of_ble_eq_true rfl⟩) ⟨wPre_blind, va_recv hK hP (ci := 3) (q0 := 9) rfl rfl, wPre_mk hP hD hK hS hA hAB hAm [3] rfl rfl⟩ rfl rfl hl.1 rfl (lv_room (Nat.le_of_ble_eq_true rfl)) dX4_refusal_78 ⟨Nat.zero_le _, Nat.zero_le _⟩) hP hS hA (fun H locs hP hS => ?_)
            refine cLI (va_runS (As := [.int (fX3_sharesOf r_1.1 g)]) (rest := []) ⟨hx, hb, hml, hown, hts⟩ ((kJ6_bitCount_0f7a4 l Γ (fX3_sharesOf r_1.1 g)) _) (va_cwS 1 hts gX4_refusal_J6_bitCount_0f7a4 rfl rfl rfl (by decide +kernel) ⟨Nat.le_of_ble_eq_true rfl, Nat.le_of_ble_eq_true rfl⟩) ⟨wPre_blind, wPre_mk hP hD hK hS hA hAB hAm [] rfl rfl⟩ rfl rfl hl.1 rfl (lv_room (Nat.le_of_ble_eq_true rfl)) dX4_refusal_81 ⟨Nat.zero_le _, Nat.zero_le _⟩) hP hS hA (fun H locs hP hS => ?_)
            refine lv_aload_n hx hb dX4_refusal_84 rfl (lv_at hl 0 rfl) ?_
            refine va_get (D := Γ.1) (ci := 4) (v := .ref (an 0)) (C := RX4) (T := TX4) (N := 7) hx hb hts hi4 hown hK hP 0 rfl rfl 0 (by decide) kf10 (fun _ h9 => h9) rfl dX4_refusal_85 ?_
            refine va_get (D := Γ.1) (ci := 2) (v := .int (v 0 6)) (C := RX2) (T := TX2) (N := 16) hx hb hts hi2 hown hK hP 1 rfl rfl 11 (by decide) kf205 (fun _ h9 => h9) rfl dX4_refusal_88 ?_
            refine lv_icmp_ge (tgt := 96) hx hb dX4_refusal_91 (by decide) (fun c_7 => ?_) (fun c_7 => ?_)
            · have hq := hq.trans (if_pos c_7)
              refine lv_aload_n hx hb dX4_refusal_96 rfl (lv_at hl 0 rfl) ?_
              refine va_get (D := Γ.1) (ci := 4) (v := .ref (ac 0)) (C := RX4) (T := TX4) (N := 7) hx hb hts hi4 hown hK hP 0 rfl rfl 4 (by decide) kf30 (fun _ h9 => h9) rfl dX4_refusal_97 ?_
              refine lv_aload_n hx hb dX4_refusal_100 rfl (lv_at hl 0 rfl) ?_
              refine va_get (D := Γ.1) (ci := 4) (v := .ref (au 0)) (C := RX4) (T := TX4) (N := 7) hx hb hts hi4 hown hK hP 0 rfl rfl 5 (by decide) kf37 (fun _ h9 => h9) rfl dX4_refusal_101 ?_
              refine lv_iload_n hx hb dX4_refusal_104 rfl (lv_at hl 1 rfl) ?_
              refine cLI (va_runV (As := [.int g]) (rest := [.ref (ac 0)]) ⟨hx, hb, hml, hown, hts⟩ ((kX3_sharesOf l Γ au r_1.1 r_1.2 g) _) (cwV 1 hts gX4_refusal_X3_sharesOf rfl rfl rfl (by decide +kernel) ⟨Nat.le_of_ble_eq_true rfl, Nat.le_of_ble_eq_true rfl⟩) ⟨wPre_blind, va_recv hK hP (ci := 3) (q0 := 9) rfl rfl, wPre_mk hP hD hK hS hA hAB hAm [3] rfl rfl⟩ rfl rfl hl.1 rfl (lv_room (Nat.le_of_ble_eq_true rfl)) dX4_refusal_105 ⟨Nat.zero_le _, Nat.zero_le _⟩) hP hS hA (fun H locs hP hS => ?_)
              refine cLI (va_runV (As := [.int (fX3_sharesOf r_1.1 g)]) (rest := []) ⟨hx, hb, hml, hown, hts⟩ ((kX0_keyOf l Γ ac ck (fX3_sharesOf r_1.1 g)) _) (cwV 1 hts gX4_refusal_X0_keyOf rfl rfl rfl (by decide +kernel) ⟨Nat.le_of_ble_eq_true rfl, Nat.le_of_ble_eq_true rfl⟩) ⟨wPre_blind, va_recv hK hP (ci := 0) (q0 := 7) rfl rfl, wPre_mk hP hD hK hS hA hAB hAm [2] rfl rfl⟩ rfl rfl hl.1 rfl (lv_room (Nat.le_of_ble_eq_true rfl)) dX4_refusal_108 ⟨Nat.zero_le _, Nat.zero_le _⟩) hP hS hA (fun H locs hP hS => ?_)
              refine lv_aload_n hx hb dX4_refusal_111 rfl (lv_at hl 0 rfl) ?_
              refine va_get (D := Γ.1) (ci := 4) (v := .ref (an 0)) (C := RX4) (T := TX4) (N := 7) hx hb hts hi4 hown hK hP 0 rfl rfl 0 (by decide) kf10 (fun _ h9 => h9) rfl dX4_refusal_112 ?_
              refine va_get (D := Γ.1) (ci := 2) (v := .int (v 0 5)) (C := RX2) (T := TX2) (N := 16) hx hb hts hi2 hown hK hP 1 rfl rfl 10 (by decide) kf319 (fun _ h9 => h9) rfl dX4_refusal_115 ?_
              refine lv_icmp_ne (tgt := 125) hx hb dX4_refusal_118 (by decide) (fun c_8 => ?_) (fun c_8 => ?_)
              · have hq := hq.trans (if_neg c_8)
                refine lv_bipush (v := (nI 6)) hx hb dX4_refusal_125 (by decide) ?_
                exact W.iret (v := (nI 6)) hx hb hr (fun t ht hW => eMI (by rw [hq]; exact hP) hS ht (by rw [hq])) hS.2.2 dX4_refusal_127
              · have hq := hq.trans (if_pos c_8)
                refine lv_iconst (v := (nI 0)) hx hb dX4_refusal_121 (by decide) ?_
                refine lv_goto (tgt := 127) hx hb dX4_refusal_122 (by decide) ?_
                exact W.iret (v := (nI 0)) hx hb hr (fun t ht hW => eMI (by rw [hq]; exact hP) hS ht (by rw [hq])) hS.2.2 dX4_refusal_127
            · have hq := hq.trans (if_neg c_7)
              refine lv_iconst (v := (nI 5)) hx hb dX4_refusal_94 (by decide) ?_
              exact W.iret (v := (nI 5)) hx hb hr (fun t ht hW => eMI (by rw [hq]; exact hP) hS ht (by rw [hq])) hS.2.2 dX4_refusal_95
          · have hq := hq.trans (if_neg c_6)
            refine lv_iconst (v := (nI 4)) hx hb dX4_refusal_71 (by decide) ?_
            exact W.iret (v := (nI 4)) hx hb hr (fun t ht hW => eMI (by rw [hq]; exact hP) hS ht (by rw [hq])) hS.2.2 dX4_refusal_72
        · have hq := hq.trans (if_neg c_5)
          refine lv_iconst (v := (nI 3)) hx hb dX4_refusal_52 (by decide) ?_
          exact W.iret (v := (nI 3)) hx hb hr (fun t ht hW => eMI (by rw [hq]; exact hP) hS ht (by rw [hq])) hS.2.2 dX4_refusal_53
      · have hq := hq.trans (if_pos c_4)
        refine lv_iconst (v := (nI 2)) hx hb dX4_refusal_39 (by decide) ?_
        exact W.iret (v := (nI 2)) hx hb hr (fun t ht hW => eMI (by rw [hq]; exact hP) hS ht (by rw [hq])) hS.2.2 dX4_refusal_40
  · have hq := hq.trans (if_neg c_2)
    refine lv_iconst (v := (nI 1)) hx hb dX4_refusal_22 (by decide) ?_
    exact W.iret (v := (nI 1)) hx hb hr (fun t ht hW => eMI (by rw [hq]; exact hP) hS ht (by rw [hq])) hS.2.2 dX4_refusal_23
def fX4_findsKey (ck : (Nat → Int32)) (so : (Nat → Int32)) (w : (Nat → Nat → Int32)) (g : Int32) : Int32 := (if (w 0 4) = (nI 1) then (if (fX2_allLive w g) = 0 then ((nI 0)) else (if (fbit (fX3_sharesOf so g)) < (w 0 6) then ((nI 0)) else (if (fX0_keyOf ck (fX3_sharesOf so g)) = (w 0 5) then ((nI 1)) else ((nI 0))))) else ((nI 0)))
set_option maxHeartbeats 4000000 in
set_option maxRecDepth 100000 in
theorem kX4_findsKey (l : Launch) (Γ : wG) (q : Nat) (an : Nat → Nat) (ap : Nat → Nat) (qs : Nat) (ac : Nat → Nat) (au : Nat → Nat) (ax : Nat → Nat) (b : Nat → Nat) (nn : Int32) (ck : (Nat → Int32)) (so : (Nat → Int32)) (sp : (Nat → Int32)) (w : (Nat → Nat → Int32)) (g : Int32) : LI l Γ yX4_findsKey wsX4_findsKey ({ frames := 1, cells := 0, slots := 0, locals := 21 }) [.ref q, .ref (b 0), .int g] [mnC q an ap qs ac au ax nn, cuB Γ ac ck, suB Γ au so sp, plB Γ b w] (fX4_findsKey ck so w g) := by
  intro sz
  refine Met.ofW (cc := cX4_findsKey) (maxL := 4) (ret := (some .boolean)) (by decide) rfl ?_
  intro p e s m args below meth c s₁ B hml hv
  obtain ⟨rfl, hsz, hP, hK, hD0, hAm⟩ := hv
  have hx := B.exec
  have hb := B.bytes
  have hr := B.returns
  have hts := atoms_spec (ws := wsX4_findsKey) B.pre
  have hown : s.vm.findClass RX4 = some m.cls := findClass_of_methodNamed B.named
  have hlocks := B.notSynchronized
  subst hsz
  have hD := hD0.self (sz := s.heap.size)
  generalize hBe : va_A (wcat [mnC q an ap qs ac au ax nn, cuB Γ ac ck, suB Γ au so sp, plB Γ b w]) s.heap.size = B0 at hD hAm
  obtain ⟨A, hAe⟩ : ∃ A, A = va_A [] s.heap.size := ⟨_, rfl⟩
  rw [← hAe]
  have hA : ∀ q : Nat, s.heap.size ≤ q → A q := fun q h => by rw [hAe]; exact Or.inr h
  have hAB : ∀ q : Nat, A q → B0 q := fun q h => by rw [hAe] at h; rw [← hBe]; exact Or.inr (wnone h)
  have hS : va_S A s.heap s.heap [] := va_S.rf
  have hl := lv_entry ([.ref q, .ref (b 0), .int g]) (n := 4) (Nat.le_of_ble_eq_true rfl)
  rw [lg_entry_eq]
  generalize (lg_sl ([.ref q, .ref (b 0), .int g]) ++ List.replicate (4 - (lg_sl ([.ref q, .ref (b 0), .int g])).length) Slot.unset).toArray = ls at hl ⊢
  have hl : lv_has ls 4 [(0, .ref q), (1, .ref (b 0)), (2, .int g)] := hl
  have hi2 : ∀ w ∈ wsX20, w ∈ wsX4_findsKey := by decide +kernel
  have hi4 : ∀ w ∈ wsX40, w ∈ wsX4_findsKey := by decide +kernel
  have kf202 := hts (.fieldLink RX4 202 "CapsuleKeepers$Place" "stage" "I") (by decide +kernel)
  have kf205 := hts (.fieldLink RX4 205 "CapsuleKeepers$Place" "quorum" "I") (by decide +kernel)
  have kf30 := hts (.fieldLink RX4 30 "CapsuleKeepers" "curves" "LCapsuleKeepers$Curves;") (by decide +kernel)
  have kf319 := hts (.fieldLink RX4 319 "CapsuleKeepers$Place" "key" "I") (by decide +kernel)
  have kf37 := hts (.fieldLink RX4 37 "CapsuleKeepers" "survey" "LCapsuleKeepers$Survey;") (by decide +kernel)
  have hq : (fX4_findsKey ck so w g) = (if (w 0 4) = (nI 1) then (if (fX2_allLive w g) = 0 then ((nI 0)) else (if (fbit (fX3_sharesOf so g)) < (w 0 6) then ((nI 0)) else (if (fX0_keyOf ck (fX3_sharesOf so g)) = (w 0 5) then ((nI 1)) else ((nI 0))))) else ((nI 0))) := rfl
  refine lv_aload_n hx hb dX4_findsKey_0 rfl (lv_at hl 0 rfl) ?_
  refine va_get (D := Γ.1) (ci := 4) (v := .ref (au 0)) (C := RX4) (T := TX4) (N := 7) hx hb hts hi4 hown hK hP 0 rfl rfl 5 (by decide) kf37 (fun _ h9 => h9) rfl dX4_findsKey_1 ?_
  refine lv_iload_n hx hb dX4_findsKey_4 rfl (lv_at hl 2 rfl) ?_
  refine cLI (va_runV (As := [.int g]) (rest := []) ⟨hx, hb, hml, hown, hts⟩ ((kX3_sharesOf l Γ au so sp g) _) (cwV 1 hts gX4_findsKey_X3_sharesOf rfl rfl rfl (by decide +kernel) ⟨Nat.le_of_ble_eq_true rfl, Nat.le_of_ble_eq_true rfl⟩) ⟨wPre_blind, va_recv hK hP (ci := 3) (q0 := 3) rfl rfl, wPre_mk hP hD hK hS hA hAB hAm [2] rfl rfl⟩ rfl rfl hl.1 rfl (lv_room (Nat.le_of_ble_eq_true rfl)) dX4_findsKey_5 ⟨Nat.zero_le _, Nat.zero_le _⟩) hP hS hA (fun H locs hP hS => ?_)
  refine lv_istore_n (lv' := [(3, .int (fX3_sharesOf so g)), (0, .ref q), (1, .ref (b 0)), (2, .int g)]) hx hb dX4_findsKey_8 rfl hl (by decide) rfl (fun ls hl => ?_)
  refine lv_aload_n hx hb dX4_findsKey_9 rfl (lv_at hl 2 rfl) ?_
  refine va_get (D := Γ.1) (ci := 2) (v := .int (w 0 4)) (C := RX2) (T := TX2) (N := 16) hx hb hts hi2 hown hK hP 6 rfl rfl 9 (by decide) kf202 (fun _ h9 => h9) rfl dX4_findsKey_10 ?_
  refine lv_iconst (v := (nI 1)) hx hb dX4_findsKey_13 (by decide) ?_
  refine lv_icmp_ne (tgt := 55) hx hb dX4_findsKey_14 (by decide) (fun c_1 => ?_) (fun c_1 => ?_)
  · have hq := hq.trans (if_neg c_1)
    refine lv_iconst (v := (nI 0)) hx hb dX4_findsKey_55 (by decide) ?_
    exact W.zret (v := (nI 0)) hx hb hr (by first | rfl | decide) (fun t ht hW => eLI hS ht (by rw [hq])) hS.2.2 dX4_findsKey_56
  · have hq := hq.trans (if_pos c_1)
    refine lv_aload_n hx hb dX4_findsKey_17 rfl (lv_at hl 2 rfl) ?_
    refine lv_iload_n hx hb dX4_findsKey_18 rfl (lv_at hl 3 rfl) ?_
    refine cLI (va_runV (As := [.int g]) (rest := []) ⟨hx, hb, hml, hown, hts⟩ ((kX2_allLive l Γ b w g) _) (cwV 1 hts gX4_findsKey_X2_allLive rfl rfl rfl (by decide +kernel) ⟨Nat.le_of_ble_eq_true rfl, Nat.le_of_ble_eq_true rfl⟩) ⟨wPre_blind, va_recv hK hP (ci := 2) (q0 := 6) rfl rfl, wPre_mk hP hD hK hS hA hAB hAm [3] rfl rfl⟩ rfl rfl hl.1 rfl (lv_room (Nat.le_of_ble_eq_true rfl)) dX4_findsKey_19 ⟨Nat.zero_le _, Nat.zero_le _⟩) hP hS hA (fun H locs hP hS => ?_)
    refine lv_if_eq (tgt := 55) hx hb dX4_findsKey_22 (by decide) (fun c_2 => ?_) (fun c_2 => ?_)
    · have hq := hq.trans (if_pos c_2)
      refine lv_iconst (v := (nI 0)) hx hb dX4_findsKey_55 (by decide) ?_
      exact W.zret (v := (nI 0)) hx hb hr (by first | rfl | decide) (fun t ht hW => eLI hS ht (by rw [hq])) hS.2.2 dX4_findsKey_56
    · have hq := hq.trans (if_neg c_2)
      refine lv_iload_n hx hb dX4_findsKey_25 rfl (lv_at hl 0 rfl) ?_
      refine cLI (va_runS (As := [.int (fX3_sharesOf so g)]) (rest := []) ⟨hx, hb, hml, hown, hts⟩ ((kJ6_bitCount_0f7a4 l Γ (fX3_sharesOf so g)) _) (va_cwS 1 hts gX4_findsKey_J6_bitCount_0f7a4 rfl rfl rfl (by decide +kernel) ⟨Nat.le_of_ble_eq_true rfl, Nat.le_of_ble_eq_true rfl⟩) ⟨wPre_blind, wPre_mk hP hD hK hS hA hAB hAm [] rfl rfl⟩ rfl rfl hl.1 rfl (lv_room (Nat.le_of_ble_eq_true rfl)) dX4_findsKey_26 ⟨Nat.zero_le _, Nat.zero_le _⟩) hP hS hA (fun H locs hP hS => ?_)
      refine lv_aload_n hx hb dX4_findsKey_29 rfl (lv_at hl 2 rfl) ?_
      refine va_get (D := Γ.1) (ci := 2) (v := .int (w 0 6)) (C := RX2) (T := TX2) (N := 16) hx hb hts hi2 hown hK hP 6 rfl rfl 11 (by decide) kf205 (fun _ h9 => h9) rfl dX4_findsKey_30 ?_
      refine lv_icmp_lt (tgt := 55) hx hb dX4_findsKey_33 (by decide) (fun c_3 => ?_) (fun c_3 => ?_)
      · have hq := hq.trans (if_pos c_3)
        refine lv_iconst (v := (nI 0)) hx hb dX4_findsKey_55 (by decide) ?_
        exact W.zret (v := (nI 0)) hx hb hr (by first | rfl | decide) (fun t ht hW => eLI hS ht (by rw [hq])) hS.2.2 dX4_findsKey_56
      · have hq := hq.trans (if_neg c_3)
        refine lv_aload_n hx hb dX4_findsKey_36 rfl (lv_at hl 1 rfl) ?_
        refine va_get (D := Γ.1) (ci := 4) (v := .ref (ac 0)) (C := RX4) (T := TX4) (N := 7) hx hb hts hi4 hown hK hP 0 rfl rfl 4 (by decide) kf30 (fun _ h9 => h9) rfl dX4_findsKey_37 ?_
        refine lv_iload_n hx hb dX4_findsKey_40 rfl (lv_at hl 0 rfl) ?_
        refine cLI (va_runV (As := [.int (fX3_sharesOf so g)]) (rest := []) ⟨hx, hb, hml, hown, hts⟩ ((kX0_keyOf l Γ ac ck (fX3_sharesOf so g)) _) (cwV 1 hts gX4_findsKey_X0_keyOf rfl rfl rfl (by decide +kernel) ⟨Nat.le_of_ble_eq_true rfl, Nat.le_of_ble_eq_true rfl⟩) ⟨wPre_blind, va_recv hK hP (ci := 0) (q0 := 1) rfl rfl, wPre_mk hP hD hK hS hA hAB hAm [1] rfl rfl⟩ rfl rfl hl.1 rfl (lv_room (Nat.le_of_ble_eq_true rfl)) dX4_findsKey_41 ⟨Nat.zero_le _, Nat.zero_le _⟩) hP hS hA (fun H locs hP hS => ?_)
        refine lv_aload_n hx hb dX4_findsKey_44 rfl (lv_at hl 2 rfl) ?_
        refine va_get (D := Γ.1) (ci := 2) (v := .int (w 0 5)) (C := RX2) (T := TX2) (N := 16) hx hb hts hi2 hown hK hP 6 rfl rfl 10 (by decide) kf319 (fun _ h9 => h9) rfl dX4_findsKey_45 ?_
        refine lv_icmp_ne (tgt := 55) hx hb dX4_findsKey_48 (by decide) (fun c_4 => ?_) (fun c_4 => ?_)
        · have hq := hq.trans (if_neg c_4)
          refine lv_iconst (v := (nI 0)) hx hb dX4_findsKey_55 (by decide) ?_
          exact W.zret (v := (nI 0)) hx hb hr (by first | rfl | decide) (fun t ht hW => eLI hS ht (by rw [hq])) hS.2.2 dX4_findsKey_56
        · have hq := hq.trans (if_pos c_4)
          refine lv_iconst (v := (nI 1)) hx hb dX4_findsKey_51 (by decide) ?_
          refine lv_goto (tgt := 56) hx hb dX4_findsKey_52 (by decide) ?_
          exact W.zret (v := (nI 1)) hx hb hr (by first | rfl | decide) (fun t ht hW => eLI hS ht (by rw [hq])) hS.2.2 dX4_findsKey_56
def fX4_couldOpen (ck : (Nat → Int32)) (so : (Nat → Int32)) (sp : (Nat → Int32)) (w : (Nat → Nat → Int32)) (g : Int32) : Int32 := (if (fX3_pairsIn sp g) = 0 then (if (fX4_findsKey ck so w g) = 0 then ((nI 0)) else ((nI 1))) else ((nI 0)))
set_option maxHeartbeats 4000000 in
set_option maxRecDepth 100000 in
theorem kX4_couldOpen (l : Launch) (Γ : wG) (q : Nat) (an : Nat → Nat) (ap : Nat → Nat) (qs : Nat) (ac : Nat → Nat) (au : Nat → Nat) (ax : Nat → Nat) (b : Nat → Nat) (nn : Int32) (ck : (Nat → Int32)) (so : (Nat → Int32)) (sp : (Nat → Int32)) (w : (Nat → Nat → Int32)) (g : Int32) : LI l Γ yX4_couldOpen wsX4_couldOpen ({ frames := 2, cells := 0, slots := 0, locals := 44 }) [.ref q, .ref (b 0), .int g] [mnC q an ap qs ac au ax nn, cuB Γ ac ck, suB Γ au so sp, plB Γ b w] (fX4_couldOpen ck so sp w g) := by
  intro sz
  refine Met.ofW (cc := cX4_couldOpen) (maxL := 3) (ret := (some .boolean)) (by decide) rfl ?_
  intro p e s m args below meth c s₁ B hml hv
  obtain ⟨rfl, hsz, hP, hK, hD0, hAm⟩ := hv
  have hx := B.exec
  have hb := B.bytes
  have hr := B.returns
  have hts := atoms_spec (ws := wsX4_couldOpen) B.pre
  have hown : s.vm.findClass RX4 = some m.cls := findClass_of_methodNamed B.named
  have hlocks := B.notSynchronized
  subst hsz
  have hD := hD0.self (sz := s.heap.size)
  generalize hBe : va_A (wcat [mnC q an ap qs ac au ax nn, cuB Γ ac ck, suB Γ au so sp, plB Γ b w]) s.heap.size = B0 at hD hAm
  obtain ⟨A, hAe⟩ : ∃ A, A = va_A [] s.heap.size := ⟨_, rfl⟩
  rw [← hAe]
  have hA : ∀ q : Nat, s.heap.size ≤ q → A q := fun q h => by rw [hAe]; exact Or.inr h
  have hAB : ∀ q : Nat, A q → B0 q := fun q h => by rw [hAe] at h; rw [← hBe]; exact Or.inr (wnone h)
  have hS : va_S A s.heap s.heap [] := va_S.rf
  have hl := lv_entry ([.ref q, .ref (b 0), .int g]) (n := 3) (Nat.le_of_ble_eq_true rfl)
  rw [lg_entry_eq]
  generalize (lg_sl ([.ref q, .ref (b 0), .int g]) ++ List.replicate (3 - (lg_sl ([.ref q, .ref (b 0), .int g])).length) Slot.unset).toArray = ls at hl ⊢
  have hl : lv_has ls 3 [(0, .ref q), (1, .ref (b 0)), (2, .int g)] := hl
  have hi4 : ∀ w ∈ wsX40, w ∈ wsX4_couldOpen := by decide +kernel
  have kf37 := hts (.fieldLink RX4 37 "CapsuleKeepers" "survey" "LCapsuleKeepers$Survey;") (by decide +kernel)
  have hq : (fX4_couldOpen ck so sp w g) = (if (fX3_pairsIn sp g) = 0 then (if (fX4_findsKey ck so w g) = 0 then ((nI 0)) else ((nI 1))) else ((nI 0))) := rfl
  refine lv_aload_n hx hb dX4_couldOpen_0 rfl (lv_at hl 0 rfl) ?_
  refine va_get (D := Γ.1) (ci := 4) (v := .ref (au 0)) (C := RX4) (T := TX4) (N := 7) hx hb hts hi4 hown hK hP 0 rfl rfl 5 (by decide) kf37 (fun _ h9 => h9) rfl dX4_couldOpen_1 ?_
  refine lv_iload_n hx hb dX4_couldOpen_4 rfl (lv_at hl 2 rfl) ?_
  refine cLI (va_runV (As := [.int g]) (rest := []) ⟨hx, hb, hml, hown, hts⟩ ((kX3_pairsIn l Γ au so sp g) _) (cwV 1 hts gX4_couldOpen_X3_pairsIn rfl rfl rfl (by decide +kernel) ⟨Nat.le_of_ble_eq_true rfl, Nat.le_of_ble_eq_true rfl⟩) ⟨wPre_blind, va_recv hK hP (ci := 3) (q0 := 3) rfl rfl, wPre_mk hP hD hK hS hA hAB hAm [2] rfl rfl⟩ rfl rfl hl.1 rfl (lv_room (Nat.le_of_ble_eq_true rfl)) dX4_couldOpen_5 ⟨Nat.zero_le _, Nat.zero_le _⟩) hP hS hA (fun H locs hP hS => ?_)
  refine lv_if_ne (tgt := 24) hx hb dX4_couldOpen_8 (by decide) (fun c_1 => ?_) (fun c_1 => ?_)
  · have hq := hq.trans (if_neg c_1)
    refine lv_iconst (v := (nI 0)) hx hb dX4_couldOpen_24 (by decide) ?_
    exact W.zret (v := (nI 0)) hx hb hr (by first | rfl | decide) (fun t ht hW => eLI hS ht (by rw [hq])) hS.2.2 dX4_couldOpen_25
  · have hq := hq.trans (if_pos c_1)
    refine lv_aload_n hx hb dX4_couldOpen_11 rfl (lv_at hl 0 rfl) ?_
    refine lv_aload_n hx hb dX4_couldOpen_12 rfl (lv_at hl 1 rfl) ?_
    refine lv_iload_n hx hb dX4_couldOpen_13 rfl (lv_at hl 2 rfl) ?_
    refine cLI (va_runV (As := [.ref (b 0), .int g]) (rest := []) ⟨hx, hb, hml, hown, hts⟩ ((kX4_findsKey l Γ q an ap qs ac au ax b nn ck so sp w g) _) (cwV 2 hts gX4_couldOpen_X4_findsKey rfl rfl rfl (by decide +kernel) ⟨Nat.le_of_ble_eq_true rfl, Nat.le_of_ble_eq_true rfl⟩) ⟨wPre_blind, va_recv hK hP (ci := 4) (q0 := 0) rfl rfl, wPre_mk hP hD hK hS hA hAB hAm [0, 1, 2, 3] rfl rfl⟩ rfl rfl hl.1 rfl (lv_room (Nat.le_of_ble_eq_true rfl)) dX4_couldOpen_14 ⟨Nat.zero_le _, Nat.zero_le _⟩) hP hS hA (fun H locs hP hS => ?_)
    refine lv_if_eq (tgt := 24) hx hb dX4_couldOpen_17 (by decide) (fun c_2 => ?_) (fun c_2 => ?_)
    · have hq := hq.trans (if_pos c_2)
      refine lv_iconst (v := (nI 0)) hx hb dX4_couldOpen_24 (by decide) ?_
      exact W.zret (v := (nI 0)) hx hb hr (by first | rfl | decide) (fun t ht hW => eLI hS ht (by rw [hq])) hS.2.2 dX4_couldOpen_25
    · have hq := hq.trans (if_neg c_2)
      refine lv_iconst (v := (nI 1)) hx hb dX4_couldOpen_20 (by decide) ?_
      refine lv_goto (tgt := 25) hx hb dX4_couldOpen_21 (by decide) ?_
      exact W.zret (v := (nI 1)) hx hb hr (by first | rfl | decide) (fun t ht hW => eLI hS ht (by rw [hq])) hS.2.2 dX4_couldOpen_25
def fX4_anyCouldOpen_L10 (ck : (Nat → Int32)) (w : (Nat → Nat → Int32)) (r_1 : (Nat → Int32) × (Nat → Int32)) : Nat → Nat → Int32 × (Nat → Int32) × (Nat → Int32)
  | 0, i10 => ((nI 0), r_1.1, r_1.2)
  | n10 + 1, i10 => (if (fX4_couldOpen ck r_1.1 r_1.2 w (nI i10)) = 0 then (fX4_anyCouldOpen_L10 ck w r_1 n10 (i10 + 1)) else ((nI 1), r_1.1, r_1.2))
def fX4_anyCouldOpen (ck : (Nat → Int32)) (so : (Nat → Int32)) (sp : (Nat → Int32)) (w : (Nat → Nat → Int32)) : Int32 × (Nat → Int32) × (Nat → Int32) := (let r_1 := (fX3_look so sp w); (fX4_anyCouldOpen_L10 ck w r_1 (255) 1))
set_option maxHeartbeats 4000000 in
set_option maxRecDepth 100000 in
theorem kX4_anyCouldOpen (l : Launch) (Γ : wG) (q : Nat) (an : Nat → Nat) (ap : Nat → Nat) (qs : Nat) (ac : Nat → Nat) (au : Nat → Nat) (ax : Nat → Nat) (b : Nat → Nat) (nn : Int32) (ck : (Nat → Int32)) (so : (Nat → Int32)) (sp : (Nat → Int32)) (w : (Nat → Nat → Int32)) : MI l Γ yX4_anyCouldOpen wsX4_anyCouldOpen ({ frames := 3, cells := 0, slots := 0, locals := 66 }) [.ref q, .ref (b 0)] [mnC q an ap qs ac au ax nn, cuB Γ ac ck, suB Γ au so sp, plB Γ b w] [mnC q an ap qs ac au ax nn, cuB Γ ac ck, suB Γ au (fX4_anyCouldOpen ck so sp w).2.1 (fX4_anyCouldOpen ck so sp w).2.2, plB Γ b w] (fX4_anyCouldOpen ck so sp w).1 := by
  intro sz
  refine Met.ofW (cc := cX4_anyCouldOpen) (maxL := 3) (ret := (some .boolean)) (by decide) rfl ?_
  intro p e s m args below meth c s₁ B hml hv
  obtain ⟨rfl, hsz, hP, hK, hD0, hAm⟩ := hv
  have hx := B.exec
  have hb := B.bytes
  have hr := B.returns
  have hts := atoms_spec (ws := wsX4_anyCouldOpen) B.pre
  have hown : s.vm.findClass RX4 = some m.cls := findClass_of_methodNamed B.named
  have hlocks := B.notSynchronized
  subst hsz
  have hD := hD0.self (sz := s.heap.size)
  generalize hAe : va_A (wcat [mnC q an ap qs ac au ax nn, cuB Γ ac ck, suB Γ au so sp, plB Γ b w]) s.heap.size = A at hD hAm ⊢
  have hA : ∀ q : Nat, s.heap.size ≤ q → A q := fun q h => by rw [← hAe]; exact Or.inr h
  have hAB : ∀ q : Nat, A q → A q := fun _ h => h
  have hS : va_S A s.heap s.heap [] := va_S.rf
  have hl := lv_entry ([.ref q, .ref (b 0)]) (n := 3) (Nat.le_of_ble_eq_true rfl)
  rw [lg_entry_eq]
  generalize (lg_sl ([.ref q, .ref (b 0)]) ++ List.replicate (3 - (lg_sl ([.ref q, .ref (b 0)])).length) Slot.unset).toArray = ls at hl ⊢
  have hl : lv_has ls 3 [(0, .ref q), (1, .ref (b 0))] := hl
  have hi4 : ∀ w ∈ wsX40, w ∈ wsX4_anyCouldOpen := by decide +kernel
  have kf37 := hts (.fieldLink RX4 37 "CapsuleKeepers" "survey" "LCapsuleKeepers$Survey;") (by decide +kernel)
  have hq : (fX4_anyCouldOpen ck so sp w) = (let r_1 := (fX3_look so sp w); (fX4_anyCouldOpen_L10 ck w r_1 (255) 1)) := rfl
  refine lv_aload_n hx hb dX4_anyCouldOpen_0 rfl (lv_at hl 0 rfl) ?_
  refine va_get (D := Γ.1) (ci := 4) (v := .ref (au 0)) (C := RX4) (T := TX4) (N := 7) hx hb hts hi4 hown hK hP 0 rfl rfl 5 (by decide) kf37 (fun _ h9 => h9) rfl dX4_anyCouldOpen_1 ?_
  refine lv_aload_n hx hb dX4_anyCouldOpen_4 rfl (lv_at hl 1 rfl) ?_
  refine cMV (bc' := [suB Γ au (fX3_look so sp w).1 (fX3_look so sp w).2, plB Γ b w]) (va_runV (As := [.ref (b 0)]) (rest := []) ⟨hx, hb, hml, hown, hts⟩ ((kX3_look l Γ au b so sp w) _) (cwV 1 hts gX4_anyCouldOpen_X3_look rfl rfl rfl (by decide +kernel) ⟨Nat.le_of_ble_eq_true rfl, Nat.le_of_ble_eq_true rfl⟩) ⟨wPre_blind, va_recv hK hP (ci := 3) (q0 := 3) rfl rfl, wPre_mk hP hD hK hS hA hAB hAm [2, 3] rfl rfl⟩ rfl rfl hl.1 rfl (lv_room (Nat.le_of_ble_eq_true rfl)) dX4_anyCouldOpen_5 ⟨Nat.zero_le _, Nat.zero_le _⟩) hP hD hS hA [2, 3] rfl rfl (bs' := [mnC q an ap qs ac au ax nn, cuB Γ ac ck, suB Γ au (fX3_look so sp w).1 (fX3_look so sp w).2, plB Γ b w]) rfl (fun H locs hP hD hS => ?_)
  generalize hr_1 : (fX3_look so sp w) = r_1 at hP hD hq
  replace hq : (fX4_anyCouldOpen ck so sp w) = (fX4_anyCouldOpen_L10 ck w r_1 (255) 1) := hq
  refine lv_iconst (v := (nI 1)) hx hb dX4_anyCouldOpen_8 (by decide) ?_
  refine lv_istore_n (lv' := [(2, .int (nI 1)), (0, .ref q), (1, .ref (b 0))]) hx hb dX4_anyCouldOpen_9 rfl hl (by decide) rfl (fun ls hl => ?_)
  refine wl (pc := 10) (σ := Nat) (fun n i10 H locs ls => (i10 + n = 256) ∧ (fX4_anyCouldOpen ck so sp w) = fX4_anyCouldOpen_L10 ck w r_1 n i10 ∧ va_P Γ.1 vwCl (wcat [mnC q an ap qs ac au ax nn, cuB Γ ac ck, suB Γ au r_1.1 r_1.2, plB Γ b w]) H ∧ va_D A (wcat [mnC q an ap qs ac au ax nn, cuB Γ ac ck, suB Γ au r_1.1 r_1.2, plB Γ b w]) ∧ va_S A s.heap H locs ∧ lv_has ls 3 [(2, .int (nI i10)), (0, .ref q), (1, .ref (b 0))]) ?_ ?_ (255) 1 _ _ _ ⟨by omega, hq, hP, hD, hS, lv_sub hl [0, 1, 2] rfl⟩
  · intro i10 H locs ls h
    obtain ⟨hn10, hq, hP, hD, hS, hl⟩ := h
    try dsimp only at hn10 hq hP hD hl
    replace hq : (fX4_anyCouldOpen ck so sp w) = ((nI 0), r_1.1, r_1.2) := hq
    refine lv_iload_n hx hb dX4_anyCouldOpen_10 rfl (lv_at hl 0 rfl) ?_
    refine lv_sipush (v := (nI 256)) hx hb dX4_anyCouldOpen_11 (by decide) ?_
    refine lv_icmp_ge (tgt := 34) hx hb dX4_anyCouldOpen_14 (by decide) (fun c_14 => ?_) (fun c_14 => absurd (nI_le (by omega) (by omega)) c_14)
    refine lv_iconst (v := (nI 0)) hx hb dX4_anyCouldOpen_34 (by decide) ?_
    exact W.zret (v := (nI 0)) hx hb hr (by first | rfl | decide) (fun t ht hW => eMI (by rw [hq]; exact hP) hS ht (by rw [hq])) hS.2.2 dX4_anyCouldOpen_35
  · intro n10 ih10 i10 H locs ls h
    obtain ⟨hn10, hq, hP, hD, hS, hl⟩ := h
    try dsimp only at hn10 hq hP hD hl
    replace hq : (fX4_anyCouldOpen ck so sp w) = (if (fX4_couldOpen ck r_1.1 r_1.2 w (nI i10)) = 0 then (fX4_anyCouldOpen_L10 ck w r_1 n10 (i10 + 1)) else ((nI 1), r_1.1, r_1.2)) := hq
    refine lv_iload_n hx hb dX4_anyCouldOpen_10 rfl (lv_at hl 0 rfl) ?_
    refine lv_sipush (v := (nI 256)) hx hb dX4_anyCouldOpen_11 (by decide) ?_
    refine lv_icmp_ge (tgt := 34) hx hb dX4_anyCouldOpen_14 (by decide) (fun c_14 => absurd c_14 (nI_ge (by omega) (by omega))) (fun c_14 => ?_)
    refine lv_aload_n hx hb dX4_anyCouldOpen_17 rfl (lv_at hl 1 rfl) ?_
    refine lv_aload_n hx hb dX4_anyCouldOpen_18 rfl (lv_at hl 2 rfl) ?_
    refine lv_iload_n hx hb dX4_anyCouldOpen_19 rfl (lv_at hl 0 rfl) ?_
    refine cLI (va_runV (As := [.ref (b 0), .int (nI i10)]) (rest := []) ⟨hx, hb, hml, hown, hts⟩ ((kX4_couldOpen l Γ q an ap qs ac au ax b nn ck r_1.1 r_1.2 w (nI i10)) _) (cwV 2 hts gX4_anyCouldOpen_X4_couldOpen rfl rfl rfl (by decide +kernel) ⟨Nat.le_of_ble_eq_true rfl, Nat.le_of_ble_eq_true rfl⟩) ⟨wPre_blind, va_recv hK hP (ci := 4) (q0 := 0) rfl rfl, wPre_mk hP hD hK hS hA hAB hAm [0, 1, 2, 3] rfl rfl⟩ rfl rfl hl.1 rfl (lv_room (Nat.le_of_ble_eq_true rfl)) dX4_anyCouldOpen_20 ⟨Nat.zero_le _, Nat.zero_le _⟩) hP hS hA (fun H locs hP hS => ?_)
    refine lv_if_eq (tgt := 28) hx hb dX4_anyCouldOpen_23 (by decide) (fun c_2 => ?_) (fun c_2 => ?_)
    · have hq := hq.trans (if_pos c_2)
      refine lv_iinc (v := (nI (i10 + 1))) (lv' := [(2, .int (nI (i10 + 1))), (0, .ref q), (1, .ref (b 0))]) hx hb dX4_anyCouldOpen_28 hl (k := 0) rfl (nI_1 _) (by decide) rfl (fun ls hl => ?_)
      refine lv_goto (tgt := 10) hx hb dX4_anyCouldOpen_31 (by decide) ?_
      exact ih10 (i10 + 1) H locs ls ⟨by omega, hq, hP, hD, hS, lv_sub hl [0, 1, 2] rfl⟩
    · have hq := hq.trans (if_neg c_2)
      refine lv_iconst (v := (nI 1)) hx hb dX4_anyCouldOpen_26 (by decide) ?_
      exact W.zret (v := (nI 1)) hx hb hr (by first | rfl | decide) (fun t ht hW => eMI (by rw [hq]; exact hP) hS ht (by rw [hq])) hS.2.2 dX4_anyCouldOpen_27
def fX4_gainOfPeace_L28 (v : (Nat → Nat → Int32)) (ck : (Nat → Int32)) (so : (Nat → Int32)) (sp : (Nat → Int32)) (k : Nat) (o : Nat) : Nat → Nat → Int32 → Int32
  | 0, i28, x4_28 => (x4_28)
  | n28 + 1, i28, x4_28 => (if ((nI i28) &&& (nI (2 ^ k ||| 2 ^ o))) = (nI (2 ^ k ||| 2 ^ o)) then (if (fX3_pairsIn sp (nI i28)) = (nI 1) then (if (fX4_findsKey ck so v (nI i28)) = 0 then (fX4_gainOfPeace_L28 v ck so sp k o n28 (i28 + 1) x4_28) else (fX4_gainOfPeace_L28 v ck so sp k o n28 (i28 + 1) (x4_28 + (nI 1)))) else (fX4_gainOfPeace_L28 v ck so sp k o n28 (i28 + 1) x4_28)) else (fX4_gainOfPeace_L28 v ck so sp k o n28 (i28 + 1) x4_28))
def fX4_gainOfPeace (v : (Nat → Nat → Int32)) (ck : (Nat → Int32)) (so : (Nat → Int32)) (sp : (Nat → Int32)) (k : Nat) (o : Nat) : Int32 := (if (fX2_areAtOdds v (nI k) (nI o)) = 0 then ((nI 0)) else (fX4_gainOfPeace_L28 v ck so sp k o (256 - (2 ^ k ||| 2 ^ o)) (2 ^ k ||| 2 ^ o) (nI 0)))
set_option maxHeartbeats 4000000 in
set_option maxRecDepth 100000 in
theorem kX4_gainOfPeace (l : Launch) (Γ : wG) (q : Nat) (an : Nat → Nat) (ap : Nat → Nat) (qs : Nat) (ac : Nat → Nat) (au : Nat → Nat) (ax : Nat → Nat) (nn : Int32) (v : (Nat → Nat → Int32)) (ck : (Nat → Int32)) (so : (Nat → Int32)) (sp : (Nat → Int32)) (k : Nat) (o : Nat) (hk : k < 8) (ho : o < 8) : LI l Γ yX4_gainOfPeace wsX4_gainOfPeace ({ frames := 2, cells := 0, slots := 0, locals := 44 }) [.ref q, .int (nI k), .int (nI o)] [mnC q an ap qs ac au ax nn, plB Γ an v, cuB Γ ac ck, suB Γ au so sp] (fX4_gainOfPeace v ck so sp k o) := by
  intro sz
  refine Met.ofW (cc := cX4_gainOfPeace) (maxL := 6) (ret := (some .int)) (by decide) rfl ?_
  intro p e s m args below meth c s₁ B hml hv
  obtain ⟨rfl, hsz, hP, hK, hD0, hAm⟩ := hv
  have hx := B.exec
  have hb := B.bytes
  have hr := B.returns
  have hts := atoms_spec (ws := wsX4_gainOfPeace) B.pre
  have hown : s.vm.findClass RX4 = some m.cls := findClass_of_methodNamed B.named
  have hlocks := B.notSynchronized
  subst hsz
  have hD := hD0.self (sz := s.heap.size)
  generalize hBe : va_A (wcat [mnC q an ap qs ac au ax nn, plB Γ an v, cuB Γ ac ck, suB Γ au so sp]) s.heap.size = B0 at hD hAm
  obtain ⟨A, hAe⟩ : ∃ A, A = va_A [] s.heap.size := ⟨_, rfl⟩
  rw [← hAe]
  have hA : ∀ q : Nat, s.heap.size ≤ q → A q := fun q h => by rw [hAe]; exact Or.inr h
  have hAB : ∀ q : Nat, A q → B0 q := fun q h => by rw [hAe] at h; rw [← hBe]; exact Or.inr (wnone h)
  have hS : va_S A s.heap s.heap [] := va_S.rf
  have hl := lv_entry ([.ref q, .int (nI k), .int (nI o)]) (n := 6) (Nat.le_of_ble_eq_true rfl)
  rw [lg_entry_eq]
  generalize (lg_sl ([.ref q, .int (nI k), .int (nI o)]) ++ List.replicate (6 - (lg_sl ([.ref q, .int (nI k), .int (nI o)])).length) Slot.unset).toArray = ls at hl ⊢
  have hl : lv_has ls 6 [(0, .ref q), (1, .int (nI k)), (2, .int (nI o))] := hl
  have hi4 : ∀ w ∈ wsX40, w ∈ wsX4_gainOfPeace := by decide +kernel
  have kf10 := hts (.fieldLink RX4 10 "CapsuleKeepers" "now" "LCapsuleKeepers$Place;") (by decide +kernel)
  have kf37 := hts (.fieldLink RX4 37 "CapsuleKeepers" "survey" "LCapsuleKeepers$Survey;") (by decide +kernel)
  have hq : (fX4_gainOfPeace v ck so sp k o) = (if (fX2_areAtOdds v (nI k) (nI o)) = 0 then ((nI 0)) else (fX4_gainOfPeace_L28 v ck so sp k o (256 - (2 ^ k ||| 2 ^ o)) (2 ^ k ||| 2 ^ o) (nI 0))) := rfl
  refine lv_aload_n hx hb dX4_gainOfPeace_0 rfl (lv_at hl 0 rfl) ?_
  refine va_get (D := Γ.1) (ci := 4) (v := .ref (an 0)) (C := RX4) (T := TX4) (N := 7) hx hb hts hi4 hown hK hP 0 rfl rfl 0 (by decide) kf10 (fun _ h9 => h9) rfl dX4_gainOfPeace_1 ?_
  refine lv_iload_n hx hb dX4_gainOfPeace_4 rfl (lv_at hl 1 rfl) ?_
  refine lv_iload_n hx hb dX4_gainOfPeace_5 rfl (lv_at hl 2 rfl) ?_
  refine cLI (va_runV (As := [.int (nI k), .int (nI o)]) (rest := []) ⟨hx, hb, hml, hown, hts⟩ ((kX2_areAtOdds l Γ an v (nI k) (nI o) (vp_in_nI (by omega) (by decide))) _) (cwV 2 hts gX4_gainOfPeace_X2_areAtOdds rfl rfl rfl (by decide +kernel) ⟨Nat.le_of_ble_eq_true rfl, Nat.le_of_ble_eq_true rfl⟩) ⟨wPre_blind, va_recv hK hP (ci := 2) (q0 := 1) rfl rfl, wPre_mk hP hD hK hS hA hAB hAm [1] rfl rfl⟩ rfl rfl hl.1 rfl (lv_room (Nat.le_of_ble_eq_true rfl)) dX4_gainOfPeace_6 ⟨Nat.zero_le _, Nat.zero_le _⟩) hP hS hA (fun H locs hP hS => ?_)
  refine lv_if_ne (tgt := 14) hx hb dX4_gainOfPeace_9 (by decide) (fun c_1 => ?_) (fun c_1 => ?_)
  · have hq := hq.trans (if_neg c_1)
    refine lv_iconst (v := (nI 1)) hx hb dX4_gainOfPeace_14 (by decide) ?_
    refine lv_iload_n hx hb dX4_gainOfPeace_15 rfl (lv_at hl 1 rfl) ?_
    refine lv_ishl hx hb dX4_gainOfPeace_16 ?_
    refine lv_eqi (y := (nI (2 ^ k))) (shl1 (by omega)) ?_
    refine lv_iconst (v := (nI 1)) hx hb dX4_gainOfPeace_17 (by decide) ?_
    refine lv_iload_n hx hb dX4_gainOfPeace_18 rfl (lv_at hl 2 rfl) ?_
    refine lv_ishl hx hb dX4_gainOfPeace_19 ?_
    refine lv_eqi (y := (nI (2 ^ o))) (shl1 (by omega)) ?_
    refine lv_ior hx hb dX4_gainOfPeace_20 ?_
    refine lv_eqi (y := (nI (2 ^ k ||| 2 ^ o))) (nI_or _ _) ?_
    refine lv_istore_n (lv' := [(3, .int (nI (2 ^ k ||| 2 ^ o))), (0, .ref q), (1, .int (nI k)), (2, .int (nI o))]) hx hb dX4_gainOfPeace_21 rfl hl (by decide) rfl (fun ls hl => ?_)
    refine lv_iconst (v := (nI 0)) hx hb dX4_gainOfPeace_22 (by decide) ?_
    refine lv_istore (lv' := [(4, .int (nI 0)), (3, .int (nI (2 ^ k ||| 2 ^ o))), (0, .ref q), (1, .int (nI k)), (2, .int (nI o))]) hx hb dX4_gainOfPeace_23 hl (by decide) rfl (fun ls hl => ?_)
    refine lv_iload_n hx hb dX4_gainOfPeace_25 rfl (lv_at hl 1 rfl) ?_
    refine lv_istore (lv' := [(5, .int (nI (2 ^ k ||| 2 ^ o))), (4, .int (nI 0)), (3, .int (nI (2 ^ k ||| 2 ^ o))), (0, .ref q), (1, .int (nI k)), (2, .int (nI o))]) hx hb dX4_gainOfPeace_26 hl (by decide) rfl (fun ls hl => ?_)
    refine wl (pc := 28) (σ := Nat × Int32) (fun n (i28, x4_28) H locs ls => (i28 + n = 256) ∧ (fX4_gainOfPeace v ck so sp k o) = fX4_gainOfPeace_L28 v ck so sp k o n i28 x4_28 ∧ va_P Γ.1 vwCl (wcat [mnC q an ap qs ac au ax nn, plB Γ an v, cuB Γ ac ck, suB Γ au so sp]) H ∧ va_S A s.heap H locs ∧ lv_has ls 6 [(5, .int (nI i28)), (4, .int x4_28), (3, .int (nI (2 ^ k ||| 2 ^ o))), (0, .ref q), (1, .int (nI k)), (2, .int (nI o))]) ?_ ?_ (256 - (2 ^ k ||| 2 ^ o)) ((2 ^ k ||| 2 ^ o), (nI 0)) _ _ _ ⟨by have := orlt (show 2 ^ k < 256 by have := p2le hk; omega) (show 2 ^ o < 256 by have := p2le ho; omega); omega, hq, hP, hS, lv_sub hl [0, 1, 2, 3, 4, 5] rfl⟩
    · intro ⟨i28, x4_28⟩ H locs ls h
      obtain ⟨hn28, hq, hP, hS, hl⟩ := h
      try dsimp only at hn28 hq hP hl
      replace hq : (fX4_gainOfPeace v ck so sp k o) = (x4_28) := hq
      refine lv_iload hx hb dX4_gainOfPeace_28 (lv_at hl 0 rfl) ?_
      refine lv_sipush (v := (nI 256)) hx hb dX4_gainOfPeace_30 (by decide) ?_
      refine lv_icmp_ge (tgt := 79) hx hb dX4_gainOfPeace_33 (by decide) (fun c_33 => ?_) (fun c_33 => absurd (nI_le (by omega) (by omega)) c_33)
      refine lv_iload hx hb dX4_gainOfPeace_79 (lv_at hl 1 rfl) ?_
      exact W.iret (v := x4_28) hx hb hr (fun t ht hW => eLI hS ht (by rw [hq])) hS.2.2 dX4_gainOfPeace_81
    · intro n28 ih28 ⟨i28, x4_28⟩ H locs ls h
      obtain ⟨hn28, hq, hP, hS, hl⟩ := h
      try dsimp only at hn28 hq hP hl
      replace hq : (fX4_gainOfPeace v ck so sp k o) = (if ((nI i28) &&& (nI (2 ^ k ||| 2 ^ o))) = (nI (2 ^ k ||| 2 ^ o)) then (if (fX3_pairsIn sp (nI i28)) = (nI 1) then (if (fX4_findsKey ck so v (nI i28)) = 0 then (fX4_gainOfPeace_L28 v ck so sp k o n28 (i28 + 1) x4_28) else (fX4_gainOfPeace_L28 v ck so sp k o n28 (i28 + 1) (x4_28 + (nI 1)))) else (fX4_gainOfPeace_L28 v ck so sp k o n28 (i28 + 1) x4_28)) else (fX4_gainOfPeace_L28 v ck so sp k o n28 (i28 + 1) x4_28)) := hq
      refine lv_iload hx hb dX4_gainOfPeace_28 (lv_at hl 0 rfl) ?_
      refine lv_sipush (v := (nI 256)) hx hb dX4_gainOfPeace_30 (by decide) ?_
      refine lv_icmp_ge (tgt := 79) hx hb dX4_gainOfPeace_33 (by decide) (fun c_33 => absurd c_33 (nI_ge (by omega) (by omega))) (fun c_33 => ?_)
      refine lv_iload hx hb dX4_gainOfPeace_36 (lv_at hl 0 rfl) ?_
      refine lv_iload_n hx hb dX4_gainOfPeace_38 rfl (lv_at hl 2 rfl) ?_
      refine lv_iand hx hb dX4_gainOfPeace_39 ?_
      refine lv_iload_n hx hb dX4_gainOfPeace_40 rfl (lv_at hl 2 rfl) ?_
      refine lv_icmp_ne (tgt := 73) hx hb dX4_gainOfPeace_41 (by decide) (fun c_2 => ?_) (fun c_2 => ?_)
      · have hq := hq.trans (if_neg c_2)
        refine lv_iinc (v := (nI (i28 + 1))) (lv' := [(5, .int (nI (i28 + 1))), (4, .int x4_28), (3, .int (nI (2 ^ k ||| 2 ^ o))), (0, .ref q), (1, .int (nI k)), (2, .int (nI o))]) hx hb dX4_gainOfPeace_73 hl (k := 0) rfl (nI_1 _) (by decide) rfl (fun ls hl => ?_)
        refine lv_goto (tgt := 28) hx hb dX4_gainOfPeace_76 (by decide) ?_
        exact ih28 ((i28 + 1), x4_28) H locs ls ⟨by omega, hq, hP, hS, lv_sub hl [0, 1, 2, 3, 4, 5] rfl⟩
      · have hq := hq.trans (if_pos c_2)
        refine lv_aload_n hx hb dX4_gainOfPeace_44 rfl (lv_at hl 3 rfl) ?_
        refine va_get (D := Γ.1) (ci := 4) (v := .ref (au 0)) (C := RX4) (T := TX4) (N := 7) hx hb hts hi4 hown hK hP 0 rfl rfl 5 (by decide) kf37 (fun _ h9 => h9) rfl dX4_gainOfPeace_45 ?_
        refine lv_iload hx hb dX4_gainOfPeace_48 (lv_at hl 0 rfl) ?_
        refine cLI (va_runV (As := [.int (nI i28)]) (rest := []) ⟨hx, hb, hml, hown, hts⟩ ((kX3_pairsIn l Γ au so sp (nI i28)) _) (cwV 1 hts gX4_gainOfPeace_X3_pairsIn rfl rfl rfl (by decide +kernel) ⟨Nat.le_of_ble_eq_true rfl, Nat.le_of_ble_eq_true rfl⟩) ⟨wPre_blind, va_recv hK hP (ci := 3) (q0 := 9) rfl rfl, wPre_mk hP hD hK hS hA hAB hAm [3] rfl rfl⟩ rfl rfl hl.1 rfl (lv_room (Nat.le_of_ble_eq_true rfl)) dX4_gainOfPeace_50 ⟨Nat.zero_le _, Nat.zero_le _⟩) hP hS hA (fun H locs hP hS => ?_)
        refine lv_iconst (v := (nI 1)) hx hb dX4_gainOfPeace_53 (by decide) ?_
        refine lv_icmp_ne (tgt := 73) hx hb dX4_gainOfPeace_54 (by decide) (fun c_3 => ?_) (fun c_3 => ?_)
        · have hq := hq.trans (if_neg c_3)
          refine lv_iinc (v := (nI (i28 + 1))) (lv' := [(5, .int (nI (i28 + 1))), (4, .int x4_28), (3, .int (nI (2 ^ k ||| 2 ^ o))), (0, .ref q), (1, .int (nI k)), (2, .int (nI o))]) hx hb dX4_gainOfPeace_73 hl (k := 0) rfl (nI_1 _) (by decide) rfl (fun ls hl => ?_)
          refine lv_goto (tgt := 28) hx hb dX4_gainOfPeace_76 (by decide) ?_
          exact ih28 ((i28 + 1), x4_28) H locs ls ⟨by omega, hq, hP, hS, lv_sub hl [0, 1, 2, 3, 4, 5] rfl⟩
        · have hq := hq.trans (if_pos c_3)
          refine lv_aload_n hx hb dX4_gainOfPeace_57 rfl (lv_at hl 3 rfl) ?_
          refine lv_aload_n hx hb dX4_gainOfPeace_58 rfl (lv_at hl 3 rfl) ?_
          refine va_get (D := Γ.1) (ci := 4) (v := .ref (an 0)) (C := RX4) (T := TX4) (N := 7) hx hb hts hi4 hown hK hP 0 rfl rfl 0 (by decide) kf10 (fun _ h9 => h9) rfl dX4_gainOfPeace_59 ?_
          refine lv_iload hx hb dX4_gainOfPeace_62 (lv_at hl 0 rfl) ?_
          refine cLI (va_runV (As := [.ref (an 0), .int (nI i28)]) (rest := []) ⟨hx, hb, hml, hown, hts⟩ ((kX4_findsKey l Γ q an ap qs ac au ax an nn ck so sp v (nI i28)) _) (cwV 2 hts gX4_gainOfPeace_X4_findsKey rfl rfl rfl (by decide +kernel) ⟨Nat.le_of_ble_eq_true rfl, Nat.le_of_ble_eq_true rfl⟩) ⟨wPre_blind, va_recv hK hP (ci := 4) (q0 := 0) rfl rfl, wPre_mk hP hD hK hS hA hAB hAm [0, 2, 3, 1] rfl rfl⟩ rfl rfl hl.1 rfl (lv_room (Nat.le_of_ble_eq_true rfl)) dX4_gainOfPeace_64 ⟨Nat.zero_le _, Nat.zero_le _⟩) hP hS hA (fun H locs hP hS => ?_)
          refine lv_if_eq (tgt := 73) hx hb dX4_gainOfPeace_67 (by decide) (fun c_4 => ?_) (fun c_4 => ?_)
          · have hq := hq.trans (if_pos c_4)
            refine lv_iinc (v := (nI (i28 + 1))) (lv' := [(5, .int (nI (i28 + 1))), (4, .int x4_28), (3, .int (nI (2 ^ k ||| 2 ^ o))), (0, .ref q), (1, .int (nI k)), (2, .int (nI o))]) hx hb dX4_gainOfPeace_73 hl (k := 0) rfl (nI_1 _) (by decide) rfl (fun ls hl => ?_)
            refine lv_goto (tgt := 28) hx hb dX4_gainOfPeace_76 (by decide) ?_
            exact ih28 ((i28 + 1), x4_28) H locs ls ⟨by omega, hq, hP, hS, lv_sub hl [0, 1, 2, 3, 4, 5] rfl⟩
          · have hq := hq.trans (if_neg c_4)
            refine lv_iinc (v := (x4_28 + (nI 1))) (lv' := [(4, .int (x4_28 + (nI 1))), (5, .int (nI i28)), (3, .int (nI (2 ^ k ||| 2 ^ o))), (0, .ref q), (1, .int (nI k)), (2, .int (nI o))]) hx hb dX4_gainOfPeace_70 hl (k := 1) rfl (rfl) (by decide) rfl (fun ls hl => ?_)
            refine lv_iinc (v := (nI (i28 + 1))) (lv' := [(5, .int (nI (i28 + 1))), (4, .int (x4_28 + (nI 1))), (3, .int (nI (2 ^ k ||| 2 ^ o))), (0, .ref q), (1, .int (nI k)), (2, .int (nI o))]) hx hb dX4_gainOfPeace_73 hl (k := 1) rfl (nI_1 _) (by decide) rfl (fun ls hl => ?_)
            refine lv_goto (tgt := 28) hx hb dX4_gainOfPeace_76 (by decide) ?_
            exact ih28 ((i28 + 1), (x4_28 + (nI 1))) H locs ls ⟨by omega, hq, hP, hS, lv_sub hl [0, 1, 2, 3, 4, 5] rfl⟩
  · have hq := hq.trans (if_pos c_1)
    refine lv_iconst (v := (nI 0)) hx hb dX4_gainOfPeace_12 (by decide) ?_
    exact W.iret (v := (nI 0)) hx hb hr (fun t ht hW => eLI hS ht (by rw [hq])) hS.2.2 dX4_gainOfPeace_13
def fX4_buryIfAlive (v : (Nat → Nat → Int32)) (k : Int32) : Int32 × (Nat → Nat → Int32) := (if (fX2_lives v k) = 0 then ((nI 0), v) else ((nI 1), (fX2_bury v k).2))
set_option maxHeartbeats 4000000 in
set_option maxRecDepth 100000 in
theorem kX4_buryIfAlive (l : Launch) (Γ : wG) (q : Nat) (an : Nat → Nat) (ap : Nat → Nat) (qs : Nat) (ac : Nat → Nat) (au : Nat → Nat) (ax : Nat → Nat) (nn : Int32) (v : (Nat → Nat → Int32)) (k : Int32) : MI l Γ yX4_buryIfAlive wsX4_buryIfAlive ({ frames := 3, cells := 0, slots := 0, locals := 67 }) [.ref q, .int k] [mnC q an ap qs ac au ax nn, plB Γ an v] [mnC q an ap qs ac au ax nn, plB Γ an (fX4_buryIfAlive v k).2] (fX4_buryIfAlive v k).1 := by
  intro sz
  refine Met.ofW (cc := cX4_buryIfAlive) (maxL := 2) (ret := (some .boolean)) (by decide) rfl ?_
  intro p e s m args below meth c s₁ B hml hv
  obtain ⟨rfl, hsz, hP, hK, hD0, hAm⟩ := hv
  have hx := B.exec
  have hb := B.bytes
  have hr := B.returns
  have hts := atoms_spec (ws := wsX4_buryIfAlive) B.pre
  have hown : s.vm.findClass RX4 = some m.cls := findClass_of_methodNamed B.named
  have hlocks := B.notSynchronized
  subst hsz
  have hD := hD0.self (sz := s.heap.size)
  generalize hAe : va_A (wcat [mnC q an ap qs ac au ax nn, plB Γ an v]) s.heap.size = A at hD hAm ⊢
  have hA : ∀ q : Nat, s.heap.size ≤ q → A q := fun q h => by rw [← hAe]; exact Or.inr h
  have hAB : ∀ q : Nat, A q → A q := fun _ h => h
  have hS : va_S A s.heap s.heap [] := va_S.rf
  have hl := lv_entry ([.ref q, .int k]) (n := 2) (Nat.le_of_ble_eq_true rfl)
  rw [lg_entry_eq]
  generalize (lg_sl ([.ref q, .int k]) ++ List.replicate (2 - (lg_sl ([.ref q, .int k])).length) Slot.unset).toArray = ls at hl ⊢
  have hl : lv_has ls 2 [(0, .ref q), (1, .int k)] := hl
  have hi4 : ∀ w ∈ wsX40, w ∈ wsX4_buryIfAlive := by decide +kernel
  have kf10 := hts (.fieldLink RX4 10 "CapsuleKeepers" "now" "LCapsuleKeepers$Place;") (by decide +kernel)
  have hq : (fX4_buryIfAlive v k) = (if (fX2_lives v k) = 0 then ((nI 0), v) else ((nI 1), (fX2_bury v k).2)) := rfl
  refine lv_aload_n hx hb dX4_buryIfAlive_0 rfl (lv_at hl 0 rfl) ?_
  refine va_get (D := Γ.1) (ci := 4) (v := .ref (an 0)) (C := RX4) (T := TX4) (N := 7) hx hb hts hi4 hown hK hP 0 rfl rfl 0 (by decide) kf10 (fun _ h9 => h9) rfl dX4_buryIfAlive_1 ?_
  refine lv_iload_n hx hb dX4_buryIfAlive_4 rfl (lv_at hl 1 rfl) ?_
  refine cLI (va_runV (As := [.int k]) (rest := []) ⟨hx, hb, hml, hown, hts⟩ ((kX2_lives l Γ an v k) _) (cwV 1 hts gX4_buryIfAlive_X2_lives rfl rfl rfl (by decide +kernel) ⟨Nat.le_of_ble_eq_true rfl, Nat.le_of_ble_eq_true rfl⟩) ⟨wPre_blind, va_recv hK hP (ci := 2) (q0 := 1) rfl rfl, wPre_mk hP hD hK hS hA hAB hAm [1] rfl rfl⟩ rfl rfl hl.1 rfl (lv_room (Nat.le_of_ble_eq_true rfl)) dX4_buryIfAlive_5 ⟨Nat.zero_le _, Nat.zero_le _⟩) hP hS hA (fun H locs hP hS => ?_)
  refine lv_if_ne (tgt := 13) hx hb dX4_buryIfAlive_8 (by decide) (fun c_1 => ?_) (fun c_1 => ?_)
  · have hq := hq.trans (if_neg c_1)
    refine lv_aload_n hx hb dX4_buryIfAlive_13 rfl (lv_at hl 0 rfl) ?_
    refine va_get (D := Γ.1) (ci := 4) (v := .ref (an 0)) (C := RX4) (T := TX4) (N := 7) hx hb hts hi4 hown hK hP 0 rfl rfl 0 (by decide) kf10 (fun _ h9 => h9) rfl dX4_buryIfAlive_14 ?_
    refine lv_iload_n hx hb dX4_buryIfAlive_17 rfl (lv_at hl 1 rfl) ?_
    refine cMI (bc' := [plB Γ an (fX2_bury v k).2]) (va_runV (As := [.int k]) (rest := []) ⟨hx, hb, hml, hown, hts⟩ ((kX2_bury l Γ an v k (hasK_in (lives_has (by assumption)))) _) (cwV 1 hts gX4_buryIfAlive_X2_bury rfl rfl rfl (by decide +kernel) ⟨Nat.le_of_ble_eq_true rfl, Nat.le_of_ble_eq_true rfl⟩) ⟨wPre_blind, va_recv hK hP (ci := 2) (q0 := 1) rfl rfl, wPre_mk hP hD hK hS hA hAB hAm [1] rfl rfl⟩ rfl rfl hl.1 rfl (lv_room (Nat.le_of_ble_eq_true rfl)) dX4_buryIfAlive_18 ⟨Nat.zero_le _, Nat.zero_le _⟩) hP hD hS hA [1] rfl rfl (bs' := [mnC q an ap qs ac au ax nn, plB Γ an (fX2_bury v k).2]) rfl (fun H locs hP hD hS => ?_)
    refine lv_pop hx hb dX4_buryIfAlive_21 rfl ?_
    refine lv_iconst (v := (nI 1)) hx hb dX4_buryIfAlive_22 (by decide) ?_
    exact W.zret (v := (nI 1)) hx hb hr (by first | rfl | decide) (fun t ht hW => eMI (by rw [hq]; exact hP) hS ht (by rw [hq])) hS.2.2 dX4_buryIfAlive_23
  · have hq := hq.trans (if_pos c_1)
    refine lv_iconst (v := (nI 0)) hx hb dX4_buryIfAlive_11 (by decide) ?_
    exact W.zret (v := (nI 0)) hx hb hr (by first | rfl | decide) (fun t ht hW => eMI (by rw [hq]; exact hP) hS ht (by rw [hq])) hS.2.2 dX4_buryIfAlive_12
def fX4_toggleIfThere (v : (Nat → Nat → Int32)) (k : Int32) (o : Int32) : Int32 × (Nat → Nat → Int32) := (if k = o then ((nI 0), v) else (if (fX2_hasKeeper v k) = 0 then ((nI 0), v) else (if (fX2_hasKeeper v o) = 0 then ((nI 0), v) else ((nI 1), (fX2_toggleQuarrel v ((k.toNatClampNeg)) ((o.toNatClampNeg))).2))))
set_option maxHeartbeats 4000000 in
set_option maxRecDepth 100000 in
theorem kX4_toggleIfThere (l : Launch) (Γ : wG) (q : Nat) (an : Nat → Nat) (ap : Nat → Nat) (qs : Nat) (ac : Nat → Nat) (au : Nat → Nat) (ax : Nat → Nat) (nn : Int32) (v : (Nat → Nat → Int32)) (k : Int32) (o : Int32) : MI l Γ yX4_toggleIfThere wsX4_toggleIfThere ({ frames := 2, cells := 0, slots := 0, locals := 42 }) [.ref q, .int k, .int o] [mnC q an ap qs ac au ax nn, plB Γ an v] [mnC q an ap qs ac au ax nn, plB Γ an (fX4_toggleIfThere v k o).2] (fX4_toggleIfThere v k o).1 := by
  intro sz
  refine Met.ofW (cc := cX4_toggleIfThere) (maxL := 3) (ret := (some .boolean)) (by decide) rfl ?_
  intro p e s m args below meth c s₁ B hml hv
  obtain ⟨rfl, hsz, hP, hK, hD0, hAm⟩ := hv
  have hx := B.exec
  have hb := B.bytes
  have hr := B.returns
  have hts := atoms_spec (ws := wsX4_toggleIfThere) B.pre
  have hown : s.vm.findClass RX4 = some m.cls := findClass_of_methodNamed B.named
  have hlocks := B.notSynchronized
  subst hsz
  have hD := hD0.self (sz := s.heap.size)
  generalize hAe : va_A (wcat [mnC q an ap qs ac au ax nn, plB Γ an v]) s.heap.size = A at hD hAm ⊢
  have hA : ∀ q : Nat, s.heap.size ≤ q → A q := fun q h => by rw [← hAe]; exact Or.inr h
  have hAB : ∀ q : Nat, A q → A q := fun _ h => h
  have hS : va_S A s.heap s.heap [] := va_S.rf
  have hl := lv_entry ([.ref q, .int k, .int o]) (n := 3) (Nat.le_of_ble_eq_true rfl)
  rw [lg_entry_eq]
  generalize (lg_sl ([.ref q, .int k, .int o]) ++ List.replicate (3 - (lg_sl ([.ref q, .int k, .int o])).length) Slot.unset).toArray = ls at hl ⊢
  have hl : lv_has ls 3 [(0, .ref q), (1, .int k), (2, .int o)] := hl
  have hi4 : ∀ w ∈ wsX40, w ∈ wsX4_toggleIfThere := by decide +kernel
  have kf10 := hts (.fieldLink RX4 10 "CapsuleKeepers" "now" "LCapsuleKeepers$Place;") (by decide +kernel)
  have hq : (fX4_toggleIfThere v k o) = (if k = o then ((nI 0), v) else (if (fX2_hasKeeper v k) = 0 then ((nI 0), v) else (if (fX2_hasKeeper v o) = 0 then ((nI 0), v) else ((nI 1), (fX2_toggleQuarrel v ((k.toNatClampNeg)) ((o.toNatClampNeg))).2)))) := rfl
  refine lv_iload_n hx hb dX4_toggleIfThere_0 rfl (lv_at hl 1 rfl) ?_
  refine lv_iload_n hx hb dX4_toggleIfThere_1 rfl (lv_at hl 2 rfl) ?_
  refine lv_icmp_eq (tgt := 27) hx hb dX4_toggleIfThere_2 (by decide) (fun c_1 => ?_) (fun c_1 => ?_)
  · have hq := hq.trans (if_pos c_1)
    refine lv_iconst (v := (nI 0)) hx hb dX4_toggleIfThere_27 (by decide) ?_
    exact W.zret (v := (nI 0)) hx hb hr (by first | rfl | decide) (fun t ht hW => eMI (by rw [hq]; exact hP) hS ht (by rw [hq])) hS.2.2 dX4_toggleIfThere_28
  · have hq := hq.trans (if_neg c_1)
    refine lv_aload_n hx hb dX4_toggleIfThere_5 rfl (lv_at hl 0 rfl) ?_
    refine va_get (D := Γ.1) (ci := 4) (v := .ref (an 0)) (C := RX4) (T := TX4) (N := 7) hx hb hts hi4 hown hK hP 0 rfl rfl 0 (by decide) kf10 (fun _ h9 => h9) rfl dX4_toggleIfThere_6 ?_
    refine lv_iload_n hx hb dX4_toggleIfThere_9 rfl (lv_at hl 1 rfl) ?_
    refine cLI (va_runV (As := [.int k]) (rest := []) ⟨hx, hb, hml, hown, hts⟩ ((kX2_hasKeeper l Γ an v k) _) (cwV 1 hts gX4_toggleIfThere_X2_hasKeeper rfl rfl rfl (by decide +kernel) ⟨Nat.le_of_ble_eq_true rfl, Nat.le_of_ble_eq_true rfl⟩) ⟨wPre_blind, va_recv hK hP (ci := 2) (q0 := 1) rfl rfl, wPre_mk hP hD hK hS hA hAB hAm [1] rfl rfl⟩ rfl rfl hl.1 rfl (lv_room (Nat.le_of_ble_eq_true rfl)) dX4_toggleIfThere_10 ⟨Nat.zero_le _, Nat.zero_le _⟩) hP hS hA (fun H locs hP hS => ?_)
    refine lv_if_eq (tgt := 27) hx hb dX4_toggleIfThere_13 (by decide) (fun c_2 => ?_) (fun c_2 => ?_)
    · have hq := hq.trans (if_pos c_2)
      refine lv_iconst (v := (nI 0)) hx hb dX4_toggleIfThere_27 (by decide) ?_
      exact W.zret (v := (nI 0)) hx hb hr (by first | rfl | decide) (fun t ht hW => eMI (by rw [hq]; exact hP) hS ht (by rw [hq])) hS.2.2 dX4_toggleIfThere_28
    · have hq := hq.trans (if_neg c_2)
      refine lv_aload_n hx hb dX4_toggleIfThere_16 rfl (lv_at hl 0 rfl) ?_
      refine va_get (D := Γ.1) (ci := 4) (v := .ref (an 0)) (C := RX4) (T := TX4) (N := 7) hx hb hts hi4 hown hK hP 0 rfl rfl 0 (by decide) kf10 (fun _ h9 => h9) rfl dX4_toggleIfThere_17 ?_
      refine lv_iload_n hx hb dX4_toggleIfThere_20 rfl (lv_at hl 2 rfl) ?_
      refine cLI (va_runV (As := [.int o]) (rest := []) ⟨hx, hb, hml, hown, hts⟩ ((kX2_hasKeeper l Γ an v o) _) (cwV 1 hts gX4_toggleIfThere_X2_hasKeeper rfl rfl rfl (by decide +kernel) ⟨Nat.le_of_ble_eq_true rfl, Nat.le_of_ble_eq_true rfl⟩) ⟨wPre_blind, va_recv hK hP (ci := 2) (q0 := 1) rfl rfl, wPre_mk hP hD hK hS hA hAB hAm [1] rfl rfl⟩ rfl rfl hl.1 rfl (lv_room (Nat.le_of_ble_eq_true rfl)) dX4_toggleIfThere_21 ⟨Nat.zero_le _, Nat.zero_le _⟩) hP hS hA (fun H locs hP hS => ?_)
      refine lv_if_ne (tgt := 29) hx hb dX4_toggleIfThere_24 (by decide) (fun c_3 => ?_) (fun c_3 => ?_)
      · have hq := hq.trans (if_neg c_3)
        obtain ⟨kn, hkn, rfl⟩ := hasK_nat (v := v) (k := k) (by assumption)
        obtain ⟨on, hon, rfl⟩ := hasK_nat (v := v) (k := o) (by assumption)
        replace hq : (fX4_toggleIfThere v (nI kn) (nI on)) = ((nI 1), (fX2_toggleQuarrel v (kn) (on)).2) := hq.trans (by first | simp only [nI_clamp (show kn < 2 ^ 31 by omega), nI_clamp (show on < 2 ^ 31 by omega), Nat.add_sub_cancel] | rfl)
        refine lv_aload_n hx hb dX4_toggleIfThere_29 rfl (lv_at hl 0 rfl) ?_
        refine va_get (D := Γ.1) (ci := 4) (v := .ref (an 0)) (C := RX4) (T := TX4) (N := 7) hx hb hts hi4 hown hK hP 0 rfl rfl 0 (by decide) kf10 (fun _ h9 => h9) rfl dX4_toggleIfThere_30 ?_
        refine lv_iload_n hx hb dX4_toggleIfThere_33 rfl (lv_at hl 1 rfl) ?_
        refine lv_iload_n hx hb dX4_toggleIfThere_34 rfl (lv_at hl 2 rfl) ?_
        refine cMI (bc' := [plB Γ an (fX2_toggleQuarrel v (kn) (on)).2]) (va_runV (As := [.int (nI kn), .int (nI on)]) (rest := []) ⟨hx, hb, hml, hown, hts⟩ ((kX2_toggleQuarrel l Γ an v (kn) (on) (by first | assumption | omega) (by first | assumption | omega)) _) (cwV 2 hts gX4_toggleIfThere_X2_toggleQuarrel rfl rfl rfl (by decide +kernel) ⟨Nat.le_of_ble_eq_true rfl, Nat.le_of_ble_eq_true rfl⟩) ⟨wPre_blind, va_recv hK hP (ci := 2) (q0 := 1) rfl rfl, wPre_mk hP hD hK hS hA hAB hAm [1] rfl rfl⟩ rfl rfl hl.1 rfl (lv_room (Nat.le_of_ble_eq_true rfl)) dX4_toggleIfThere_35 ⟨Nat.zero_le _, Nat.zero_le _⟩) hP hD hS hA [1] rfl rfl (bs' := [mnC q an ap qs ac au ax nn, plB Γ an (fX2_toggleQuarrel v (kn) (on)).2]) rfl (fun H locs hP hD hS => ?_)
        refine lv_pop hx hb dX4_toggleIfThere_38 rfl ?_
        refine lv_iconst (v := (nI 1)) hx hb dX4_toggleIfThere_39 (by decide) ?_
        exact W.zret (v := (nI 1)) hx hb hr (by first | rfl | decide) (fun t ht hW => eMI (by rw [hq]; exact hP) hS ht (by rw [hq])) hS.2.2 dX4_toggleIfThere_40
      · have hq := hq.trans (if_pos c_3)
        refine lv_iconst (v := (nI 0)) hx hb dX4_toggleIfThere_27 (by decide) ?_
        exact W.zret (v := (nI 0)) hx hb hr (by first | rfl | decide) (fun t ht hW => eMI (by rw [hq]; exact hP) hS ht (by rw [hq])) hS.2.2 dX4_toggleIfThere_28
def fX4_nameIfFree (v : (Nat → Nat → Int32)) (k : Int32) (h : Int32) : Int32 × (Nat → Nat → Int32) := (if (fX2_mayName v k h) = 0 then ((nI 0), v) else ((nI 1), (fX2_nameHeir v k h).2))
set_option maxHeartbeats 4000000 in
set_option maxRecDepth 100000 in
theorem kX4_nameIfFree (l : Launch) (Γ : wG) (q : Nat) (an : Nat → Nat) (ap : Nat → Nat) (qs : Nat) (ac : Nat → Nat) (au : Nat → Nat) (ax : Nat → Nat) (nn : Int32) (v : (Nat → Nat → Int32)) (k : Int32) (h : Int32) : MI l Γ yX4_nameIfFree wsX4_nameIfFree ({ frames := 3, cells := 0, slots := 0, locals := 64 }) [.ref q, .int k, .int h] [mnC q an ap qs ac au ax nn, plB Γ an v] [mnC q an ap qs ac au ax nn, plB Γ an (fX4_nameIfFree v k h).2] (fX4_nameIfFree v k h).1 := by
  intro sz
  refine Met.ofW (cc := cX4_nameIfFree) (maxL := 3) (ret := (some .boolean)) (by decide) rfl ?_
  intro p e s m args below meth c s₁ B hml hv
  obtain ⟨rfl, hsz, hP, hK, hD0, hAm⟩ := hv
  have hx := B.exec
  have hb := B.bytes
  have hr := B.returns
  have hts := atoms_spec (ws := wsX4_nameIfFree) B.pre
  have hown : s.vm.findClass RX4 = some m.cls := findClass_of_methodNamed B.named
  have hlocks := B.notSynchronized
  subst hsz
  have hD := hD0.self (sz := s.heap.size)
  generalize hAe : va_A (wcat [mnC q an ap qs ac au ax nn, plB Γ an v]) s.heap.size = A at hD hAm ⊢
  have hA : ∀ q : Nat, s.heap.size ≤ q → A q := fun q h => by rw [← hAe]; exact Or.inr h
  have hAB : ∀ q : Nat, A q → A q := fun _ h => h
  have hS : va_S A s.heap s.heap [] := va_S.rf
  have hl := lv_entry ([.ref q, .int k, .int h]) (n := 3) (Nat.le_of_ble_eq_true rfl)
  rw [lg_entry_eq]
  generalize (lg_sl ([.ref q, .int k, .int h]) ++ List.replicate (3 - (lg_sl ([.ref q, .int k, .int h])).length) Slot.unset).toArray = ls at hl ⊢
  have hl : lv_has ls 3 [(0, .ref q), (1, .int k), (2, .int h)] := hl
  have hi4 : ∀ w ∈ wsX40, w ∈ wsX4_nameIfFree := by decide +kernel
  have kf10 := hts (.fieldLink RX4 10 "CapsuleKeepers" "now" "LCapsuleKeepers$Place;") (by decide +kernel)
  have hq : (fX4_nameIfFree v k h) = (if (fX2_mayName v k h) = 0 then ((nI 0), v) else ((nI 1), (fX2_nameHeir v k h).2)) := rfl
  refine lv_aload_n hx hb dX4_nameIfFree_0 rfl (lv_at hl 0 rfl) ?_
  refine va_get (D := Γ.1) (ci := 4) (v := .ref (an 0)) (C := RX4) (T := TX4) (N := 7) hx hb hts hi4 hown hK hP 0 rfl rfl 0 (by decide) kf10 (fun _ h9 => h9) rfl dX4_nameIfFree_1 ?_
  refine lv_iload_n hx hb dX4_nameIfFree_4 rfl (lv_at hl 1 rfl) ?_
  refine lv_iload_n hx hb dX4_nameIfFree_5 rfl (lv_at hl 2 rfl) ?_
  refine cLI (va_runV (As := [.int k, .int h]) (rest := []) ⟨hx, hb, hml, hown, hts⟩ ((kX2_mayName l Γ an v k h) _) (cwV 2 hts gX4_nameIfFree_X2_mayName rfl rfl rfl (by decide +kernel) ⟨Nat.le_of_ble_eq_true rfl, Nat.le_of_ble_eq_true rfl⟩) ⟨wPre_blind, va_recv hK hP (ci := 2) (q0 := 1) rfl rfl, wPre_mk hP hD hK hS hA hAB hAm [1] rfl rfl⟩ rfl rfl hl.1 rfl (lv_room (Nat.le_of_ble_eq_true rfl)) dX4_nameIfFree_6 ⟨Nat.zero_le _, Nat.zero_le _⟩) hP hS hA (fun H locs hP hS => ?_)
  refine lv_if_ne (tgt := 14) hx hb dX4_nameIfFree_9 (by decide) (fun c_1 => ?_) (fun c_1 => ?_)
  · have hq := hq.trans (if_neg c_1)
    refine lv_aload_n hx hb dX4_nameIfFree_14 rfl (lv_at hl 0 rfl) ?_
    refine va_get (D := Γ.1) (ci := 4) (v := .ref (an 0)) (C := RX4) (T := TX4) (N := 7) hx hb hts hi4 hown hK hP 0 rfl rfl 0 (by decide) kf10 (fun _ h9 => h9) rfl dX4_nameIfFree_15 ?_
    refine lv_iload_n hx hb dX4_nameIfFree_18 rfl (lv_at hl 1 rfl) ?_
    refine lv_iload_n hx hb dX4_nameIfFree_19 rfl (lv_at hl 2 rfl) ?_
    refine cMI (bc' := [plB Γ an (fX2_nameHeir v k h).2]) (va_runV (As := [.int k, .int h]) (rest := []) ⟨hx, hb, hml, hown, hts⟩ ((kX2_nameHeir l Γ an v k h (hasK_in (lives_has (mayName_in (by assumption))))) _) (cwV 2 hts gX4_nameIfFree_X2_nameHeir rfl rfl rfl (by decide +kernel) ⟨Nat.le_of_ble_eq_true rfl, Nat.le_of_ble_eq_true rfl⟩) ⟨wPre_blind, va_recv hK hP (ci := 2) (q0 := 1) rfl rfl, wPre_mk hP hD hK hS hA hAB hAm [1] rfl rfl⟩ rfl rfl hl.1 rfl (lv_room (Nat.le_of_ble_eq_true rfl)) dX4_nameIfFree_20 ⟨Nat.zero_le _, Nat.zero_le _⟩) hP hD hS hA [1] rfl rfl (bs' := [mnC q an ap qs ac au ax nn, plB Γ an (fX2_nameHeir v k h).2]) rfl (fun H locs hP hD hS => ?_)
    refine lv_pop hx hb dX4_nameIfFree_23 rfl ?_
    refine lv_iconst (v := (nI 1)) hx hb dX4_nameIfFree_24 (by decide) ?_
    exact W.zret (v := (nI 1)) hx hb hr (by first | rfl | decide) (fun t ht hW => eMI (by rw [hq]; exact hP) hS ht (by rw [hq])) hS.2.2 dX4_nameIfFree_25
  · have hq := hq.trans (if_pos c_1)
    refine lv_iconst (v := (nI 0)) hx hb dX4_nameIfFree_12 (by decide) ?_
    exact W.zret (v := (nI 0)) hx hb hr (by first | rfl | decide) (fun t ht hW => eMI (by rw [hq]; exact hP) hS ht (by rw [hq])) hS.2.2 dX4_nameIfFree_13
def fX4_passIfInTime (v : (Nat → Nat → Int32)) (d : Int32) : Int32 × (Nat → Nat → Int32) := (if (fX2_mayPass v d) = 0 then ((nI 0), v) else ((nI 1), (sS v 3 ((v 0 3) + d))))
set_option maxHeartbeats 4000000 in
set_option maxRecDepth 100000 in
theorem kX4_passIfInTime (l : Launch) (Γ : wG) (q : Nat) (an : Nat → Nat) (ap : Nat → Nat) (qs : Nat) (ac : Nat → Nat) (au : Nat → Nat) (ax : Nat → Nat) (nn : Int32) (v : (Nat → Nat → Int32)) (d : Int32) : MI l Γ yX4_passIfInTime wsX4_passIfInTime ({ frames := 1, cells := 0, slots := 0, locals := 21 }) [.ref q, .int d] [mnC q an ap qs ac au ax nn, plB Γ an v] [mnC q an ap qs ac au ax nn, plB Γ an (fX4_passIfInTime v d).2] (fX4_passIfInTime v d).1 := by
  intro sz
  refine Met.ofW (cc := cX4_passIfInTime) (maxL := 2) (ret := (some .boolean)) (by decide) rfl ?_
  intro p e s m args below meth c s₁ B hml hv
  obtain ⟨rfl, hsz, hP, hK, hD0, hAm⟩ := hv
  have hx := B.exec
  have hb := B.bytes
  have hr := B.returns
  have hts := atoms_spec (ws := wsX4_passIfInTime) B.pre
  have hown : s.vm.findClass RX4 = some m.cls := findClass_of_methodNamed B.named
  have hlocks := B.notSynchronized
  subst hsz
  have hD := hD0.self (sz := s.heap.size)
  generalize hAe : va_A (wcat [mnC q an ap qs ac au ax nn, plB Γ an v]) s.heap.size = A at hD hAm ⊢
  have hA : ∀ q : Nat, s.heap.size ≤ q → A q := fun q h => by rw [← hAe]; exact Or.inr h
  have hAB : ∀ q : Nat, A q → A q := fun _ h => h
  have hS : va_S A s.heap s.heap [] := va_S.rf
  have hl := lv_entry ([.ref q, .int d]) (n := 2) (Nat.le_of_ble_eq_true rfl)
  rw [lg_entry_eq]
  generalize (lg_sl ([.ref q, .int d]) ++ List.replicate (2 - (lg_sl ([.ref q, .int d])).length) Slot.unset).toArray = ls at hl ⊢
  have hl : lv_has ls 2 [(0, .ref q), (1, .int d)] := hl
  have hi2 : ∀ w ∈ wsX20, w ∈ wsX4_passIfInTime := by decide +kernel
  have hi4 : ∀ w ∈ wsX40, w ∈ wsX4_passIfInTime := by decide +kernel
  have kf10 := hts (.fieldLink RX4 10 "CapsuleKeepers" "now" "LCapsuleKeepers$Place;") (by decide +kernel)
  have kf132 := hts (.fieldLink RX4 132 "CapsuleKeepers$Place" "day" "I") (by decide +kernel)
  have hq : (fX4_passIfInTime v d) = (if (fX2_mayPass v d) = 0 then ((nI 0), v) else ((nI 1), (sS v 3 ((v 0 3) + d)))) := rfl
  refine lv_aload_n hx hb dX4_passIfInTime_0 rfl (lv_at hl 0 rfl) ?_
  refine va_get (D := Γ.1) (ci := 4) (v := .ref (an 0)) (C := RX4) (T := TX4) (N := 7) hx hb hts hi4 hown hK hP 0 rfl rfl 0 (by decide) kf10 (fun _ h9 => h9) rfl dX4_passIfInTime_1 ?_
  refine lv_iload_n hx hb dX4_passIfInTime_4 rfl (lv_at hl 1 rfl) ?_
  refine cLI (va_runV (As := [.int d]) (rest := []) ⟨hx, hb, hml, hown, hts⟩ ((kX2_mayPass l Γ an v d) _) (cwV 1 hts gX4_passIfInTime_X2_mayPass rfl rfl rfl (by decide +kernel) ⟨Nat.le_of_ble_eq_true rfl, Nat.le_of_ble_eq_true rfl⟩) ⟨wPre_blind, va_recv hK hP (ci := 2) (q0 := 1) rfl rfl, wPre_mk hP hD hK hS hA hAB hAm [1] rfl rfl⟩ rfl rfl hl.1 rfl (lv_room (Nat.le_of_ble_eq_true rfl)) dX4_passIfInTime_5 ⟨Nat.zero_le _, Nat.zero_le _⟩) hP hS hA (fun H locs hP hS => ?_)
  refine lv_if_ne (tgt := 13) hx hb dX4_passIfInTime_8 (by decide) (fun c_1 => ?_) (fun c_1 => ?_)
  · have hq := hq.trans (if_neg c_1)
    refine lv_aload_n hx hb dX4_passIfInTime_13 rfl (lv_at hl 0 rfl) ?_
    refine va_get (D := Γ.1) (ci := 4) (v := .ref (an 0)) (C := RX4) (T := TX4) (N := 7) hx hb hts hi4 hown hK hP 0 rfl rfl 0 (by decide) kf10 (fun _ h9 => h9) rfl dX4_passIfInTime_14 ?_
    refine lv_dup hx hb dX4_passIfInTime_17 rfl ?_
    refine va_get (D := Γ.1) (ci := 2) (v := .int (v 0 3)) (C := RX2) (T := TX2) (N := 16) hx hb hts hi2 hown hK hP 1 rfl rfl 8 (by decide) kf132 (fun _ h9 => h9) rfl dX4_passIfInTime_18 ?_
    refine lv_iload_n hx hb dX4_passIfInTime_21 rfl (lv_at hl 1 rfl) ?_
    refine lv_iadd hx hb dX4_passIfInTime_22 ?_
    refine va_put (D := Γ.1) (ci := 2) (v := .int ((v 0 3) + d)) (ty := .int) (C := RX2) (T := TX2) (N := 16) hx hb hts hi2 tyX2 tyX2_ok nmX2 hown hK hP hD hS 1 rfl rfl 8 (by decide) kf132 (fun _ h9 => h9) rfl (by decide +kernel) rfl rfl (Nat.le_of_ble_eq_true rfl) dX4_passIfInTime_23 (fun H locs hP hD hS => ?_)
    have hP : va_P Γ.1 vwCl (wcat [mnC q an ap qs ac au ax nn, plB Γ an (sS v 3 ((v 0 3) + d))]) H := hP
    have hD : va_D A (wcat [mnC q an ap qs ac au ax nn, plB Γ an (sS v 3 ((v 0 3) + d))]) := hD
    refine lv_iconst (v := (nI 1)) hx hb dX4_passIfInTime_26 (by decide) ?_
    exact W.zret (v := (nI 1)) hx hb hr (by first | rfl | decide) (fun t ht hW => eMI (by rw [hq]; exact hP) hS ht (by rw [hq])) hS.2.2 dX4_passIfInTime_27
  · have hq := hq.trans (if_pos c_1)
    refine lv_iconst (v := (nI 0)) hx hb dX4_passIfInTime_11 (by decide) ?_
    exact W.zret (v := (nI 0)) hx hb hr (by first | rfl | decide) (fun t ht hW => eMI (by rw [hq]; exact hP) hS ht (by rw [hq])) hS.2.2 dX4_passIfInTime_12
def fX4_renewIfShut (Qn : Nat) (v : (Nat → Nat → Int32)) (ck : (Nat → Int32)) : Int32 × (Nat → Nat → Int32) × (Nat → Int32) := (if (fX2_mayRenew v) = 0 then ((nI 0), v, ck) else ((nI 1), (fX4_dealShares Qn v ck).2.1, (fX4_dealShares Qn v ck).2.2))
set_option maxHeartbeats 4000000 in
set_option maxRecDepth 100000 in
theorem kX4_renewIfShut (l : Launch) (Γ : wG) (q : Nat) (an : Nat → Nat) (ap : Nat → Nat) (qs : Nat) (ac : Nat → Nat) (au : Nat → Nat) (ax : Nat → Nat) (Qn : Nat) (nn : Int32) (v : (Nat → Nat → Int32)) (ck : (Nat → Int32)) (hqv : v 0 4 = nI 1 → v 0 6 = nI Qn) (hq1 : 1 ≤ Qn) (hq8 : Qn ≤ 8) : MI l Γ yX4_renewIfShut wsX4_renewIfShut ({ frames := 4, cells := 0, slots := 0, locals := 86 }) [.ref q] [mnC q an ap qs ac au ax nn, plB Γ an v, cuB Γ ac ck] [mnC q an ap qs ac au ax nn, plB Γ an (fX4_renewIfShut Qn v ck).2.1, cuB Γ ac (fX4_renewIfShut Qn v ck).2.2] (fX4_renewIfShut Qn v ck).1 := by
  intro sz
  refine Met.ofW (cc := cX4_renewIfShut) (maxL := 1) (ret := (some .boolean)) (by decide) rfl ?_
  intro p e s m args below meth c s₁ B hml hv
  obtain ⟨rfl, hsz, hP, hK, hD0, hAm⟩ := hv
  have hx := B.exec
  have hb := B.bytes
  have hr := B.returns
  have hts := atoms_spec (ws := wsX4_renewIfShut) B.pre
  have hown : s.vm.findClass RX4 = some m.cls := findClass_of_methodNamed B.named
  have hlocks := B.notSynchronized
  subst hsz
  have hD := hD0.self (sz := s.heap.size)
  generalize hAe : va_A (wcat [mnC q an ap qs ac au ax nn, plB Γ an v, cuB Γ ac ck]) s.heap.size = A at hD hAm ⊢
  have hA : ∀ q : Nat, s.heap.size ≤ q → A q := fun q h => by rw [← hAe]; exact Or.inr h
  have hAB : ∀ q : Nat, A q → A q := fun _ h => h
  have hS : va_S A s.heap s.heap [] := va_S.rf
  have hl := lv_entry ([.ref q]) (n := 1) (Nat.le_of_ble_eq_true rfl)
  rw [lg_entry_eq]
  generalize (lg_sl ([.ref q]) ++ List.replicate (1 - (lg_sl ([.ref q])).length) Slot.unset).toArray = ls at hl ⊢
  have hl : lv_has ls 1 [(0, .ref q)] := hl
  have hi4 : ∀ w ∈ wsX40, w ∈ wsX4_renewIfShut := by decide +kernel
  have kf10 := hts (.fieldLink RX4 10 "CapsuleKeepers" "now" "LCapsuleKeepers$Place;") (by decide +kernel)
  have hq : (fX4_renewIfShut Qn v ck) = (if (fX2_mayRenew v) = 0 then ((nI 0), v, ck) else ((nI 1), (fX4_dealShares Qn v ck).2.1, (fX4_dealShares Qn v ck).2.2)) := rfl
  refine lv_aload_n hx hb dX4_renewIfShut_0 rfl (lv_at hl 0 rfl) ?_
  refine va_get (D := Γ.1) (ci := 4) (v := .ref (an 0)) (C := RX4) (T := TX4) (N := 7) hx hb hts hi4 hown hK hP 0 rfl rfl 0 (by decide) kf10 (fun _ h9 => h9) rfl dX4_renewIfShut_1 ?_
  refine cLI (va_runV (As := []) (rest := []) ⟨hx, hb, hml, hown, hts⟩ ((kX2_mayRenew l Γ an v) _) (cwV 0 hts gX4_renewIfShut_X2_mayRenew rfl rfl rfl (by decide +kernel) ⟨Nat.le_of_ble_eq_true rfl, Nat.le_of_ble_eq_true rfl⟩) ⟨wPre_blind, va_recv hK hP (ci := 2) (q0 := 1) rfl rfl, wPre_mk hP hD hK hS hA hAB hAm [1] rfl rfl⟩ rfl rfl hl.1 rfl (lv_room (Nat.le_of_ble_eq_true rfl)) dX4_renewIfShut_4 ⟨Nat.zero_le _, Nat.zero_le _⟩) hP hS hA (fun H locs hP hS => ?_)
  refine lv_if_ne (tgt := 12) hx hb dX4_renewIfShut_7 (by decide) (fun c_1 => ?_) (fun c_1 => ?_)
  · have hq := hq.trans (if_neg c_1)
    refine lv_aload_n hx hb dX4_renewIfShut_12 rfl (lv_at hl 0 rfl) ?_
    refine cMI (bc' := [mnC q an ap qs ac au ax nn, plB Γ an (fX4_dealShares Qn v ck).2.1, cuB Γ ac (fX4_dealShares Qn v ck).2.2]) (va_runV (As := []) (rest := []) ⟨hx, hb, hml, hown, hts⟩ ((kX4_dealShares l Γ q an ap qs ac au ax Qn nn v ck (hqv (mayRenew_ne (by assumption))) (by first | assumption | omega) (by first | assumption | omega)) _) (cwV 0 hts gX4_renewIfShut_X4_dealShares rfl rfl rfl (by decide +kernel) ⟨Nat.le_of_ble_eq_true rfl, Nat.le_of_ble_eq_true rfl⟩) ⟨wPre_blind, va_recv hK hP (ci := 4) (q0 := 0) rfl rfl, wPre_mk hP hD hK hS hA hAB hAm [0, 1, 2] rfl rfl⟩ rfl rfl hl.1 rfl (lv_room (Nat.le_of_ble_eq_true rfl)) dX4_renewIfShut_13 ⟨Nat.zero_le _, Nat.zero_le _⟩) hP hD hS hA [0, 1, 2] rfl rfl (bs' := [mnC q an ap qs ac au ax nn, plB Γ an (fX4_dealShares Qn v ck).2.1, cuB Γ ac (fX4_dealShares Qn v ck).2.2]) rfl (fun H locs hP hD hS => ?_)
    refine lv_pop hx hb dX4_renewIfShut_16 rfl ?_
    refine lv_iconst (v := (nI 1)) hx hb dX4_renewIfShut_17 (by decide) ?_
    exact W.zret (v := (nI 1)) hx hb hr (by first | rfl | decide) (fun t ht hW => eMI (by rw [hq]; exact hP) hS ht (by rw [hq])) hS.2.2 dX4_renewIfShut_18
  · have hq := hq.trans (if_pos c_1)
    refine lv_iconst (v := (nI 0)) hx hb dX4_renewIfShut_10 (by decide) ?_
    exact W.zret (v := (nI 0)) hx hb hr (by first | rfl | decide) (fun t ht hW => eMI (by rw [hq]; exact hP) hS ht (by rw [hq])) hS.2.2 dX4_renewIfShut_11
def fX4_groups_L15 (v : (Nat → Nat → Int32)) (ck : (Nat → Int32)) (r_1 : (Nat → Int32) × (Nat → Int32)) : Nat → Nat → Int32 → Int32 × (Nat → Int32) × (Nat → Int32)
  | 0, i15, x1_15 => (x1_15, r_1.1, r_1.2)
  | n15 + 1, i15, x1_15 => (if (fX4_couldOpen ck r_1.1 r_1.2 v (nI i15)) = 0 then (fX4_groups_L15 v ck r_1 n15 (i15 + 1) x1_15) else (fX4_groups_L15 v ck r_1 n15 (i15 + 1) (x1_15 + (nI 1))))
def fX4_groups (v : (Nat → Nat → Int32)) (ck : (Nat → Int32)) (so : (Nat → Int32)) (sp : (Nat → Int32)) : Int32 × (Nat → Int32) × (Nat → Int32) := (let r_1 := (fX3_look so sp v); (fX4_groups_L15 v ck r_1 (255) 1 (nI 0)))
set_option maxHeartbeats 4000000 in
set_option maxRecDepth 100000 in
theorem kX4_groups (l : Launch) (Γ : wG) (q : Nat) (an : Nat → Nat) (ap : Nat → Nat) (qs : Nat) (ac : Nat → Nat) (au : Nat → Nat) (ax : Nat → Nat) (nn : Int32) (v : (Nat → Nat → Int32)) (ck : (Nat → Int32)) (so : (Nat → Int32)) (sp : (Nat → Int32)) : MI l Γ yX4_groups wsX4_groups ({ frames := 3, cells := 0, slots := 0, locals := 66 }) [.ref q] [mnC q an ap qs ac au ax nn, plB Γ an v, cuB Γ ac ck, suB Γ au so sp] [mnC q an ap qs ac au ax nn, plB Γ an v, cuB Γ ac ck, suB Γ au (fX4_groups v ck so sp).2.1 (fX4_groups v ck so sp).2.2] (fX4_groups v ck so sp).1 := by
  intro sz
  refine Met.ofW (cc := cX4_groups) (maxL := 3) (ret := (some .int)) (by decide) rfl ?_
  intro p e s m args below meth c s₁ B hml hv
  obtain ⟨rfl, hsz, hP, hK, hD0, hAm⟩ := hv
  have hx := B.exec
  have hb := B.bytes
  have hr := B.returns
  have hts := atoms_spec (ws := wsX4_groups) B.pre
  have hown : s.vm.findClass RX4 = some m.cls := findClass_of_methodNamed B.named
  have hlocks := B.notSynchronized
  subst hsz
  have hD := hD0.self (sz := s.heap.size)
  generalize hAe : va_A (wcat [mnC q an ap qs ac au ax nn, plB Γ an v, cuB Γ ac ck, suB Γ au so sp]) s.heap.size = A at hD hAm ⊢
  have hA : ∀ q : Nat, s.heap.size ≤ q → A q := fun q h => by rw [← hAe]; exact Or.inr h
  have hAB : ∀ q : Nat, A q → A q := fun _ h => h
  have hS : va_S A s.heap s.heap [] := va_S.rf
  have hl := lv_entry ([.ref q]) (n := 3) (Nat.le_of_ble_eq_true rfl)
  rw [lg_entry_eq]
  generalize (lg_sl ([.ref q]) ++ List.replicate (3 - (lg_sl ([.ref q])).length) Slot.unset).toArray = ls at hl ⊢
  have hl : lv_has ls 3 [(0, .ref q)] := hl
  have hi4 : ∀ w ∈ wsX40, w ∈ wsX4_groups := by decide +kernel
  have kf10 := hts (.fieldLink RX4 10 "CapsuleKeepers" "now" "LCapsuleKeepers$Place;") (by decide +kernel)
  have kf37 := hts (.fieldLink RX4 37 "CapsuleKeepers" "survey" "LCapsuleKeepers$Survey;") (by decide +kernel)
  have hq : (fX4_groups v ck so sp) = (let r_1 := (fX3_look so sp v); (fX4_groups_L15 v ck r_1 (255) 1 (nI 0))) := rfl
  refine lv_aload_n hx hb dX4_groups_0 rfl (lv_at hl 0 rfl) ?_
  refine va_get (D := Γ.1) (ci := 4) (v := .ref (au 0)) (C := RX4) (T := TX4) (N := 7) hx hb hts hi4 hown hK hP 0 rfl rfl 5 (by decide) kf37 (fun _ h9 => h9) rfl dX4_groups_1 ?_
  refine lv_aload_n hx hb dX4_groups_4 rfl (lv_at hl 0 rfl) ?_
  refine va_get (D := Γ.1) (ci := 4) (v := .ref (an 0)) (C := RX4) (T := TX4) (N := 7) hx hb hts hi4 hown hK hP 0 rfl rfl 0 (by decide) kf10 (fun _ h9 => h9) rfl dX4_groups_5 ?_
  refine cMV (bc' := [suB Γ au (fX3_look so sp v).1 (fX3_look so sp v).2, plB Γ an v]) (va_runV (As := [.ref (an 0)]) (rest := []) ⟨hx, hb, hml, hown, hts⟩ ((kX3_look l Γ au an so sp v) _) (cwV 1 hts gX4_groups_X3_look rfl rfl rfl (by decide +kernel) ⟨Nat.le_of_ble_eq_true rfl, Nat.le_of_ble_eq_true rfl⟩) ⟨wPre_blind, va_recv hK hP (ci := 3) (q0 := 9) rfl rfl, wPre_mk hP hD hK hS hA hAB hAm [3, 1] rfl rfl⟩ rfl rfl hl.1 rfl (lv_room (Nat.le_of_ble_eq_true rfl)) dX4_groups_8 ⟨Nat.zero_le _, Nat.zero_le _⟩) hP hD hS hA [3, 1] rfl rfl (bs' := [mnC q an ap qs ac au ax nn, plB Γ an v, cuB Γ ac ck, suB Γ au (fX3_look so sp v).1 (fX3_look so sp v).2]) rfl (fun H locs hP hD hS => ?_)
  generalize hr_1 : (fX3_look so sp v) = r_1 at hP hD hq
  replace hq : (fX4_groups v ck so sp) = (fX4_groups_L15 v ck r_1 (255) 1 (nI 0)) := hq
  refine lv_iconst (v := (nI 0)) hx hb dX4_groups_11 (by decide) ?_
  refine lv_istore_n (lv' := [(1, .int (nI 0)), (0, .ref q)]) hx hb dX4_groups_12 rfl hl (by decide) rfl (fun ls hl => ?_)
  refine lv_iconst (v := (nI 1)) hx hb dX4_groups_13 (by decide) ?_
  refine lv_istore_n (lv' := [(2, .int (nI 1)), (1, .int (nI 0)), (0, .ref q)]) hx hb dX4_groups_14 rfl hl (by decide) rfl (fun ls hl => ?_)
  refine wl (pc := 15) (σ := Nat × Int32) (fun n (i15, x1_15) H locs ls => (i15 + n = 256) ∧ (fX4_groups v ck so sp) = fX4_groups_L15 v ck r_1 n i15 x1_15 ∧ va_P Γ.1 vwCl (wcat [mnC q an ap qs ac au ax nn, plB Γ an v, cuB Γ ac ck, suB Γ au r_1.1 r_1.2]) H ∧ va_D A (wcat [mnC q an ap qs ac au ax nn, plB Γ an v, cuB Γ ac ck, suB Γ au r_1.1 r_1.2]) ∧ va_S A s.heap H locs ∧ lv_has ls 3 [(2, .int (nI i15)), (1, .int x1_15), (0, .ref q)]) ?_ ?_ (255) (1, (nI 0)) _ _ _ ⟨by omega, hq, hP, hD, hS, lv_sub hl [0, 1, 2] rfl⟩
  · intro ⟨i15, x1_15⟩ H locs ls h
    obtain ⟨hn15, hq, hP, hD, hS, hl⟩ := h
    try dsimp only at hn15 hq hP hD hl
    replace hq : (fX4_groups v ck so sp) = (x1_15, r_1.1, r_1.2) := hq
    refine lv_iload_n hx hb dX4_groups_15 rfl (lv_at hl 0 rfl) ?_
    refine lv_sipush (v := (nI 256)) hx hb dX4_groups_16 (by decide) ?_
    refine lv_icmp_ge (tgt := 43) hx hb dX4_groups_19 (by decide) (fun c_19 => ?_) (fun c_19 => absurd (nI_le (by omega) (by omega)) c_19)
    refine lv_iload_n hx hb dX4_groups_43 rfl (lv_at hl 1 rfl) ?_
    exact W.iret (v := x1_15) hx hb hr (fun t ht hW => eMI (by rw [hq]; exact hP) hS ht (by rw [hq])) hS.2.2 dX4_groups_44
  · intro n15 ih15 ⟨i15, x1_15⟩ H locs ls h
    obtain ⟨hn15, hq, hP, hD, hS, hl⟩ := h
    try dsimp only at hn15 hq hP hD hl
    replace hq : (fX4_groups v ck so sp) = (if (fX4_couldOpen ck r_1.1 r_1.2 v (nI i15)) = 0 then (fX4_groups_L15 v ck r_1 n15 (i15 + 1) x1_15) else (fX4_groups_L15 v ck r_1 n15 (i15 + 1) (x1_15 + (nI 1)))) := hq
    refine lv_iload_n hx hb dX4_groups_15 rfl (lv_at hl 0 rfl) ?_
    refine lv_sipush (v := (nI 256)) hx hb dX4_groups_16 (by decide) ?_
    refine lv_icmp_ge (tgt := 43) hx hb dX4_groups_19 (by decide) (fun c_19 => absurd c_19 (nI_ge (by omega) (by omega))) (fun c_19 => ?_)
    refine lv_aload_n hx hb dX4_groups_22 rfl (lv_at hl 2 rfl) ?_
    refine lv_aload_n hx hb dX4_groups_23 rfl (lv_at hl 2 rfl) ?_
    refine va_get (D := Γ.1) (ci := 4) (v := .ref (an 0)) (C := RX4) (T := TX4) (N := 7) hx hb hts hi4 hown hK hP 0 rfl rfl 0 (by decide) kf10 (fun _ h9 => h9) rfl dX4_groups_24 ?_
    refine lv_iload_n hx hb dX4_groups_27 rfl (lv_at hl 0 rfl) ?_
    refine cLI (va_runV (As := [.ref (an 0), .int (nI i15)]) (rest := []) ⟨hx, hb, hml, hown, hts⟩ ((kX4_couldOpen l Γ q an ap qs ac au ax an nn ck r_1.1 r_1.2 v (nI i15)) _) (cwV 2 hts gX4_groups_X4_couldOpen rfl rfl rfl (by decide +kernel) ⟨Nat.le_of_ble_eq_true rfl, Nat.le_of_ble_eq_true rfl⟩) ⟨wPre_blind, va_recv hK hP (ci := 4) (q0 := 0) rfl rfl, wPre_mk hP hD hK hS hA hAB hAm [0, 2, 3, 1] rfl rfl⟩ rfl rfl hl.1 rfl (lv_room (Nat.le_of_ble_eq_true rfl)) dX4_groups_28 ⟨Nat.zero_le _, Nat.zero_le _⟩) hP hS hA (fun H locs hP hS => ?_)
    refine lv_if_eq (tgt := 37) hx hb dX4_groups_31 (by decide) (fun c_2 => ?_) (fun c_2 => ?_)
    · have hq := hq.trans (if_pos c_2)
      refine lv_iinc (v := (nI (i15 + 1))) (lv' := [(2, .int (nI (i15 + 1))), (1, .int x1_15), (0, .ref q)]) hx hb dX4_groups_37 hl (k := 0) rfl (nI_1 _) (by decide) rfl (fun ls hl => ?_)
      refine lv_goto (tgt := 15) hx hb dX4_groups_40 (by decide) ?_
      exact ih15 ((i15 + 1), x1_15) H locs ls ⟨by omega, hq, hP, hD, hS, lv_sub hl [0, 1, 2] rfl⟩
    · have hq := hq.trans (if_neg c_2)
      refine lv_iinc (v := (x1_15 + (nI 1))) (lv' := [(1, .int (x1_15 + (nI 1))), (2, .int (nI i15)), (0, .ref q)]) hx hb dX4_groups_34 hl (k := 1) rfl (rfl) (by decide) rfl (fun ls hl => ?_)
      refine lv_iinc (v := (nI (i15 + 1))) (lv' := [(2, .int (nI (i15 + 1))), (1, .int (x1_15 + (nI 1))), (0, .ref q)]) hx hb dX4_groups_37 hl (k := 1) rfl (nI_1 _) (by decide) rfl (fun ls hl => ?_)
      refine lv_goto (tgt := 15) hx hb dX4_groups_40 (by decide) ?_
      exact ih15 ((i15 + 1), (x1_15 + (nI 1))) H locs ls ⟨by omega, hq, hP, hD, hS, lv_sub hl [0, 1, 2] rfl⟩
