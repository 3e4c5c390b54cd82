def fX4_keeper (SL : Nat) (sr : Nat) (vs : (Nat → Nat → Nat → Int32)) (v : (Nat → Nat → Int32)) : Int32 × Nat × Nat × (Nat → Nat → Nat → Int32) × (Nat → Nat → Int32) := (let r_1 := (fX4_save (SL) (sr) vs v); (let r_2 := (fX2_addKeeper v); (r_2.1, (r_1.1), (r_1.2.1), r_1.2.2, r_2.2)))
set_option maxHeartbeats 4000000 in
set_option maxRecDepth 100000 in
theorem kX4_keeper (l : Launch) (Γ : wG) (q : Nat) (an : Nat → Nat) (ap : Nat → Nat) (qs : Nat) (ac : Nat → Nat) (au : Nat → Nat) (ax : Nat → Nat) (SL : Nat) (sa : (Nat → Nat → Nat)) (sr : Nat) (vs : (Nat → Nat → Nat → Int32)) (v : (Nat → Nat → Int32)) (hSL : SL ≤ 6) (hsr : sr < 6) (h8 : v 0 0 < nI 8) : MI l Γ yX4_keeper wsX4_keeper ({ frames := 2, cells := 0, slots := 0, locals := 44 }) [.ref q] [mnC q an ap qs ac au ax (nI SL), saB Γ qs sa sr vs, plB Γ an v] [mnC q an ap qs ac au ax (nI (((fX4_keeper SL sr vs v).2.1))), saB Γ qs sa (((fX4_keeper SL sr vs v).2.2.1)) (fX4_keeper SL sr vs v).2.2.2.1, plB Γ an (fX4_keeper SL sr vs v).2.2.2.2] (fX4_keeper SL sr vs v).1 := by
  intro sz
  refine Met.ofW (cc := cX4_keeper) (maxL := 1) (ret := (some .int)) (by decide) rfl ?_
  intro p e s m args below meth c s₁ B hml hv
  obtain ⟨rfl, hsz, hP, hK, hD0, hAm⟩ := hv
  have hx := B.exec
  have hb := B.bytes
  have hr := B.returns
  have hts := atoms_spec (ws := wsX4_keeper) B.pre
  have hown : s.vm.findClass RX4 = some m.cls := findClass_of_methodNamed B.named
  have hlocks := B.notSynchronized
  subst hsz
  have hD := hD0.self (sz := s.heap.size)
  generalize hAe : va_A (wcat [mnC q an ap qs ac au ax (nI SL), saB Γ qs sa sr vs, plB Γ an v]) s.heap.size = A at hD hAm ⊢
  have hA : ∀ q : Nat, s.heap.size ≤ q → A q := fun q h => by rw [← hAe]; exact Or.inr h
  have hAB : ∀ q : Nat, A q → A q := fun _ h => h
  have hS : va_S A s.heap s.heap [] := va_S.rf
  have hl := lv_entry ([.ref q]) (n := 1) (Nat.le_of_ble_eq_true rfl)
  rw [lg_entry_eq]
  generalize (lg_sl ([.ref q]) ++ List.replicate (1 - (lg_sl ([.ref q])).length) Slot.unset).toArray = ls at hl ⊢
  have hl : lv_has ls 1 [(0, .ref q)] := hl
  have hi2 : ∀ w ∈ wsX20, w ∈ wsX4_keeper := by decide +kernel
  have hi4 : ∀ w ∈ wsX40, w ∈ wsX4_keeper := by decide +kernel
  have kf10 := hts (.fieldLink RX4 10 "CapsuleKeepers" "now" "LCapsuleKeepers$Place;") (by decide +kernel)
  have kf48 := hts (.fieldLink RX4 48 "CapsuleKeepers$Place" "keepers" "I") (by decide +kernel)
  have hq : (fX4_keeper SL sr vs v) = (let r_1 := (fX4_save (SL) (sr) vs v); (let r_2 := (fX2_addKeeper v); (r_2.1, (r_1.1), (r_1.2.1), r_1.2.2, r_2.2))) := rfl
  refine lv_aload_n hx hb dX4_keeper_0 rfl (lv_at hl 0 rfl) ?_
  refine va_get (D := Γ.1) (ci := 4) (v := .ref (an 0)) (C := RX4) (T := TX4) (N := 7) hx hb hts hi4 hown hK hP 0 rfl rfl 0 (by decide) kf10 (fun _ h9 => h9) rfl dX4_keeper_1 ?_
  refine va_get (D := Γ.1) (ci := 2) (v := .int (v 0 0)) (C := RX2) (T := TX2) (N := 16) hx hb hts hi2 hown hK hP 38 rfl rfl 0 (by decide) kf48 (fun _ h9 => h9) rfl dX4_keeper_4 ?_
  refine lv_bipush (v := (nI 8)) hx hb dX4_keeper_7 (by decide) ?_
  refine lv_icmp_lt (tgt := 22) hx hb dX4_keeper_9 (by decide) (fun c_9 => ?_) (fun c_9 => absurd h8 c_9)
  refine lv_aload_n hx hb dX4_keeper_22 rfl (lv_at hl 0 rfl) ?_
  have kc := (kX4_save l Γ q an ap qs ac au ax (SL) sa (sr) vs v (by first | assumption | omega | decide) (by first | assumption | omega | decide))
  generalize hr_1 : (fX4_save (SL) (sr) vs v) = r_1 at kc hq
  replace hq : (fX4_keeper SL sr vs v) = (let r_2 := (fX2_addKeeper v); (r_2.1, (r_1.1), (r_1.2.1), r_1.2.2, r_2.2)) := hq
  refine cMV (bc' := [mnC q an ap qs ac au ax (nI (r_1.1)), saB Γ qs sa ((r_1.2.1)) r_1.2.2, plB Γ an v]) (va_runV (As := []) (rest := []) ⟨hx, hb, hml, hown, hts⟩ (kc _) (cwV 0 hts gX4_keeper_X4_save rfl rfl rfl (by decide +kernel) ⟨Nat.le_of_ble_eq_true rfl, Nat.le_of_ble_eq_true rfl⟩) ⟨wPre_blind, va_recv hK hP (ci := 4) (q0 := 0) rfl rfl, wPre_mk hP hD hK hS hA hAB hAm [0, 1, 2] rfl rfl⟩ rfl rfl hl.1 rfl (lv_room (Nat.le_of_ble_eq_true rfl)) dX4_keeper_23 ⟨Nat.zero_le _, Nat.zero_le _⟩) hP hD hS hA [0, 1, 2] rfl rfl (bs' := [mnC q an ap qs ac au ax (nI (r_1.1)), saB Γ qs sa ((r_1.2.1)) r_1.2.2, plB Γ an v]) rfl (fun H locs hP hD hS => ?_)
  refine lv_aload_n hx hb dX4_keeper_26 rfl (lv_at hl 0 rfl) ?_
  refine va_get (D := Γ.1) (ci := 4) (v := .ref (an 0)) (C := RX4) (T := TX4) (N := 7) hx hb hts hi4 hown hK hP 0 rfl rfl 0 (by decide) kf10 (fun _ h9 => h9) rfl dX4_keeper_27 ?_
  have kc := (kX2_addKeeper l Γ an v)
  generalize hr_2 : (fX2_addKeeper v) = r_2 at kc hq
  replace hq : (fX4_keeper SL sr vs v) = (r_2.1, (r_1.1), (r_1.2.1), r_1.2.2, r_2.2) := hq
  refine cMI (bc' := [plB Γ an r_2.2]) (va_runV (As := []) (rest := []) ⟨hx, hb, hml, hown, hts⟩ (kc _) (cwV 0 hts gX4_keeper_X2_addKeeper rfl rfl rfl (by decide +kernel) ⟨Nat.le_of_ble_eq_true rfl, Nat.le_of_ble_eq_true rfl⟩) ⟨wPre_blind, va_recv hK hP (ci := 2) (q0 := 38) rfl rfl, wPre_mk hP hD hK hS hA hAB hAm [2] rfl rfl⟩ rfl rfl hl.1 rfl (lv_room (Nat.le_of_ble_eq_true rfl)) dX4_keeper_30 ⟨Nat.zero_le _, Nat.zero_le _⟩) hP hD hS hA [2] rfl rfl (bs' := [mnC q an ap qs ac au ax (nI (r_1.1)), saB Γ qs sa ((r_1.2.1)) r_1.2.2, plB Γ an r_2.2]) rfl (fun H locs hP hD hS => ?_)
  exact W.iret (v := r_2.1) hx hb hr (fun t ht hW => eMI (by rw [hq]; exact hP) hS ht (by rw [hq])) hS.2.2 dX4_keeper_33
set_option maxHeartbeats 4000000 in
set_option maxRecDepth 100000 in
theorem tX4_keeper_a (l : Launch) (hfl : l.stackTraces = false) (Γ : wG) (q : Nat) (an : Nat → Nat) (ap : Nat → Nat) (qs : Nat) (ac : Nat → Nat) (au : Nat → Nat) (ax : Nat → Nat) (nn : Int32) (v : (Nat → Nat → Int32)) (h8 : ¬ v 0 0 < nI 8) : TX l Γ yX4_keeper wsX4_keeper ({ frames := 6, cells := 1, slots := 6, locals := 90 }) [.ref q] [mnC q an ap qs ac au ax nn, plB Γ an v] "java/lang/IllegalStateException" := by
  intro sz
  refine vx_ofW (cc := cX4_keeper) (maxL := 1) (ret := (some .int)) (by decide) rfl ?_
  intro p e s m args below meth c s₁ B hml hnt hv
  obtain ⟨rfl, hsz, hP, hK, hD0, hAm⟩ := hv
  have hx := B.exec
  have hb := B.bytes
  have hr := B.returns
  have hts := atoms_spec (ws := wsX4_keeper) B.pre
  have hown : s.vm.findClass RX4 = some m.cls := findClass_of_methodNamed B.named
  have hlocks := B.notSynchronized
  subst hsz
  have hD := hD0.self (sz := s.heap.size)
  generalize hBe : va_A (wcat [mnC q an ap qs ac au ax nn, plB Γ an v]) s.heap.size = B0 at hD hAm
  obtain ⟨A, hAe⟩ : ∃ A, A = va_A [] s.heap.size := ⟨_, rfl⟩
  rw [← hAe]
  have hA : ∀ q : Nat, s.heap.size ≤ q → A q := fun q h => by rw [hAe]; exact Or.inr h
  have hAB : ∀ q : Nat, A q → B0 q := fun q h => by rw [hAe] at h; rw [← hBe]; exact Or.inr (wnone h)
  have hS : va_S A s.heap s.heap [] := va_S.rf
  have hl := lv_entry ([.ref q]) (n := 1) (Nat.le_of_ble_eq_true rfl)
  rw [lg_entry_eq]
  generalize (lg_sl ([.ref q]) ++ List.replicate (1 - (lg_sl ([.ref q])).length) Slot.unset).toArray = ls at hl ⊢
  have hl : lv_has ls 1 [(0, .ref q)] := hl
  have hi2 : ∀ w ∈ wsX20, w ∈ wsX4_keeper := by decide +kernel
  have hi4 : ∀ w ∈ wsX40, w ∈ wsX4_keeper := by decide +kernel
  have kf10 := hts (.fieldLink RX4 10 "CapsuleKeepers" "now" "LCapsuleKeepers$Place;") (by decide +kernel)
  have kf48 := hts (.fieldLink RX4 48 "CapsuleKeepers$Place" "keepers" "I") (by decide +kernel)
  refine lv_aload_n hx hb dX4_keeper_0 rfl (lv_at hl 0 rfl) ?_
  refine va_get (D := Γ.1) (ci := 4) (v := .ref (an 0)) (C := RX4) (T := TX4) (N := 7) hx hb hts hi4 hown hK hP 0 rfl rfl 0 (by decide) kf10 (fun _ h9 => h9) rfl dX4_keeper_1 ?_
  refine va_get (D := Γ.1) (ci := 2) (v := .int (v 0 0)) (C := RX2) (T := TX2) (N := 16) hx hb hts hi2 hown hK hP 1 rfl rfl 0 (by decide) kf48 (fun _ h9 => h9) rfl dX4_keeper_4 ?_
  refine lv_bipush (v := (nI 8)) hx hb dX4_keeper_7 (by decide) ?_
  refine lv_icmp_lt (tgt := 22) hx hb dX4_keeper_9 (by decide) (fun c_9 => absurd c_9 h8) (fun c_9 => ?_)
  obtain ⟨sx, hstr⟩ := hAm.2.2.2.2.1 (53, "there are 8 keepers") (by decide +kernel)
  exact vx_throwS (names := nm2) (A := A) hx hb hfl hown (by decide +kernel) (by decide +kernel) (hts (.classLink RX4 51 "java/lang/IllegalStateException") (by decide +kernel)) (hts (.initialized "java/lang/IllegalStateException") (by decide +kernel)) hstr (thr_hat hAm (by decide +kernel) (by decide +kernel) (fun w hw => hts w ((by decide +kernel : ∀ w ∈ (vx_atS RX4 55 "java/lang/IllegalStateException" nm2).filter goodWord, w ∈ wsX4_keeper) w hw))) (by decide +kernel) ((hAm.narrow hAB).2.2.1) ((hAm.narrow hAB).2.2.2.1) hS (by rw [hml]; exact hl.1) dX4_keeper_12 dX4_keeper_15 dX4_keeper_16 dX4_keeper_18 dX4_keeper_21 (fun x hx => (hnt x hx).elim) (Nat.le_of_ble_eq_true rfl) (Nat.le_of_ble_eq_true rfl) (Nat.le_of_ble_eq_true rfl) (Nat.le_of_ble_eq_true rfl) hlocks (fun t _ h1 h2 => ⟨(), trivial, rfl, xF hS h1 h2⟩) hS.2.2 (Nat.le_of_ble_eq_true rfl) (Nat.le_of_ble_eq_true rfl)
def fX4_die (SL : Nat) (sr : Nat) (vs : (Nat → Nat → Nat → Int32)) (v : (Nat → Nat → Int32)) (k : Int32) : Int32 × Nat × Nat × (Nat → Nat → Nat → Int32) × (Nat → Nat → Int32) := (let r_1 := (fX4_save (SL) (sr) vs v); (let r_2 := (fX2_bury v k); (r_2.1, (r_1.1), (r_1.2.1), r_1.2.2, r_2.2)))
set_option maxHeartbeats 4000000 in
set_option maxRecDepth 100000 in
theorem kX4_die (l : Launch) (Γ : wG) (q : Nat) (an : Nat → Nat) (ap : Nat → Nat) (qs : Nat) (ac : Nat → Nat) (au : Nat → Nat) (ax : Nat → Nat) (SL : Nat) (sa : (Nat → Nat → Nat)) (sr : Nat) (vs : (Nat → Nat → Nat → Int32)) (v : (Nat → Nat → Int32)) (k : Int32) (hSL : SL ≤ 6) (hsr : sr < 6) (hv : ¬ fX2_hasKeeper v k = 0) (hl2 : ¬ fX2_lives v k = 0) : MI l Γ yX4_die wsX4_die ({ frames := 3, cells := 0, slots := 0, locals := 67 }) [.ref q, .int k] [mnC q an ap qs ac au ax (nI SL), saB Γ qs sa sr vs, plB Γ an v] [mnC q an ap qs ac au ax (nI (((fX4_die SL sr vs v k).2.1))), saB Γ qs sa (((fX4_die SL sr vs v k).2.2.1)) (fX4_die SL sr vs v k).2.2.2.1, plB Γ an (fX4_die SL sr vs v k).2.2.2.2] (fX4_die SL sr vs v k).1 := by
  intro sz
  refine Met.ofW (cc := cX4_die) (maxL := 2) (ret := (some .int)) (by decide) rfl ?_
  intro p e s m args below meth c s₁ B hml hv
  obtain ⟨rfl, hsz, hP, hK, hD0, hAm⟩ := hv
  have hx := B.exec
  have hb := B.bytes
  have hr := B.returns
  have hts := atoms_spec (ws := wsX4_die) B.pre
  have hown : s.vm.findClass RX4 = some m.cls := findClass_of_methodNamed B.named
  have hlocks := B.notSynchronized
  subst hsz
  have hD := hD0.self (sz := s.heap.size)
  generalize hAe : va_A (wcat [mnC q an ap qs ac au ax (nI SL), saB Γ qs sa sr vs, plB Γ an v]) s.heap.size = A at hD hAm ⊢
  have hA : ∀ q : Nat, s.heap.size ≤ q → A q := fun q h => by rw [← hAe]; exact Or.inr h
  have hAB : ∀ q : Nat, A q → A q := fun _ h => h
  have hS : va_S A s.heap s.heap [] := va_S.rf
  have hl := lv_entry ([.ref q, .int k]) (n := 2) (Nat.le_of_ble_eq_true rfl)
  rw [lg_entry_eq]
  generalize (lg_sl ([.ref q, .int k]) ++ List.replicate (2 - (lg_sl ([.ref q, .int k])).length) Slot.unset).toArray = ls at hl ⊢
  have hl : lv_has ls 2 [(0, .ref q), (1, .int k)] := hl
  have hi4 : ∀ w ∈ wsX40, w ∈ wsX4_die := by decide +kernel
  have kf10 := hts (.fieldLink RX4 10 "CapsuleKeepers" "now" "LCapsuleKeepers$Place;") (by decide +kernel)
  have hq : (fX4_die SL sr vs v k) = (let r_1 := (fX4_save (SL) (sr) vs v); (let r_2 := (fX2_bury v k); (r_2.1, (r_1.1), (r_1.2.1), r_1.2.2, r_2.2))) := rfl
  refine lv_aload_n hx hb dX4_die_0 rfl (lv_at hl 0 rfl) ?_
  refine lv_iload_n hx hb dX4_die_1 rfl (lv_at hl 1 rfl) ?_
  refine cLV (va_runV (As := [.int k]) (rest := []) ⟨hx, hb, hml, hown, hts⟩ ((kX4_checkKeeper l Γ q an ap qs ac au ax (nI SL) v k (by first | assumption | omega | decide)) _) (cwV 1 hts gX4_die_X4_checkKeeper rfl rfl rfl (by decide +kernel) ⟨Nat.le_of_ble_eq_true rfl, Nat.le_of_ble_eq_true rfl⟩) ⟨wPre_blind, va_recv hK hP (ci := 4) (q0 := 0) rfl rfl, wPre_mk hP hD hK hS hA hAB hAm [0, 2] rfl rfl⟩ rfl rfl hl.1 rfl (lv_room (Nat.le_of_ble_eq_true rfl)) dX4_die_2 ⟨Nat.zero_le _, Nat.zero_le _⟩) hP hS hA (fun H locs hP hS => ?_)
  refine lv_aload_n hx hb dX4_die_5 rfl (lv_at hl 0 rfl) ?_
  refine va_get (D := Γ.1) (ci := 4) (v := .ref (an 0)) (C := RX4) (T := TX4) (N := 7) hx hb hts hi4 hown hK hP 0 rfl rfl 0 (by decide) kf10 (fun _ h9 => h9) rfl dX4_die_6 ?_
  refine lv_iload_n hx hb dX4_die_9 rfl (lv_at hl 1 rfl) ?_
  refine cLI (va_runV (As := [.int k]) (rest := []) ⟨hx, hb, hml, hown, hts⟩ ((kX2_lives l Γ an v k) _) (cwV 1 hts gX4_die_X2_lives rfl rfl rfl (by decide +kernel) ⟨Nat.le_of_ble_eq_true rfl, Nat.le_of_ble_eq_true rfl⟩) ⟨wPre_blind, va_recv hK hP (ci := 2) (q0 := 38) rfl rfl, wPre_mk hP hD hK hS hA hAB hAm [2] rfl rfl⟩ rfl rfl hl.1 rfl (lv_room (Nat.le_of_ble_eq_true rfl)) dX4_die_10 ⟨Nat.zero_le _, Nat.zero_le _⟩) hP hS hA (fun H locs hP hS => ?_)
  refine lv_if_ne (tgt := 26) hx hb dX4_die_13 (by decide) (fun c_13 => ?_) (fun c_13 => absurd c_13 hl2)
  refine lv_aload_n hx hb dX4_die_26 rfl (lv_at hl 0 rfl) ?_
  have kc := (kX4_save l Γ q an ap qs ac au ax (SL) sa (sr) vs v (by first | assumption | omega | decide) (by first | assumption | omega | decide))
  generalize hr_1 : (fX4_save (SL) (sr) vs v) = r_1 at kc hq
  replace hq : (fX4_die SL sr vs v k) = (let r_2 := (fX2_bury v k); (r_2.1, (r_1.1), (r_1.2.1), r_1.2.2, r_2.2)) := hq
  refine cMV (bc' := [mnC q an ap qs ac au ax (nI (r_1.1)), saB Γ qs sa ((r_1.2.1)) r_1.2.2, plB Γ an v]) (va_runV (As := []) (rest := []) ⟨hx, hb, hml, hown, hts⟩ (kc _) (cwV 0 hts gX4_die_X4_save rfl rfl rfl (by decide +kernel) ⟨Nat.le_of_ble_eq_true rfl, Nat.le_of_ble_eq_true rfl⟩) ⟨wPre_blind, va_recv hK hP (ci := 4) (q0 := 0) rfl rfl, wPre_mk hP hD hK hS hA hAB hAm [0, 1, 2] rfl rfl⟩ rfl rfl hl.1 rfl (lv_room (Nat.le_of_ble_eq_true rfl)) dX4_die_27 ⟨Nat.zero_le _, Nat.zero_le _⟩) hP hD hS hA [0, 1, 2] rfl rfl (bs' := [mnC q an ap qs ac au ax (nI (r_1.1)), saB Γ qs sa ((r_1.2.1)) r_1.2.2, plB Γ an v]) rfl (fun H locs hP hD hS => ?_)
  refine lv_aload_n hx hb dX4_die_30 rfl (lv_at hl 0 rfl) ?_
  refine va_get (D := Γ.1) (ci := 4) (v := .ref (an 0)) (C := RX4) (T := TX4) (N := 7) hx hb hts hi4 hown hK hP 0 rfl rfl 0 (by decide) kf10 (fun _ h9 => h9) rfl dX4_die_31 ?_
  refine lv_iload_n hx hb dX4_die_34 rfl (lv_at hl 1 rfl) ?_
  have kc := (kX2_bury l Γ an v k (hasK_in hv))
  generalize hr_2 : (fX2_bury v k) = r_2 at kc hq
  replace hq : (fX4_die SL sr vs v k) = (r_2.1, (r_1.1), (r_1.2.1), r_1.2.2, r_2.2) := hq
  refine cMI (bc' := [plB Γ an r_2.2]) (va_runV (As := [.int k]) (rest := []) ⟨hx, hb, hml, hown, hts⟩ (kc _) (cwV 1 hts gX4_die_X2_bury rfl rfl rfl (by decide +kernel) ⟨Nat.le_of_ble_eq_true rfl, Nat.le_of_ble_eq_true rfl⟩) ⟨wPre_blind, va_recv hK hP (ci := 2) (q0 := 38) rfl rfl, wPre_mk hP hD hK hS hA hAB hAm [2] rfl rfl⟩ rfl rfl hl.1 rfl (lv_room (Nat.le_of_ble_eq_true rfl)) dX4_die_35 ⟨Nat.zero_le _, Nat.zero_le _⟩) hP hD hS hA [2] rfl rfl (bs' := [mnC q an ap qs ac au ax (nI (r_1.1)), saB Γ qs sa ((r_1.2.1)) r_1.2.2, plB Γ an r_2.2]) rfl (fun H locs hP hD hS => ?_)
  exact W.iret (v := r_2.1) hx hb hr (fun t ht hW => eMI (by rw [hq]; exact hP) hS ht (by rw [hq])) hS.2.2 dX4_die_38
set_option maxHeartbeats 4000000 in
set_option maxRecDepth 100000 in
theorem tX4_die_a (l : Launch) (hfl : l.stackTraces = false) (Γ : wG) (q : Nat) (an : Nat → Nat) (ap : Nat → Nat) (qs : Nat) (ac : Nat → Nat) (au : Nat → Nat) (ax : Nat → Nat) (nn : Int32) (v : (Nat → Nat → Int32)) (k : Int32) (hv : fX2_hasKeeper v k = 0) : TX l Γ yX4_die wsX4_die ({ frames := 7, cells := 1, slots := 6, locals := 111 }) [.ref q, .int k] [mnC q an ap qs ac au ax nn, plB Γ an v] "java/lang/IndexOutOfBoundsException" := by
  intro sz
  refine vx_ofW (cc := cX4_die) (maxL := 2) (ret := (some .int)) (by decide) rfl ?_
  intro p e s m args below meth c s₁ B hml hnt hv
  obtain ⟨rfl, hsz, hP, hK, hD0, hAm⟩ := hv
  have hx := B.exec
  have hb := B.bytes
  have hr := B.returns
  have hts := atoms_spec (ws := wsX4_die) B.pre
  have hown : s.vm.findClass RX4 = some m.cls := findClass_of_methodNamed B.named
  have hlocks := B.notSynchronized
  subst hsz
  have hD := hD0.self (sz := s.heap.size)
  generalize hBe : va_A (wcat [mnC q an ap qs ac au ax nn, plB Γ an v]) s.heap.size = B0 at hD hAm
  obtain ⟨A, hAe⟩ : ∃ A, A = va_A [] s.heap.size := ⟨_, rfl⟩
  rw [← hAe]
  have hA : ∀ q : Nat, s.heap.size ≤ q → A q := fun q h => by rw [hAe]; exact Or.inr h
  have hAB : ∀ q : Nat, A q → B0 q := fun q h => by rw [hAe] at h; rw [← hBe]; exact Or.inr (wnone h)
  have hS : va_S A s.heap s.heap [] := va_S.rf
  have hl := lv_entry ([.ref q, .int k]) (n := 2) (Nat.le_of_ble_eq_true rfl)
  rw [lg_entry_eq]
  generalize (lg_sl ([.ref q, .int k]) ++ List.replicate (2 - (lg_sl ([.ref q, .int k])).length) Slot.unset).toArray = ls at hl ⊢
  have hl : lv_has ls 2 [(0, .ref q), (1, .int k)] := hl
  refine lv_aload_n hx hb dX4_die_0 rfl (lv_at hl 0 rfl) ?_
  refine lv_iload_n hx hb dX4_die_1 rfl (lv_at hl 1 rfl) ?_
  exact tTX (E := "java/lang/IndexOutOfBoundsException") (vx_runV (As := [.int k]) (rest := []) ⟨hx, hb, hml, hown, hts⟩ ((tX4_checkKeeper l hfl Γ q an ap qs ac au ax nn v k (by first | assumption | omega | decide)) _) (cwV 1 hts gX4_die_X4_checkKeeper rfl rfl rfl (by decide +kernel) ⟨Nat.le_of_ble_eq_true rfl, Nat.le_of_ble_eq_true rfl⟩) ⟨wPre_blind, va_recv hK hP (ci := 4) (q0 := 0) rfl rfl, wPre_mk hP hD hK hS hA hAB hAm [0, 1] rfl rfl⟩ rfl rfl hl.1 rfl (lv_room (Nat.le_of_ble_eq_true rfl)) dX4_die_2 ⟨Nat.le_of_ble_eq_true rfl, Nat.le_of_ble_eq_true rfl⟩) hS hA (fun ce q9 H1 locs1 h1 h2 hS hc hv hcl => vx_out (fun x hx => (hnt x hx).elim) hlocks hc hv hcl (fun t ht ha => ⟨(), trivial, rfl, hS.F ht⟩) hS.2.2 (Nat.le_of_ble_eq_true rfl) (Nat.le_of_ble_eq_true rfl))
set_option maxHeartbeats 4000000 in
set_option maxRecDepth 100000 in
theorem tX4_die_b (l : Launch) (hfl : l.stackTraces = false) (Γ : wG) (q : Nat) (an : Nat → Nat) (ap : Nat → Nat) (qs : Nat) (ac : Nat → Nat) (au : Nat → Nat) (ax : Nat → Nat) (nn : Int32) (v : (Nat → Nat → Int32)) (k : Int32) (hv : ¬ fX2_hasKeeper v k = 0) (hl2 : fX2_lives v k = 0) : TX l Γ yX4_die wsX4_die ({ frames := 6, cells := 1, slots := 6, locals := 90 }) [.ref q, .int k] [mnC q an ap qs ac au ax nn, plB Γ an v] "java/lang/IllegalStateException" := by
  intro sz
  refine vx_ofW (cc := cX4_die) (maxL := 2) (ret := (some .int)) (by decide) rfl ?_
  intro p e s m args below meth c s₁ B hml hnt hv
  obtain ⟨rfl, hsz, hP, hK, hD0, hAm⟩ := hv
  have hx := B.exec
  have hb := B.bytes
  have hr := B.returns
  have hts := atoms_spec (ws := wsX4_die) B.pre
  have hown : s.vm.findClass RX4 = some m.cls := findClass_of_methodNamed B.named
  have hlocks := B.notSynchronized
  subst hsz
  have hD := hD0.self (sz := s.heap.size)
  generalize hBe : va_A (wcat [mnC q an ap qs ac au ax nn, plB Γ an v]) s.heap.size = B0 at hD hAm
  obtain ⟨A, hAe⟩ : ∃ A, A = va_A [] s.heap.size := ⟨_, rfl⟩
  rw [← hAe]
  have hA : ∀ q : Nat, s.heap.size ≤ q → A q := fun q h => by rw [hAe]; exact Or.inr h
  have hAB : ∀ q : Nat, A q → B0 q := fun q h => by rw [hAe] at h; rw [← hBe]; exact Or.inr (wnone h)
  have hS : va_S A s.heap s.heap [] := va_S.rf
  have hl := lv_entry ([.ref q, .int k]) (n := 2) (Nat.le_of_ble_eq_true rfl)
  rw [lg_entry_eq]
  generalize (lg_sl ([.ref q, .int k]) ++ List.replicate (2 - (lg_sl ([.ref q, .int k])).length) Slot.unset).toArray = ls at hl ⊢
  have hl : lv_has ls 2 [(0, .ref q), (1, .int k)] := hl
  have hi4 : ∀ w ∈ wsX40, w ∈ wsX4_die := by decide +kernel
  have kf10 := hts (.fieldLink RX4 10 "CapsuleKeepers" "now" "LCapsuleKeepers$Place;") (by decide +kernel)
  refine lv_aload_n hx hb dX4_die_0 rfl (lv_at hl 0 rfl) ?_
  refine lv_iload_n hx hb dX4_die_1 rfl (lv_at hl 1 rfl) ?_
  refine cLV (va_runV (As := [.int k]) (rest := []) ⟨hx, hb, hml, hown, hts⟩ ((kX4_checkKeeper l Γ q an ap qs ac au ax nn v k (by first | assumption | omega | decide)) _) (cwV 1 hts gX4_die_X4_checkKeeper rfl rfl rfl (by decide +kernel) ⟨Nat.le_of_ble_eq_true rfl, Nat.le_of_ble_eq_true rfl⟩) ⟨wPre_blind, va_recv hK hP (ci := 4) (q0 := 0) rfl rfl, wPre_mk hP hD hK hS hA hAB hAm [0, 1] rfl rfl⟩ rfl rfl hl.1 rfl (lv_room (Nat.le_of_ble_eq_true rfl)) dX4_die_2 ⟨Nat.zero_le _, Nat.zero_le _⟩) hP hS hA (fun H locs hP hS => ?_)
  refine lv_aload_n hx hb dX4_die_5 rfl (lv_at hl 0 rfl) ?_
  refine va_get (D := Γ.1) (ci := 4) (v := .ref (an 0)) (C := RX4) (T := TX4) (N := 7) hx hb hts hi4 hown hK hP 0 rfl rfl 0 (by decide) kf10 (fun _ h9 => h9) rfl dX4_die_6 ?_
  refine lv_iload_n hx hb dX4_die_9 rfl (lv_at hl 1 rfl) ?_
  refine cLI (va_runV (As := [.int k]) (rest := []) ⟨hx, hb, hml, hown, hts⟩ ((kX2_lives l Γ an v k) _) (cwV 1 hts gX4_die_X2_lives rfl rfl rfl (by decide +kernel) ⟨Nat.le_of_ble_eq_true rfl, Nat.le_of_ble_eq_true rfl⟩) ⟨wPre_blind, va_recv hK hP (ci := 2) (q0 := 1) rfl rfl, wPre_mk hP hD hK hS hA hAB hAm [1] rfl rfl⟩ rfl rfl hl.1 rfl (lv_room (Nat.le_of_ble_eq_true rfl)) dX4_die_10 ⟨Nat.zero_le _, Nat.zero_le _⟩) hP hS hA (fun H locs hP hS => ?_)
  refine lv_if_ne (tgt := 26) hx hb dX4_die_13 (by decide) (fun c_13 => absurd hl2 c_13) (fun c_13 => ?_)
  obtain ⟨sx, hstr⟩ := hAm.2.2.2.2.1 (73, "this keeper is dead") (by decide +kernel)
  exact vx_throwS (names := nm2) (A := A) hx hb hfl hown (by decide +kernel) (by decide +kernel) (hts (.classLink RX4 51 "java/lang/IllegalStateException") (by decide +kernel)) (hts (.initialized "java/lang/IllegalStateException") (by decide +kernel)) hstr (thr_hat hAm (by decide +kernel) (by decide +kernel) (fun w hw => hts w ((by decide +kernel : ∀ w ∈ (vx_atS RX4 55 "java/lang/IllegalStateException" nm2).filter goodWord, w ∈ wsX4_die) w hw))) (by decide +kernel) ((hAm.narrow hAB).2.2.1) ((hAm.narrow hAB).2.2.2.1) hS (by rw [hml]; exact hl.1) dX4_die_16 dX4_die_19 dX4_die_20 dX4_die_22 dX4_die_25 (fun x hx => (hnt x hx).elim) (Nat.le_of_ble_eq_true rfl) (Nat.le_of_ble_eq_true rfl) (Nat.le_of_ble_eq_true rfl) (Nat.le_of_ble_eq_true rfl) hlocks (fun t _ h1 h2 => ⟨(), trivial, rfl, xF hS h1 h2⟩) hS.2.2 (Nat.le_of_ble_eq_true rfl) (Nat.le_of_ble_eq_true rfl)
def fX4_heir (SL : Nat) (sr : Nat) (vs : (Nat → Nat → Nat → Int32)) (v : (Nat → Nat → Int32)) (k : Int32) (h : Int32) : Int32 × Nat × Nat × (Nat → Nat → Nat → Int32) × (Nat → Nat → Int32) := (if h = (-1) then (let r_2 := (fX4_save (SL) (sr) vs v); (let r_3 := (fX2_nameHeir v k h); (r_3.1, (r_2.1), (r_2.2.1), r_2.2.2, r_3.2))) else (let r_4 := (fX4_save (SL) (sr) vs v); (let r_5 := (fX2_nameHeir v k h); (r_5.1, (r_4.1), (r_4.2.1), r_4.2.2, r_5.2))))
set_option maxHeartbeats 4000000 in
set_option maxRecDepth 100000 in
theorem kX4_heir (l : Launch) (Γ : wG) (q : Nat) (an : Nat → Nat) (ap : Nat → Nat) (qs : Nat) (ac : Nat → Nat) (au : Nat → Nat) (ax : Nat → Nat) (SL : Nat) (sa : (Nat → Nat → Nat)) (sr : Nat) (vs : (Nat → Nat → Nat → Int32)) (v : (Nat → Nat → Int32)) (k : Int32) (h : Int32) (hSL : SL ≤ 6) (hsr : sr < 6) (hv : ¬ fX2_hasKeeper v k = 0) (hh : h = (-1) ∨ ¬ fX2_hasKeeper v h = 0) (hm : ¬ fX2_mayName v k h = 0) : MI l Γ yX4_heir wsX4_heir ({ frames := 3, cells := 0, slots := 0, locals := 64 }) [.ref q, .int k, .int h] [mnC q an ap qs ac au ax (nI SL), saB Γ qs sa sr vs, plB Γ an v] [mnC q an ap qs ac au ax (nI (((fX4_heir SL sr vs v k h).2.1))), saB Γ qs sa (((fX4_heir SL sr vs v k h).2.2.1)) (fX4_heir SL sr vs v k h).2.2.2.1, plB Γ an (fX4_heir SL sr vs v k h).2.2.2.2] (fX4_heir SL sr vs v k h).1 := by
  intro sz
  refine Met.ofW (cc := cX4_heir) (maxL := 3) (ret := (some .int)) (by decide) rfl ?_
  intro p e s m args below meth c s₁ B hml hv
  obtain ⟨rfl, hsz, hP, hK, hD0, hAm⟩ := hv
  have hx := B.exec
  have hb := B.bytes
  have hr := B.returns
  have hts := atoms_spec (ws := wsX4_heir) B.pre
  have hown : s.vm.findClass RX4 = some m.cls := findClass_of_methodNamed B.named
  have hlocks := B.notSynchronized
  subst hsz
  have hD := hD0.self (sz := s.heap.size)
  generalize hAe : va_A (wcat [mnC q an ap qs ac au ax (nI SL), saB Γ qs sa sr vs, plB Γ an v]) s.heap.size = A at hD hAm ⊢
  have hA : ∀ q : Nat, s.heap.size ≤ q → A q := fun q h => by rw [← hAe]; exact Or.inr h
  have hAB : ∀ q : Nat, A q → A q := fun _ h => h
  have hS : va_S A s.heap s.heap [] := va_S.rf
  have hl := lv_entry ([.ref q, .int k, .int h]) (n := 3) (Nat.le_of_ble_eq_true rfl)
  rw [lg_entry_eq]
  generalize (lg_sl ([.ref q, .int k, .int h]) ++ List.replicate (3 - (lg_sl ([.ref q, .int k, .int h])).length) Slot.unset).toArray = ls at hl ⊢
  have hl : lv_has ls 3 [(0, .ref q), (1, .int k), (2, .int h)] := hl
  have hi4 : ∀ w ∈ wsX40, w ∈ wsX4_heir := by decide +kernel
  have kf10 := hts (.fieldLink RX4 10 "CapsuleKeepers" "now" "LCapsuleKeepers$Place;") (by decide +kernel)
  have hq : (fX4_heir SL sr vs v k h) = (if h = (-1) then (let r_2 := (fX4_save (SL) (sr) vs v); (let r_3 := (fX2_nameHeir v k h); (r_3.1, (r_2.1), (r_2.2.1), r_2.2.2, r_3.2))) else (let r_4 := (fX4_save (SL) (sr) vs v); (let r_5 := (fX2_nameHeir v k h); (r_5.1, (r_4.1), (r_4.2.1), r_4.2.2, r_5.2)))) := rfl
  refine lv_aload_n hx hb dX4_heir_0 rfl (lv_at hl 0 rfl) ?_
  refine lv_iload_n hx hb dX4_heir_1 rfl (lv_at hl 1 rfl) ?_
  refine cLV (va_runV (As := [.int k]) (rest := []) ⟨hx, hb, hml, hown, hts⟩ ((kX4_checkKeeper l Γ q an ap qs ac au ax (nI SL) v k (by first | assumption | omega | decide)) _) (cwV 1 hts gX4_heir_X4_checkKeeper rfl rfl rfl (by decide +kernel) ⟨Nat.le_of_ble_eq_true rfl, Nat.le_of_ble_eq_true rfl⟩) ⟨wPre_blind, va_recv hK hP (ci := 4) (q0 := 0) rfl rfl, wPre_mk hP hD hK hS hA hAB hAm [0, 2] rfl rfl⟩ rfl rfl hl.1 rfl (lv_room (Nat.le_of_ble_eq_true rfl)) dX4_heir_2 ⟨Nat.zero_le _, Nat.zero_le _⟩) hP hS hA (fun H locs hP hS => ?_)
  refine lv_iload_n hx hb dX4_heir_5 rfl (lv_at hl 2 rfl) ?_
  refine lv_iconst (v := (-1)) hx hb dX4_heir_6 (by decide) ?_
  refine lv_icmp_eq (tgt := 15) hx hb dX4_heir_7 (by decide) (fun c_1 => ?_) (fun c_1 => ?_)
  · have hq := hq.trans (if_pos c_1)
    refine lv_aload_n hx hb dX4_heir_15 rfl (lv_at hl 0 rfl) ?_
    refine va_get (D := Γ.1) (ci := 4) (v := .ref (an 0)) (C := RX4) (T := TX4) (N := 7) hx hb hts hi4 hown hK hP 0 rfl rfl 0 (by decide) kf10 (fun _ h9 => h9) rfl dX4_heir_16 ?_
    refine lv_iload_n hx hb dX4_heir_19 rfl (lv_at hl 1 rfl) ?_
    refine lv_iload_n hx hb dX4_heir_20 rfl (lv_at hl 2 rfl) ?_
    refine cLI (va_runV (As := [.int k, .int h]) (rest := []) ⟨hx, hb, hml, hown, hts⟩ ((kX2_mayName l Γ an v k h) _) (cwV 2 hts gX4_heir_X2_mayName rfl rfl rfl (by decide +kernel) ⟨Nat.le_of_ble_eq_true rfl, Nat.le_of_ble_eq_true rfl⟩) ⟨wPre_blind, va_recv hK hP (ci := 2) (q0 := 38) rfl rfl, wPre_mk hP hD hK hS hA hAB hAm [2] rfl rfl⟩ rfl rfl hl.1 rfl (lv_room (Nat.le_of_ble_eq_true rfl)) dX4_heir_21 ⟨Nat.zero_le _, Nat.zero_le _⟩) hP hS hA (fun H locs hP hS => ?_)
    refine lv_if_ne (tgt := 37) hx hb dX4_heir_24 (by decide) (fun c_24 => ?_) (fun c_24 => absurd c_24 hm)
    refine lv_aload_n hx hb dX4_heir_37 rfl (lv_at hl 0 rfl) ?_
    have kc := (kX4_save l Γ q an ap qs ac au ax (SL) sa (sr) vs v (by first | assumption | omega | decide) (by first | assumption | omega | decide))
    generalize hr_2 : (fX4_save (SL) (sr) vs v) = r_2 at kc hq
    replace hq : (fX4_heir SL sr vs v k h) = (let r_3 := (fX2_nameHeir v k h); (r_3.1, (r_2.1), (r_2.2.1), r_2.2.2, r_3.2)) := hq
    refine cMV (bc' := [mnC q an ap qs ac au ax (nI (r_2.1)), saB Γ qs sa ((r_2.2.1)) r_2.2.2, plB Γ an v]) (va_runV (As := []) (rest := []) ⟨hx, hb, hml, hown, hts⟩ (kc _) (cwV 0 hts gX4_heir_X4_save rfl rfl rfl (by decide +kernel) ⟨Nat.le_of_ble_eq_true rfl, Nat.le_of_ble_eq_true rfl⟩) ⟨wPre_blind, va_recv hK hP (ci := 4) (q0 := 0) rfl rfl, wPre_mk hP hD hK hS hA hAB hAm [0, 1, 2] rfl rfl⟩ rfl rfl hl.1 rfl (lv_room (Nat.le_of_ble_eq_true rfl)) dX4_heir_38 ⟨Nat.zero_le _, Nat.zero_le _⟩) hP hD hS hA [0, 1, 2] rfl rfl (bs' := [mnC q an ap qs ac au ax (nI (r_2.1)), saB Γ qs sa ((r_2.2.1)) r_2.2.2, plB Γ an v]) rfl (fun H locs hP hD hS => ?_)
    refine lv_aload_n hx hb dX4_heir_41 rfl (lv_at hl 0 rfl) ?_
    refine va_get (D := Γ.1) (ci := 4) (v := .ref (an 0)) (C := RX4) (T := TX4) (N := 7) hx hb hts hi4 hown hK hP 0 rfl rfl 0 (by decide) kf10 (fun _ h9 => h9) rfl dX4_heir_42 ?_
    refine lv_iload_n hx hb dX4_heir_45 rfl (lv_at hl 1 rfl) ?_
    refine lv_iload_n hx hb dX4_heir_46 rfl (lv_at hl 2 rfl) ?_
    have kc := (kX2_nameHeir l Γ an v k h (hasK_in hv))
    generalize hr_3 : (fX2_nameHeir v k h) = r_3 at kc hq
    replace hq : (fX4_heir SL sr vs v k h) = (r_3.1, (r_2.1), (r_2.2.1), r_2.2.2, r_3.2) := hq
    refine cMI (bc' := [plB Γ an r_3.2]) (va_runV (As := [.int k, .int h]) (rest := []) ⟨hx, hb, hml, hown, hts⟩ (kc _) (cwV 2 hts gX4_heir_X2_nameHeir rfl rfl rfl (by decide +kernel) ⟨Nat.le_of_ble_eq_true rfl, Nat.le_of_ble_eq_true rfl⟩) ⟨wPre_blind, va_recv hK hP (ci := 2) (q0 := 38) rfl rfl, wPre_mk hP hD hK hS hA hAB hAm [2] rfl rfl⟩ rfl rfl hl.1 rfl (lv_room (Nat.le_of_ble_eq_true rfl)) dX4_heir_47 ⟨Nat.zero_le _, Nat.zero_le _⟩) hP hD hS hA [2] rfl rfl (bs' := [mnC q an ap qs ac au ax (nI (r_2.1)), saB Γ qs sa ((r_2.2.1)) r_2.2.2, plB Γ an r_3.2]) rfl (fun H locs hP hD hS => ?_)
    exact W.iret (v := r_3.1) hx hb hr (fun t ht hW => eMI (by rw [hq]; exact hP) hS ht (by rw [hq])) hS.2.2 dX4_heir_50
  · have hq := hq.trans (if_neg c_1)
    refine lv_aload_n hx hb dX4_heir_10 rfl (lv_at hl 0 rfl) ?_
    refine lv_iload_n hx hb dX4_heir_11 rfl (lv_at hl 2 rfl) ?_
    refine cLV (va_runV (As := [.int h]) (rest := []) ⟨hx, hb, hml, hown, hts⟩ ((kX4_checkKeeper l Γ q an ap qs ac au ax (nI SL) v h ((hh.resolve_left (by assumption)))) _) (cwV 1 hts gX4_heir_X4_checkKeeper rfl rfl rfl (by decide +kernel) ⟨Nat.le_of_ble_eq_true rfl, Nat.le_of_ble_eq_true rfl⟩) ⟨wPre_blind, va_recv hK hP (ci := 4) (q0 := 0) rfl rfl, wPre_mk hP hD hK hS hA hAB hAm [0, 2] rfl rfl⟩ rfl rfl hl.1 rfl (lv_room (Nat.le_of_ble_eq_true rfl)) dX4_heir_12 ⟨Nat.zero_le _, Nat.zero_le _⟩) hP hS hA (fun H locs hP hS => ?_)
    refine lv_aload_n hx hb dX4_heir_15 rfl (lv_at hl 0 rfl) ?_
    refine va_get (D := Γ.1) (ci := 4) (v := .ref (an 0)) (C := RX4) (T := TX4) (N := 7) hx hb hts hi4 hown hK hP 0 rfl rfl 0 (by decide) kf10 (fun _ h9 => h9) rfl dX4_heir_16 ?_
    refine lv_iload_n hx hb dX4_heir_19 rfl (lv_at hl 1 rfl) ?_
    refine lv_iload_n hx hb dX4_heir_20 rfl (lv_at hl 2 rfl) ?_
    refine cLI (va_runV (As := [.int k, .int h]) (rest := []) ⟨hx, hb, hml, hown, hts⟩ ((kX2_mayName l Γ an v k h) _) (cwV 2 hts gX4_heir_X2_mayName rfl rfl rfl (by decide +kernel) ⟨Nat.le_of_ble_eq_true rfl, Nat.le_of_ble_eq_true rfl⟩) ⟨wPre_blind, va_recv hK hP (ci := 2) (q0 := 38) rfl rfl, wPre_mk hP hD hK hS hA hAB hAm [2] rfl rfl⟩ rfl rfl hl.1 rfl (lv_room (Nat.le_of_ble_eq_true rfl)) dX4_heir_21 ⟨Nat.zero_le _, Nat.zero_le _⟩) hP hS hA (fun H locs hP hS => ?_)
    refine lv_if_ne (tgt := 37) hx hb dX4_heir_24 (by decide) (fun c_24 => ?_) (fun c_24 => absurd c_24 hm)
    refine lv_aload_n hx hb dX4_heir_37 rfl (lv_at hl 0 rfl) ?_
    have kc := (kX4_save l Γ q an ap qs ac au ax (SL) sa (sr) vs v (by first | assumption | omega | decide) (by first | assumption | omega | decide))
    generalize hr_4 : (fX4_save (SL) (sr) vs v) = r_4 at kc hq
    replace hq : (fX4_heir SL sr vs v k h) = (let r_5 := (fX2_nameHeir v k h); (r_5.1, (r_4.1), (r_4.2.1), r_4.2.2, r_5.2)) := hq
    refine cMV (bc' := [mnC q an ap qs ac au ax (nI (r_4.1)), saB Γ qs sa ((r_4.2.1)) r_4.2.2, plB Γ an v]) (va_runV (As := []) (rest := []) ⟨hx, hb, hml, hown, hts⟩ (kc _) (cwV 0 hts gX4_heir_X4_save rfl rfl rfl (by decide +kernel) ⟨Nat.le_of_ble_eq_true rfl, Nat.le_of_ble_eq_true rfl⟩) ⟨wPre_blind, va_recv hK hP (ci := 4) (q0 := 0) rfl rfl, wPre_mk hP hD hK hS hA hAB hAm [0, 1, 2] rfl rfl⟩ rfl rfl hl.1 rfl (lv_room (Nat.le_of_ble_eq_true rfl)) dX4_heir_38 ⟨Nat.zero_le _, Nat.zero_le _⟩) hP hD hS hA [0, 1, 2] rfl rfl (bs' := [mnC q an ap qs ac au ax (nI (r_4.1)), saB Γ qs sa ((r_4.2.1)) r_4.2.2, plB Γ an v]) rfl (fun H locs hP hD hS => ?_)
    refine lv_aload_n hx hb dX4_heir_41 rfl (lv_at hl 0 rfl) ?_
    refine va_get (D := Γ.1) (ci := 4) (v := .ref (an 0)) (C := RX4) (T := TX4) (N := 7) hx hb hts hi4 hown hK hP 0 rfl rfl 0 (by decide) kf10 (fun _ h9 => h9) rfl dX4_heir_42 ?_
    refine lv_iload_n hx hb dX4_heir_45 rfl (lv_at hl 1 rfl) ?_
    refine lv_iload_n hx hb dX4_heir_46 rfl (lv_at hl 2 rfl) ?_
    have kc := (kX2_nameHeir l Γ an v k h (hasK_in hv))
    generalize hr_5 : (fX2_nameHeir v k h) = r_5 at kc hq
    replace hq : (fX4_heir SL sr vs v k h) = (r_5.1, (r_4.1), (r_4.2.1), r_4.2.2, r_5.2) := hq
    refine cMI (bc' := [plB Γ an r_5.2]) (va_runV (As := [.int k, .int h]) (rest := []) ⟨hx, hb, hml, hown, hts⟩ (kc _) (cwV 2 hts gX4_heir_X2_nameHeir rfl rfl rfl (by decide +kernel) ⟨Nat.le_of_ble_eq_true rfl, Nat.le_of_ble_eq_true rfl⟩) ⟨wPre_blind, va_recv hK hP (ci := 2) (q0 := 38) rfl rfl, wPre_mk hP hD hK hS hA hAB hAm [2] rfl rfl⟩ rfl rfl hl.1 rfl (lv_room (Nat.le_of_ble_eq_true rfl)) dX4_heir_47 ⟨Nat.zero_le _, Nat.zero_le _⟩) hP hD hS hA [2] rfl rfl (bs' := [mnC q an ap qs ac au ax (nI (r_4.1)), saB Γ qs sa ((r_4.2.1)) r_4.2.2, plB Γ an r_5.2]) rfl (fun H locs hP hD hS => ?_)
    exact W.iret (v := r_5.1) hx hb hr (fun t ht hW => eMI (by rw [hq]; exact hP) hS ht (by rw [hq])) hS.2.2 dX4_heir_50
set_option maxHeartbeats 4000000 in
set_option maxRecDepth 100000 in
theorem tX4_heir_a (l : Launch) (hfl : l.stackTraces = false) (Γ : wG) (q : Nat) (an : Nat → Nat) (ap : Nat → Nat) (qs : Nat) (ac : Nat → Nat) (au : Nat → Nat) (ax : Nat → Nat) (nn : Int32) (v : (Nat → Nat → Int32)) (k : Int32) (h : Int32) (hv : fX2_hasKeeper v k = 0) : TX l Γ yX4_heir wsX4_heir ({ frames := 7, cells := 1, slots := 6, locals := 111 }) [.ref q, .int k, .int h] [mnC q an ap qs ac au ax nn, plB Γ an v] "java/lang/IndexOutOfBoundsException" := by
  intro sz
  refine vx_ofW (cc := cX4_heir) (maxL := 3) (ret := (some .int)) (by decide) rfl ?_
  intro p e s m args below meth c s₁ B hml hnt hv
  obtain ⟨rfl, hsz, hP, hK, hD0, hAm⟩ := hv
  have hx := B.exec
  have hb := B.bytes
  have hr := B.returns
  have hts := atoms_spec (ws := wsX4_heir) B.pre
  have hown : s.vm.findClass RX4 = some m.cls := findClass_of_methodNamed B.named
  have hlocks := B.notSynchronized
  subst hsz
  have hD := hD0.self (sz := s.heap.size)
  generalize hBe : va_A (wcat [mnC q an ap qs ac au ax nn, plB Γ an v]) s.heap.size = B0 at hD hAm
  obtain ⟨A, hAe⟩ : ∃ A, A = va_A [] s.heap.size := ⟨_, rfl⟩
  rw [← hAe]
  have hA : ∀ q : Nat, s.heap.size ≤ q → A q := fun q h => by rw [hAe]; exact Or.inr h
  have hAB : ∀ q : Nat, A q → B0 q := fun q h => by rw [hAe] at h; rw [← hBe]; exact Or.inr (wnone h)
  have hS : va_S A s.heap s.heap [] := va_S.rf
  have hl := lv_entry ([.ref q, .int k, .int h]) (n := 3) (Nat.le_of_ble_eq_true rfl)
  rw [lg_entry_eq]
  generalize (lg_sl ([.ref q, .int k, .int h]) ++ List.replicate (3 - (lg_sl ([.ref q, .int k, .int h])).length) Slot.unset).toArray = ls at hl ⊢
  have hl : lv_has ls 3 [(0, .ref q), (1, .int k), (2, .int h)] := hl
  refine lv_aload_n hx hb dX4_heir_0 rfl (lv_at hl 0 rfl) ?_
  refine lv_iload_n hx hb dX4_heir_1 rfl (lv_at hl 1 rfl) ?_
  exact tTX (E := "java/lang/IndexOutOfBoundsException") (vx_runV (As := [.int k]) (rest := []) ⟨hx, hb, hml, hown, hts⟩ ((tX4_checkKeeper l hfl Γ q an ap qs ac au ax nn v k (by first | assumption | omega | decide)) _) (cwV 1 hts gX4_heir_X4_checkKeeper rfl rfl rfl (by decide +kernel) ⟨Nat.le_of_ble_eq_true rfl, Nat.le_of_ble_eq_true rfl⟩) ⟨wPre_blind, va_recv hK hP (ci := 4) (q0 := 0) rfl rfl, wPre_mk hP hD hK hS hA hAB hAm [0, 1] rfl rfl⟩ rfl rfl hl.1 rfl (lv_room (Nat.le_of_ble_eq_true rfl)) dX4_heir_2 ⟨Nat.le_of_ble_eq_true rfl, Nat.le_of_ble_eq_true rfl⟩) hS hA (fun ce q9 H1 locs1 h1 h2 hS hc hv hcl => vx_out (fun x hx => (hnt x hx).elim) hlocks hc hv hcl (fun t ht ha => ⟨(), trivial, rfl, hS.F ht⟩) hS.2.2 (Nat.le_of_ble_eq_true rfl) (Nat.le_of_ble_eq_true rfl))
set_option maxHeartbeats 4000000 in
set_option maxRecDepth 100000 in
theorem tX4_heir_b (l : Launch) (hfl : l.stackTraces = false) (Γ : wG) (q : Nat) (an : Nat → Nat) (ap : Nat → Nat) (qs : Nat) (ac : Nat → Nat) (au : Nat → Nat) (ax : Nat → Nat) (nn : Int32) (v : (Nat → Nat → Int32)) (k : Int32) (h : Int32) (hv : ¬ fX2_hasKeeper v k = 0) (hne : ¬ h = (-1)) (hv2 : fX2_hasKeeper v h = 0) : TX l Γ yX4_heir wsX4_heir ({ frames := 7, cells := 1, slots := 6, locals := 111 }) [.ref q, .int k, .int h] [mnC q an ap qs ac au ax nn, plB Γ an v] "java/lang/IndexOutOfBoundsException" := by
  intro sz
  refine vx_ofW (cc := cX4_heir) (maxL := 3) (ret := (some .int)) (by decide) rfl ?_
  intro p e s m args below meth c s₁ B hml hnt hv
  obtain ⟨rfl, hsz, hP, hK, hD0, hAm⟩ := hv
  have hx := B.exec
  have hb := B.bytes
  have hr := B.returns
  have hts := atoms_spec (ws := wsX4_heir) B.pre
  have hown : s.vm.findClass RX4 = some m.cls := findClass_of_methodNamed B.named
  have hlocks := B.notSynchronized
  subst hsz
  have hD := hD0.self (sz := s.heap.size)
  generalize hBe : va_A (wcat [mnC q an ap qs ac au ax nn, plB Γ an v]) s.heap.size = B0 at hD hAm
  obtain ⟨A, hAe⟩ : ∃ A, A = va_A [] s.heap.size := ⟨_, rfl⟩
  rw [← hAe]
  have hA : ∀ q : Nat, s.heap.size ≤ q → A q := fun q h => by rw [hAe]; exact Or.inr h
  have hAB : ∀ q : Nat, A q → B0 q := fun q h => by rw [hAe] at h; rw [← hBe]; exact Or.inr (wnone h)
  have hS : va_S A s.heap s.heap [] := va_S.rf
  have hl := lv_entry ([.ref q, .int k, .int h]) (n := 3) (Nat.le_of_ble_eq_true rfl)
  rw [lg_entry_eq]
  generalize (lg_sl ([.ref q, .int k, .int h]) ++ List.replicate (3 - (lg_sl ([.ref q, .int k, .int h])).length) Slot.unset).toArray = ls at hl ⊢
  have hl : lv_has ls 3 [(0, .ref q), (1, .int k), (2, .int h)] := hl
  refine lv_aload_n hx hb dX4_heir_0 rfl (lv_at hl 0 rfl) ?_
  refine lv_iload_n hx hb dX4_heir_1 rfl (lv_at hl 1 rfl) ?_
  refine cLV (va_runV (As := [.int k]) (rest := []) ⟨hx, hb, hml, hown, hts⟩ ((kX4_checkKeeper l Γ q an ap qs ac au ax nn v k (by first | assumption | omega | decide)) _) (cwV 1 hts gX4_heir_X4_checkKeeper rfl rfl rfl (by decide +kernel) ⟨Nat.le_of_ble_eq_true rfl, Nat.le_of_ble_eq_true rfl⟩) ⟨wPre_blind, va_recv hK hP (ci := 4) (q0 := 0) rfl rfl, wPre_mk hP hD hK hS hA hAB hAm [0, 1] rfl rfl⟩ rfl rfl hl.1 rfl (lv_room (Nat.le_of_ble_eq_true rfl)) dX4_heir_2 ⟨Nat.zero_le _, Nat.zero_le _⟩) hP hS hA (fun H locs hP hS => ?_)
  refine lv_iload_n hx hb dX4_heir_5 rfl (lv_at hl 2 rfl) ?_
  refine lv_iconst (v := (-1)) hx hb dX4_heir_6 (by decide) ?_
  refine lv_icmp_eq (tgt := 15) hx hb dX4_heir_7 (by decide) (fun c_7 => absurd c_7 hne) (fun c_7 => ?_)
  refine lv_aload_n hx hb dX4_heir_10 rfl (lv_at hl 0 rfl) ?_
  refine lv_iload_n hx hb dX4_heir_11 rfl (lv_at hl 2 rfl) ?_
  exact tTX (E := "java/lang/IndexOutOfBoundsException") (vx_runV (As := [.int h]) (rest := []) ⟨hx, hb, hml, hown, hts⟩ ((tX4_checkKeeper l hfl Γ q an ap qs ac au ax nn v h (by first | assumption | omega | decide)) _) (cwV 1 hts gX4_heir_X4_checkKeeper rfl rfl rfl (by decide +kernel) ⟨Nat.le_of_ble_eq_true rfl, Nat.le_of_ble_eq_true rfl⟩) ⟨wPre_blind, va_recv hK hP (ci := 4) (q0 := 0) rfl rfl, wPre_mk hP hD hK hS hA hAB hAm [0, 1] rfl rfl⟩ rfl rfl hl.1 rfl (lv_room (Nat.le_of_ble_eq_true rfl)) dX4_heir_12 ⟨Nat.le_of_ble_eq_true rfl, Nat.le_of_ble_eq_true rfl⟩) hS hA (fun ce q9 H1 locs1 h1 h2 hS hc hv hcl => vx_out (fun x hx => (hnt x hx).elim) hlocks hc hv hcl (fun t ht ha => ⟨(), trivial, rfl, hS.F ht⟩) hS.2.2 (Nat.le_of_ble_eq_true rfl) (Nat.le_of_ble_eq_true rfl))
set_option maxHeartbeats 4000000 in
set_option maxRecDepth 100000 in
theorem tX4_heir_c (l : Launch) (hfl : l.stackTraces = false) (Γ : wG) (q : Nat) (an : Nat → Nat) (ap : Nat → Nat) (qs : Nat) (ac : Nat → Nat) (au : Nat → Nat) (ax : Nat → Nat) (nn : Int32) (v : (Nat → Nat → Int32)) (k : Int32) (h : Int32) (hv : ¬ fX2_hasKeeper v k = 0) (hh : h = (-1) ∨ ¬ fX2_hasKeeper v h = 0) (hm : fX2_mayName v k h = 0) : TX l Γ yX4_heir wsX4_heir ({ frames := 6, cells := 1, slots := 6, locals := 90 }) [.ref q, .int k, .int h] [mnC q an ap qs ac au ax nn, plB Γ an v] "java/lang/IllegalStateException" := by
  intro sz
  refine vx_ofW (cc := cX4_heir) (maxL := 3) (ret := (some .int)) (by decide) rfl ?_
  intro p e s m args below meth c s₁ B hml hnt hv
  obtain ⟨rfl, hsz, hP, hK, hD0, hAm⟩ := hv
  have hx := B.exec
  have hb := B.bytes
  have hr := B.returns
  have hts := atoms_spec (ws := wsX4_heir) B.pre
  have hown : s.vm.findClass RX4 = some m.cls := findClass_of_methodNamed B.named
  have hlocks := B.notSynchronized
  subst hsz
  have hD := hD0.self (sz := s.heap.size)
  generalize hBe : va_A (wcat [mnC q an ap qs ac au ax nn, plB Γ an v]) s.heap.size = B0 at hD hAm
  obtain ⟨A, hAe⟩ : ∃ A, A = va_A [] s.heap.size := ⟨_, rfl⟩
  rw [← hAe]
  have hA : ∀ q : Nat, s.heap.size ≤ q → A q := fun q h => by rw [hAe]; exact Or.inr h
  have hAB : ∀ q : Nat, A q → B0 q := fun q h => by rw [hAe] at h; rw [← hBe]; exact Or.inr (wnone h)
  have hS : va_S A s.heap s.heap [] := va_S.rf
  have hl := lv_entry ([.ref q, .int k, .int h]) (n := 3) (Nat.le_of_ble_eq_true rfl)
  rw [lg_entry_eq]
  generalize (lg_sl ([.ref q, .int k, .int h]) ++ List.replicate (3 - (lg_sl ([.ref q, .int k, .int h])).length) Slot.unset).toArray = ls at hl ⊢
  have hl : lv_has ls 3 [(0, .ref q), (1, .int k), (2, .int h)] := hl
  have hi4 : ∀ w ∈ wsX40, w ∈ wsX4_heir := by decide +kernel
  have kf10 := hts (.fieldLink RX4 10 "CapsuleKeepers" "now" "LCapsuleKeepers$Place;") (by decide +kernel)
  refine lv_aload_n hx hb dX4_heir_0 rfl (lv_at hl 0 rfl) ?_
  refine lv_iload_n hx hb dX4_heir_1 rfl (lv_at hl 1 rfl) ?_
  refine cLV (va_runV (As := [.int k]) (rest := []) ⟨hx, hb, hml, hown, hts⟩ ((kX4_checkKeeper l Γ q an ap qs ac au ax nn v k (by first | assumption | omega | decide)) _) (cwV 1 hts gX4_heir_X4_checkKeeper rfl rfl rfl (by decide +kernel) ⟨Nat.le_of_ble_eq_true rfl, Nat.le_of_ble_eq_true rfl⟩) ⟨wPre_blind, va_recv hK hP (ci := 4) (q0 := 0) rfl rfl, wPre_mk hP hD hK hS hA hAB hAm [0, 1] rfl rfl⟩ rfl rfl hl.1 rfl (lv_room (Nat.le_of_ble_eq_true rfl)) dX4_heir_2 ⟨Nat.zero_le _, Nat.zero_le _⟩) hP hS hA (fun H locs hP hS => ?_)
  refine lv_iload_n hx hb dX4_heir_5 rfl (lv_at hl 2 rfl) ?_
  refine lv_iconst (v := (-1)) hx hb dX4_heir_6 (by decide) ?_
  refine lv_icmp_eq (tgt := 15) hx hb dX4_heir_7 (by decide) (fun c_1 => ?_) (fun c_1 => ?_)
  · refine lv_aload_n hx hb dX4_heir_15 rfl (lv_at hl 0 rfl) ?_
    refine va_get (D := Γ.1) (ci := 4) (v := .ref (an 0)) (C := RX4) (T := TX4) (N := 7) hx hb hts hi4 hown hK hP 0 rfl rfl 0 (by decide) kf10 (fun _ h9 => h9) rfl dX4_heir_16 ?_
    refine lv_iload_n hx hb dX4_heir_19 rfl (lv_at hl 1 rfl) ?_
    refine lv_iload_n hx hb dX4_heir_20 rfl (lv_at hl 2 rfl) ?_
    refine cLI (va_runV (As := [.int k, .int h]) (rest := []) ⟨hx, hb, hml, hown, hts⟩ ((kX2_mayName l Γ an v k h) _) (cwV 2 hts gX4_heir_X2_mayName rfl rfl rfl (by decide +kernel) ⟨Nat.le_of_ble_eq_true rfl, Nat.le_of_ble_eq_true rfl⟩) ⟨wPre_blind, va_recv hK hP (ci := 2) (q0 := 1) rfl rfl, wPre_mk hP hD hK hS hA hAB hAm [1] rfl rfl⟩ rfl rfl hl.1 rfl (lv_room (Nat.le_of_ble_eq_true rfl)) dX4_heir_21 ⟨Nat.zero_le _, Nat.zero_le _⟩) hP hS hA (fun H locs hP hS => ?_)
    refine lv_if_ne (tgt := 37) hx hb dX4_heir_24 (by decide) (fun c_24 => absurd hm c_24) (fun c_24 => ?_)
    obtain ⟨sx, hstr⟩ := hAm.2.2.2.2.1 (83, "both are the same, or one is dead") (by decide +kernel)
    exact vx_throwS (names := nm2) (A := A) hx hb hfl hown (by decide +kernel) (by decide +kernel) (hts (.classLink RX4 51 "java/lang/IllegalStateException") (by decide +kernel)) (hts (.initialized "java/lang/IllegalStateException") (by decide +kernel)) hstr (thr_hat hAm (by decide +kernel) (by decide +kernel) (fun w hw => hts w ((by decide +kernel : ∀ w ∈ (vx_atS RX4 55 "java/lang/IllegalStateException" nm2).filter goodWord, w ∈ wsX4_heir) w hw))) (by decide +kernel) ((hAm.narrow hAB).2.2.1) ((hAm.narrow hAB).2.2.2.1) hS (by rw [hml]; exact hl.1) dX4_heir_27 dX4_heir_30 dX4_heir_31 dX4_heir_33 dX4_heir_36 (fun x hx => (hnt x hx).elim) (Nat.le_of_ble_eq_true rfl) (Nat.le_of_ble_eq_true rfl) (Nat.le_of_ble_eq_true rfl) (Nat.le_of_ble_eq_true rfl) hlocks (fun t _ h1 h2 => ⟨(), trivial, rfl, xF hS h1 h2⟩) hS.2.2 (Nat.le_of_ble_eq_true rfl) (Nat.le_of_ble_eq_true rfl)
  · refine lv_aload_n hx hb dX4_heir_10 rfl (lv_at hl 0 rfl) ?_
    refine lv_iload_n hx hb dX4_heir_11 rfl (lv_at hl 2 rfl) ?_
    refine cLV (va_runV (As := [.int h]) (rest := []) ⟨hx, hb, hml, hown, hts⟩ ((kX4_checkKeeper l Γ q an ap qs ac au ax nn v h ((hh.resolve_left (by assumption)))) _) (cwV 1 hts gX4_heir_X4_checkKeeper rfl rfl rfl (by decide +kernel) ⟨Nat.le_of_ble_eq_true rfl, Nat.le_of_ble_eq_true rfl⟩) ⟨wPre_blind, va_recv hK hP (ci := 4) (q0 := 0) rfl rfl, wPre_mk hP hD hK hS hA hAB hAm [0, 1] rfl rfl⟩ rfl rfl hl.1 rfl (lv_room (Nat.le_of_ble_eq_true rfl)) dX4_heir_12 ⟨Nat.zero_le _, Nat.zero_le _⟩) hP hS hA (fun H locs hP hS => ?_)
    refine lv_aload_n hx hb dX4_heir_15 rfl (lv_at hl 0 rfl) ?_
    refine va_get (D := Γ.1) (ci := 4) (v := .ref (an 0)) (C := RX4) (T := TX4) (N := 7) hx hb hts hi4 hown hK hP 0 rfl rfl 0 (by decide) kf10 (fun _ h9 => h9) rfl dX4_heir_16 ?_
    refine lv_iload_n hx hb dX4_heir_19 rfl (lv_at hl 1 rfl) ?_
    refine lv_iload_n hx hb dX4_heir_20 rfl (lv_at hl 2 rfl) ?_
    refine cLI (va_runV (As := [.int k, .int h]) (rest := []) ⟨hx, hb, hml, hown, hts⟩ ((kX2_mayName l Γ an v k h) _) (cwV 2 hts gX4_heir_X2_mayName rfl rfl rfl (by decide +kernel) ⟨Nat.le_of_ble_eq_true rfl, Nat.le_of_ble_eq_true rfl⟩) ⟨wPre_blind, va_recv hK hP (ci := 2) (q0 := 1) rfl rfl, wPre_mk hP hD hK hS hA hAB hAm [1] rfl rfl⟩ rfl rfl hl.1 rfl (lv_room (Nat.le_of_ble_eq_true rfl)) dX4_heir_21 ⟨Nat.zero_le _, Nat.zero_le _⟩) hP hS hA (fun H locs hP hS => ?_)
    refine lv_if_ne (tgt := 37) hx hb dX4_heir_24 (by decide) (fun c_24 => absurd hm c_24) (fun c_24 => ?_)
    obtain ⟨sx, hstr⟩ := hAm.2.2.2.2.1 (83, "both are the same, or one is dead") (by decide +kernel)
    exact vx_throwS (names := nm2) (A := A) hx hb hfl hown (by decide +kernel) (by decide +kernel) (hts (.classLink RX4 51 "java/lang/IllegalStateException") (by decide +kernel)) (hts (.initialized "java/lang/IllegalStateException") (by decide +kernel)) hstr (thr_hat hAm (by decide +kernel) (by decide +kernel) (fun w hw => hts w ((by decide +kernel : ∀ w ∈ (vx_atS RX4 55 "java/lang/IllegalStateException" nm2).filter goodWord, w ∈ wsX4_heir) w hw))) (by decide +kernel) ((hAm.narrow hAB).2.2.1) ((hAm.narrow hAB).2.2.2.1) hS (by rw [hml]; exact hl.1) dX4_heir_27 dX4_heir_30 dX4_heir_31 dX4_heir_33 dX4_heir_36 (fun x hx => (hnt x hx).elim) (Nat.le_of_ble_eq_true rfl) (Nat.le_of_ble_eq_true rfl) (Nat.le_of_ble_eq_true rfl) (Nat.le_of_ble_eq_true rfl) hlocks (fun t _ h1 h2 => ⟨(), trivial, rfl, xF hS h1 h2⟩) hS.2.2 (Nat.le_of_ble_eq_true rfl) (Nat.le_of_ble_eq_true rfl)
def fX4_quarrel (SL : Nat) (sr : Nat) (vs : (Nat → Nat → Nat → Int32)) (v : (Nat → Nat → Int32)) (k : Int32) (o : Int32) : Int32 × Nat × Nat × (Nat → Nat → Nat → Int32) × (Nat → Nat → Int32) := (let r_1 := (fX4_save (SL) (sr) vs v); ((fX2_toggleQuarrel v ((k.toNatClampNeg)) ((o.toNatClampNeg))).1, (r_1.1), (r_1.2.1), r_1.2.2, (fX2_toggleQuarrel v ((k.toNatClampNeg)) ((o.toNatClampNeg))).2))
set_option maxHeartbeats 4000000 in
set_option maxRecDepth 100000 in
theorem kX4_quarrel (l : Launch) (Γ : wG) (q : Nat) (an : Nat → Nat) (ap : Nat → Nat) (qs : Nat) (ac : Nat → Nat) (au : Nat → Nat) (ax : Nat → Nat) (SL : Nat) (sa : (Nat → Nat → Nat)) (sr : Nat) (vs : (Nat → Nat → Nat → Int32)) (v : (Nat → Nat → Int32)) (k : Int32) (o : Int32) (hSL : SL ≤ 6) (hsr : sr < 6) (hv1 : ¬ fX2_hasKeeper v k = 0) (hv2 : ¬ fX2_hasKeeper v o = 0) (hne : ¬ k = o) : MI l Γ yX4_quarrel wsX4_quarrel ({ frames := 2, cells := 0, slots := 0, locals := 44 }) [.ref q, .int k, .int o] [mnC q an ap qs ac au ax (nI SL), saB Γ qs sa sr vs, plB Γ an v] [mnC q an ap qs ac au ax (nI (((fX4_quarrel SL sr vs v k o).2.1))), saB Γ qs sa (((fX4_quarrel SL sr vs v k o).2.2.1)) (fX4_quarrel SL sr vs v k o).2.2.2.1, plB Γ an (fX4_quarrel SL sr vs v k o).2.2.2.2] (fX4_quarrel SL sr vs v k o).1 := by
  intro sz
  refine Met.ofW (cc := cX4_quarrel) (maxL := 3) (ret := (some .int)) (by decide) rfl ?_
  intro p e s m args below meth c s₁ B hml hv
  obtain ⟨rfl, hsz, hP, hK, hD0, hAm⟩ := hv
  have hx := B.exec
  have hb := B.bytes
  have hr := B.returns
  have hts := atoms_spec (ws := wsX4_quarrel) B.pre
  have hown : s.vm.findClass RX4 = some m.cls := findClass_of_methodNamed B.named
  have hlocks := B.notSynchronized
  subst hsz
  have hD := hD0.self (sz := s.heap.size)
  generalize hAe : va_A (wcat [mnC q an ap qs ac au ax (nI SL), saB Γ qs sa sr vs, plB Γ an v]) s.heap.size = A at hD hAm ⊢
  have hA : ∀ q : Nat, s.heap.size ≤ q → A q := fun q h => by rw [← hAe]; exact Or.inr h
  have hAB : ∀ q : Nat, A q → A q := fun _ h => h
  have hS : va_S A s.heap s.heap [] := va_S.rf
  have hl := lv_entry ([.ref q, .int k, .int o]) (n := 3) (Nat.le_of_ble_eq_true rfl)
  rw [lg_entry_eq]
  generalize (lg_sl ([.ref q, .int k, .int o]) ++ List.replicate (3 - (lg_sl ([.ref q, .int k, .int o])).length) Slot.unset).toArray = ls at hl ⊢
  have hl : lv_has ls 3 [(0, .ref q), (1, .int k), (2, .int o)] := hl
  have hi4 : ∀ w ∈ wsX40, w ∈ wsX4_quarrel := by decide +kernel
  have kf10 := hts (.fieldLink RX4 10 "CapsuleKeepers" "now" "LCapsuleKeepers$Place;") (by decide +kernel)
  have hq : (fX4_quarrel SL sr vs v k o) = (let r_1 := (fX4_save (SL) (sr) vs v); ((fX2_toggleQuarrel v ((k.toNatClampNeg)) ((o.toNatClampNeg))).1, (r_1.1), (r_1.2.1), r_1.2.2, (fX2_toggleQuarrel v ((k.toNatClampNeg)) ((o.toNatClampNeg))).2)) := rfl
  refine lv_aload_n hx hb dX4_quarrel_0 rfl (lv_at hl 0 rfl) ?_
  refine lv_iload_n hx hb dX4_quarrel_1 rfl (lv_at hl 1 rfl) ?_
  refine cLV (va_runV (As := [.int k]) (rest := []) ⟨hx, hb, hml, hown, hts⟩ ((kX4_checkKeeper l Γ q an ap qs ac au ax (nI SL) v k (by first | assumption | omega | decide)) _) (cwV 1 hts gX4_quarrel_X4_checkKeeper rfl rfl rfl (by decide +kernel) ⟨Nat.le_of_ble_eq_true rfl, Nat.le_of_ble_eq_true rfl⟩) ⟨wPre_blind, va_recv hK hP (ci := 4) (q0 := 0) rfl rfl, wPre_mk hP hD hK hS hA hAB hAm [0, 2] rfl rfl⟩ rfl rfl hl.1 rfl (lv_room (Nat.le_of_ble_eq_true rfl)) dX4_quarrel_2 ⟨Nat.zero_le _, Nat.zero_le _⟩) hP hS hA (fun H locs hP hS => ?_)
  refine lv_aload_n hx hb dX4_quarrel_5 rfl (lv_at hl 0 rfl) ?_
  refine lv_iload_n hx hb dX4_quarrel_6 rfl (lv_at hl 2 rfl) ?_
  refine cLV (va_runV (As := [.int o]) (rest := []) ⟨hx, hb, hml, hown, hts⟩ ((kX4_checkKeeper l Γ q an ap qs ac au ax (nI SL) v o (by first | assumption | omega | decide)) _) (cwV 1 hts gX4_quarrel_X4_checkKeeper rfl rfl rfl (by decide +kernel) ⟨Nat.le_of_ble_eq_true rfl, Nat.le_of_ble_eq_true rfl⟩) ⟨wPre_blind, va_recv hK hP (ci := 4) (q0 := 0) rfl rfl, wPre_mk hP hD hK hS hA hAB hAm [0, 2] rfl rfl⟩ rfl rfl hl.1 rfl (lv_room (Nat.le_of_ble_eq_true rfl)) dX4_quarrel_7 ⟨Nat.zero_le _, Nat.zero_le _⟩) hP hS hA (fun H locs hP hS => ?_)
  refine lv_iload_n hx hb dX4_quarrel_10 rfl (lv_at hl 1 rfl) ?_
  refine lv_iload_n hx hb dX4_quarrel_11 rfl (lv_at hl 2 rfl) ?_
  refine lv_icmp_ne (tgt := 25) hx hb dX4_quarrel_12 (by decide) (fun c_12 => ?_) (fun c_12 => absurd c_12 hne)
  refine lv_aload_n hx hb dX4_quarrel_25 rfl (lv_at hl 0 rfl) ?_
  have kc := (kX4_save l Γ q an ap qs ac au ax (SL) sa (sr) vs v (by first | assumption | omega | decide) (by first | assumption | omega | decide))
  generalize hr_1 : (fX4_save (SL) (sr) vs v) = r_1 at kc hq
  replace hq : (fX4_quarrel SL sr vs v k o) = ((fX2_toggleQuarrel v ((k.toNatClampNeg)) ((o.toNatClampNeg))).1, (r_1.1), (r_1.2.1), r_1.2.2, (fX2_toggleQuarrel v ((k.toNatClampNeg)) ((o.toNatClampNeg))).2) := hq
  refine cMV (bc' := [mnC q an ap qs ac au ax (nI (r_1.1)), saB Γ qs sa ((r_1.2.1)) r_1.2.2, plB Γ an v]) (va_runV (As := []) (rest := []) ⟨hx, hb, hml, hown, hts⟩ (kc _) (cwV 0 hts gX4_quarrel_X4_save rfl rfl rfl (by decide +kernel) ⟨Nat.le_of_ble_eq_true rfl, Nat.le_of_ble_eq_true rfl⟩) ⟨wPre_blind, va_recv hK hP (ci := 4) (q0 := 0) rfl rfl, wPre_mk hP hD hK hS hA hAB hAm [0, 1, 2] rfl rfl⟩ rfl rfl hl.1 rfl (lv_room (Nat.le_of_ble_eq_true rfl)) dX4_quarrel_26 ⟨Nat.zero_le _, Nat.zero_le _⟩) hP hD hS hA [0, 1, 2] rfl rfl (bs' := [mnC q an ap qs ac au ax (nI (r_1.1)), saB Γ qs sa ((r_1.2.1)) r_1.2.2, plB Γ an v]) rfl (fun H locs hP hD hS => ?_)
  obtain ⟨kn, hkn, rfl⟩ := hasK_nat (v := v) (k := k) hv1
  obtain ⟨on, hon, rfl⟩ := hasK_nat (v := v) (k := o) hv2
  replace hq : (fX4_quarrel SL sr vs v (nI kn) (nI on)) = ((fX2_toggleQuarrel v (kn) (on)).1, (r_1.1), (r_1.2.1), r_1.2.2, (fX2_toggleQuarrel v (kn) (on)).2) := hq.trans (by first | simp only [nI_clamp (show kn < 2 ^ 31 by omega), nI_clamp (show on < 2 ^ 31 by omega), Nat.add_sub_cancel] | rfl)
  refine lv_aload_n hx hb dX4_quarrel_29 rfl (lv_at hl 0 rfl) ?_
  refine va_get (D := Γ.1) (ci := 4) (v := .ref (an 0)) (C := RX4) (T := TX4) (N := 7) hx hb hts hi4 hown hK hP 0 rfl rfl 0 (by decide) kf10 (fun _ h9 => h9) rfl dX4_quarrel_30 ?_
  refine lv_iload_n hx hb dX4_quarrel_33 rfl (lv_at hl 1 rfl) ?_
  refine lv_iload_n hx hb dX4_quarrel_34 rfl (lv_at hl 2 rfl) ?_
  refine cMI (bc' := [plB Γ an (fX2_toggleQuarrel v (kn) (on)).2]) (va_runV (As := [.int (nI kn), .int (nI on)]) (rest := []) ⟨hx, hb, hml, hown, hts⟩ ((kX2_toggleQuarrel l Γ an v (kn) (on) (by first | assumption | omega | decide) (by first | assumption | omega | decide)) _) (cwV 2 hts gX4_quarrel_X2_toggleQuarrel rfl rfl rfl (by decide +kernel) ⟨Nat.le_of_ble_eq_true rfl, Nat.le_of_ble_eq_true rfl⟩) ⟨wPre_blind, va_recv hK hP (ci := 2) (q0 := 38) rfl rfl, wPre_mk hP hD hK hS hA hAB hAm [2] rfl rfl⟩ rfl rfl hl.1 rfl (lv_room (Nat.le_of_ble_eq_true rfl)) dX4_quarrel_35 ⟨Nat.zero_le _, Nat.zero_le _⟩) hP hD hS hA [2] rfl rfl (bs' := [mnC q an ap qs ac au ax (nI (r_1.1)), saB Γ qs sa ((r_1.2.1)) r_1.2.2, plB Γ an (fX2_toggleQuarrel v (kn) (on)).2]) rfl (fun H locs hP hD hS => ?_)
  exact W.iret (v := (fX2_toggleQuarrel v (kn) (on)).1) hx hb hr (fun t ht hW => eMI (by rw [hq]; exact hP) hS ht (by rw [hq])) hS.2.2 dX4_quarrel_38
set_option maxHeartbeats 4000000 in
set_option maxRecDepth 100000 in
theorem tX4_quarrel_a (l : Launch) (hfl : l.stackTraces = false) (Γ : wG) (q : Nat) (an : Nat → Nat) (ap : Nat → Nat) (qs : Nat) (ac : Nat → Nat) (au : Nat → Nat) (ax : Nat → Nat) (nn : Int32) (v : (Nat → Nat → Int32)) (k : Int32) (o : Int32) (hv : fX2_hasKeeper v k = 0) : TX l Γ yX4_quarrel wsX4_quarrel ({ frames := 7, cells := 1, slots := 6, locals := 111 }) [.ref q, .int k, .int o] [mnC q an ap qs ac au ax nn, plB Γ an v] "java/lang/IndexOutOfBoundsException" := by
  intro sz
  refine vx_ofW (cc := cX4_quarrel) (maxL := 3) (ret := (some .int)) (by decide) rfl ?_
  intro p e s m args below meth c s₁ B hml hnt hv
  obtain ⟨rfl, hsz, hP, hK, hD0, hAm⟩ := hv
  have hx := B.exec
  have hb := B.bytes
  have hr := B.returns
  have hts := atoms_spec (ws := wsX4_quarrel) B.pre
  have hown : s.vm.findClass RX4 = some m.cls := findClass_of_methodNamed B.named
  have hlocks := B.notSynchronized
  subst hsz
  have hD := hD0.self (sz := s.heap.size)
  generalize hBe : va_A (wcat [mnC q an ap qs ac au ax nn, plB Γ an v]) s.heap.size = B0 at hD hAm
  obtain ⟨A, hAe⟩ : ∃ A, A = va_A [] s.heap.size := ⟨_, rfl⟩
  rw [← hAe]
  have hA : ∀ q : Nat, s.heap.size ≤ q → A q := fun q h => by rw [hAe]; exact Or.inr h
  have hAB : ∀ q : Nat, A q → B0 q := fun q h => by rw [hAe] at h; rw [← hBe]; exact Or.inr (wnone h)
  have hS : va_S A s.heap s.heap [] := va_S.rf
  have hl := lv_entry ([.ref q, .int k, .int o]) (n := 3) (Nat.le_of_ble_eq_true rfl)
  rw [lg_entry_eq]
  generalize (lg_sl ([.ref q, .int k, .int o]) ++ List.replicate (3 - (lg_sl ([.ref q, .int k, .int o])).length) Slot.unset).toArray = ls at hl ⊢
  have hl : lv_has ls 3 [(0, .ref q), (1, .int k), (2, .int o)] := hl
  refine lv_aload_n hx hb dX4_quarrel_0 rfl (lv_at hl 0 rfl) ?_
  refine lv_iload_n hx hb dX4_quarrel_1 rfl (lv_at hl 1 rfl) ?_
  exact tTX (E := "java/lang/IndexOutOfBoundsException") (vx_runV (As := [.int k]) (rest := []) ⟨hx, hb, hml, hown, hts⟩ ((tX4_checkKeeper l hfl Γ q an ap qs ac au ax nn v k (by first | assumption | omega | decide)) _) (cwV 1 hts gX4_quarrel_X4_checkKeeper rfl rfl rfl (by decide +kernel) ⟨Nat.le_of_ble_eq_true rfl, Nat.le_of_ble_eq_true rfl⟩) ⟨wPre_blind, va_recv hK hP (ci := 4) (q0 := 0) rfl rfl, wPre_mk hP hD hK hS hA hAB hAm [0, 1] rfl rfl⟩ rfl rfl hl.1 rfl (lv_room (Nat.le_of_ble_eq_true rfl)) dX4_quarrel_2 ⟨Nat.le_of_ble_eq_true rfl, Nat.le_of_ble_eq_true rfl⟩) hS hA (fun ce q9 H1 locs1 h1 h2 hS hc hv hcl => vx_out (fun x hx => (hnt x hx).elim) hlocks hc hv hcl (fun t ht ha => ⟨(), trivial, rfl, hS.F ht⟩) hS.2.2 (Nat.le_of_ble_eq_true rfl) (Nat.le_of_ble_eq_true rfl))
set_option maxHeartbeats 4000000 in
set_option maxRecDepth 100000 in
theorem tX4_quarrel_b (l : Launch) (hfl : l.stackTraces = false) (Γ : wG) (q : Nat) (an : Nat → Nat) (ap : Nat → Nat) (qs : Nat) (ac : Nat → Nat) (au : Nat → Nat) (ax : Nat → Nat) (nn : Int32) (v : (Nat → Nat → Int32)) (k : Int32) (o : Int32) (hv : ¬ fX2_hasKeeper v k = 0) (hv2 : fX2_hasKeeper v o = 0) : TX l Γ yX4_quarrel wsX4_quarrel ({ frames := 7, cells := 1, slots := 6, locals := 111 }) [.ref q, .int k, .int o] [mnC q an ap qs ac au ax nn, plB Γ an v] "java/lang/IndexOutOfBoundsException" := by
  intro sz
  refine vx_ofW (cc := cX4_quarrel) (maxL := 3) (ret := (some .int)) (by decide) rfl ?_
  intro p e s m args below meth c s₁ B hml hnt hv
  obtain ⟨rfl, hsz, hP, hK, hD0, hAm⟩ := hv
  have hx := B.exec
  have hb := B.bytes
  have hr := B.returns
  have hts := atoms_spec (ws := wsX4_quarrel) B.pre
  have hown : s.vm.findClass RX4 = some m.cls := findClass_of_methodNamed B.named
  have hlocks := B.notSynchronized
  subst hsz
  have hD := hD0.self (sz := s.heap.size)
  generalize hBe : va_A (wcat [mnC q an ap qs ac au ax nn, plB Γ an v]) s.heap.size = B0 at hD hAm
  obtain ⟨A, hAe⟩ : ∃ A, A = va_A [] s.heap.size := ⟨_, rfl⟩
  rw [← hAe]
  have hA : ∀ q : Nat, s.heap.size ≤ q → A q := fun q h => by rw [hAe]; exact Or.inr h
  have hAB : ∀ q : Nat, A q → B0 q := fun q h => by rw [hAe] at h; rw [← hBe]; exact Or.inr (wnone h)
  have hS : va_S A s.heap s.heap [] := va_S.rf
  have hl := lv_entry ([.ref q, .int k, .int o]) (n := 3) (Nat.le_of_ble_eq_true rfl)
  rw [lg_entry_eq]
  generalize (lg_sl ([.ref q, .int k, .int o]) ++ List.replicate (3 - (lg_sl ([.ref q, .int k, .int o])).length) Slot.unset).toArray = ls at hl ⊢
  have hl : lv_has ls 3 [(0, .ref q), (1, .int k), (2, .int o)] := hl
  refine lv_aload_n hx hb dX4_quarrel_0 rfl (lv_at hl 0 rfl) ?_
  refine lv_iload_n hx hb dX4_quarrel_1 rfl (lv_at hl 1 rfl) ?_
  refine cLV (va_runV (As := [.int k]) (rest := []) ⟨hx, hb, hml, hown, hts⟩ ((kX4_checkKeeper l Γ q an ap qs ac au ax nn v k (by first | assumption | omega | decide)) _) (cwV 1 hts gX4_quarrel_X4_checkKeeper rfl rfl rfl (by decide +kernel) ⟨Nat.le_of_ble_eq_true rfl, Nat.le_of_ble_eq_true rfl⟩) ⟨wPre_blind, va_recv hK hP (ci := 4) (q0 := 0) rfl rfl, wPre_mk hP hD hK hS hA hAB hAm [0, 1] rfl rfl⟩ rfl rfl hl.1 rfl (lv_room (Nat.le_of_ble_eq_true rfl)) dX4_quarrel_2 ⟨Nat.zero_le _, Nat.zero_le _⟩) hP hS hA (fun H locs hP hS => ?_)
  refine lv_aload_n hx hb dX4_quarrel_5 rfl (lv_at hl 0 rfl) ?_
  refine lv_iload_n hx hb dX4_quarrel_6 rfl (lv_at hl 2 rfl) ?_
  exact tTX (E := "java/lang/IndexOutOfBoundsException") (vx_runV (As := [.int o]) (rest := []) ⟨hx, hb, hml, hown, hts⟩ ((tX4_checkKeeper l hfl Γ q an ap qs ac au ax nn v o (by first | assumption | omega | decide)) _) (cwV 1 hts gX4_quarrel_X4_checkKeeper rfl rfl rfl (by decide +kernel) ⟨Nat.le_of_ble_eq_true rfl, Nat.le_of_ble_eq_true rfl⟩) ⟨wPre_blind, va_recv hK hP (ci := 4) (q0 := 0) rfl rfl, wPre_mk hP hD hK hS hA hAB hAm [0, 1] rfl rfl⟩ rfl rfl hl.1 rfl (lv_room (Nat.le_of_ble_eq_true rfl)) dX4_quarrel_7 ⟨Nat.le_of_ble_eq_true rfl, Nat.le_of_ble_eq_true rfl⟩) hS hA (fun ce q9 H1 locs1 h1 h2 hS hc hv hcl => vx_out (fun x hx => (hnt x hx).elim) hlocks hc hv hcl (fun t ht ha => ⟨(), trivial, rfl, hS.F ht⟩) hS.2.2 (Nat.le_of_ble_eq_true rfl) (Nat.le_of_ble_eq_true rfl))
set_option maxHeartbeats 4000000 in
set_option maxRecDepth 100000 in
theorem tX4_quarrel_c (l : Launch) (hfl : l.stackTraces = false) (Γ : wG) (q : Nat) (an : Nat → Nat) (ap : Nat → Nat) (qs : Nat) (ac : Nat → Nat) (au : Nat → Nat) (ax : Nat → Nat) (nn : Int32) (v : (Nat → Nat → Int32)) (k : Int32) (o : Int32) (hv : ¬ fX2_hasKeeper v k = 0) (hv2 : ¬ fX2_hasKeeper v o = 0) (he : k = o) : TX l Γ yX4_quarrel wsX4_quarrel ({ frames := 6, cells := 1, slots := 6, locals := 90 }) [.ref q, .int k, .int o] [mnC q an ap qs ac au ax nn, plB Γ an v] "java/lang/IllegalStateException" := by
  intro sz
  refine vx_ofW (cc := cX4_quarrel) (maxL := 3) (ret := (some .int)) (by decide) rfl ?_
  intro p e s m args below meth c s₁ B hml hnt hv
  obtain ⟨rfl, hsz, hP, hK, hD0, hAm⟩ := hv
  have hx := B.exec
  have hb := B.bytes
  have hr := B.returns
  have hts := atoms_spec (ws := wsX4_quarrel) B.pre
  have hown : s.vm.findClass RX4 = some m.cls := findClass_of_methodNamed B.named
  have hlocks := B.notSynchronized
  subst hsz
  have hD := hD0.self (sz := s.heap.size)
  generalize hBe : va_A (wcat [mnC q an ap qs ac au ax nn, plB Γ an v]) s.heap.size = B0 at hD hAm
  obtain ⟨A, hAe⟩ : ∃ A, A = va_A [] s.heap.size := ⟨_, rfl⟩
  rw [← hAe]
  have hA : ∀ q : Nat, s.heap.size ≤ q → A q := fun q h => by rw [hAe]; exact Or.inr h
  have hAB : ∀ q : Nat, A q → B0 q := fun q h => by rw [hAe] at h; rw [← hBe]; exact Or.inr (wnone h)
  have hS : va_S A s.heap s.heap [] := va_S.rf
  have hl := lv_entry ([.ref q, .int k, .int o]) (n := 3) (Nat.le_of_ble_eq_true rfl)
  rw [lg_entry_eq]
  generalize (lg_sl ([.ref q, .int k, .int o]) ++ List.replicate (3 - (lg_sl ([.ref q, .int k, .int o])).length) Slot.unset).toArray = ls at hl ⊢
  have hl : lv_has ls 3 [(0, .ref q), (1, .int k), (2, .int o)] := hl
  refine lv_aload_n hx hb dX4_quarrel_0 rfl (lv_at hl 0 rfl) ?_
  refine lv_iload_n hx hb dX4_quarrel_1 rfl (lv_at hl 1 rfl) ?_
  refine cLV (va_runV (As := [.int k]) (rest := []) ⟨hx, hb, hml, hown, hts⟩ ((kX4_checkKeeper l Γ q an ap qs ac au ax nn v k (by first | assumption | omega | decide)) _) (cwV 1 hts gX4_quarrel_X4_checkKeeper rfl rfl rfl (by decide +kernel) ⟨Nat.le_of_ble_eq_true rfl, Nat.le_of_ble_eq_true rfl⟩) ⟨wPre_blind, va_recv hK hP (ci := 4) (q0 := 0) rfl rfl, wPre_mk hP hD hK hS hA hAB hAm [0, 1] rfl rfl⟩ rfl rfl hl.1 rfl (lv_room (Nat.le_of_ble_eq_true rfl)) dX4_quarrel_2 ⟨Nat.zero_le _, Nat.zero_le _⟩) hP hS hA (fun H locs hP hS => ?_)
  refine lv_aload_n hx hb dX4_quarrel_5 rfl (lv_at hl 0 rfl) ?_
  refine lv_iload_n hx hb dX4_quarrel_6 rfl (lv_at hl 2 rfl) ?_
  refine cLV (va_runV (As := [.int o]) (rest := []) ⟨hx, hb, hml, hown, hts⟩ ((kX4_checkKeeper l Γ q an ap qs ac au ax nn v o (by first | assumption | omega | decide)) _) (cwV 1 hts gX4_quarrel_X4_checkKeeper rfl rfl rfl (by decide +kernel) ⟨Nat.le_of_ble_eq_true rfl, Nat.le_of_ble_eq_true rfl⟩) ⟨wPre_blind, va_recv hK hP (ci := 4) (q0 := 0) rfl rfl, wPre_mk hP hD hK hS hA hAB hAm [0, 1] rfl rfl⟩ rfl rfl hl.1 rfl (lv_room (Nat.le_of_ble_eq_true rfl)) dX4_quarrel_7 ⟨Nat.zero_le _, Nat.zero_le _⟩) hP hS hA (fun H locs hP hS => ?_)
  refine lv_iload_n hx hb dX4_quarrel_10 rfl (lv_at hl 1 rfl) ?_
  refine lv_iload_n hx hb dX4_quarrel_11 rfl (lv_at hl 2 rfl) ?_
  refine lv_icmp_ne (tgt := 25) hx hb dX4_quarrel_12 (by decide) (fun c_12 => absurd he c_12) (fun c_12 => ?_)
  obtain ⟨sx, hstr⟩ := hAm.2.2.2.2.1 (89, "both are the same") (by decide +kernel)
  exact vx_throwS (names := nm2) (A := A) hx hb hfl hown (by decide +kernel) (by decide +kernel) (hts (.classLink RX4 51 "java/lang/IllegalStateException") (by decide +kernel)) (hts (.initialized "java/lang/IllegalStateException") (by decide +kernel)) hstr (thr_hat hAm (by decide +kernel) (by decide +kernel) (fun w hw => hts w ((by decide +kernel : ∀ w ∈ (vx_atS RX4 55 "java/lang/IllegalStateException" nm2).filter goodWord, w ∈ wsX4_quarrel) w hw))) (by decide +kernel) ((hAm.narrow hAB).2.2.1) ((hAm.narrow hAB).2.2.2.1) hS (by rw [hml]; exact hl.1) dX4_quarrel_15 dX4_quarrel_18 dX4_quarrel_19 dX4_quarrel_21 dX4_quarrel_24 (fun x hx => (hnt x hx).elim) (Nat.le_of_ble_eq_true rfl) (Nat.le_of_ble_eq_true rfl) (Nat.le_of_ble_eq_true rfl) (Nat.le_of_ble_eq_true rfl) hlocks (fun t _ h1 h2 => ⟨(), trivial, rfl, xF hS h1 h2⟩) hS.2.2 (Nat.le_of_ble_eq_true rfl) (Nat.le_of_ble_eq_true rfl)
def fX4_seal (SL : Nat) (sr : Nat) (vs : (Nat → Nat → Nat → Int32)) (v : (Nat → Nat → Int32)) (ck : (Nat → Int32)) (ky : Int32) (Qn : Nat) (dt : Int32) : Int32 × Nat × Nat × (Nat → Nat → Nat → Int32) × (Nat → Nat → Int32) × (Nat → Int32) := (let r_1 := (fX4_save (SL) (sr) vs v); (let r_2 := (fX4_dealShares Qn (fX2_shut v ky (nI Qn) dt) ck); (r_2.1, (r_1.1), (r_1.2.1), r_1.2.2, r_2.2.1, r_2.2.2)))
set_option maxHeartbeats 4000000 in
set_option maxRecDepth 100000 in
theorem kX4_seal (l : Launch) (Γ : wG) (q : Nat) (an : Nat → Nat) (ap : Nat → Nat) (qs : Nat) (ac : Nat → Nat) (au : Nat → Nat) (ax : Nat → Nat) (SL : Nat) (sa : (Nat → Nat → Nat)) (sr : Nat) (vs : (Nat → Nat → Nat → Int32)) (v : (Nat → Nat → Int32)) (ck : (Nat → Int32)) (ky : Int32) (Qn : Nat) (dt : Int32) (hSL : SL ≤ 6) (hsr : sr < 6) (hv1 : ¬ ky < nI 0) (hw1 : ky ≤ nI 250) (hq1 : 1 ≤ Qn) (hq8 : Qn ≤ 8) (hv3 : ¬ dt < nI 0) (hw3 : dt ≤ nI 9999) (hlc : nI Qn ≤ fX2_livingCount v) : MI l Γ yX4_seal wsX4_seal ({ frames := 4, cells := 0, slots := 0, locals := 86 }) [.ref q, .int ky, .int (nI Qn), .int dt] [mnC q an ap qs ac au ax (nI SL), saB Γ qs sa sr vs, plB Γ an v, cuB Γ ac ck] [mnC q an ap qs ac au ax (nI (((fX4_seal SL sr vs v ck ky Qn dt).2.1))), saB Γ qs sa (((fX4_seal SL sr vs v ck ky Qn dt).2.2.1)) (fX4_seal SL sr vs v ck ky Qn dt).2.2.2.1, plB Γ an (fX4_seal SL sr vs v ck ky Qn dt).2.2.2.2.1, cuB Γ ac (fX4_seal SL sr vs v ck ky Qn dt).2.2.2.2.2] (fX4_seal SL sr vs v ck ky Qn dt).1 := by
  intro sz
  refine Met.ofW (cc := cX4_seal) (maxL := 4) (ret := (some .int)) (by decide) rfl ?_
  intro p e s m args below meth c s₁ B hml hv
  obtain ⟨rfl, hsz, hP, hK, hD0, hAm⟩ := hv
  have hx := B.exec
  have hb := B.bytes
  have hr := B.returns
  have hts := atoms_spec (ws := wsX4_seal) B.pre
  have hown : s.vm.findClass RX4 = some m.cls := findClass_of_methodNamed B.named
  have hlocks := B.notSynchronized
  subst hsz
  have hD := hD0.self (sz := s.heap.size)
  generalize hAe : va_A (wcat [mnC q an ap qs ac au ax (nI SL), saB Γ qs sa sr vs, plB Γ an v, cuB Γ ac ck]) s.heap.size = A at hD hAm ⊢
  have hA : ∀ q : Nat, s.heap.size ≤ q → A q := fun q h => by rw [← hAe]; exact Or.inr h
  have hAB : ∀ q : Nat, A q → A q := fun _ h => h
  have hS : va_S A s.heap s.heap [] := va_S.rf
  have hl := lv_entry ([.ref q, .int ky, .int (nI Qn), .int dt]) (n := 4) (Nat.le_of_ble_eq_true rfl)
  rw [lg_entry_eq]
  generalize (lg_sl ([.ref q, .int ky, .int (nI Qn), .int dt]) ++ List.replicate (4 - (lg_sl ([.ref q, .int ky, .int (nI Qn), .int dt])).length) Slot.unset).toArray = ls at hl ⊢
  have hl : lv_has ls 4 [(0, .ref q), (1, .int ky), (2, .int (nI Qn)), (3, .int dt)] := hl
  have hi4 : ∀ w ∈ wsX40, w ∈ wsX4_seal := by decide +kernel
  have kf10 := hts (.fieldLink RX4 10 "CapsuleKeepers" "now" "LCapsuleKeepers$Place;") (by decide +kernel)
  have hq : (fX4_seal SL sr vs v ck ky Qn dt) = (let r_1 := (fX4_save (SL) (sr) vs v); (let r_2 := (fX4_dealShares Qn (fX2_shut v ky (nI Qn) dt) ck); (r_2.1, (r_1.1), (r_1.2.1), r_1.2.2, r_2.2.1, r_2.2.2))) := rfl
  refine lv_iload_n hx hb dX4_seal_0 rfl (lv_at hl 1 rfl) ?_
  refine lv_iconst (v := (nI 0)) hx hb dX4_seal_1 (by decide) ?_
  refine lv_sipush (v := (nI 250)) hx hb dX4_seal_2 (by decide) ?_
  refine cLV (va_runS (As := [.int ky, .int (nI 0), .int (nI 250)]) (rest := []) ⟨hx, hb, hml, hown, hts⟩ ((kX4_checkRange l Γ ky (nI 0) (nI 250) (by first | assumption | omega | decide) (by first | assumption | omega | decide)) _) (va_cwS 3 hts gX4_seal_X4_checkRange rfl rfl rfl (by decide +kernel) ⟨Nat.le_of_ble_eq_true rfl, Nat.le_of_ble_eq_true rfl⟩) ⟨wPre_blind, wPre_mk hP hD hK hS hA hAB hAm [] rfl rfl⟩ rfl rfl hl.1 rfl (lv_room (Nat.le_of_ble_eq_true rfl)) dX4_seal_5 ⟨Nat.zero_le _, Nat.zero_le _⟩) hP hS hA (fun H locs hP hS => ?_)
  refine lv_iload_n hx hb dX4_seal_8 rfl (lv_at hl 2 rfl) ?_
  refine lv_iconst (v := (nI 1)) hx hb dX4_seal_9 (by decide) ?_
  refine lv_bipush (v := (nI 8)) hx hb dX4_seal_10 (by decide) ?_
  refine cLV (va_runS (As := [.int (nI Qn), .int (nI 1), .int (nI 8)]) (rest := []) ⟨hx, hb, hml, hown, hts⟩ ((kX4_checkRange l Γ (nI Qn) (nI 1) (nI 8) ((fun q => absurd ((nI_ltI (by omega) (by omega)).mp q) (by omega))) (nnle hq8 (by decide))) _) (va_cwS 3 hts gX4_seal_X4_checkRange rfl rfl rfl (by decide +kernel) ⟨Nat.le_of_ble_eq_true rfl, Nat.le_of_ble_eq_true rfl⟩) ⟨wPre_blind, wPre_mk hP hD hK hS hA hAB hAm [] rfl rfl⟩ rfl rfl hl.1 rfl (lv_room (Nat.le_of_ble_eq_true rfl)) dX4_seal_12 ⟨Nat.zero_le _, Nat.zero_le _⟩) hP hS hA (fun H locs hP hS => ?_)
  refine lv_iload_n hx hb dX4_seal_15 rfl (lv_at hl 3 rfl) ?_
  refine lv_iconst (v := (nI 0)) hx hb dX4_seal_16 (by decide) ?_
  refine lv_sipush (v := (nI 9999)) hx hb dX4_seal_17 (by decide) ?_
  refine cLV (va_runS (As := [.int dt, .int (nI 0), .int (nI 9999)]) (rest := []) ⟨hx, hb, hml, hown, hts⟩ ((kX4_checkRange l Γ dt (nI 0) (nI 9999) (by first | assumption | omega | decide) (by first | assumption | omega | decide)) _) (va_cwS 3 hts gX4_seal_X4_checkRange rfl rfl rfl (by decide +kernel) ⟨Nat.le_of_ble_eq_true rfl, Nat.le_of_ble_eq_true rfl⟩) ⟨wPre_blind, wPre_mk hP hD hK hS hA hAB hAm [] rfl rfl⟩ rfl rfl hl.1 rfl (lv_room (Nat.le_of_ble_eq_true rfl)) dX4_seal_20 ⟨Nat.zero_le _, Nat.zero_le _⟩) hP hS hA (fun H locs hP hS => ?_)
  refine lv_aload_n hx hb dX4_seal_23 rfl (lv_at hl 0 rfl) ?_
  refine va_get (D := Γ.1) (ci := 4) (v := .ref (an 0)) (C := RX4) (T := TX4) (N := 7) hx hb hts hi4 hown hK hP 0 rfl rfl 0 (by decide) kf10 (fun _ h9 => h9) rfl dX4_seal_24 ?_
  refine cLI (va_runV (As := []) (rest := []) ⟨hx, hb, hml, hown, hts⟩ ((kX2_livingCount l Γ an v) _) (cwV 0 hts gX4_seal_X2_livingCount rfl rfl rfl (by decide +kernel) ⟨Nat.le_of_ble_eq_true rfl, Nat.le_of_ble_eq_true rfl⟩) ⟨wPre_blind, va_recv hK hP (ci := 2) (q0 := 38) rfl rfl, wPre_mk hP hD hK hS hA hAB hAm [2] rfl rfl⟩ rfl rfl hl.1 rfl (lv_room (Nat.le_of_ble_eq_true rfl)) dX4_seal_27 ⟨Nat.zero_le _, Nat.zero_le _⟩) hP hS hA (fun H locs hP hS => ?_)
  refine lv_iload_n hx hb dX4_seal_30 rfl (lv_at hl 2 rfl) ?_
  refine lv_icmp_ge (tgt := 44) hx hb dX4_seal_31 (by decide) (fun c_31 => ?_) (fun c_31 => absurd hlc c_31)
  refine lv_aload_n hx hb dX4_seal_44 rfl (lv_at hl 0 rfl) ?_
  have kc := (kX4_save l Γ q an ap qs ac au ax (SL) sa (sr) vs v (by first | assumption | omega | decide) (by first | assumption | omega | decide))
  generalize hr_1 : (fX4_save (SL) (sr) vs v) = r_1 at kc hq
  replace hq : (fX4_seal SL sr vs v ck ky Qn dt) = (let r_2 := (fX4_dealShares Qn (fX2_shut v ky (nI Qn) dt) ck); (r_2.1, (r_1.1), (r_1.2.1), r_1.2.2, r_2.2.1, r_2.2.2)) := hq
  refine cMV (bc' := [mnC q an ap qs ac au ax (nI (r_1.1)), saB Γ qs sa ((r_1.2.1)) r_1.2.2, plB Γ an v]) (va_runV (As := []) (rest := []) ⟨hx, hb, hml, hown, hts⟩ (kc _) (cwV 0 hts gX4_seal_X4_save rfl rfl rfl (by decide +kernel) ⟨Nat.le_of_ble_eq_true rfl, Nat.le_of_ble_eq_true rfl⟩) ⟨wPre_blind, va_recv hK hP (ci := 4) (q0 := 0) rfl rfl, wPre_mk hP hD hK hS hA hAB hAm [0, 1, 2] rfl rfl⟩ rfl rfl hl.1 rfl (lv_room (Nat.le_of_ble_eq_true rfl)) dX4_seal_45 ⟨Nat.zero_le _, Nat.zero_le _⟩) hP hD hS hA [0, 1, 2] rfl rfl (bs' := [mnC q an ap qs ac au ax (nI (r_1.1)), saB Γ qs sa ((r_1.2.1)) r_1.2.2, plB Γ an v, cuB Γ ac ck]) rfl (fun H locs hP hD hS => ?_)
  refine lv_aload_n hx hb dX4_seal_48 rfl (lv_at hl 0 rfl) ?_
  refine va_get (D := Γ.1) (ci := 4) (v := .ref (an 0)) (C := RX4) (T := TX4) (N := 7) hx hb hts hi4 hown hK hP 0 rfl rfl 0 (by decide) kf10 (fun _ h9 => h9) rfl dX4_seal_49 ?_
  refine lv_iload_n hx hb dX4_seal_52 rfl (lv_at hl 1 rfl) ?_
  refine lv_iload_n hx hb dX4_seal_53 rfl (lv_at hl 2 rfl) ?_
  refine lv_iload_n hx hb dX4_seal_54 rfl (lv_at hl 3 rfl) ?_
  refine cMV (bc' := [plB Γ an (fX2_shut v ky (nI Qn) dt)]) (va_runV (As := [.int ky, .int (nI Qn), .int dt]) (rest := []) ⟨hx, hb, hml, hown, hts⟩ ((kX2_shut l Γ an v ky (nI Qn) dt) _) (cwV 3 hts gX4_seal_X2_shut rfl rfl rfl (by decide +kernel) ⟨Nat.le_of_ble_eq_true rfl, Nat.le_of_ble_eq_true rfl⟩) ⟨wPre_blind, va_recv hK hP (ci := 2) (q0 := 38) rfl rfl, wPre_mk hP hD hK hS hA hAB hAm [2] rfl rfl⟩ rfl rfl hl.1 rfl (lv_room (Nat.le_of_ble_eq_true rfl)) dX4_seal_55 ⟨Nat.zero_le _, Nat.zero_le _⟩) hP hD hS hA [2] rfl rfl (bs' := [mnC q an ap qs ac au ax (nI (r_1.1)), saB Γ qs sa ((r_1.2.1)) r_1.2.2, plB Γ an (fX2_shut v ky (nI Qn) dt), cuB Γ ac ck]) rfl (fun H locs hP hD hS => ?_)
  refine lv_aload_n hx hb dX4_seal_58 rfl (lv_at hl 0 rfl) ?_
  have kc := (kX4_dealShares l Γ q an ap qs ac au ax Qn (nI (r_1.1)) (fX2_shut v ky (nI Qn) dt) ck (rfl) (by first | assumption | omega | decide) (by first | assumption | omega | decide))
  generalize hr_2 : (fX4_dealShares Qn (fX2_shut v ky (nI Qn) dt) ck) = r_2 at kc hq
  replace hq : (fX4_seal SL sr vs v ck ky Qn dt) = (r_2.1, (r_1.1), (r_1.2.1), r_1.2.2, r_2.2.1, r_2.2.2) := hq
  refine cMI (bc' := [mnC q an ap qs ac au ax (nI (r_1.1)), plB Γ an r_2.2.1, cuB Γ ac r_2.2.2]) (va_runV (As := []) (rest := []) ⟨hx, hb, hml, hown, hts⟩ (kc _) (cwV 0 hts gX4_seal_X4_dealShares rfl rfl rfl (by decide +kernel) ⟨Nat.le_of_ble_eq_true rfl, Nat.le_of_ble_eq_true rfl⟩) ⟨wPre_blind, va_recv hK hP (ci := 4) (q0 := 0) rfl rfl, wPre_mk hP hD hK hS hA hAB hAm [0, 2, 3] rfl rfl⟩ rfl rfl hl.1 rfl (lv_room (Nat.le_of_ble_eq_true rfl)) dX4_seal_59 ⟨Nat.zero_le _, Nat.zero_le _⟩) hP hD hS hA [0, 2, 3] rfl rfl (bs' := [mnC q an ap qs ac au ax (nI (r_1.1)), saB Γ qs sa ((r_1.2.1)) r_1.2.2, plB Γ an r_2.2.1, cuB Γ ac r_2.2.2]) rfl (fun H locs hP hD hS => ?_)
  exact W.iret (v := r_2.1) hx hb hr (fun t ht hW => eMI (by rw [hq]; exact hP) hS ht (by rw [hq])) hS.2.2 dX4_seal_62
set_option maxHeartbeats 4000000 in
set_option maxRecDepth 100000 in
theorem tX4_seal_a5 (l : Launch) (hfl : l.stackTraces = false) (Γ : wG) (q : Nat) (an : Nat → Nat) (ap : Nat → Nat) (qs : Nat) (ac : Nat → Nat) (au : Nat → Nat) (ax : Nat → Nat) (nn : Int32) (v : (Nat → Nat → Int32)) (ky : Int32) (qq : Int32) (dt : Int32) (hv : ky < nI 0) : TX l Γ yX4_seal wsX4_seal ({ frames := 7, cells := 1, slots := 6, locals := 112 }) [.ref q, .int ky, .int qq, .int dt] [mnC q an ap qs ac au ax nn, plB Γ an v] "java/lang/IllegalArgumentException" := by
  intro sz
  refine vx_ofW (cc := cX4_seal) (maxL := 4) (ret := (some .int)) (by decide) rfl ?_
  intro p e s m args below meth c s₁ B hml hnt hv
  obtain ⟨rfl, hsz, hP, hK, hD0, hAm⟩ := hv
  have hx := B.exec
  have hb := B.bytes
  have hr := B.returns
  have hts := atoms_spec (ws := wsX4_seal) B.pre
  have hown : s.vm.findClass RX4 = some m.cls := findClass_of_methodNamed B.named
  have hlocks := B.notSynchronized
  subst hsz
  have hD := hD0.self (sz := s.heap.size)
  generalize hBe : va_A (wcat [mnC q an ap qs ac au ax nn, plB Γ an v]) s.heap.size = B0 at hD hAm
  obtain ⟨A, hAe⟩ : ∃ A, A = va_A [] s.heap.size := ⟨_, rfl⟩
  rw [← hAe]
  have hA : ∀ q : Nat, s.heap.size ≤ q → A q := fun q h => by rw [hAe]; exact Or.inr h
  have hAB : ∀ q : Nat, A q → B0 q := fun q h => by rw [hAe] at h; rw [← hBe]; exact Or.inr (wnone h)
  have hS : va_S A s.heap s.heap [] := va_S.rf
  have hl := lv_entry ([.ref q, .int ky, .int qq, .int dt]) (n := 4) (Nat.le_of_ble_eq_true rfl)
  rw [lg_entry_eq]
  generalize (lg_sl ([.ref q, .int ky, .int qq, .int dt]) ++ List.replicate (4 - (lg_sl ([.ref q, .int ky, .int qq, .int dt])).length) Slot.unset).toArray = ls at hl ⊢
  have hl : lv_has ls 4 [(0, .ref q), (1, .int ky), (2, .int qq), (3, .int dt)] := hl
  refine lv_iload_n hx hb dX4_seal_0 rfl (lv_at hl 1 rfl) ?_
  refine lv_iconst (v := (nI 0)) hx hb dX4_seal_1 (by decide) ?_
  refine lv_sipush (v := (nI 250)) hx hb dX4_seal_2 (by decide) ?_
  exact tTX (E := "java/lang/IllegalArgumentException") (vx_runS (As := [.int ky, .int (nI 0), .int (nI 250)]) (rest := []) ⟨hx, hb, hml, hown, hts⟩ ((tX4_checkRange_a l hfl Γ ky (nI 0) (nI 250) (by first | assumption | omega | decide)) _) (va_cwS 3 hts gX4_seal_X4_checkRange rfl rfl rfl (by decide +kernel) ⟨Nat.le_of_ble_eq_true rfl, Nat.le_of_ble_eq_true rfl⟩) ⟨wPre_blind, wPre_mk hP hD hK hS hA hAB hAm [] rfl rfl⟩ rfl rfl hl.1 rfl (lv_room (Nat.le_of_ble_eq_true rfl)) dX4_seal_5 ⟨Nat.le_of_ble_eq_true rfl, Nat.le_of_ble_eq_true rfl⟩) hS hA (fun ce q9 H1 locs1 h1 h2 hS hc hv hcl => vx_out (fun x hx => (hnt x hx).elim) hlocks hc hv hcl (fun t ht ha => ⟨(), trivial, rfl, hS.F ht⟩) hS.2.2 (Nat.le_of_ble_eq_true rfl) (Nat.le_of_ble_eq_true rfl))
set_option maxHeartbeats 4000000 in
set_option maxRecDepth 100000 in
theorem tX4_seal_b5 (l : Launch) (hfl : l.stackTraces = false) (Γ : wG) (q : Nat) (an : Nat → Nat) (ap : Nat → Nat) (qs : Nat) (ac : Nat → Nat) (au : Nat → Nat) (ax : Nat → Nat) (nn : Int32) (v : (Nat → Nat → Int32)) (ky : Int32) (qq : Int32) (dt : Int32) (hv : ¬ ky < nI 0) (hw : ¬ ky ≤ nI 250) : TX l Γ yX4_seal wsX4_seal ({ frames := 7, cells := 1, slots := 6, locals := 112 }) [.ref q, .int ky, .int qq, .int dt] [mnC q an ap qs ac au ax nn, plB Γ an v] "java/lang/IllegalArgumentException" := by
  intro sz
  refine vx_ofW (cc := cX4_seal) (maxL := 4) (ret := (some .int)) (by decide) rfl ?_
  intro p e s m args below meth c s₁ B hml hnt hv
  obtain ⟨rfl, hsz, hP, hK, hD0, hAm⟩ := hv
  have hx := B.exec
  have hb := B.bytes
  have hr := B.returns
  have hts := atoms_spec (ws := wsX4_seal) B.pre
  have hown : s.vm.findClass RX4 = some m.cls := findClass_of_methodNamed B.named
  have hlocks := B.notSynchronized
  subst hsz
  have hD := hD0.self (sz := s.heap.size)
  generalize hBe : va_A (wcat [mnC q an ap qs ac au ax nn, plB Γ an v]) s.heap.size = B0 at hD hAm
  obtain ⟨A, hAe⟩ : ∃ A, A = va_A [] s.heap.size := ⟨_, rfl⟩
  rw [← hAe]
  have hA : ∀ q : Nat, s.heap.size ≤ q → A q := fun q h => by rw [hAe]; exact Or.inr h
  have hAB : ∀ q : Nat, A q → B0 q := fun q h => by rw [hAe] at h; rw [← hBe]; exact Or.inr (wnone h)
  have hS : va_S A s.heap s.heap [] := va_S.rf
  have hl := lv_entry ([.ref q, .int ky, .int qq, .int dt]) (n := 4) (Nat.le_of_ble_eq_true rfl)
  rw [lg_entry_eq]
  generalize (lg_sl ([.ref q, .int ky, .int qq, .int dt]) ++ List.replicate (4 - (lg_sl ([.ref q, .int ky, .int qq, .int dt])).length) Slot.unset).toArray = ls at hl ⊢
  have hl : lv_has ls 4 [(0, .ref q), (1, .int ky), (2, .int qq), (3, .int dt)] := hl
  refine lv_iload_n hx hb dX4_seal_0 rfl (lv_at hl 1 rfl) ?_
  refine lv_iconst (v := (nI 0)) hx hb dX4_seal_1 (by decide) ?_
  refine lv_sipush (v := (nI 250)) hx hb dX4_seal_2 (by decide) ?_
  exact tTX (E := "java/lang/IllegalArgumentException") (vx_runS (As := [.int ky, .int (nI 0), .int (nI 250)]) (rest := []) ⟨hx, hb, hml, hown, hts⟩ ((tX4_checkRange_b l hfl Γ ky (nI 0) (nI 250) (by first | assumption | omega | decide) (by first | assumption | omega | decide)) _) (va_cwS 3 hts gX4_seal_X4_checkRange rfl rfl rfl (by decide +kernel) ⟨Nat.le_of_ble_eq_true rfl, Nat.le_of_ble_eq_true rfl⟩) ⟨wPre_blind, wPre_mk hP hD hK hS hA hAB hAm [] rfl rfl⟩ rfl rfl hl.1 rfl (lv_room (Nat.le_of_ble_eq_true rfl)) dX4_seal_5 ⟨Nat.le_of_ble_eq_true rfl, Nat.le_of_ble_eq_true rfl⟩) hS hA (fun ce q9 H1 locs1 h1 h2 hS hc hv hcl => vx_out (fun x hx => (hnt x hx).elim) hlocks hc hv hcl (fun t ht ha => ⟨(), trivial, rfl, hS.F ht⟩) hS.2.2 (Nat.le_of_ble_eq_true rfl) (Nat.le_of_ble_eq_true rfl))
set_option maxHeartbeats 4000000 in
set_option maxRecDepth 100000 in
theorem tX4_seal_a12 (l : Launch) (hfl : l.stackTraces = false) (Γ : wG) (q : Nat) (an : Nat → Nat) (ap : Nat → Nat) (qs : Nat) (ac : Nat → Nat) (au : Nat → Nat) (ax : Nat → Nat) (nn : Int32) (v : (Nat → Nat → Int32)) (ky : Int32) (qq : Int32) (dt : Int32) (hv1 : ¬ ky < nI 0) (hw1 : ky ≤ nI 250) (hv : qq < nI 1) : TX l Γ yX4_seal wsX4_seal ({ frames := 7, cells := 1, slots := 6, locals := 112 }) [.ref q, .int ky, .int qq, .int dt] [mnC q an ap qs ac au ax nn, plB Γ an v] "java/lang/IllegalArgumentException" := by
  intro sz
  refine vx_ofW (cc := cX4_seal) (maxL := 4) (ret := (some .int)) (by decide) rfl ?_
  intro p e s m args below meth c s₁ B hml hnt hv
  obtain ⟨rfl, hsz, hP, hK, hD0, hAm⟩ := hv
  have hx := B.exec
  have hb := B.bytes
  have hr := B.returns
  have hts := atoms_spec (ws := wsX4_seal) B.pre
  have hown : s.vm.findClass RX4 = some m.cls := findClass_of_methodNamed B.named
  have hlocks := B.notSynchronized
  subst hsz
  have hD := hD0.self (sz := s.heap.size)
  generalize hBe : va_A (wcat [mnC q an ap qs ac au ax nn, plB Γ an v]) s.heap.size = B0 at hD hAm
  obtain ⟨A, hAe⟩ : ∃ A, A = va_A [] s.heap.size := ⟨_, rfl⟩
  rw [← hAe]
  have hA : ∀ q : Nat, s.heap.size ≤ q → A q := fun q h => by rw [hAe]; exact Or.inr h
  have hAB : ∀ q : Nat, A q → B0 q := fun q h => by rw [hAe] at h; rw [← hBe]; exact Or.inr (wnone h)
  have hS : va_S A s.heap s.heap [] := va_S.rf
  have hl := lv_entry ([.ref q, .int ky, .int qq, .int dt]) (n := 4) (Nat.le_of_ble_eq_true rfl)
  rw [lg_entry_eq]
  generalize (lg_sl ([.ref q, .int ky, .int qq, .int dt]) ++ List.replicate (4 - (lg_sl ([.ref q, .int ky, .int qq, .int dt])).length) Slot.unset).toArray = ls at hl ⊢
  have hl : lv_has ls 4 [(0, .ref q), (1, .int ky), (2, .int qq), (3, .int dt)] := hl
  refine lv_iload_n hx hb dX4_seal_0 rfl (lv_at hl 1 rfl) ?_
  refine lv_iconst (v := (nI 0)) hx hb dX4_seal_1 (by decide) ?_
  refine lv_sipush (v := (nI 250)) hx hb dX4_seal_2 (by decide) ?_
  refine cLV (va_runS (As := [.int ky, .int (nI 0), .int (nI 250)]) (rest := []) ⟨hx, hb, hml, hown, hts⟩ ((kX4_checkRange l Γ ky (nI 0) (nI 250) (by first | assumption | omega | decide) (by first | assumption | omega | decide)) _) (va_cwS 3 hts gX4_seal_X4_checkRange rfl rfl rfl (by decide +kernel) ⟨Nat.le_of_ble_eq_true rfl, Nat.le_of_ble_eq_true rfl⟩) ⟨wPre_blind, wPre_mk hP hD hK hS hA hAB hAm [] rfl rfl⟩ rfl rfl hl.1 rfl (lv_room (Nat.le_of_ble_eq_true rfl)) dX4_seal_5 ⟨Nat.zero_le _, Nat.zero_le _⟩) hP hS hA (fun H locs hP hS => ?_)
  refine lv_iload_n hx hb dX4_seal_8 rfl (lv_at hl 2 rfl) ?_
  refine lv_iconst (v := (nI 1)) hx hb dX4_seal_9 (by decide) ?_
  refine lv_bipush (v := (nI 8)) hx hb dX4_seal_10 (by decide) ?_
  exact tTX (E := "java/lang/IllegalArgumentException") (vx_runS (As := [.int qq, .int (nI 1), .int (nI 8)]) (rest := []) ⟨hx, hb, hml, hown, hts⟩ ((tX4_checkRange_a l hfl Γ qq (nI 1) (nI 8) (by first | assumption | omega | decide)) _) (va_cwS 3 hts gX4_seal_X4_checkRange rfl rfl rfl (by decide +kernel) ⟨Nat.le_of_ble_eq_true rfl, Nat.le_of_ble_eq_true rfl⟩) ⟨wPre_blind, wPre_mk hP hD hK hS hA hAB hAm [] rfl rfl⟩ rfl rfl hl.1 rfl (lv_room (Nat.le_of_ble_eq_true rfl)) dX4_seal_12 ⟨Nat.le_of_ble_eq_true rfl, Nat.le_of_ble_eq_true rfl⟩) hS hA (fun ce q9 H1 locs1 h1 h2 hS hc hv hcl => vx_out (fun x hx => (hnt x hx).elim) hlocks hc hv hcl (fun t ht ha => ⟨(), trivial, rfl, hS.F ht⟩) hS.2.2 (Nat.le_of_ble_eq_true rfl) (Nat.le_of_ble_eq_true rfl))
set_option maxHeartbeats 4000000 in
set_option maxRecDepth 100000 in
theorem tX4_seal_b12 (l : Launch) (hfl : l.stackTraces = false) (Γ : wG) (q : Nat) (an : Nat → Nat) (ap : Nat → Nat) (qs : Nat) (ac : Nat → Nat) (au : Nat → Nat) (ax : Nat → Nat) (nn : Int32) (v : (Nat → Nat → Int32)) (ky : Int32) (qq : Int32) (dt : Int32) (hv1 : ¬ ky < nI 0) (hw1 : ky ≤ nI 250) (hv : ¬ qq < nI 1) (hw : ¬ qq ≤ nI 8) : TX l Γ yX4_seal wsX4_seal ({ frames := 7, cells := 1, slots := 6, locals := 112 }) [.ref q, .int ky, .int qq, .int dt] [mnC q an ap qs ac au ax nn, plB Γ an v] "java/lang/IllegalArgumentException" := by
  intro sz
  refine vx_ofW (cc := cX4_seal) (maxL := 4) (ret := (some .int)) (by decide) rfl ?_
  intro p e s m args below meth c s₁ B hml hnt hv
  obtain ⟨rfl, hsz, hP, hK, hD0, hAm⟩ := hv
  have hx := B.exec
  have hb := B.bytes
  have hr := B.returns
  have hts := atoms_spec (ws := wsX4_seal) B.pre
  have hown : s.vm.findClass RX4 = some m.cls := findClass_of_methodNamed B.named
  have hlocks := B.notSynchronized
  subst hsz
  have hD := hD0.self (sz := s.heap.size)
  generalize hBe : va_A (wcat [mnC q an ap qs ac au ax nn, plB Γ an v]) s.heap.size = B0 at hD hAm
  obtain ⟨A, hAe⟩ : ∃ A, A = va_A [] s.heap.size := ⟨_, rfl⟩
  rw [← hAe]
  have hA : ∀ q : Nat, s.heap.size ≤ q → A q := fun q h => by rw [hAe]; exact Or.inr h
  have hAB : ∀ q : Nat, A q → B0 q := fun q h => by rw [hAe] at h; rw [← hBe]; exact Or.inr (wnone h)
  have hS : va_S A s.heap s.heap [] := va_S.rf
  have hl := lv_entry ([.ref q, .int ky, .int qq, .int dt]) (n := 4) (Nat.le_of_ble_eq_true rfl)
  rw [lg_entry_eq]
  generalize (lg_sl ([.ref q, .int ky, .int qq, .int dt]) ++ List.replicate (4 - (lg_sl ([.ref q, .int ky, .int qq, .int dt])).length) Slot.unset).toArray = ls at hl ⊢
  have hl : lv_has ls 4 [(0, .ref q), (1, .int ky), (2, .int qq), (3, .int dt)] := hl
  refine lv_iload_n hx hb dX4_seal_0 rfl (lv_at hl 1 rfl) ?_
  refine lv_iconst (v := (nI 0)) hx hb dX4_seal_1 (by decide) ?_
  refine lv_sipush (v := (nI 250)) hx hb dX4_seal_2 (by decide) ?_
  refine cLV (va_runS (As := [.int ky, .int (nI 0), .int (nI 250)]) (rest := []) ⟨hx, hb, hml, hown, hts⟩ ((kX4_checkRange l Γ ky (nI 0) (nI 250) (by first | assumption | omega | decide) (by first | assumption | omega | decide)) _) (va_cwS 3 hts gX4_seal_X4_checkRange rfl rfl rfl (by decide +kernel) ⟨Nat.le_of_ble_eq_true rfl, Nat.le_of_ble_eq_true rfl⟩) ⟨wPre_blind, wPre_mk hP hD hK hS hA hAB hAm [] rfl rfl⟩ rfl rfl hl.1 rfl (lv_room (Nat.le_of_ble_eq_true rfl)) dX4_seal_5 ⟨Nat.zero_le _, Nat.zero_le _⟩) hP hS hA (fun H locs hP hS => ?_)
  refine lv_iload_n hx hb dX4_seal_8 rfl (lv_at hl 2 rfl) ?_
  refine lv_iconst (v := (nI 1)) hx hb dX4_seal_9 (by decide) ?_
  refine lv_bipush (v := (nI 8)) hx hb dX4_seal_10 (by decide) ?_
  exact tTX (E := "java/lang/IllegalArgumentException") (vx_runS (As := [.int qq, .int (nI 1), .int (nI 8)]) (rest := []) ⟨hx, hb, hml, hown, hts⟩ ((tX4_checkRange_b l hfl Γ qq (nI 1) (nI 8) (by first | assumption | omega | decide) (by first | assumption | omega | decide)) _) (va_cwS 3 hts gX4_seal_X4_checkRange rfl rfl rfl (by decide +kernel) ⟨Nat.le_of_ble_eq_true rfl, Nat.le_of_ble_eq_true rfl⟩) ⟨wPre_blind, wPre_mk hP hD hK hS hA hAB hAm [] rfl rfl⟩ rfl rfl hl.1 rfl (lv_room (Nat.le_of_ble_eq_true rfl)) dX4_seal_12 ⟨Nat.le_of_ble_eq_true rfl, Nat.le_of_ble_eq_true rfl⟩) hS hA (fun ce q9 H1 locs1 h1 h2 hS hc hv hcl => vx_out (fun x hx => (hnt x hx).elim) hlocks hc hv hcl (fun t ht ha => ⟨(), trivial, rfl, hS.F ht⟩) hS.2.2 (Nat.le_of_ble_eq_true rfl) (Nat.le_of_ble_eq_true rfl))
set_option maxHeartbeats 4000000 in
set_option maxRecDepth 100000 in
theorem tX4_seal_a20 (l : Launch) (hfl : l.stackTraces = false) (Γ : wG) (q : Nat) (an : Nat → Nat) (ap : Nat → Nat) (qs : Nat) (ac : Nat → Nat) (au : Nat → Nat) (ax : Nat → Nat) (nn : Int32) (v : (Nat → Nat → Int32)) (ky : Int32) (qq : Int32) (dt : Int32) (hv1 : ¬ ky < nI 0) (hw1 : ky ≤ nI 250) (hv2 : ¬ qq < nI 1) (hw2 : qq ≤ nI 8) (hv : dt < nI 0) : TX l Γ yX4_seal wsX4_seal ({ frames := 7, cells := 1, slots := 6, locals := 112 }) [.ref q, .int ky, .int qq, .int dt] [mnC q an ap qs ac au ax nn, plB Γ an v] "java/lang/IllegalArgumentException" := by
  intro sz
  refine vx_ofW (cc := cX4_seal) (maxL := 4) (ret := (some .int)) (by decide) rfl ?_
  intro p e s m args below meth c s₁ B hml hnt hv
  obtain ⟨rfl, hsz, hP, hK, hD0, hAm⟩ := hv
  have hx := B.exec
  have hb := B.bytes
  have hr := B.returns
  have hts := atoms_spec (ws := wsX4_seal) B.pre
  have hown : s.vm.findClass RX4 = some m.cls := findClass_of_methodNamed B.named
  have hlocks := B.notSynchronized
  subst hsz
  have hD := hD0.self (sz := s.heap.size)
  generalize hBe : va_A (wcat [mnC q an ap qs ac au ax nn, plB Γ an v]) s.heap.size = B0 at hD hAm
  obtain ⟨A, hAe⟩ : ∃ A, A = va_A [] s.heap.size := ⟨_, rfl⟩
  rw [← hAe]
  have hA : ∀ q : Nat, s.heap.size ≤ q → A q := fun q h => by rw [hAe]; exact Or.inr h
  have hAB : ∀ q : Nat, A q → B0 q := fun q h => by rw [hAe] at h; rw [← hBe]; exact Or.inr (wnone h)
  have hS : va_S A s.heap s.heap [] := va_S.rf
  have hl := lv_entry ([.ref q, .int ky, .int qq, .int dt]) (n := 4) (Nat.le_of_ble_eq_true rfl)
  rw [lg_entry_eq]
  generalize (lg_sl ([.ref q, .int ky, .int qq, .int dt]) ++ List.replicate (4 - (lg_sl ([.ref q, .int ky, .int qq, .int dt])).length) Slot.unset).toArray = ls at hl ⊢
  have hl : lv_has ls 4 [(0, .ref q), (1, .int ky), (2, .int qq), (3, .int dt)] := hl
  refine lv_iload_n hx hb dX4_seal_0 rfl (lv_at hl 1 rfl) ?_
  refine lv_iconst (v := (nI 0)) hx hb dX4_seal_1 (by decide) ?_
  refine lv_sipush (v := (nI 250)) hx hb dX4_seal_2 (by decide) ?_
  refine cLV (va_runS (As := [.int ky, .int (nI 0), .int (nI 250)]) (rest := []) ⟨hx, hb, hml, hown, hts⟩ ((kX4_checkRange l Γ ky (nI 0) (nI 250) (by first | assumption | omega | decide) (by first | assumption | omega | decide)) _) (va_cwS 3 hts gX4_seal_X4_checkRange rfl rfl rfl (by decide +kernel) ⟨Nat.le_of_ble_eq_true rfl, Nat.le_of_ble_eq_true rfl⟩) ⟨wPre_blind, wPre_mk hP hD hK hS hA hAB hAm [] rfl rfl⟩ rfl rfl hl.1 rfl (lv_room (Nat.le_of_ble_eq_true rfl)) dX4_seal_5 ⟨Nat.zero_le _, Nat.zero_le _⟩) hP hS hA (fun H locs hP hS => ?_)
  refine lv_iload_n hx hb dX4_seal_8 rfl (lv_at hl 2 rfl) ?_
  refine lv_iconst (v := (nI 1)) hx hb dX4_seal_9 (by decide) ?_
  refine lv_bipush (v := (nI 8)) hx hb dX4_seal_10 (by decide) ?_
  refine cLV (va_runS (As := [.int qq, .int (nI 1), .int (nI 8)]) (rest := []) ⟨hx, hb, hml, hown, hts⟩ ((kX4_checkRange l Γ qq (nI 1) (nI 8) (by first | assumption | omega | decide) (by first | assumption | omega | decide)) _) (va_cwS 3 hts gX4_seal_X4_checkRange rfl rfl rfl (by decide +kernel) ⟨Nat.le_of_ble_eq_true rfl, Nat.le_of_ble_eq_true rfl⟩) ⟨wPre_blind, wPre_mk hP hD hK hS hA hAB hAm [] rfl rfl⟩ rfl rfl hl.1 rfl (lv_room (Nat.le_of_ble_eq_true rfl)) dX4_seal_12 ⟨Nat.zero_le _, Nat.zero_le _⟩) hP hS hA (fun H locs hP hS => ?_)
  refine lv_iload_n hx hb dX4_seal_15 rfl (lv_at hl 3 rfl) ?_
  refine lv_iconst (v := (nI 0)) hx hb dX4_seal_16 (by decide) ?_
  refine lv_sipush (v := (nI 9999)) hx hb dX4_seal_17 (by decide) ?_
  exact tTX (E := "java/lang/IllegalArgumentException") (vx_runS (As := [.int dt, .int (nI 0), .int (nI 9999)]) (rest := []) ⟨hx, hb, hml, hown, hts⟩ ((tX4_checkRange_a l hfl Γ dt (nI 0) (nI 9999) (by first | assumption | omega | decide)) _) (va_cwS 3 hts gX4_seal_X4_checkRange rfl rfl rfl (by decide +kernel) ⟨Nat.le_of_ble_eq_true rfl, Nat.le_of_ble_eq_true rfl⟩) ⟨wPre_blind, wPre_mk hP hD hK hS hA hAB hAm [] rfl rfl⟩ rfl rfl hl.1 rfl (lv_room (Nat.le_of_ble_eq_true rfl)) dX4_seal_20 ⟨Nat.le_of_ble_eq_true rfl, Nat.le_of_ble_eq_true rfl⟩) hS hA (fun ce q9 H1 locs1 h1 h2 hS hc hv hcl => vx_out (fun x hx => (hnt x hx).elim) hlocks hc hv hcl (fun t ht ha => ⟨(), trivial, rfl, hS.F ht⟩) hS.2.2 (Nat.le_of_ble_eq_true rfl) (Nat.le_of_ble_eq_true rfl))
set_option maxHeartbeats 4000000 in
set_option maxRecDepth 100000 in
theorem tX4_seal_b20 (l : Launch) (hfl : l.stackTraces = false) (Γ : wG) (q : Nat) (an : Nat → Nat) (ap : Nat → Nat) (qs : Nat) (ac : Nat → Nat) (au : Nat → Nat) (ax : Nat → Nat) (nn : Int32) (v : (Nat → Nat → Int32)) (ky : Int32) (qq : Int32) (dt : Int32) (hv1 : ¬ ky < nI 0) (hw1 : ky ≤ nI 250) (hv2 : ¬ qq < nI 1) (hw2 : qq ≤ nI 8) (hv : ¬ dt < nI 0) (hw : ¬ dt ≤ nI 9999) : TX l Γ yX4_seal wsX4_seal ({ frames := 7, cells := 1, slots := 6, locals := 112 }) [.ref q, .int ky, .int qq, .int dt] [mnC q an ap qs ac au ax nn, plB Γ an v] "java/lang/IllegalArgumentException" := by
  intro sz
  refine vx_ofW (cc := cX4_seal) (maxL := 4) (ret := (some .int)) (by decide) rfl ?_
  intro p e s m args below meth c s₁ B hml hnt hv
  obtain ⟨rfl, hsz, hP, hK, hD0, hAm⟩ := hv
  have hx := B.exec
  have hb := B.bytes
  have hr := B.returns
  have hts := atoms_spec (ws := wsX4_seal) B.pre
  have hown : s.vm.findClass RX4 = some m.cls := findClass_of_methodNamed B.named
  have hlocks := B.notSynchronized
  subst hsz
  have hD := hD0.self (sz := s.heap.size)
  generalize hBe : va_A (wcat [mnC q an ap qs ac au ax nn, plB Γ an v]) s.heap.size = B0 at hD hAm
  obtain ⟨A, hAe⟩ : ∃ A, A = va_A [] s.heap.size := ⟨_, rfl⟩
  rw [← hAe]
  have hA : ∀ q : Nat, s.heap.size ≤ q → A q := fun q h => by rw [hAe]; exact Or.inr h
  have hAB : ∀ q : Nat, A q → B0 q := fun q h => by rw [hAe] at h; rw [← hBe]; exact Or.inr (wnone h)
  have hS : va_S A s.heap s.heap [] := va_S.rf
  have hl := lv_entry ([.ref q, .int ky, .int qq, .int dt]) (n := 4) (Nat.le_of_ble_eq_true rfl)
  rw [lg_entry_eq]
  generalize (lg_sl ([.ref q, .int ky, .int qq, .int dt]) ++ List.replicate (4 - (lg_sl ([.ref q, .int ky, .int qq, .int dt])).length) Slot.unset).toArray = ls at hl ⊢
  have hl : lv_has ls 4 [(0, .ref q), (1, .int ky), (2, .int qq), (3, .int dt)] := hl
  refine lv_iload_n hx hb dX4_seal_0 rfl (lv_at hl 1 rfl) ?_
  refine lv_iconst (v := (nI 0)) hx hb dX4_seal_1 (by decide) ?_
  refine lv_sipush (v := (nI 250)) hx hb dX4_seal_2 (by decide) ?_
  refine cLV (va_runS (As := [.int ky, .int (nI 0), .int (nI 250)]) (rest := []) ⟨hx, hb, hml, hown, hts⟩ ((kX4_checkRange l Γ ky (nI 0) (nI 250) (by first | assumption | omega | decide) (by first | assumption | omega | decide)) _) (va_cwS 3 hts gX4_seal_X4_checkRange rfl rfl rfl (by decide +kernel) ⟨Nat.le_of_ble_eq_true rfl, Nat.le_of_ble_eq_true rfl⟩) ⟨wPre_blind, wPre_mk hP hD hK hS hA hAB hAm [] rfl rfl⟩ rfl rfl hl.1 rfl (lv_room (Nat.le_of_ble_eq_true rfl)) dX4_seal_5 ⟨Nat.zero_le _, Nat.zero_le _⟩) hP hS hA (fun H locs hP hS => ?_)
  refine lv_iload_n hx hb dX4_seal_8 rfl (lv_at hl 2 rfl) ?_
  refine lv_iconst (v := (nI 1)) hx hb dX4_seal_9 (by decide) ?_
  refine lv_bipush (v := (nI 8)) hx hb dX4_seal_10 (by decide) ?_
  refine cLV (va_runS (As := [.int qq, .int (nI 1), .int (nI 8)]) (rest := []) ⟨hx, hb, hml, hown, hts⟩ ((kX4_checkRange l Γ qq (nI 1) (nI 8) (by first | assumption | omega | decide) (by first | assumption | omega | decide)) _) (va_cwS 3 hts gX4_seal_X4_checkRange rfl rfl rfl (by decide +kernel) ⟨Nat.le_of_ble_eq_true rfl, Nat.le_of_ble_eq_true rfl⟩) ⟨wPre_blind, wPre_mk hP hD hK hS hA hAB hAm [] rfl rfl⟩ rfl rfl hl.1 rfl (lv_room (Nat.le_of_ble_eq_true rfl)) dX4_seal_12 ⟨Nat.zero_le _, Nat.zero_le _⟩) hP hS hA (fun H locs hP hS => ?_)
  refine lv_iload_n hx hb dX4_seal_15 rfl (lv_at hl 3 rfl) ?_
  refine lv_iconst (v := (nI 0)) hx hb dX4_seal_16 (by decide) ?_
  refine lv_sipush (v := (nI 9999)) hx hb dX4_seal_17 (by decide) ?_
  exact tTX (E := "java/lang/IllegalArgumentException") (vx_runS (As := [.int dt, .int (nI 0), .int (nI 9999)]) (rest := []) ⟨hx, hb, hml, hown, hts⟩ ((tX4_checkRange_b l hfl Γ dt (nI 0) (nI 9999) (by first | assumption | omega | decide) (by first | assumption | omega | decide)) _) (va_cwS 3 hts gX4_seal_X4_checkRange rfl rfl rfl (by decide +kernel) ⟨Nat.le_of_ble_eq_true rfl, Nat.le_of_ble_eq_true rfl⟩) ⟨wPre_blind, wPre_mk hP hD hK hS hA hAB hAm [] rfl rfl⟩ rfl rfl hl.1 rfl (lv_room (Nat.le_of_ble_eq_true rfl)) dX4_seal_20 ⟨Nat.le_of_ble_eq_true rfl, Nat.le_of_ble_eq_true rfl⟩) hS hA (fun ce q9 H1 locs1 h1 h2 hS hc hv hcl => vx_out (fun x hx => (hnt x hx).elim) hlocks hc hv hcl (fun t ht ha => ⟨(), trivial, rfl, hS.F ht⟩) hS.2.2 (Nat.le_of_ble_eq_true rfl) (Nat.le_of_ble_eq_true rfl))
set_option maxHeartbeats 4000000 in
set_option maxRecDepth 100000 in
theorem tX4_seal_c (l : Launch) (hfl : l.stackTraces = false) (Γ : wG) (q : Nat) (an : Nat → Nat) (ap : Nat → Nat) (qs : Nat) (ac : Nat → Nat) (au : Nat → Nat) (ax : Nat → Nat) (nn : Int32) (v : (Nat → Nat → Int32)) (ky : Int32) (qq : Int32) (dt : Int32) (hv1 : ¬ ky < nI 0) (hw1 : ky ≤ nI 250) (hv2 : ¬ qq < nI 1) (hw2 : qq ≤ nI 8) (hv3 : ¬ dt < nI 0) (hw3 : dt ≤ nI 9999) (hlc : ¬ qq ≤ fX2_livingCount v) : TX l Γ yX4_seal wsX4_seal ({ frames := 6, cells := 1, slots := 6, locals := 90 }) [.ref q, .int ky, .int qq, .int dt] [mnC q an ap qs ac au ax nn, plB Γ an v] "java/lang/IllegalStateException" := by
  intro sz
  refine vx_ofW (cc := cX4_seal) (maxL := 4) (ret := (some .int)) (by decide) rfl ?_
  intro p e s m args below meth c s₁ B hml hnt hv
  obtain ⟨rfl, hsz, hP, hK, hD0, hAm⟩ := hv
  have hx := B.exec
  have hb := B.bytes
  have hr := B.returns
  have hts := atoms_spec (ws := wsX4_seal) B.pre
  have hown : s.vm.findClass RX4 = some m.cls := findClass_of_methodNamed B.named
  have hlocks := B.notSynchronized
  subst hsz
  have hD := hD0.self (sz := s.heap.size)
  generalize hBe : va_A (wcat [mnC q an ap qs ac au ax nn, plB Γ an v]) s.heap.size = B0 at hD hAm
  obtain ⟨A, hAe⟩ : ∃ A, A = va_A [] s.heap.size := ⟨_, rfl⟩
  rw [← hAe]
  have hA : ∀ q : Nat, s.heap.size ≤ q → A q := fun q h => by rw [hAe]; exact Or.inr h
  have hAB : ∀ q : Nat, A q → B0 q := fun q h => by rw [hAe] at h; rw [← hBe]; exact Or.inr (wnone h)
  have hS : va_S A s.heap s.heap [] := va_S.rf
  have hl := lv_entry ([.ref q, .int ky, .int qq, .int dt]) (n := 4) (Nat.le_of_ble_eq_true rfl)
  rw [lg_entry_eq]
  generalize (lg_sl ([.ref q, .int ky, .int qq, .int dt]) ++ List.replicate (4 - (lg_sl ([.ref q, .int ky, .int qq, .int dt])).length) Slot.unset).toArray = ls at hl ⊢
  have hl : lv_has ls 4 [(0, .ref q), (1, .int ky), (2, .int qq), (3, .int dt)] := hl
  have hi4 : ∀ w ∈ wsX40, w ∈ wsX4_seal := by decide +kernel
  have kf10 := hts (.fieldLink RX4 10 "CapsuleKeepers" "now" "LCapsuleKeepers$Place;") (by decide +kernel)
  refine lv_iload_n hx hb dX4_seal_0 rfl (lv_at hl 1 rfl) ?_
  refine lv_iconst (v := (nI 0)) hx hb dX4_seal_1 (by decide) ?_
  refine lv_sipush (v := (nI 250)) hx hb dX4_seal_2 (by decide) ?_
  refine cLV (va_runS (As := [.int ky, .int (nI 0), .int (nI 250)]) (rest := []) ⟨hx, hb, hml, hown, hts⟩ ((kX4_checkRange l Γ ky (nI 0) (nI 250) (by first | assumption | omega | decide) (by first | assumption | omega | decide)) _) (va_cwS 3 hts gX4_seal_X4_checkRange rfl rfl rfl (by decide +kernel) ⟨Nat.le_of_ble_eq_true rfl, Nat.le_of_ble_eq_true rfl⟩) ⟨wPre_blind, wPre_mk hP hD hK hS hA hAB hAm [] rfl rfl⟩ rfl rfl hl.1 rfl (lv_room (Nat.le_of_ble_eq_true rfl)) dX4_seal_5 ⟨Nat.zero_le _, Nat.zero_le _⟩) hP hS hA (fun H locs hP hS => ?_)
  refine lv_iload_n hx hb dX4_seal_8 rfl (lv_at hl 2 rfl) ?_
  refine lv_iconst (v := (nI 1)) hx hb dX4_seal_9 (by decide) ?_
  refine lv_bipush (v := (nI 8)) hx hb dX4_seal_10 (by decide) ?_
  refine cLV (va_runS (As := [.int qq, .int (nI 1), .int (nI 8)]) (rest := []) ⟨hx, hb, hml, hown, hts⟩ ((kX4_checkRange l Γ qq (nI 1) (nI 8) (by first | assumption | omega | decide) (by first | assumption | omega | decide)) _) (va_cwS 3 hts gX4_seal_X4_checkRange rfl rfl rfl (by decide +kernel) ⟨Nat.le_of_ble_eq_true rfl, Nat.le_of_ble_eq_true rfl⟩) ⟨wPre_blind, wPre_mk hP hD hK hS hA hAB hAm [] rfl rfl⟩ rfl rfl hl.1 rfl (lv_room (Nat.le_of_ble_eq_true rfl)) dX4_seal_12 ⟨Nat.zero_le _, Nat.zero_le _⟩) hP hS hA (fun H locs hP hS => ?_)
  refine lv_iload_n hx hb dX4_seal_15 rfl (lv_at hl 3 rfl) ?_
  refine lv_iconst (v := (nI 0)) hx hb dX4_seal_16 (by decide) ?_
  refine lv_sipush (v := (nI 9999)) hx hb dX4_seal_17 (by decide) ?_
  refine cLV (va_runS (As := [.int dt, .int (nI 0), .int (nI 9999)]) (rest := []) ⟨hx, hb, hml, hown, hts⟩ ((kX4_checkRange l Γ dt (nI 0) (nI 9999) (by first | assumption | omega | decide) (by first | assumption | omega | decide)) _) (va_cwS 3 hts gX4_seal_X4_checkRange rfl rfl rfl (by decide +kernel) ⟨Nat.le_of_ble_eq_true rfl, Nat.le_of_ble_eq_true rfl⟩) ⟨wPre_blind, wPre_mk hP hD hK hS hA hAB hAm [] rfl rfl⟩ rfl rfl hl.1 rfl (lv_room (Nat.le_of_ble_eq_true rfl)) dX4_seal_20 ⟨Nat.zero_le _, Nat.zero_le _⟩) hP hS hA (fun H locs hP hS => ?_)
  refine lv_aload_n hx hb dX4_seal_23 rfl (lv_at hl 0 rfl) ?_
  refine va_get (D := Γ.1) (ci := 4) (v := .ref (an 0)) (C := RX4) (T := TX4) (N := 7) hx hb hts hi4 hown hK hP 0 rfl rfl 0 (by decide) kf10 (fun _ h9 => h9) rfl dX4_seal_24 ?_
  refine cLI (va_runV (As := []) (rest := []) ⟨hx, hb, hml, hown, hts⟩ ((kX2_livingCount l Γ an v) _) (cwV 0 hts gX4_seal_X2_livingCount rfl rfl rfl (by decide +kernel) ⟨Nat.le_of_ble_eq_true rfl, Nat.le_of_ble_eq_true rfl⟩) ⟨wPre_blind, va_recv hK hP (ci := 2) (q0 := 1) rfl rfl, wPre_mk hP hD hK hS hA hAB hAm [1] rfl rfl⟩ rfl rfl hl.1 rfl (lv_room (Nat.le_of_ble_eq_true rfl)) dX4_seal_27 ⟨Nat.zero_le _, Nat.zero_le _⟩) hP hS hA (fun H locs hP hS => ?_)
  refine lv_iload_n hx hb dX4_seal_30 rfl (lv_at hl 2 rfl) ?_
  refine lv_icmp_ge (tgt := 44) hx hb dX4_seal_31 (by decide) (fun c_31 => absurd c_31 hlc) (fun c_31 => ?_)
  obtain ⟨sx, hstr⟩ := hAm.2.2.2.2.1 (101, "fewer keepers live than the quorum") (by decide +kernel)
  exact vx_throwS (names := nm2) (A := A) hx hb hfl hown (by decide +kernel) (by decide +kernel) (hts (.classLink RX4 51 "java/lang/IllegalStateException") (by decide +kernel)) (hts (.initialized "java/lang/IllegalStateException") (by decide +kernel)) hstr (thr_hat hAm (by decide +kernel) (by decide +kernel) (fun w hw => hts w ((by decide +kernel : ∀ w ∈ (vx_atS RX4 55 "java/lang/IllegalStateException" nm2).filter goodWord, w ∈ wsX4_seal) w hw))) (by decide +kernel) ((hAm.narrow hAB).2.2.1) ((hAm.narrow hAB).2.2.2.1) hS (by rw [hml]; exact hl.1) dX4_seal_34 dX4_seal_37 dX4_seal_38 dX4_seal_40 dX4_seal_43 (fun x hx => (hnt x hx).elim) (Nat.le_of_ble_eq_true rfl) (Nat.le_of_ble_eq_true rfl) (Nat.le_of_ble_eq_true rfl) (Nat.le_of_ble_eq_true rfl) hlocks (fun t _ h1 h2 => ⟨(), trivial, rfl, xF hS h1 h2⟩) hS.2.2 (Nat.le_of_ble_eq_true rfl) (Nat.le_of_ble_eq_true rfl)
def fX4_renew (SL : Nat) (Qn : Nat) (sr : Nat) (vs : (Nat → Nat → Nat → Int32)) (v : (Nat → Nat → Int32)) (ck : (Nat → Int32)) : Int32 × Nat × Nat × (Nat → Nat → Nat → Int32) × (Nat → Nat → Int32) × (Nat → Int32) := (let r_1 := (fX4_save (SL) (sr) vs v); (let r_2 := (fX4_dealShares Qn v ck); (r_2.1, (r_1.1), (r_1.2.1), r_1.2.2, r_2.2.1, r_2.2.2)))
set_option maxHeartbeats 4000000 in
set_option maxRecDepth 100000 in
theorem kX4_renew (l : Launch) (Γ : wG) (q : Nat) (an : Nat → Nat) (ap : Nat → Nat) (qs : Nat) (ac : Nat → Nat) (au : Nat → Nat) (ax : Nat → Nat) (SL : Nat) (Qn : Nat) (sa : (Nat → Nat → Nat)) (sr : Nat) (vs : (Nat → Nat → Nat → Int32)) (v : (Nat → Nat → Int32)) (ck : (Nat → Int32)) (hSL : SL ≤ 6) (hsr : sr < 6) (hqv : v 0 4 = nI 1 → v 0 6 = nI Qn) (hq1 : 1 ≤ Qn) (hq8 : Qn ≤ 8) (hm : ¬ fX2_mayRenew v = 0) : MI l Γ yX4_renew wsX4_renew ({ frames := 4, cells := 0, slots := 0, locals := 86 }) [.ref q] [mnC q an ap qs ac au ax (nI SL), saB Γ qs sa sr vs, plB Γ an v, cuB Γ ac ck] [mnC q an ap qs ac au ax (nI (((fX4_renew SL Qn sr vs v ck).2.1))), saB Γ qs sa (((fX4_renew SL Qn sr vs v ck).2.2.1)) (fX4_renew SL Qn sr vs v ck).2.2.2.1, plB Γ an (fX4_renew SL Qn sr vs v ck).2.2.2.2.1, cuB Γ ac (fX4_renew SL Qn sr vs v ck).2.2.2.2.2] (fX4_renew SL Qn sr vs v ck).1 := by
  intro sz
  refine Met.ofW (cc := cX4_renew) (maxL := 1) (ret := (some .int)) (by decide) rfl ?_
  intro p e s m args below meth c s₁ B hml hv
  obtain ⟨rfl, hsz, hP, hK, hD0, hAm⟩ := hv
  have hx := B.exec
  have hb := B.bytes
  have hr := B.returns
  have hts := atoms_spec (ws := wsX4_renew) B.pre
  have hown : s.vm.findClass RX4 = some m.cls := findClass_of_methodNamed B.named
  have hlocks := B.notSynchronized
  subst hsz
  have hD := hD0.self (sz := s.heap.size)
  generalize hAe : va_A (wcat [mnC q an ap qs ac au ax (nI SL), saB Γ qs sa sr vs, plB Γ an v, cuB Γ ac ck]) s.heap.size = A at hD hAm ⊢
  have hA : ∀ q : Nat, s.heap.size ≤ q → A q := fun q h => by rw [← hAe]; exact Or.inr h
  have hAB : ∀ q : Nat, A q → A q := fun _ h => h
  have hS : va_S A s.heap s.heap [] := va_S.rf
  have hl := lv_entry ([.ref q]) (n := 1) (Nat.le_of_ble_eq_true rfl)
  rw [lg_entry_eq]
  generalize (lg_sl ([.ref q]) ++ List.replicate (1 - (lg_sl ([.ref q])).length) Slot.unset).toArray = ls at hl ⊢
  have hl : lv_has ls 1 [(0, .ref q)] := hl
  have hi4 : ∀ w ∈ wsX40, w ∈ wsX4_renew := by decide +kernel
  have kf10 := hts (.fieldLink RX4 10 "CapsuleKeepers" "now" "LCapsuleKeepers$Place;") (by decide +kernel)
  have hq : (fX4_renew SL Qn sr vs v ck) = (let r_1 := (fX4_save (SL) (sr) vs v); (let r_2 := (fX4_dealShares Qn v ck); (r_2.1, (r_1.1), (r_1.2.1), r_1.2.2, r_2.2.1, r_2.2.2))) := rfl
  refine lv_aload_n hx hb dX4_renew_0 rfl (lv_at hl 0 rfl) ?_
  refine va_get (D := Γ.1) (ci := 4) (v := .ref (an 0)) (C := RX4) (T := TX4) (N := 7) hx hb hts hi4 hown hK hP 0 rfl rfl 0 (by decide) kf10 (fun _ h9 => h9) rfl dX4_renew_1 ?_
  refine cLI (va_runV (As := []) (rest := []) ⟨hx, hb, hml, hown, hts⟩ ((kX2_mayRenew l Γ an v) _) (cwV 0 hts gX4_renew_X2_mayRenew rfl rfl rfl (by decide +kernel) ⟨Nat.le_of_ble_eq_true rfl, Nat.le_of_ble_eq_true rfl⟩) ⟨wPre_blind, va_recv hK hP (ci := 2) (q0 := 38) rfl rfl, wPre_mk hP hD hK hS hA hAB hAm [2] rfl rfl⟩ rfl rfl hl.1 rfl (lv_room (Nat.le_of_ble_eq_true rfl)) dX4_renew_4 ⟨Nat.zero_le _, Nat.zero_le _⟩) hP hS hA (fun H locs hP hS => ?_)
  refine lv_if_ne (tgt := 20) hx hb dX4_renew_7 (by decide) (fun c_7 => ?_) (fun c_7 => absurd c_7 hm)
  refine lv_aload_n hx hb dX4_renew_20 rfl (lv_at hl 0 rfl) ?_
  have kc := (kX4_save l Γ q an ap qs ac au ax (SL) sa (sr) vs v (by first | assumption | omega | decide) (by first | assumption | omega | decide))
  generalize hr_1 : (fX4_save (SL) (sr) vs v) = r_1 at kc hq
  replace hq : (fX4_renew SL Qn sr vs v ck) = (let r_2 := (fX4_dealShares Qn v ck); (r_2.1, (r_1.1), (r_1.2.1), r_1.2.2, r_2.2.1, r_2.2.2)) := hq
  refine cMV (bc' := [mnC q an ap qs ac au ax (nI (r_1.1)), saB Γ qs sa ((r_1.2.1)) r_1.2.2, plB Γ an v]) (va_runV (As := []) (rest := []) ⟨hx, hb, hml, hown, hts⟩ (kc _) (cwV 0 hts gX4_renew_X4_save rfl rfl rfl (by decide +kernel) ⟨Nat.le_of_ble_eq_true rfl, Nat.le_of_ble_eq_true rfl⟩) ⟨wPre_blind, va_recv hK hP (ci := 4) (q0 := 0) rfl rfl, wPre_mk hP hD hK hS hA hAB hAm [0, 1, 2] rfl rfl⟩ rfl rfl hl.1 rfl (lv_room (Nat.le_of_ble_eq_true rfl)) dX4_renew_21 ⟨Nat.zero_le _, Nat.zero_le _⟩) hP hD hS hA [0, 1, 2] rfl rfl (bs' := [mnC q an ap qs ac au ax (nI (r_1.1)), saB Γ qs sa ((r_1.2.1)) r_1.2.2, plB Γ an v, cuB Γ ac ck]) rfl (fun H locs hP hD hS => ?_)
  refine lv_aload_n hx hb dX4_renew_24 rfl (lv_at hl 0 rfl) ?_
  have kc := (kX4_dealShares l Γ q an ap qs ac au ax Qn (nI (r_1.1)) v ck (hqv (mayRenew_ne hm)) (by first | assumption | omega | decide) (by first | assumption | omega | decide))
  generalize hr_2 : (fX4_dealShares Qn v ck) = r_2 at kc hq
  replace hq : (fX4_renew SL Qn sr vs v ck) = (r_2.1, (r_1.1), (r_1.2.1), r_1.2.2, r_2.2.1, r_2.2.2) := hq
  refine cMI (bc' := [mnC q an ap qs ac au ax (nI (r_1.1)), plB Γ an r_2.2.1, cuB Γ ac r_2.2.2]) (va_runV (As := []) (rest := []) ⟨hx, hb, hml, hown, hts⟩ (kc _) (cwV 0 hts gX4_renew_X4_dealShares rfl rfl rfl (by decide +kernel) ⟨Nat.le_of_ble_eq_true rfl, Nat.le_of_ble_eq_true rfl⟩) ⟨wPre_blind, va_recv hK hP (ci := 4) (q0 := 0) rfl rfl, wPre_mk hP hD hK hS hA hAB hAm [0, 2, 3] rfl rfl⟩ rfl rfl hl.1 rfl (lv_room (Nat.le_of_ble_eq_true rfl)) dX4_renew_25 ⟨Nat.zero_le _, Nat.zero_le _⟩) hP hD hS hA [0, 2, 3] rfl rfl (bs' := [mnC q an ap qs ac au ax (nI (r_1.1)), saB Γ qs sa ((r_1.2.1)) r_1.2.2, plB Γ an r_2.2.1, cuB Γ ac r_2.2.2]) rfl (fun H locs hP hD hS => ?_)
  exact W.iret (v := r_2.1) hx hb hr (fun t ht hW => eMI (by rw [hq]; exact hP) hS ht (by rw [hq])) hS.2.2 dX4_renew_28
set_option maxHeartbeats 4000000 in
set_option maxRecDepth 100000 in
theorem tX4_renew_a (l : Launch) (hfl : l.stackTraces = false) (Γ : wG) (q : Nat) (an : Nat → Nat) (ap : Nat → Nat) (qs : Nat) (ac : Nat → Nat) (au : Nat → Nat) (ax : Nat → Nat) (nn : Int32) (v : (Nat → Nat → Int32)) (hm : fX2_mayRenew v = 0) : TX l Γ yX4_renew wsX4_renew ({ frames := 6, cells := 1, slots := 6, locals := 90 }) [.ref q] [mnC q an ap qs ac au ax nn, plB Γ an v] "java/lang/IllegalStateException" := by
  intro sz
  refine vx_ofW (cc := cX4_renew) (maxL := 1) (ret := (some .int)) (by decide) rfl ?_
  intro p e s m args below meth c s₁ B hml hnt hv
  obtain ⟨rfl, hsz, hP, hK, hD0, hAm⟩ := hv
  have hx := B.exec
  have hb := B.bytes
  have hr := B.returns
  have hts := atoms_spec (ws := wsX4_renew) B.pre
  have hown : s.vm.findClass RX4 = some m.cls := findClass_of_methodNamed B.named
  have hlocks := B.notSynchronized
  subst hsz
  have hD := hD0.self (sz := s.heap.size)
  generalize hBe : va_A (wcat [mnC q an ap qs ac au ax nn, plB Γ an v]) s.heap.size = B0 at hD hAm
  obtain ⟨A, hAe⟩ : ∃ A, A = va_A [] s.heap.size := ⟨_, rfl⟩
  rw [← hAe]
  have hA : ∀ q : Nat, s.heap.size ≤ q → A q := fun q h => by rw [hAe]; exact Or.inr h
  have hAB : ∀ q : Nat, A q → B0 q := fun q h => by rw [hAe] at h; rw [← hBe]; exact Or.inr (wnone h)
  have hS : va_S A s.heap s.heap [] := va_S.rf
  have hl := lv_entry ([.ref q]) (n := 1) (Nat.le_of_ble_eq_true rfl)
  rw [lg_entry_eq]
  generalize (lg_sl ([.ref q]) ++ List.replicate (1 - (lg_sl ([.ref q])).length) Slot.unset).toArray = ls at hl ⊢
  have hl : lv_has ls 1 [(0, .ref q)] := hl
  have hi4 : ∀ w ∈ wsX40, w ∈ wsX4_renew := by decide +kernel
  have kf10 := hts (.fieldLink RX4 10 "CapsuleKeepers" "now" "LCapsuleKeepers$Place;") (by decide +kernel)
  refine lv_aload_n hx hb dX4_renew_0 rfl (lv_at hl 0 rfl) ?_
  refine va_get (D := Γ.1) (ci := 4) (v := .ref (an 0)) (C := RX4) (T := TX4) (N := 7) hx hb hts hi4 hown hK hP 0 rfl rfl 0 (by decide) kf10 (fun _ h9 => h9) rfl dX4_renew_1 ?_
  refine cLI (va_runV (As := []) (rest := []) ⟨hx, hb, hml, hown, hts⟩ ((kX2_mayRenew l Γ an v) _) (cwV 0 hts gX4_renew_X2_mayRenew rfl rfl rfl (by decide +kernel) ⟨Nat.le_of_ble_eq_true rfl, Nat.le_of_ble_eq_true rfl⟩) ⟨wPre_blind, va_recv hK hP (ci := 2) (q0 := 1) rfl rfl, wPre_mk hP hD hK hS hA hAB hAm [1] rfl rfl⟩ rfl rfl hl.1 rfl (lv_room (Nat.le_of_ble_eq_true rfl)) dX4_renew_4 ⟨Nat.zero_le _, Nat.zero_le _⟩) hP hS hA (fun H locs hP hS => ?_)
  refine lv_if_ne (tgt := 20) hx hb dX4_renew_7 (by decide) (fun c_7 => absurd hm c_7) (fun c_7 => ?_)
  obtain ⟨sx, hstr⟩ := hAm.2.2.2.2.1 (113, "no shut capsule, or fewer keepers live than the quorum") (by decide +kernel)
  exact vx_throwS (names := nm2) (A := A) hx hb hfl hown (by decide +kernel) (by decide +kernel) (hts (.classLink RX4 51 "java/lang/IllegalStateException") (by decide +kernel)) (hts (.initialized "java/lang/IllegalStateException") (by decide +kernel)) hstr (thr_hat hAm (by decide +kernel) (by decide +kernel) (fun w hw => hts w ((by decide +kernel : ∀ w ∈ (vx_atS RX4 55 "java/lang/IllegalStateException" nm2).filter goodWord, w ∈ wsX4_renew) w hw))) (by decide +kernel) ((hAm.narrow hAB).2.2.1) ((hAm.narrow hAB).2.2.2.1) hS (by rw [hml]; exact hl.1) dX4_renew_10 dX4_renew_13 dX4_renew_14 dX4_renew_16 dX4_renew_19 (fun x hx => (hnt x hx).elim) (Nat.le_of_ble_eq_true rfl) (Nat.le_of_ble_eq_true rfl) (Nat.le_of_ble_eq_true rfl) (Nat.le_of_ble_eq_true rfl) hlocks (fun t _ h1 h2 => ⟨(), trivial, rfl, xF hS h1 h2⟩) hS.2.2 (Nat.le_of_ble_eq_true rfl) (Nat.le_of_ble_eq_true rfl)
def fX4_forge (SL : Nat) (sr : Nat) (vs : (Nat → Nat → Nat → Int32)) (v : (Nat → Nat → Int32)) (ck : (Nat → Int32)) (k : Int32) (x : Int32) : Int32 × Nat × Nat × (Nat → Nat → Nat → Int32) × (Nat → Nat → Int32) × (Nat → Int32) := (let r_1 := (fX4_save (SL) (sr) vs v); (let r_2 := (fX2_replaceShare v k x); (let r_3 := (fX0_reckon ck r_2.2); (r_2.1, (r_1.1), (r_1.2.1), r_1.2.2, r_2.2, r_3))))
set_option maxHeartbeats 4000000 in
set_option maxRecDepth 100000 in
theorem kX4_forge (l : Launch) (Γ : wG) (q : Nat) (an : Nat → Nat) (ap : Nat → Nat) (qs : Nat) (ac : Nat → Nat) (au : Nat → Nat) (ax : Nat → Nat) (SL : Nat) (sa : (Nat → Nat → Nat)) (sr : Nat) (vs : (Nat → Nat → Nat → Int32)) (v : (Nat → Nat → Int32)) (ck : (Nat → Int32)) (k : Int32) (x : Int32) (hSL : SL ≤ 6) (hsr : sr < 6) (hv1 : ¬ k < nI 0) (hw1 : k ≤ nI 7) (hv2 : ¬ x < nI 0) (hw2 : x ≤ nI 250) (hs : ¬ fX2_hasShare v k = 0) : MI l Γ yX4_forge wsX4_forge ({ frames := 2, cells := 0, slots := 0, locals := 50 }) [.ref q, .int k, .int x] [mnC q an ap qs ac au ax (nI SL), saB Γ qs sa sr vs, plB Γ an v, cuB Γ ac ck] [mnC q an ap qs ac au ax (nI (((fX4_forge SL sr vs v ck k x).2.1))), saB Γ qs sa (((fX4_forge SL sr vs v ck k x).2.2.1)) (fX4_forge SL sr vs v ck k x).2.2.2.1, plB Γ an (fX4_forge SL sr vs v ck k x).2.2.2.2.1, cuB Γ ac (fX4_forge SL sr vs v ck k x).2.2.2.2.2] (fX4_forge SL sr vs v ck k x).1 := by
  intro sz
  refine Met.ofW (cc := cX4_forge) (maxL := 4) (ret := (some .int)) (by decide) rfl ?_
  intro p e s m args below meth c s₁ B hml hv
  obtain ⟨rfl, hsz, hP, hK, hD0, hAm⟩ := hv
  have hx := B.exec
  have hb := B.bytes
  have hr := B.returns
  have hts := atoms_spec (ws := wsX4_forge) B.pre
  have hown : s.vm.findClass RX4 = some m.cls := findClass_of_methodNamed B.named
  have hlocks := B.notSynchronized
  subst hsz
  have hD := hD0.self (sz := s.heap.size)
  generalize hAe : va_A (wcat [mnC q an ap qs ac au ax (nI SL), saB Γ qs sa sr vs, plB Γ an v, cuB Γ ac ck]) s.heap.size = A at hD hAm ⊢
  have hA : ∀ q : Nat, s.heap.size ≤ q → A q := fun q h => by rw [← hAe]; exact Or.inr h
  have hAB : ∀ q : Nat, A q → A q := fun _ h => h
  have hS : va_S A s.heap s.heap [] := va_S.rf
  have hl := lv_entry ([.ref q, .int k, .int x]) (n := 4) (Nat.le_of_ble_eq_true rfl)
  rw [lg_entry_eq]
  generalize (lg_sl ([.ref q, .int k, .int x]) ++ List.replicate (4 - (lg_sl ([.ref q, .int k, .int x])).length) Slot.unset).toArray = ls at hl ⊢
  have hl : lv_has ls 4 [(0, .ref q), (1, .int k), (2, .int x)] := hl
  have hi4 : ∀ w ∈ wsX40, w ∈ wsX4_forge := by decide +kernel
  have kf10 := hts (.fieldLink RX4 10 "CapsuleKeepers" "now" "LCapsuleKeepers$Place;") (by decide +kernel)
  have kf30 := hts (.fieldLink RX4 30 "CapsuleKeepers" "curves" "LCapsuleKeepers$Curves;") (by decide +kernel)
  have hq : (fX4_forge SL sr vs v ck k x) = (let r_1 := (fX4_save (SL) (sr) vs v); (let r_2 := (fX2_replaceShare v k x); (let r_3 := (fX0_reckon ck r_2.2); (r_2.1, (r_1.1), (r_1.2.1), r_1.2.2, r_2.2, r_3)))) := rfl
  refine lv_iload_n hx hb dX4_forge_0 rfl (lv_at hl 1 rfl) ?_
  refine lv_iconst (v := (nI 0)) hx hb dX4_forge_1 (by decide) ?_
  refine lv_bipush (v := (nI 7)) hx hb dX4_forge_2 (by decide) ?_
  refine cLV (va_runS (As := [.int k, .int (nI 0), .int (nI 7)]) (rest := []) ⟨hx, hb, hml, hown, hts⟩ ((kX4_checkRange l Γ k (nI 0) (nI 7) (by first | assumption | omega | decide) (by first | assumption | omega | decide)) _) (va_cwS 3 hts gX4_forge_X4_checkRange rfl rfl rfl (by decide +kernel) ⟨Nat.le_of_ble_eq_true rfl, Nat.le_of_ble_eq_true rfl⟩) ⟨wPre_blind, wPre_mk hP hD hK hS hA hAB hAm [] rfl rfl⟩ rfl rfl hl.1 rfl (lv_room (Nat.le_of_ble_eq_true rfl)) dX4_forge_4 ⟨Nat.zero_le _, Nat.zero_le _⟩) hP hS hA (fun H locs hP hS => ?_)
  refine lv_iload_n hx hb dX4_forge_7 rfl (lv_at hl 2 rfl) ?_
  refine lv_iconst (v := (nI 0)) hx hb dX4_forge_8 (by decide) ?_
  refine lv_sipush (v := (nI 250)) hx hb dX4_forge_9 (by decide) ?_
  refine cLV (va_runS (As := [.int x, .int (nI 0), .int (nI 250)]) (rest := []) ⟨hx, hb, hml, hown, hts⟩ ((kX4_checkRange l Γ x (nI 0) (nI 250) (by first | assumption | omega | decide) (by first | assumption | omega | decide)) _) (va_cwS 3 hts gX4_forge_X4_checkRange rfl rfl rfl (by decide +kernel) ⟨Nat.le_of_ble_eq_true rfl, Nat.le_of_ble_eq_true rfl⟩) ⟨wPre_blind, wPre_mk hP hD hK hS hA hAB hAm [] rfl rfl⟩ rfl rfl hl.1 rfl (lv_room (Nat.le_of_ble_eq_true rfl)) dX4_forge_12 ⟨Nat.zero_le _, Nat.zero_le _⟩) hP hS hA (fun H locs hP hS => ?_)
  refine lv_aload_n hx hb dX4_forge_15 rfl (lv_at hl 0 rfl) ?_
  refine va_get (D := Γ.1) (ci := 4) (v := .ref (an 0)) (C := RX4) (T := TX4) (N := 7) hx hb hts hi4 hown hK hP 0 rfl rfl 0 (by decide) kf10 (fun _ h9 => h9) rfl dX4_forge_16 ?_
  refine lv_iload_n hx hb dX4_forge_19 rfl (lv_at hl 1 rfl) ?_
  refine cLI (va_runV (As := [.int k]) (rest := []) ⟨hx, hb, hml, hown, hts⟩ ((kX2_hasShare l Γ an v k) _) (cwV 1 hts gX4_forge_X2_hasShare rfl rfl rfl (by decide +kernel) ⟨Nat.le_of_ble_eq_true rfl, Nat.le_of_ble_eq_true rfl⟩) ⟨wPre_blind, va_recv hK hP (ci := 2) (q0 := 38) rfl rfl, wPre_mk hP hD hK hS hA hAB hAm [2] rfl rfl⟩ rfl rfl hl.1 rfl (lv_room (Nat.le_of_ble_eq_true rfl)) dX4_forge_20 ⟨Nat.zero_le _, Nat.zero_le _⟩) hP hS hA (fun H locs hP hS => ?_)
  refine lv_if_ne (tgt := 36) hx hb dX4_forge_23 (by decide) (fun c_23 => ?_) (fun c_23 => absurd c_23 hs)
  refine lv_aload_n hx hb dX4_forge_36 rfl (lv_at hl 0 rfl) ?_
  have kc := (kX4_save l Γ q an ap qs ac au ax (SL) sa (sr) vs v (by first | assumption | omega | decide) (by first | assumption | omega | decide))
  generalize hr_1 : (fX4_save (SL) (sr) vs v) = r_1 at kc hq
  replace hq : (fX4_forge SL sr vs v ck k x) = (let r_2 := (fX2_replaceShare v k x); (let r_3 := (fX0_reckon ck r_2.2); (r_2.1, (r_1.1), (r_1.2.1), r_1.2.2, r_2.2, r_3))) := hq
  refine cMV (bc' := [mnC q an ap qs ac au ax (nI (r_1.1)), saB Γ qs sa ((r_1.2.1)) r_1.2.2, plB Γ an v]) (va_runV (As := []) (rest := []) ⟨hx, hb, hml, hown, hts⟩ (kc _) (cwV 0 hts gX4_forge_X4_save rfl rfl rfl (by decide +kernel) ⟨Nat.le_of_ble_eq_true rfl, Nat.le_of_ble_eq_true rfl⟩) ⟨wPre_blind, va_recv hK hP (ci := 4) (q0 := 0) rfl rfl, wPre_mk hP hD hK hS hA hAB hAm [0, 1, 2] rfl rfl⟩ rfl rfl hl.1 rfl (lv_room (Nat.le_of_ble_eq_true rfl)) dX4_forge_37 ⟨Nat.zero_le _, Nat.zero_le _⟩) hP hD hS hA [0, 1, 2] rfl rfl (bs' := [mnC q an ap qs ac au ax (nI (r_1.1)), saB Γ qs sa ((r_1.2.1)) r_1.2.2, plB Γ an v, cuB Γ ac ck]) rfl (fun H locs hP hD hS => ?_)
  refine lv_aload_n hx hb dX4_forge_40 rfl (lv_at hl 0 rfl) ?_
  refine va_get (D := Γ.1) (ci := 4) (v := .ref (an 0)) (C := RX4) (T := TX4) (N := 7) hx hb hts hi4 hown hK hP 0 rfl rfl 0 (by decide) kf10 (fun _ h9 => h9) rfl dX4_forge_41 ?_
  refine lv_iload_n hx hb dX4_forge_44 rfl (lv_at hl 1 rfl) ?_
  refine lv_iload_n hx hb dX4_forge_45 rfl (lv_at hl 2 rfl) ?_
  have kc := (kX2_replaceShare l Γ an v k x (vpR hv1 hw1))
  generalize hr_2 : (fX2_replaceShare v k x) = r_2 at kc hq
  replace hq : (fX4_forge SL sr vs v ck k x) = (let r_3 := (fX0_reckon ck r_2.2); (r_2.1, (r_1.1), (r_1.2.1), r_1.2.2, r_2.2, r_3)) := hq
  refine cMI (bc' := [plB Γ an r_2.2]) (va_runV (As := [.int k, .int x]) (rest := []) ⟨hx, hb, hml, hown, hts⟩ (kc _) (cwV 2 hts gX4_forge_X2_replaceShare rfl rfl rfl (by decide +kernel) ⟨Nat.le_of_ble_eq_true rfl, Nat.le_of_ble_eq_true rfl⟩) ⟨wPre_blind, va_recv hK hP (ci := 2) (q0 := 38) rfl rfl, wPre_mk hP hD hK hS hA hAB hAm [2] rfl rfl⟩ rfl rfl hl.1 rfl (lv_room (Nat.le_of_ble_eq_true rfl)) dX4_forge_46 ⟨Nat.zero_le _, Nat.zero_le _⟩) hP hD hS hA [2] rfl rfl (bs' := [mnC q an ap qs ac au ax (nI (r_1.1)), saB Γ qs sa ((r_1.2.1)) r_1.2.2, plB Γ an r_2.2, cuB Γ ac ck]) rfl (fun H locs hP hD hS => ?_)
  refine lv_istore_n (lv' := [(3, .int r_2.1), (0, .ref q), (1, .int k), (2, .int x)]) hx hb dX4_forge_49 rfl hl (by decide) rfl (fun ls hl => ?_)
  refine lv_aload_n hx hb dX4_forge_50 rfl (lv_at hl 1 rfl) ?_
  refine va_get (D := Γ.1) (ci := 4) (v := .ref (ac 0)) (C := RX4) (T := TX4) (N := 7) hx hb hts hi4 hown hK hP 0 rfl rfl 4 (by decide) kf30 (fun _ h9 => h9) rfl dX4_forge_51 ?_
  refine lv_aload_n hx hb dX4_forge_54 rfl (lv_at hl 1 rfl) ?_
  refine va_get (D := Γ.1) (ci := 4) (v := .ref (an 0)) (C := RX4) (T := TX4) (N := 7) hx hb hts hi4 hown hK hP 0 rfl rfl 0 (by decide) kf10 (fun _ h9 => h9) rfl dX4_forge_55 ?_
  have kc := (kX0_reckon l Γ ac an ck r_2.2)
  generalize hr_3 : (fX0_reckon ck r_2.2) = r_3 at kc hq
  replace hq : (fX4_forge SL sr vs v ck k x) = (r_2.1, (r_1.1), (r_1.2.1), r_1.2.2, r_2.2, r_3) := hq
  refine cMV (bc' := [cuB Γ ac r_3, plB Γ an r_2.2]) (va_runV (As := [.ref (an 0)]) (rest := []) ⟨hx, hb, hml, hown, hts⟩ (kc _) (cwV 1 hts gX4_forge_X0_reckon rfl rfl rfl (by decide +kernel) ⟨Nat.le_of_ble_eq_true rfl, Nat.le_of_ble_eq_true rfl⟩) ⟨wPre_blind, va_recv hK hP (ci := 0) (q0 := 44) rfl rfl, wPre_mk hP hD hK hS hA hAB hAm [3, 2] rfl rfl⟩ rfl rfl hl.1 rfl (lv_room (Nat.le_of_ble_eq_true rfl)) dX4_forge_58 ⟨Nat.zero_le _, Nat.zero_le _⟩) hP hD hS hA [3, 2] rfl rfl (bs' := [mnC q an ap qs ac au ax (nI (r_1.1)), saB Γ qs sa ((r_1.2.1)) r_1.2.2, plB Γ an r_2.2, cuB Γ ac r_3]) rfl (fun H locs hP hD hS => ?_)
  refine lv_iload_n hx hb dX4_forge_61 rfl (lv_at hl 0 rfl) ?_
  exact W.iret (v := r_2.1) hx hb hr (fun t ht hW => eMI (by rw [hq]; exact hP) hS ht (by rw [hq])) hS.2.2 dX4_forge_62
set_option maxHeartbeats 4000000 in
set_option maxRecDepth 100000 in
theorem tX4_forge_a4 (l : Launch) (hfl : l.stackTraces = false) (Γ : wG) (q : Nat) (an : Nat → Nat) (ap : Nat → Nat) (qs : Nat) (ac : Nat → Nat) (au : Nat → Nat) (ax : Nat → Nat) (nn : Int32) (v : (Nat → Nat → Int32)) (k : Int32) (x : Int32) (hv : k < nI 0) : TX l Γ yX4_forge wsX4_forge ({ frames := 7, cells := 1, slots := 6, locals := 112 }) [.ref q, .int k, .int x] [mnC q an ap qs ac au ax nn, plB Γ an v] "java/lang/IllegalArgumentException" := by
  intro sz
  refine vx_ofW (cc := cX4_forge) (maxL := 4) (ret := (some .int)) (by decide) rfl ?_
  intro p e s m args below meth c s₁ B hml hnt hv
  obtain ⟨rfl, hsz, hP, hK, hD0, hAm⟩ := hv
  have hx := B.exec
  have hb := B.bytes
  have hr := B.returns
  have hts := atoms_spec (ws := wsX4_forge) B.pre
  have hown : s.vm.findClass RX4 = some m.cls := findClass_of_methodNamed B.named
  have hlocks := B.notSynchronized
  subst hsz
  have hD := hD0.self (sz := s.heap.size)
  generalize hBe : va_A (wcat [mnC q an ap qs ac au ax nn, plB Γ an v]) s.heap.size = B0 at hD hAm
  obtain ⟨A, hAe⟩ : ∃ A, A = va_A [] s.heap.size := ⟨_, rfl⟩
  rw [← hAe]
  have hA : ∀ q : Nat, s.heap.size ≤ q → A q := fun q h => by rw [hAe]; exact Or.inr h
  have hAB : ∀ q : Nat, A q → B0 q := fun q h => by rw [hAe] at h; rw [← hBe]; exact Or.inr (wnone h)
  have hS : va_S A s.heap s.heap [] := va_S.rf
  have hl := lv_entry ([.ref q, .int k, .int x]) (n := 4) (Nat.le_of_ble_eq_true rfl)
  rw [lg_entry_eq]
  generalize (lg_sl ([.ref q, .int k, .int x]) ++ List.replicate (4 - (lg_sl ([.ref q, .int k, .int x])).length) Slot.unset).toArray = ls at hl ⊢
  have hl : lv_has ls 4 [(0, .ref q), (1, .int k), (2, .int x)] := hl
  refine lv_iload_n hx hb dX4_forge_0 rfl (lv_at hl 1 rfl) ?_
  refine lv_iconst (v := (nI 0)) hx hb dX4_forge_1 (by decide) ?_
  refine lv_bipush (v := (nI 7)) hx hb dX4_forge_2 (by decide) ?_
  exact tTX (E := "java/lang/IllegalArgumentException") (vx_runS (As := [.int k, .int (nI 0), .int (nI 7)]) (rest := []) ⟨hx, hb, hml, hown, hts⟩ ((tX4_checkRange_a l hfl Γ k (nI 0) (nI 7) (by first | assumption | omega | decide)) _) (va_cwS 3 hts gX4_forge_X4_checkRange rfl rfl rfl (by decide +kernel) ⟨Nat.le_of_ble_eq_true rfl, Nat.le_of_ble_eq_true rfl⟩) ⟨wPre_blind, wPre_mk hP hD hK hS hA hAB hAm [] rfl rfl⟩ rfl rfl hl.1 rfl (lv_room (Nat.le_of_ble_eq_true rfl)) dX4_forge_4 ⟨Nat.le_of_ble_eq_true rfl, Nat.le_of_ble_eq_true rfl⟩) hS hA (fun ce q9 H1 locs1 h1 h2 hS hc hv hcl => vx_out (fun x hx => (hnt x hx).elim) hlocks hc hv hcl (fun t ht ha => ⟨(), trivial, rfl, hS.F ht⟩) hS.2.2 (Nat.le_of_ble_eq_true rfl) (Nat.le_of_ble_eq_true rfl))
set_option maxHeartbeats 4000000 in
set_option maxRecDepth 100000 in
theorem tX4_forge_b4 (l : Launch) (hfl : l.stackTraces = false) (Γ : wG) (q : Nat) (an : Nat → Nat) (ap : Nat → Nat) (qs : Nat) (ac : Nat → Nat) (au : Nat → Nat) (ax : Nat → Nat) (nn : Int32) (v : (Nat → Nat → Int32)) (k : Int32) (x : Int32) (hv : ¬ k < nI 0) (hw : ¬ k ≤ nI 7) : TX l Γ yX4_forge wsX4_forge ({ frames := 7, cells := 1, slots := 6, locals := 112 }) [.ref q, .int k, .int x] [mnC q an ap qs ac au ax nn, plB Γ an v] "java/lang/IllegalArgumentException" := by
  intro sz
  refine vx_ofW (cc := cX4_forge) (maxL := 4) (ret := (some .int)) (by decide) rfl ?_
  intro p e s m args below meth c s₁ B hml hnt hv
  obtain ⟨rfl, hsz, hP, hK, hD0, hAm⟩ := hv
  have hx := B.exec
  have hb := B.bytes
  have hr := B.returns
  have hts := atoms_spec (ws := wsX4_forge) B.pre
  have hown : s.vm.findClass RX4 = some m.cls := findClass_of_methodNamed B.named
  have hlocks := B.notSynchronized
  subst hsz
  have hD := hD0.self (sz := s.heap.size)
  generalize hBe : va_A (wcat [mnC q an ap qs ac au ax nn, plB Γ an v]) s.heap.size = B0 at hD hAm
  obtain ⟨A, hAe⟩ : ∃ A, A = va_A [] s.heap.size := ⟨_, rfl⟩
  rw [← hAe]
  have hA : ∀ q : Nat, s.heap.size ≤ q → A q := fun q h => by rw [hAe]; exact Or.inr h
  have hAB : ∀ q : Nat, A q → B0 q := fun q h => by rw [hAe] at h; rw [← hBe]; exact Or.inr (wnone h)
  have hS : va_S A s.heap s.heap [] := va_S.rf
  have hl := lv_entry ([.ref q, .int k, .int x]) (n := 4) (Nat.le_of_ble_eq_true rfl)
  rw [lg_entry_eq]
  generalize (lg_sl ([.ref q, .int k, .int x]) ++ List.replicate (4 - (lg_sl ([.ref q, .int k, .int x])).length) Slot.unset).toArray = ls at hl ⊢
  have hl : lv_has ls 4 [(0, .ref q), (1, .int k), (2, .int x)] := hl
  refine lv_iload_n hx hb dX4_forge_0 rfl (lv_at hl 1 rfl) ?_
  refine lv_iconst (v := (nI 0)) hx hb dX4_forge_1 (by decide) ?_
  refine lv_bipush (v := (nI 7)) hx hb dX4_forge_2 (by decide) ?_
  exact tTX (E := "java/lang/IllegalArgumentException") (vx_runS (As := [.int k, .int (nI 0), .int (nI 7)]) (rest := []) ⟨hx, hb, hml, hown, hts⟩ ((tX4_checkRange_b l hfl Γ k (nI 0) (nI 7) (by first | assumption | omega | decide) (by first | assumption | omega | decide)) _) (va_cwS 3 hts gX4_forge_X4_checkRange rfl rfl rfl (by decide +kernel) ⟨Nat.le_of_ble_eq_true rfl, Nat.le_of_ble_eq_true rfl⟩) ⟨wPre_blind, wPre_mk hP hD hK hS hA hAB hAm [] rfl rfl⟩ rfl rfl hl.1 rfl (lv_room (Nat.le_of_ble_eq_true rfl)) dX4_forge_4 ⟨Nat.le_of_ble_eq_true rfl, Nat.le_of_ble_eq_true rfl⟩) hS hA (fun ce q9 H1 locs1 h1 h2 hS hc hv hcl => vx_out (fun x hx => (hnt x hx).elim) hlocks hc hv hcl (fun t ht ha => ⟨(), trivial, rfl, hS.F ht⟩) hS.2.2 (Nat.le_of_ble_eq_true rfl) (Nat.le_of_ble_eq_true rfl))
set_option maxHeartbeats 4000000 in
set_option maxRecDepth 100000 in
theorem tX4_forge_a12 (l : Launch) (hfl : l.stackTraces = false) (Γ : wG) (q : Nat) (an : Nat → Nat) (ap : Nat → Nat) (qs : Nat) (ac : Nat → Nat) (au : Nat → Nat) (ax : Nat → Nat) (nn : Int32) (v : (Nat → Nat → Int32)) (k : Int32) (x : Int32) (hv1 : ¬ k < nI 0) (hw1 : k ≤ nI 7) (hv : x < nI 0) : TX l Γ yX4_forge wsX4_forge ({ frames := 7, cells := 1, slots := 6, locals := 112 }) [.ref q, .int k, .int x] [mnC q an ap qs ac au ax nn, plB Γ an v] "java/lang/IllegalArgumentException" := by
  intro sz
  refine vx_ofW (cc := cX4_forge) (maxL := 4) (ret := (some .int)) (by decide) rfl ?_
  intro p e s m args below meth c s₁ B hml hnt hv
  obtain ⟨rfl, hsz, hP, hK, hD0, hAm⟩ := hv
  have hx := B.exec
  have hb := B.bytes
  have hr := B.returns
  have hts := atoms_spec (ws := wsX4_forge) B.pre
  have hown : s.vm.findClass RX4 = some m.cls := findClass_of_methodNamed B.named
  have hlocks := B.notSynchronized
  subst hsz
  have hD := hD0.self (sz := s.heap.size)
  generalize hBe : va_A (wcat [mnC q an ap qs ac au ax nn, plB Γ an v]) s.heap.size = B0 at hD hAm
  obtain ⟨A, hAe⟩ : ∃ A, A = va_A [] s.heap.size := ⟨_, rfl⟩
  rw [← hAe]
  have hA : ∀ q : Nat, s.heap.size ≤ q → A q := fun q h => by rw [hAe]; exact Or.inr h
  have hAB : ∀ q : Nat, A q → B0 q := fun q h => by rw [hAe] at h; rw [← hBe]; exact Or.inr (wnone h)
  have hS : va_S A s.heap s.heap [] := va_S.rf
  have hl := lv_entry ([.ref q, .int k, .int x]) (n := 4) (Nat.le_of_ble_eq_true rfl)
  rw [lg_entry_eq]
  generalize (lg_sl ([.ref q, .int k, .int x]) ++ List.replicate (4 - (lg_sl ([.ref q, .int k, .int x])).length) Slot.unset).toArray = ls at hl ⊢
  have hl : lv_has ls 4 [(0, .ref q), (1, .int k), (2, .int x)] := hl
  refine lv_iload_n hx hb dX4_forge_0 rfl (lv_at hl 1 rfl) ?_
  refine lv_iconst (v := (nI 0)) hx hb dX4_forge_1 (by decide) ?_
  refine lv_bipush (v := (nI 7)) hx hb dX4_forge_2 (by decide) ?_
  refine cLV (va_runS (As := [.int k, .int (nI 0), .int (nI 7)]) (rest := []) ⟨hx, hb, hml, hown, hts⟩ ((kX4_checkRange l Γ k (nI 0) (nI 7) (by first | assumption | omega | decide) (by first | assumption | omega | decide)) _) (va_cwS 3 hts gX4_forge_X4_checkRange rfl rfl rfl (by decide +kernel) ⟨Nat.le_of_ble_eq_true rfl, Nat.le_of_ble_eq_true rfl⟩) ⟨wPre_blind, wPre_mk hP hD hK hS hA hAB hAm [] rfl rfl⟩ rfl rfl hl.1 rfl (lv_room (Nat.le_of_ble_eq_true rfl)) dX4_forge_4 ⟨Nat.zero_le _, Nat.zero_le _⟩) hP hS hA (fun H locs hP hS => ?_)
  refine lv_iload_n hx hb dX4_forge_7 rfl (lv_at hl 2 rfl) ?_
  refine lv_iconst (v := (nI 0)) hx hb dX4_forge_8 (by decide) ?_
  refine lv_sipush (v := (nI 250)) hx hb dX4_forge_9 (by decide) ?_
  exact tTX (E := "java/lang/IllegalArgumentException") (vx_runS (As := [.int x, .int (nI 0), .int (nI 250)]) (rest := []) ⟨hx, hb, hml, hown, hts⟩ ((tX4_checkRange_a l hfl Γ x (nI 0) (nI 250) (by first | assumption | omega | decide)) _) (va_cwS 3 hts gX4_forge_X4_checkRange rfl rfl rfl (by decide +kernel) ⟨Nat.le_of_ble_eq_true rfl, Nat.le_of_ble_eq_true rfl⟩) ⟨wPre_blind, wPre_mk hP hD hK hS hA hAB hAm [] rfl rfl⟩ rfl rfl hl.1 rfl (lv_room (Nat.le_of_ble_eq_true rfl)) dX4_forge_12 ⟨Nat.le_of_ble_eq_true rfl, Nat.le_of_ble_eq_true rfl⟩) hS hA (fun ce q9 H1 locs1 h1 h2 hS hc hv hcl => vx_out (fun x hx => (hnt x hx).elim) hlocks hc hv hcl (fun t ht ha => ⟨(), trivial, rfl, hS.F ht⟩) hS.2.2 (Nat.le_of_ble_eq_true rfl) (Nat.le_of_ble_eq_true rfl))
set_option maxHeartbeats 4000000 in
set_option maxRecDepth 100000 in
theorem tX4_forge_b12 (l : Launch) (hfl : l.stackTraces = false) (Γ : wG) (q : Nat) (an : Nat → Nat) (ap : Nat → Nat) (qs : Nat) (ac : Nat → Nat) (au : Nat → Nat) (ax : Nat → Nat) (nn : Int32) (v : (Nat → Nat → Int32)) (k : Int32) (x : Int32) (hv1 : ¬ k < nI 0) (hw1 : k ≤ nI 7) (hv : ¬ x < nI 0) (hw : ¬ x ≤ nI 250) : TX l Γ yX4_forge wsX4_forge ({ frames := 7, cells := 1, slots := 6, locals := 112 }) [.ref q, .int k, .int x] [mnC q an ap qs ac au ax nn, plB Γ an v] "java/lang/IllegalArgumentException" := by
  intro sz
  refine vx_ofW (cc := cX4_forge) (maxL := 4) (ret := (some .int)) (by decide) rfl ?_
  intro p e s m args below meth c s₁ B hml hnt hv
  obtain ⟨rfl, hsz, hP, hK, hD0, hAm⟩ := hv
  have hx := B.exec
  have hb := B.bytes
  have hr := B.returns
  have hts := atoms_spec (ws := wsX4_forge) B.pre
  have hown : s.vm.findClass RX4 = some m.cls := findClass_of_methodNamed B.named
  have hlocks := B.notSynchronized
  subst hsz
  have hD := hD0.self (sz := s.heap.size)
  generalize hBe : va_A (wcat [mnC q an ap qs ac au ax nn, plB Γ an v]) s.heap.size = B0 at hD hAm
  obtain ⟨A, hAe⟩ : ∃ A, A = va_A [] s.heap.size := ⟨_, rfl⟩
  rw [← hAe]
  have hA : ∀ q : Nat, s.heap.size ≤ q → A q := fun q h => by rw [hAe]; exact Or.inr h
  have hAB : ∀ q : Nat, A q → B0 q := fun q h => by rw [hAe] at h; rw [← hBe]; exact Or.inr (wnone h)
  have hS : va_S A s.heap s.heap [] := va_S.rf
  have hl := lv_entry ([.ref q, .int k, .int x]) (n := 4) (Nat.le_of_ble_eq_true rfl)
  rw [lg_entry_eq]
  generalize (lg_sl ([.ref q, .int k, .int x]) ++ List.replicate (4 - (lg_sl ([.ref q, .int k, .int x])).length) Slot.unset).toArray = ls at hl ⊢
  have hl : lv_has ls 4 [(0, .ref q), (1, .int k), (2, .int x)] := hl
  refine lv_iload_n hx hb dX4_forge_0 rfl (lv_at hl 1 rfl) ?_
  refine lv_iconst (v := (nI 0)) hx hb dX4_forge_1 (by decide) ?_
  refine lv_bipush (v := (nI 7)) hx hb dX4_forge_2 (by decide) ?_
  refine cLV (va_runS (As := [.int k, .int (nI 0), .int (nI 7)]) (rest := []) ⟨hx, hb, hml, hown, hts⟩ ((kX4_checkRange l Γ k (nI 0) (nI 7) (by first | assumption | omega | decide) (by first | assumption | omega | decide)) _) (va_cwS 3 hts gX4_forge_X4_checkRange rfl rfl rfl (by decide +kernel) ⟨Nat.le_of_ble_eq_true rfl, Nat.le_of_ble_eq_true rfl⟩) ⟨wPre_blind, wPre_mk hP hD hK hS hA hAB hAm [] rfl rfl⟩ rfl rfl hl.1 rfl (lv_room (Nat.le_of_ble_eq_true rfl)) dX4_forge_4 ⟨Nat.zero_le _, Nat.zero_le _⟩) hP hS hA (fun H locs hP hS => ?_)
  refine lv_iload_n hx hb dX4_forge_7 rfl (lv_at hl 2 rfl) ?_
  refine lv_iconst (v := (nI 0)) hx hb dX4_forge_8 (by decide) ?_
  refine lv_sipush (v := (nI 250)) hx hb dX4_forge_9 (by decide) ?_
  exact tTX (E := "java/lang/IllegalArgumentException") (vx_runS (As := [.int x, .int (nI 0), .int (nI 250)]) (rest := []) ⟨hx, hb, hml, hown, hts⟩ ((tX4_checkRange_b l hfl Γ x (nI 0) (nI 250) (by first | assumption | omega | decide) (by first | assumption | omega | decide)) _) (va_cwS 3 hts gX4_forge_X4_checkRange rfl rfl rfl (by decide +kernel) ⟨Nat.le_of_ble_eq_true rfl, Nat.le_of_ble_eq_true rfl⟩) ⟨wPre_blind, wPre_mk hP hD hK hS hA hAB hAm [] rfl rfl⟩ rfl rfl hl.1 rfl (lv_room (Nat.le_of_ble_eq_true rfl)) dX4_forge_12 ⟨Nat.le_of_ble_eq_true rfl, Nat.le_of_ble_eq_true rfl⟩) hS hA (fun ce q9 H1 locs1 h1 h2 hS hc hv hcl => vx_out (fun x hx => (hnt x hx).elim) hlocks hc hv hcl (fun t ht ha => ⟨(), trivial, rfl, hS.F ht⟩) hS.2.2 (Nat.le_of_ble_eq_true rfl) (Nat.le_of_ble_eq_true rfl))
set_option maxHeartbeats 4000000 in
set_option maxRecDepth 100000 in
theorem tX4_forge_c (l : Launch) (hfl : l.stackTraces = false) (Γ : wG) (q : Nat) (an : Nat → Nat) (ap : Nat → Nat) (qs : Nat) (ac : Nat → Nat) (au : Nat → Nat) (ax : Nat → Nat) (nn : Int32) (v : (Nat → Nat → Int32)) (k : Int32) (x : Int32) (hv1 : ¬ k < nI 0) (hw1 : k ≤ nI 7) (hv2 : ¬ x < nI 0) (hw2 : x ≤ nI 250) (hs : fX2_hasShare v k = 0) : TX l Γ yX4_forge wsX4_forge ({ frames := 6, cells := 1, slots := 6, locals := 90 }) [.ref q, .int k, .int x] [mnC q an ap qs ac au ax nn, plB Γ an v] "java/lang/IllegalStateException" := by
  intro sz
  refine vx_ofW (cc := cX4_forge) (maxL := 4) (ret := (some .int)) (by decide) rfl ?_
  intro p e s m args below meth c s₁ B hml hnt hv
  obtain ⟨rfl, hsz, hP, hK, hD0, hAm⟩ := hv
  have hx := B.exec
  have hb := B.bytes
  have hr := B.returns
  have hts := atoms_spec (ws := wsX4_forge) B.pre
  have hown : s.vm.findClass RX4 = some m.cls := findClass_of_methodNamed B.named
  have hlocks := B.notSynchronized
  subst hsz
  have hD := hD0.self (sz := s.heap.size)
  generalize hBe : va_A (wcat [mnC q an ap qs ac au ax nn, plB Γ an v]) s.heap.size = B0 at hD hAm
  obtain ⟨A, hAe⟩ : ∃ A, A = va_A [] s.heap.size := ⟨_, rfl⟩
  rw [← hAe]
  have hA : ∀ q : Nat, s.heap.size ≤ q → A q := fun q h => by rw [hAe]; exact Or.inr h
  have hAB : ∀ q : Nat, A q → B0 q := fun q h => by rw [hAe] at h; rw [← hBe]; exact Or.inr (wnone h)
  have hS : va_S A s.heap s.heap [] := va_S.rf
  have hl := lv_entry ([.ref q, .int k, .int x]) (n := 4) (Nat.le_of_ble_eq_true rfl)
  rw [lg_entry_eq]
  generalize (lg_sl ([.ref q, .int k, .int x]) ++ List.replicate (4 - (lg_sl ([.ref q, .int k, .int x])).length) Slot.unset).toArray = ls at hl ⊢
  have hl : lv_has ls 4 [(0, .ref q), (1, .int k), (2, .int x)] := hl
  have hi4 : ∀ w ∈ wsX40, w ∈ wsX4_forge := by decide +kernel
  have kf10 := hts (.fieldLink RX4 10 "CapsuleKeepers" "now" "LCapsuleKeepers$Place;") (by decide +kernel)
  refine lv_iload_n hx hb dX4_forge_0 rfl (lv_at hl 1 rfl) ?_
  refine lv_iconst (v := (nI 0)) hx hb dX4_forge_1 (by decide) ?_
  refine lv_bipush (v := (nI 7)) hx hb dX4_forge_2 (by decide) ?_
  refine cLV (va_runS (As := [.int k, .int (nI 0), .int (nI 7)]) (rest := []) ⟨hx, hb, hml, hown, hts⟩ ((kX4_checkRange l Γ k (nI 0) (nI 7) (by first | assumption | omega | decide) (by first | assumption | omega | decide)) _) (va_cwS 3 hts gX4_forge_X4_checkRange rfl rfl rfl (by decide +kernel) ⟨Nat.le_of_ble_eq_true rfl, Nat.le_of_ble_eq_true rfl⟩) ⟨wPre_blind, wPre_mk hP hD hK hS hA hAB hAm [] rfl rfl⟩ rfl rfl hl.1 rfl (lv_room (Nat.le_of_ble_eq_true rfl)) dX4_forge_4 ⟨Nat.zero_le _, Nat.zero_le _⟩) hP hS hA (fun H locs hP hS => ?_)
  refine lv_iload_n hx hb dX4_forge_7 rfl (lv_at hl 2 rfl) ?_
  refine lv_iconst (v := (nI 0)) hx hb dX4_forge_8 (by decide) ?_
  refine lv_sipush (v := (nI 250)) hx hb dX4_forge_9 (by decide) ?_
  refine cLV (va_runS (As := [.int x, .int (nI 0), .int (nI 250)]) (rest := []) ⟨hx, hb, hml, hown, hts⟩ ((kX4_checkRange l Γ x (nI 0) (nI 250) (by first | assumption | omega | decide) (by first | assumption | omega | decide)) _) (va_cwS 3 hts gX4_forge_X4_checkRange rfl rfl rfl (by decide +kernel) ⟨Nat.le_of_ble_eq_true rfl, Nat.le_of_ble_eq_true rfl⟩) ⟨wPre_blind, wPre_mk hP hD hK hS hA hAB hAm [] rfl rfl⟩ rfl rfl hl.1 rfl (lv_room (Nat.le_of_ble_eq_true rfl)) dX4_forge_12 ⟨Nat.zero_le _, Nat.zero_le _⟩) hP hS hA (fun H locs hP hS => ?_)
  refine lv_aload_n hx hb dX4_forge_15 rfl (lv_at hl 0 rfl) ?_
  refine va_get (D := Γ.1) (ci := 4) (v := .ref (an 0)) (C := RX4) (T := TX4) (N := 7) hx hb hts hi4 hown hK hP 0 rfl rfl 0 (by decide) kf10 (fun _ h9 => h9) rfl dX4_forge_16 ?_
  refine lv_iload_n hx hb dX4_forge_19 rfl (lv_at hl 1 rfl) ?_
  refine cLI (va_runV (As := [.int k]) (rest := []) ⟨hx, hb, hml, hown, hts⟩ ((kX2_hasShare l Γ an v k) _) (cwV 1 hts gX4_forge_X2_hasShare rfl rfl rfl (by decide +kernel) ⟨Nat.le_of_ble_eq_true rfl, Nat.le_of_ble_eq_true rfl⟩) ⟨wPre_blind, va_recv hK hP (ci := 2) (q0 := 1) rfl rfl, wPre_mk hP hD hK hS hA hAB hAm [1] rfl rfl⟩ rfl rfl hl.1 rfl (lv_room (Nat.le_of_ble_eq_true rfl)) dX4_forge_20 ⟨Nat.zero_le _, Nat.zero_le _⟩) hP hS hA (fun H locs hP hS => ?_)
  refine lv_if_ne (tgt := 36) hx hb dX4_forge_23 (by decide) (fun c_23 => absurd hs c_23) (fun c_23 => ?_)
  obtain ⟨sx, hstr⟩ := hAm.2.2.2.2.1 (118, "there is no such share") (by decide +kernel)
  exact vx_throwS (names := nm2) (A := A) hx hb hfl hown (by decide +kernel) (by decide +kernel) (hts (.classLink RX4 51 "java/lang/IllegalStateException") (by decide +kernel)) (hts (.initialized "java/lang/IllegalStateException") (by decide +kernel)) hstr (thr_hat hAm (by decide +kernel) (by decide +kernel) (fun w hw => hts w ((by decide +kernel : ∀ w ∈ (vx_atS RX4 55 "java/lang/IllegalStateException" nm2).filter goodWord, w ∈ wsX4_forge) w hw))) (by decide +kernel) ((hAm.narrow hAB).2.2.1) ((hAm.narrow hAB).2.2.2.1) hS (by rw [hml]; exact hl.1) dX4_forge_26 dX4_forge_29 dX4_forge_30 dX4_forge_32 dX4_forge_35 (fun x hx => (hnt x hx).elim) (Nat.le_of_ble_eq_true rfl) (Nat.le_of_ble_eq_true rfl) (Nat.le_of_ble_eq_true rfl) (Nat.le_of_ble_eq_true rfl) hlocks (fun t _ h1 h2 => ⟨(), trivial, rfl, xF hS h1 h2⟩) hS.2.2 (Nat.le_of_ble_eq_true rfl) (Nat.le_of_ble_eq_true rfl)
def fX4_pass (SL : Nat) (sr : Nat) (vs : (Nat → Nat → Nat → Int32)) (v : (Nat → Nat → Int32)) (d : Int32) : Int32 × Nat × Nat × (Nat → Nat → Nat → Int32) × (Nat → Nat → Int32) := (let r_1 := (fX4_save (SL) (sr) vs v); (((v 0 3) + d), (r_1.1), (r_1.2.1), r_1.2.2, (sS v 3 ((v 0 3) + d))))
set_option maxHeartbeats 4000000 in
set_option maxRecDepth 100000 in
theorem kX4_pass (l : Launch) (Γ : wG) (q : Nat) (an : Nat → Nat) (ap : Nat → Nat) (qs : Nat) (ac : Nat → Nat) (au : Nat → Nat) (ax : Nat → Nat) (SL : Nat) (sa : (Nat → Nat → Nat)) (sr : Nat) (vs : (Nat → Nat → Nat → Int32)) (v : (Nat → Nat → Int32)) (d : Int32) (hSL : SL ≤ 6) (hsr : sr < 6) (hv : ¬ d < nI 1) (hw : d ≤ nI 999) (hm : ¬ fX2_mayPass v d = 0) : MI l Γ yX4_pass wsX4_pass ({ frames := 2, cells := 0, slots := 0, locals := 44 }) [.ref q, .int d] [mnC q an ap qs ac au ax (nI SL), saB Γ qs sa sr vs, plB Γ an v] [mnC q an ap qs ac au ax (nI (((fX4_pass SL sr vs v d).2.1))), saB Γ qs sa (((fX4_pass SL sr vs v d).2.2.1)) (fX4_pass SL sr vs v d).2.2.2.1, plB Γ an (fX4_pass SL sr vs v d).2.2.2.2] (fX4_pass SL sr vs v d).1 := by
  intro sz
  refine Met.ofW (cc := cX4_pass) (maxL := 2) (ret := (some .int)) (by decide) rfl ?_
  intro p e s m args below meth c s₁ B hml hv
  obtain ⟨rfl, hsz, hP, hK, hD0, hAm⟩ := hv
  have hx := B.exec
  have hb := B.bytes
  have hr := B.returns
  have hts := atoms_spec (ws := wsX4_pass) B.pre
  have hown : s.vm.findClass RX4 = some m.cls := findClass_of_methodNamed B.named
  have hlocks := B.notSynchronized
  subst hsz
  have hD := hD0.self (sz := s.heap.size)
  generalize hAe : va_A (wcat [mnC q an ap qs ac au ax (nI SL), saB Γ qs sa sr vs, plB Γ an v]) s.heap.size = A at hD hAm ⊢
  have hA : ∀ q : Nat, s.heap.size ≤ q → A q := fun q h => by rw [← hAe]; exact Or.inr h
  have hAB : ∀ q : Nat, A q → A q := fun _ h => h
  have hS : va_S A s.heap s.heap [] := va_S.rf
  have hl := lv_entry ([.ref q, .int d]) (n := 2) (Nat.le_of_ble_eq_true rfl)
  rw [lg_entry_eq]
  generalize (lg_sl ([.ref q, .int d]) ++ List.replicate (2 - (lg_sl ([.ref q, .int d])).length) Slot.unset).toArray = ls at hl ⊢
  have hl : lv_has ls 2 [(0, .ref q), (1, .int d)] := hl
  have hi2 : ∀ w ∈ wsX20, w ∈ wsX4_pass := by decide +kernel
  have hi4 : ∀ w ∈ wsX40, w ∈ wsX4_pass := by decide +kernel
  have kf10 := hts (.fieldLink RX4 10 "CapsuleKeepers" "now" "LCapsuleKeepers$Place;") (by decide +kernel)
  have kf132 := hts (.fieldLink RX4 132 "CapsuleKeepers$Place" "day" "I") (by decide +kernel)
  have hq : (fX4_pass SL sr vs v d) = (let r_1 := (fX4_save (SL) (sr) vs v); (((v 0 3) + d), (r_1.1), (r_1.2.1), r_1.2.2, (sS v 3 ((v 0 3) + d)))) := rfl
  refine lv_iload_n hx hb dX4_pass_0 rfl (lv_at hl 1 rfl) ?_
  refine lv_iconst (v := (nI 1)) hx hb dX4_pass_1 (by decide) ?_
  refine lv_sipush (v := (nI 999)) hx hb dX4_pass_2 (by decide) ?_
  refine cLV (va_runS (As := [.int d, .int (nI 1), .int (nI 999)]) (rest := []) ⟨hx, hb, hml, hown, hts⟩ ((kX4_checkRange l Γ d (nI 1) (nI 999) (by first | assumption | omega | decide) (by first | assumption | omega | decide)) _) (va_cwS 3 hts gX4_pass_X4_checkRange rfl rfl rfl (by decide +kernel) ⟨Nat.le_of_ble_eq_true rfl, Nat.le_of_ble_eq_true rfl⟩) ⟨wPre_blind, wPre_mk hP hD hK hS hA hAB hAm [] rfl rfl⟩ rfl rfl hl.1 rfl (lv_room (Nat.le_of_ble_eq_true rfl)) dX4_pass_5 ⟨Nat.zero_le _, Nat.zero_le _⟩) hP hS hA (fun H locs hP hS => ?_)
  refine lv_aload_n hx hb dX4_pass_8 rfl (lv_at hl 0 rfl) ?_
  refine va_get (D := Γ.1) (ci := 4) (v := .ref (an 0)) (C := RX4) (T := TX4) (N := 7) hx hb hts hi4 hown hK hP 0 rfl rfl 0 (by decide) kf10 (fun _ h9 => h9) rfl dX4_pass_9 ?_
  refine lv_iload_n hx hb dX4_pass_12 rfl (lv_at hl 1 rfl) ?_
  refine cLI (va_runV (As := [.int d]) (rest := []) ⟨hx, hb, hml, hown, hts⟩ ((kX2_mayPass l Γ an v d) _) (cwV 1 hts gX4_pass_X2_mayPass rfl rfl rfl (by decide +kernel) ⟨Nat.le_of_ble_eq_true rfl, Nat.le_of_ble_eq_true rfl⟩) ⟨wPre_blind, va_recv hK hP (ci := 2) (q0 := 38) rfl rfl, wPre_mk hP hD hK hS hA hAB hAm [2] rfl rfl⟩ rfl rfl hl.1 rfl (lv_room (Nat.le_of_ble_eq_true rfl)) dX4_pass_13 ⟨Nat.zero_le _, Nat.zero_le _⟩) hP hS hA (fun H locs hP hS => ?_)
  refine lv_if_ne (tgt := 29) hx hb dX4_pass_16 (by decide) (fun c_16 => ?_) (fun c_16 => absurd c_16 hm)
  refine lv_aload_n hx hb dX4_pass_29 rfl (lv_at hl 0 rfl) ?_
  have kc := (kX4_save l Γ q an ap qs ac au ax (SL) sa (sr) vs v (by first | assumption | omega | decide) (by first | assumption | omega | decide))
  generalize hr_1 : (fX4_save (SL) (sr) vs v) = r_1 at kc hq
  replace hq : (fX4_pass SL sr vs v d) = (((v 0 3) + d), (r_1.1), (r_1.2.1), r_1.2.2, (sS v 3 ((v 0 3) + d))) := hq
  refine cMV (bc' := [mnC q an ap qs ac au ax (nI (r_1.1)), saB Γ qs sa ((r_1.2.1)) r_1.2.2, plB Γ an v]) (va_runV (As := []) (rest := []) ⟨hx, hb, hml, hown, hts⟩ (kc _) (cwV 0 hts gX4_pass_X4_save rfl rfl rfl (by decide +kernel) ⟨Nat.le_of_ble_eq_true rfl, Nat.le_of_ble_eq_true rfl⟩) ⟨wPre_blind, va_recv hK hP (ci := 4) (q0 := 0) rfl rfl, wPre_mk hP hD hK hS hA hAB hAm [0, 1, 2] rfl rfl⟩ rfl rfl hl.1 rfl (lv_room (Nat.le_of_ble_eq_true rfl)) dX4_pass_30 ⟨Nat.zero_le _, Nat.zero_le _⟩) hP hD hS hA [0, 1, 2] rfl rfl (bs' := [mnC q an ap qs ac au ax (nI (r_1.1)), saB Γ qs sa ((r_1.2.1)) r_1.2.2, plB Γ an v]) rfl (fun H locs hP hD hS => ?_)
  refine lv_aload_n hx hb dX4_pass_33 rfl (lv_at hl 0 rfl) ?_
  refine va_get (D := Γ.1) (ci := 4) (v := .ref (an 0)) (C := RX4) (T := TX4) (N := 7) hx hb hts hi4 hown hK hP 0 rfl rfl 0 (by decide) kf10 (fun _ h9 => h9) rfl dX4_pass_34 ?_
  refine lv_dup hx hb dX4_pass_37 rfl ?_
  refine va_get (D := Γ.1) (ci := 2) (v := .int (v 0 3)) (C := RX2) (T := TX2) (N := 16) hx hb hts hi2 hown hK hP 38 rfl rfl 8 (by decide) kf132 (fun _ h9 => h9) rfl dX4_pass_38 ?_
  refine lv_iload_n hx hb dX4_pass_41 rfl (lv_at hl 1 rfl) ?_
  refine lv_iadd hx hb dX4_pass_42 ?_
  refine va_put (D := Γ.1) (ci := 2) (v := .int ((v 0 3) + d)) (ty := .int) (C := RX2) (T := TX2) (N := 16) hx hb hts hi2 tyX2 tyX2_ok nmX2 hown hK hP hD hS 38 rfl rfl 8 (by decide) kf132 (fun _ h9 => h9) rfl (by decide +kernel) rfl rfl (Nat.le_of_ble_eq_true rfl) dX4_pass_43 (fun H locs hP hD hS => ?_)
  have hP : va_P Γ.1 vwCl (wcat [mnC q an ap qs ac au ax (nI (r_1.1)), saB Γ qs sa ((r_1.2.1)) r_1.2.2, plB Γ an (sS v 3 ((v 0 3) + d))]) H := hP
  have hD : va_D A (wcat [mnC q an ap qs ac au ax (nI (r_1.1)), saB Γ qs sa ((r_1.2.1)) r_1.2.2, plB Γ an (sS v 3 ((v 0 3) + d))]) := hD
  refine lv_aload_n hx hb dX4_pass_46 rfl (lv_at hl 0 rfl) ?_
  refine va_get (D := Γ.1) (ci := 4) (v := .ref (an 0)) (C := RX4) (T := TX4) (N := 7) hx hb hts hi4 hown hK hP 0 rfl rfl 0 (by decide) kf10 (fun _ h9 => h9) rfl dX4_pass_47 ?_
  refine va_get (D := Γ.1) (ci := 2) (v := .int ((v 0 3) + d)) (C := RX2) (T := TX2) (N := 16) hx hb hts hi2 hown hK hP 38 rfl rfl 8 (by decide) kf132 (fun _ h9 => h9) rfl dX4_pass_50 ?_
  exact W.iret (v := ((v 0 3) + d)) hx hb hr (fun t ht hW => eMI (by rw [hq]; exact hP) hS ht (by rw [hq])) hS.2.2 dX4_pass_53
set_option maxHeartbeats 4000000 in
set_option maxRecDepth 100000 in
theorem tX4_pass_a5 (l : Launch) (hfl : l.stackTraces = false) (Γ : wG) (q : Nat) (an : Nat → Nat) (ap : Nat → Nat) (qs : Nat) (ac : Nat → Nat) (au : Nat → Nat) (ax : Nat → Nat) (nn : Int32) (v : (Nat → Nat → Int32)) (d : Int32) (hv : d < nI 1) : TX l Γ yX4_pass wsX4_pass ({ frames := 7, cells := 1, slots := 6, locals := 112 }) [.ref q, .int d] [mnC q an ap qs ac au ax nn, plB Γ an v] "java/lang/IllegalArgumentException" := by
  intro sz
  refine vx_ofW (cc := cX4_pass) (maxL := 2) (ret := (some .int)) (by decide) rfl ?_
  intro p e s m args below meth c s₁ B hml hnt hv
  obtain ⟨rfl, hsz, hP, hK, hD0, hAm⟩ := hv
  have hx := B.exec
  have hb := B.bytes
  have hr := B.returns
  have hts := atoms_spec (ws := wsX4_pass) B.pre
  have hown : s.vm.findClass RX4 = some m.cls := findClass_of_methodNamed B.named
  have hlocks := B.notSynchronized
  subst hsz
  have hD := hD0.self (sz := s.heap.size)
  generalize hBe : va_A (wcat [mnC q an ap qs ac au ax nn, plB Γ an v]) s.heap.size = B0 at hD hAm
  obtain ⟨A, hAe⟩ : ∃ A, A = va_A [] s.heap.size := ⟨_, rfl⟩
  rw [← hAe]
  have hA : ∀ q : Nat, s.heap.size ≤ q → A q := fun q h => by rw [hAe]; exact Or.inr h
  have hAB : ∀ q : Nat, A q → B0 q := fun q h => by rw [hAe] at h; rw [← hBe]; exact Or.inr (wnone h)
  have hS : va_S A s.heap s.heap [] := va_S.rf
  have hl := lv_entry ([.ref q, .int d]) (n := 2) (Nat.le_of_ble_eq_true rfl)
  rw [lg_entry_eq]
  generalize (lg_sl ([.ref q, .int d]) ++ List.replicate (2 - (lg_sl ([.ref q, .int d])).length) Slot.unset).toArray = ls at hl ⊢
  have hl : lv_has ls 2 [(0, .ref q), (1, .int d)] := hl
  refine lv_iload_n hx hb dX4_pass_0 rfl (lv_at hl 1 rfl) ?_
  refine lv_iconst (v := (nI 1)) hx hb dX4_pass_1 (by decide) ?_
  refine lv_sipush (v := (nI 999)) hx hb dX4_pass_2 (by decide) ?_
  exact tTX (E := "java/lang/IllegalArgumentException") (vx_runS (As := [.int d, .int (nI 1), .int (nI 999)]) (rest := []) ⟨hx, hb, hml, hown, hts⟩ ((tX4_checkRange_a l hfl Γ d (nI 1) (nI 999) (by first | assumption | omega | decide)) _) (va_cwS 3 hts gX4_pass_X4_checkRange rfl rfl rfl (by decide +kernel) ⟨Nat.le_of_ble_eq_true rfl, Nat.le_of_ble_eq_true rfl⟩) ⟨wPre_blind, wPre_mk hP hD hK hS hA hAB hAm [] rfl rfl⟩ rfl rfl hl.1 rfl (lv_room (Nat.le_of_ble_eq_true rfl)) dX4_pass_5 ⟨Nat.le_of_ble_eq_true rfl, Nat.le_of_ble_eq_true rfl⟩) hS hA (fun ce q9 H1 locs1 h1 h2 hS hc hv hcl => vx_out (fun x hx => (hnt x hx).elim) hlocks hc hv hcl (fun t ht ha => ⟨(), trivial, rfl, hS.F ht⟩) hS.2.2 (Nat.le_of_ble_eq_true rfl) (Nat.le_of_ble_eq_true rfl))
set_option maxHeartbeats 4000000 in
set_option maxRecDepth 100000 in
theorem tX4_pass_b5 (l : Launch) (hfl : l.stackTraces = false) (Γ : wG) (q : Nat) (an : Nat → Nat) (ap : Nat → Nat) (qs : Nat) (ac : Nat → Nat) (au : Nat → Nat) (ax : Nat → Nat) (nn : Int32) (v : (Nat → Nat → Int32)) (d : Int32) (hv : ¬ d < nI 1) (hw : ¬ d ≤ nI 999) : TX l Γ yX4_pass wsX4_pass ({ frames := 7, cells := 1, slots := 6, locals := 112 }) [.ref q, .int d] [mnC q an ap qs ac au ax nn, plB Γ an v] "java/lang/IllegalArgumentException" := by
  intro sz
  refine vx_ofW (cc := cX4_pass) (maxL := 2) (ret := (some .int)) (by decide) rfl ?_
  intro p e s m args below meth c s₁ B hml hnt hv
  obtain ⟨rfl, hsz, hP, hK, hD0, hAm⟩ := hv
  have hx := B.exec
  have hb := B.bytes
  have hr := B.returns
  have hts := atoms_spec (ws := wsX4_pass) B.pre
  have hown : s.vm.findClass RX4 = some m.cls := findClass_of_methodNamed B.named
  have hlocks := B.notSynchronized
  subst hsz
  have hD := hD0.self (sz := s.heap.size)
  generalize hBe : va_A (wcat [mnC q an ap qs ac au ax nn, plB Γ an v]) s.heap.size = B0 at hD hAm
  obtain ⟨A, hAe⟩ : ∃ A, A = va_A [] s.heap.size := ⟨_, rfl⟩
  rw [← hAe]
  have hA : ∀ q : Nat, s.heap.size ≤ q → A q := fun q h => by rw [hAe]; exact Or.inr h
  have hAB : ∀ q : Nat, A q → B0 q := fun q h => by rw [hAe] at h; rw [← hBe]; exact Or.inr (wnone h)
  have hS : va_S A s.heap s.heap [] := va_S.rf
  have hl := lv_entry ([.ref q, .int d]) (n := 2) (Nat.le_of_ble_eq_true rfl)
  rw [lg_entry_eq]
  generalize (lg_sl ([.ref q, .int d]) ++ List.replicate (2 - (lg_sl ([.ref q, .int d])).length) Slot.unset).toArray = ls at hl ⊢
  have hl : lv_has ls 2 [(0, .ref q), (1, .int d)] := hl
  refine lv_iload_n hx hb dX4_pass_0 rfl (lv_at hl 1 rfl) ?_
  refine lv_iconst (v := (nI 1)) hx hb dX4_pass_1 (by decide) ?_
  refine lv_sipush (v := (nI 999)) hx hb dX4_pass_2 (by decide) ?_
  exact tTX (E := "java/lang/IllegalArgumentException") (vx_runS (As := [.int d, .int (nI 1), .int (nI 999)]) (rest := []) ⟨hx, hb, hml, hown, hts⟩ ((tX4_checkRange_b l hfl Γ d (nI 1) (nI 999) (by first | assumption | omega | decide) (by first | assumption | omega | decide)) _) (va_cwS 3 hts gX4_pass_X4_checkRange rfl rfl rfl (by decide +kernel) ⟨Nat.le_of_ble_eq_true rfl, Nat.le_of_ble_eq_true rfl⟩) ⟨wPre_blind, wPre_mk hP hD hK hS hA hAB hAm [] rfl rfl⟩ rfl rfl hl.1 rfl (lv_room (Nat.le_of_ble_eq_true rfl)) dX4_pass_5 ⟨Nat.le_of_ble_eq_true rfl, Nat.le_of_ble_eq_true rfl⟩) hS hA (fun ce q9 H1 locs1 h1 h2 hS hc hv hcl => vx_out (fun x hx => (hnt x hx).elim) hlocks hc hv hcl (fun t ht ha => ⟨(), trivial, rfl, hS.F ht⟩) hS.2.2 (Nat.le_of_ble_eq_true rfl) (Nat.le_of_ble_eq_true rfl))
set_option maxHeartbeats 4000000 in
set_option maxRecDepth 100000 in
theorem tX4_pass_c (l : Launch) (hfl : l.stackTraces = false) (Γ : wG) (q : Nat) (an : Nat → Nat) (ap : Nat → Nat) (qs : Nat) (ac : Nat → Nat) (au : Nat → Nat) (ax : Nat → Nat) (nn : Int32) (v : (Nat → Nat → Int32)) (d : Int32) (hv : ¬ d < nI 1) (hw : d ≤ nI 999) (hm : fX2_mayPass v d = 0) : TX l Γ yX4_pass wsX4_pass ({ frames := 6, cells := 1, slots := 6, locals := 90 }) [.ref q, .int d] [mnC q an ap qs ac au ax nn, plB Γ an v] "java/lang/IllegalStateException" := by
  intro sz
  refine vx_ofW (cc := cX4_pass) (maxL := 2) (ret := (some .int)) (by decide) rfl ?_
  intro p e s m args below meth c s₁ B hml hnt hv
  obtain ⟨rfl, hsz, hP, hK, hD0, hAm⟩ := hv
  have hx := B.exec
  have hb := B.bytes
  have hr := B.returns
  have hts := atoms_spec (ws := wsX4_pass) B.pre
  have hown : s.vm.findClass RX4 = some m.cls := findClass_of_methodNamed B.named
  have hlocks := B.notSynchronized
  subst hsz
  have hD := hD0.self (sz := s.heap.size)
  generalize hBe : va_A (wcat [mnC q an ap qs ac au ax nn, plB Γ an v]) s.heap.size = B0 at hD hAm
  obtain ⟨A, hAe⟩ : ∃ A, A = va_A [] s.heap.size := ⟨_, rfl⟩
  rw [← hAe]
  have hA : ∀ q : Nat, s.heap.size ≤ q → A q := fun q h => by rw [hAe]; exact Or.inr h
  have hAB : ∀ q : Nat, A q → B0 q := fun q h => by rw [hAe] at h; rw [← hBe]; exact Or.inr (wnone h)
  have hS : va_S A s.heap s.heap [] := va_S.rf
  have hl := lv_entry ([.ref q, .int d]) (n := 2) (Nat.le_of_ble_eq_true rfl)
  rw [lg_entry_eq]
  generalize (lg_sl ([.ref q, .int d]) ++ List.replicate (2 - (lg_sl ([.ref q, .int d])).length) Slot.unset).toArray = ls at hl ⊢
  have hl : lv_has ls 2 [(0, .ref q), (1, .int d)] := hl
  have hi4 : ∀ w ∈ wsX40, w ∈ wsX4_pass := by decide +kernel
  have kf10 := hts (.fieldLink RX4 10 "CapsuleKeepers" "now" "LCapsuleKeepers$Place;") (by decide +kernel)
  refine lv_iload_n hx hb dX4_pass_0 rfl (lv_at hl 1 rfl) ?_
  refine lv_iconst (v := (nI 1)) hx hb dX4_pass_1 (by decide) ?_
  refine lv_sipush (v := (nI 999)) hx hb dX4_pass_2 (by decide) ?_
  refine cLV (va_runS (As := [.int d, .int (nI 1), .int (nI 999)]) (rest := []) ⟨hx, hb, hml, hown, hts⟩ ((kX4_checkRange l Γ d (nI 1) (nI 999) (by first | assumption | omega | decide) (by first | assumption | omega | decide)) _) (va_cwS 3 hts gX4_pass_X4_checkRange rfl rfl rfl (by decide +kernel) ⟨Nat.le_of_ble_eq_true rfl, Nat.le_of_ble_eq_true rfl⟩) ⟨wPre_blind, wPre_mk hP hD hK hS hA hAB hAm [] rfl rfl⟩ rfl rfl hl.1 rfl (lv_room (Nat.le_of_ble_eq_true rfl)) dX4_pass_5 ⟨Nat.zero_le _, Nat.zero_le _⟩) hP hS hA (fun H locs hP hS => ?_)
  refine lv_aload_n hx hb dX4_pass_8 rfl (lv_at hl 0 rfl) ?_
  refine va_get (D := Γ.1) (ci := 4) (v := .ref (an 0)) (C := RX4) (T := TX4) (N := 7) hx hb hts hi4 hown hK hP 0 rfl rfl 0 (by decide) kf10 (fun _ h9 => h9) rfl dX4_pass_9 ?_
  refine lv_iload_n hx hb dX4_pass_12 rfl (lv_at hl 1 rfl) ?_
  refine cLI (va_runV (As := [.int d]) (rest := []) ⟨hx, hb, hml, hown, hts⟩ ((kX2_mayPass l Γ an v d) _) (cwV 1 hts gX4_pass_X2_mayPass rfl rfl rfl (by decide +kernel) ⟨Nat.le_of_ble_eq_true rfl, Nat.le_of_ble_eq_true rfl⟩) ⟨wPre_blind, va_recv hK hP (ci := 2) (q0 := 1) rfl rfl, wPre_mk hP hD hK hS hA hAB hAm [1] rfl rfl⟩ rfl rfl hl.1 rfl (lv_room (Nat.le_of_ble_eq_true rfl)) dX4_pass_13 ⟨Nat.zero_le _, Nat.zero_le _⟩) hP hS hA (fun H locs hP hS => ?_)
  refine lv_if_ne (tgt := 29) hx hb dX4_pass_16 (by decide) (fun c_16 => absurd hm c_16) (fun c_16 => ?_)
  obtain ⟨sx, hstr⟩ := hAm.2.2.2.2.1 (130, "the day would be above 99999") (by decide +kernel)
  exact vx_throwS (names := nm2) (A := A) hx hb hfl hown (by decide +kernel) (by decide +kernel) (hts (.classLink RX4 51 "java/lang/IllegalStateException") (by decide +kernel)) (hts (.initialized "java/lang/IllegalStateException") (by decide +kernel)) hstr (thr_hat hAm (by decide +kernel) (by decide +kernel) (fun w hw => hts w ((by decide +kernel : ∀ w ∈ (vx_atS RX4 55 "java/lang/IllegalStateException" nm2).filter goodWord, w ∈ wsX4_pass) w hw))) (by decide +kernel) ((hAm.narrow hAB).2.2.1) ((hAm.narrow hAB).2.2.2.1) hS (by rw [hml]; exact hl.1) dX4_pass_19 dX4_pass_22 dX4_pass_23 dX4_pass_25 dX4_pass_28 (fun x hx => (hnt x hx).elim) (Nat.le_of_ble_eq_true rfl) (Nat.le_of_ble_eq_true rfl) (Nat.le_of_ble_eq_true rfl) (Nat.le_of_ble_eq_true rfl) hlocks (fun t _ h1 h2 => ⟨(), trivial, rfl, xF hS h1 h2⟩) hS.2.2 (Nat.le_of_ble_eq_true rfl) (Nat.le_of_ble_eq_true rfl)
def fX4_open (SL : Nat) (sr : Nat) (vs : (Nat → Nat → Nat → Int32)) (v : (Nat → Nat → Int32)) (ck : (Nat → Int32)) (so : (Nat → Int32)) (sp : (Nat → Int32)) (g : Int32) : Int32 × Nat × Nat × (Nat → Nat → Nat → Int32) × (Nat → Nat → Int32) × (Nat → Int32) × (Nat → Int32) := (let r_1 := (fX4_save (SL) (sr) vs v); (let r_2 := (fX4_refusal v ck so sp g); (if r_2.1 = 0 then (let r_5 := (fX2_countTry v g (nI 1)); (r_2.1, (r_1.1), (r_1.2.1), r_1.2.2, r_5, r_2.2.1, r_2.2.2)) else (let r_4 := (fX2_countTry v g (nI 0)); (r_2.1, (r_1.1), (r_1.2.1), r_1.2.2, r_4, r_2.2.1, r_2.2.2)))))
set_option maxHeartbeats 4000000 in
set_option maxRecDepth 100000 in
theorem kX4_open (l : Launch) (Γ : wG) (q : Nat) (an : Nat → Nat) (ap : Nat → Nat) (qs : Nat) (ac : Nat → Nat) (au : Nat → Nat) (ax : Nat → Nat) (SL : Nat) (sa : (Nat → Nat → Nat)) (sr : Nat) (vs : (Nat → Nat → Nat → Int32)) (v : (Nat → Nat → Int32)) (ck : (Nat → Int32)) (so : (Nat → Int32)) (sp : (Nat → Int32)) (g : Int32) (hSL : SL ≤ 6) (hsr : sr < 6) (hv : ¬ g < 0) (hv2 : g ≤ fX2_everybody v) : MI l Γ yX4_open wsX4_open ({ frames := 3, cells := 0, slots := 0, locals := 69 }) [.ref q, .int g] [mnC q an ap qs ac au ax (nI SL), saB Γ qs sa sr vs, plB Γ an v, cuB Γ ac ck, suB Γ au so sp] [mnC q an ap qs ac au ax (nI (((fX4_open SL sr vs v ck so sp g).2.1))), saB Γ qs sa (((fX4_open SL sr vs v ck so sp g).2.2.1)) (fX4_open SL sr vs v ck so sp g).2.2.2.1, plB Γ an (fX4_open SL sr vs v ck so sp g).2.2.2.2.1, cuB Γ ac ck, suB Γ au (fX4_open SL sr vs v ck so sp g).2.2.2.2.2.1 (fX4_open SL sr vs v ck so sp g).2.2.2.2.2.2] (fX4_open SL sr vs v ck so sp g).1 := by
  intro sz
  refine Met.ofW (cc := cX4_open) (maxL := 3) (ret := (some .int)) (by decide) rfl ?_
  intro p e s m args below meth c s₁ B hml hv
  obtain ⟨rfl, hsz, hP, hK, hD0, hAm⟩ := hv
  have hx := B.exec
  have hb := B.bytes
  have hr := B.returns
  have hts := atoms_spec (ws := wsX4_open) B.pre
  have hown : s.vm.findClass RX4 = some m.cls := findClass_of_methodNamed B.named
  have hlocks := B.notSynchronized
  subst hsz
  have hD := hD0.self (sz := s.heap.size)
  generalize hAe : va_A (wcat [mnC q an ap qs ac au ax (nI SL), saB Γ qs sa sr vs, plB Γ an v, cuB Γ ac ck, suB Γ au so sp]) s.heap.size = A at hD hAm ⊢
  have hA : ∀ q : Nat, s.heap.size ≤ q → A q := fun q h => by rw [← hAe]; exact Or.inr h
  have hAB : ∀ q : Nat, A q → A q := fun _ h => h
  have hS : va_S A s.heap s.heap [] := va_S.rf
  have hl := lv_entry ([.ref q, .int g]) (n := 3) (Nat.le_of_ble_eq_true rfl)
  rw [lg_entry_eq]
  generalize (lg_sl ([.ref q, .int g]) ++ List.replicate (3 - (lg_sl ([.ref q, .int g])).length) Slot.unset).toArray = ls at hl ⊢
  have hl : lv_has ls 3 [(0, .ref q), (1, .int g)] := hl
  have hi4 : ∀ w ∈ wsX40, w ∈ wsX4_open := by decide +kernel
  have kf10 := hts (.fieldLink RX4 10 "CapsuleKeepers" "now" "LCapsuleKeepers$Place;") (by decide +kernel)
  have hq : (fX4_open SL sr vs v ck so sp g) = (let r_1 := (fX4_save (SL) (sr) vs v); (let r_2 := (fX4_refusal v ck so sp g); (if r_2.1 = 0 then (let r_5 := (fX2_countTry v g (nI 1)); (r_2.1, (r_1.1), (r_1.2.1), r_1.2.2, r_5, r_2.2.1, r_2.2.2)) else (let r_4 := (fX2_countTry v g (nI 0)); (r_2.1, (r_1.1), (r_1.2.1), r_1.2.2, r_4, r_2.2.1, r_2.2.2))))) := rfl
  refine lv_aload_n hx hb dX4_open_0 rfl (lv_at hl 0 rfl) ?_
  refine lv_iload_n hx hb dX4_open_1 rfl (lv_at hl 1 rfl) ?_
  refine cLV (va_runV (As := [.int g]) (rest := []) ⟨hx, hb, hml, hown, hts⟩ ((kX4_checkGroup l Γ q an ap qs ac au ax (nI SL) v g (by first | assumption | omega | decide) (by first | assumption | omega | decide)) _) (cwV 1 hts gX4_open_X4_checkGroup rfl rfl rfl (by decide +kernel) ⟨Nat.le_of_ble_eq_true rfl, Nat.le_of_ble_eq_true rfl⟩) ⟨wPre_blind, va_recv hK hP (ci := 4) (q0 := 0) rfl rfl, wPre_mk hP hD hK hS hA hAB hAm [0, 2] rfl rfl⟩ rfl rfl hl.1 rfl (lv_room (Nat.le_of_ble_eq_true rfl)) dX4_open_2 ⟨Nat.zero_le _, Nat.zero_le _⟩) hP hS hA (fun H locs hP hS => ?_)
  refine lv_aload_n hx hb dX4_open_5 rfl (lv_at hl 0 rfl) ?_
  have kc := (kX4_save l Γ q an ap qs ac au ax (SL) sa (sr) vs v (by first | assumption | omega | decide) (by first | assumption | omega | decide))
  generalize hr_1 : (fX4_save (SL) (sr) vs v) = r_1 at kc hq
  replace hq : (fX4_open SL sr vs v ck so sp g) = (let r_2 := (fX4_refusal v ck so sp g); (if r_2.1 = 0 then (let r_5 := (fX2_countTry v g (nI 1)); (r_2.1, (r_1.1), (r_1.2.1), r_1.2.2, r_5, r_2.2.1, r_2.2.2)) else (let r_4 := (fX2_countTry v g (nI 0)); (r_2.1, (r_1.1), (r_1.2.1), r_1.2.2, r_4, r_2.2.1, r_2.2.2)))) := hq
  refine cMV (bc' := [mnC q an ap qs ac au ax (nI (r_1.1)), saB Γ qs sa ((r_1.2.1)) r_1.2.2, plB Γ an v]) (va_runV (As := []) (rest := []) ⟨hx, hb, hml, hown, hts⟩ (kc _) (cwV 0 hts gX4_open_X4_save rfl rfl rfl (by decide +kernel) ⟨Nat.le_of_ble_eq_true rfl, Nat.le_of_ble_eq_true rfl⟩) ⟨wPre_blind, va_recv hK hP (ci := 4) (q0 := 0) rfl rfl, wPre_mk hP hD hK hS hA hAB hAm [0, 1, 2] rfl rfl⟩ rfl rfl hl.1 rfl (lv_room (Nat.le_of_ble_eq_true rfl)) dX4_open_6 ⟨Nat.zero_le _, Nat.zero_le _⟩) hP hD hS hA [0, 1, 2] rfl rfl (bs' := [mnC q an ap qs ac au ax (nI (r_1.1)), saB Γ qs sa ((r_1.2.1)) r_1.2.2, plB Γ an v, cuB Γ ac ck, suB Γ au so sp]) rfl (fun H locs hP hD hS => ?_)
  refine lv_aload_n hx hb dX4_open_9 rfl (lv_at hl 0 rfl) ?_
  refine lv_iload_n hx hb dX4_open_10 rfl (lv_at hl 1 rfl) ?_
  have kc := (kX4_refusal l Γ q an ap qs ac au ax (nI (r_1.1)) v ck so sp g)
  generalize hr_2 : (fX4_refusal v ck so sp g) = r_2 at kc hq
  replace hq : (fX4_open SL sr vs v ck so sp g) = (if r_2.1 = 0 then (let r_5 := (fX2_countTry v g (nI 1)); (r_2.1, (r_1.1), (r_1.2.1), r_1.2.2, r_5, r_2.2.1, r_2.2.2)) else (let r_4 := (fX2_countTry v g (nI 0)); (r_2.1, (r_1.1), (r_1.2.1), r_1.2.2, r_4, r_2.2.1, r_2.2.2))) := hq
  refine cMI (bc' := [mnC q an ap qs ac au ax (nI (r_1.1)), plB Γ an v, cuB Γ ac ck, suB Γ au r_2.2.1 r_2.2.2]) (va_runV (As := [.int g]) (rest := []) ⟨hx, hb, hml, hown, hts⟩ (kc _) (cwV 1 hts gX4_open_X4_refusal rfl rfl rfl (by decide +kernel) ⟨Nat.le_of_ble_eq_true rfl, Nat.le_of_ble_eq_true rfl⟩) ⟨wPre_blind, va_recv hK hP (ci := 4) (q0 := 0) rfl rfl, wPre_mk hP hD hK hS hA hAB hAm [0, 2, 3, 4] rfl rfl⟩ rfl rfl hl.1 rfl (lv_room (Nat.le_of_ble_eq_true rfl)) dX4_open_11 ⟨Nat.zero_le _, Nat.zero_le _⟩) hP hD hS hA [0, 2, 3, 4] rfl rfl (bs' := [mnC q an ap qs ac au ax (nI (r_1.1)), saB Γ qs sa ((r_1.2.1)) r_1.2.2, plB Γ an v, cuB Γ ac ck, suB Γ au r_2.2.1 r_2.2.2]) rfl (fun H locs hP hD hS => ?_)
  refine lv_istore_n (lv' := [(2, .int r_2.1), (0, .ref q), (1, .int g)]) hx hb dX4_open_14 rfl hl (by decide) rfl (fun ls hl => ?_)
  refine lv_aload_n hx hb dX4_open_15 rfl (lv_at hl 1 rfl) ?_
  refine va_get (D := Γ.1) (ci := 4) (v := .ref (an 0)) (C := RX4) (T := TX4) (N := 7) hx hb hts hi4 hown hK hP 0 rfl rfl 0 (by decide) kf10 (fun _ h9 => h9) rfl dX4_open_16 ?_
  refine lv_iload_n hx hb dX4_open_19 rfl (lv_at hl 2 rfl) ?_
  refine lv_iload_n hx hb dX4_open_20 rfl (lv_at hl 0 rfl) ?_
  refine lv_if_ne (tgt := 28) hx hb dX4_open_21 (by decide) (fun c_3 => ?_) (fun c_3 => ?_)
  · have hq := hq.trans (if_neg c_3)
    refine lv_iconst (v := (nI 0)) hx hb dX4_open_28 (by decide) ?_
    have kc := (kX2_countTry l Γ an v g (nI 0))
    generalize hr_4 : (fX2_countTry v g (nI 0)) = r_4 at kc hq
    replace hq : (fX4_open SL sr vs v ck so sp g) = (r_2.1, (r_1.1), (r_1.2.1), r_1.2.2, r_4, r_2.2.1, r_2.2.2) := hq
    refine cMV (bc' := [plB Γ an r_4]) (va_runV (As := [.int g, .int (nI 0)]) (rest := []) ⟨hx, hb, hml, hown, hts⟩ (kc _) (cwV 2 hts gX4_open_X2_countTry rfl rfl rfl (by decide +kernel) ⟨Nat.le_of_ble_eq_true rfl, Nat.le_of_ble_eq_true rfl⟩) ⟨wPre_blind, va_recv hK hP (ci := 2) (q0 := 38) rfl rfl, wPre_mk hP hD hK hS hA hAB hAm [2] rfl rfl⟩ rfl rfl hl.1 rfl (lv_room (Nat.le_of_ble_eq_true rfl)) dX4_open_29 ⟨Nat.zero_le _, Nat.zero_le _⟩) hP hD hS hA [2] rfl rfl (bs' := [mnC q an ap qs ac au ax (nI (r_1.1)), saB Γ qs sa ((r_1.2.1)) r_1.2.2, plB Γ an r_4, cuB Γ ac ck, suB Γ au r_2.2.1 r_2.2.2]) rfl (fun H locs hP hD hS => ?_)
    refine lv_iload_n hx hb dX4_open_32 rfl (lv_at hl 0 rfl) ?_
    exact W.iret (v := r_2.1) hx hb hr (fun t ht hW => eMI (by rw [hq]; exact hP) hS ht (by rw [hq])) hS.2.2 dX4_open_33
  · have hq := hq.trans (if_pos c_3)
    refine lv_iconst (v := (nI 1)) hx hb dX4_open_24 (by decide) ?_
    refine lv_goto (tgt := 29) hx hb dX4_open_25 (by decide) ?_
    have kc := (kX2_countTry l Γ an v g (nI 1))
    generalize hr_5 : (fX2_countTry v g (nI 1)) = r_5 at kc hq
    replace hq : (fX4_open SL sr vs v ck so sp g) = (r_2.1, (r_1.1), (r_1.2.1), r_1.2.2, r_5, r_2.2.1, r_2.2.2) := hq
    refine cMV (bc' := [plB Γ an r_5]) (va_runV (As := [.int g, .int (nI 1)]) (rest := []) ⟨hx, hb, hml, hown, hts⟩ (kc _) (cwV 2 hts gX4_open_X2_countTry rfl rfl rfl (by decide +kernel) ⟨Nat.le_of_ble_eq_true rfl, Nat.le_of_ble_eq_true rfl⟩) ⟨wPre_blind, va_recv hK hP (ci := 2) (q0 := 38) rfl rfl, wPre_mk hP hD hK hS hA hAB hAm [2] rfl rfl⟩ rfl rfl hl.1 rfl (lv_room (Nat.le_of_ble_eq_true rfl)) dX4_open_29 ⟨Nat.zero_le _, Nat.zero_le _⟩) hP hD hS hA [2] rfl rfl (bs' := [mnC q an ap qs ac au ax (nI (r_1.1)), saB Γ qs sa ((r_1.2.1)) r_1.2.2, plB Γ an r_5, cuB Γ ac ck, suB Γ au r_2.2.1 r_2.2.2]) rfl (fun H locs hP hD hS => ?_)
    refine lv_iload_n hx hb dX4_open_32 rfl (lv_at hl 0 rfl) ?_
    exact W.iret (v := r_2.1) hx hb hr (fun t ht hW => eMI (by rw [hq]; exact hP) hS ht (by rw [hq])) hS.2.2 dX4_open_33
set_option maxHeartbeats 4000000 in
set_option maxRecDepth 100000 in
theorem tX4_open_a (l : Launch) (hfl : l.stackTraces = false) (Γ : wG) (q : Nat) (an : Nat → Nat) (ap : Nat → Nat) (qs : Nat) (ac : Nat → Nat) (au : Nat → Nat) (ax : Nat → Nat) (nn : Int32) (v : (Nat → Nat → Int32)) (g : Int32) (hv : g < 0) : TX l Γ yX4_open wsX4_open ({ frames := 7, cells := 1, slots := 6, locals := 111 }) [.ref q, .int g] [mnC q an ap qs ac au ax nn, plB Γ an v] "java/lang/IllegalArgumentException" := by
  intro sz
  refine vx_ofW (cc := cX4_open) (maxL := 3) (ret := (some .int)) (by decide) rfl ?_
  intro p e s m args below meth c s₁ B hml hnt hv
  obtain ⟨rfl, hsz, hP, hK, hD0, hAm⟩ := hv
  have hx := B.exec
  have hb := B.bytes
  have hr := B.returns
  have hts := atoms_spec (ws := wsX4_open) B.pre
  have hown : s.vm.findClass RX4 = some m.cls := findClass_of_methodNamed B.named
  have hlocks := B.notSynchronized
  subst hsz
  have hD := hD0.self (sz := s.heap.size)
  generalize hBe : va_A (wcat [mnC q an ap qs ac au ax nn, plB Γ an v]) s.heap.size = B0 at hD hAm
  obtain ⟨A, hAe⟩ : ∃ A, A = va_A [] s.heap.size := ⟨_, rfl⟩
  rw [← hAe]
  have hA : ∀ q : Nat, s.heap.size ≤ q → A q := fun q h => by rw [hAe]; exact Or.inr h
  have hAB : ∀ q : Nat, A q → B0 q := fun q h => by rw [hAe] at h; rw [← hBe]; exact Or.inr (wnone h)
  have hS : va_S A s.heap s.heap [] := va_S.rf
  have hl := lv_entry ([.ref q, .int g]) (n := 3) (Nat.le_of_ble_eq_true rfl)
  rw [lg_entry_eq]
  generalize (lg_sl ([.ref q, .int g]) ++ List.replicate (3 - (lg_sl ([.ref q, .int g])).length) Slot.unset).toArray = ls at hl ⊢
  have hl : lv_has ls 3 [(0, .ref q), (1, .int g)] := hl
  refine lv_aload_n hx hb dX4_open_0 rfl (lv_at hl 0 rfl) ?_
  refine lv_iload_n hx hb dX4_open_1 rfl (lv_at hl 1 rfl) ?_
  exact tTX (E := "java/lang/IllegalArgumentException") (vx_runV (As := [.int g]) (rest := []) ⟨hx, hb, hml, hown, hts⟩ ((tX4_checkGroup_a l hfl Γ q an ap qs ac au ax nn v g (by first | assumption | omega | decide)) _) (cwV 1 hts gX4_open_X4_checkGroup rfl rfl rfl (by decide +kernel) ⟨Nat.le_of_ble_eq_true rfl, Nat.le_of_ble_eq_true rfl⟩) ⟨wPre_blind, va_recv hK hP (ci := 4) (q0 := 0) rfl rfl, wPre_mk hP hD hK hS hA hAB hAm [0, 1] rfl rfl⟩ rfl rfl hl.1 rfl (lv_room (Nat.le_of_ble_eq_true rfl)) dX4_open_2 ⟨Nat.le_of_ble_eq_true rfl, Nat.le_of_ble_eq_true rfl⟩) hS hA (fun ce q9 H1 locs1 h1 h2 hS hc hv hcl => vx_out (fun x hx => (hnt x hx).elim) hlocks hc hv hcl (fun t ht ha => ⟨(), trivial, rfl, hS.F ht⟩) hS.2.2 (Nat.le_of_ble_eq_true rfl) (Nat.le_of_ble_eq_true rfl))
set_option maxHeartbeats 4000000 in
set_option maxRecDepth 100000 in
theorem tX4_open_b (l : Launch) (hfl : l.stackTraces = false) (Γ : wG) (q : Nat) (an : Nat → Nat) (ap : Nat → Nat) (qs : Nat) (ac : Nat → Nat) (au : Nat → Nat) (ax : Nat → Nat) (nn : Int32) (v : (Nat → Nat → Int32)) (g : Int32) (hv : ¬ g < 0) (hv2 : ¬ g ≤ fX2_everybody v) : TX l Γ yX4_open wsX4_open ({ frames := 7, cells := 1, slots := 6, locals := 111 }) [.ref q, .int g] [mnC q an ap qs ac au ax nn, plB Γ an v] "java/lang/IllegalArgumentException" := by
  intro sz
  refine vx_ofW (cc := cX4_open) (maxL := 3) (ret := (some .int)) (by decide) rfl ?_
  intro p e s m args below meth c s₁ B hml hnt hv
  obtain ⟨rfl, hsz, hP, hK, hD0, hAm⟩ := hv
  have hx := B.exec
  have hb := B.bytes
  have hr := B.returns
  have hts := atoms_spec (ws := wsX4_open) B.pre
  have hown : s.vm.findClass RX4 = some m.cls := findClass_of_methodNamed B.named
  have hlocks := B.notSynchronized
  subst hsz
  have hD := hD0.self (sz := s.heap.size)
  generalize hBe : va_A (wcat [mnC q an ap qs ac au ax nn, plB Γ an v]) s.heap.size = B0 at hD hAm
  obtain ⟨A, hAe⟩ : ∃ A, A = va_A [] s.heap.size := ⟨_, rfl⟩
  rw [← hAe]
  have hA : ∀ q : Nat, s.heap.size ≤ q → A q := fun q h => by rw [hAe]; exact Or.inr h
  have hAB : ∀ q : Nat, A q → B0 q := fun q h => by rw [hAe] at h; rw [← hBe]; exact Or.inr (wnone h)
  have hS : va_S A s.heap s.heap [] := va_S.rf
  have hl := lv_entry ([.ref q, .int g]) (n := 3) (Nat.le_of_ble_eq_true rfl)
  rw [lg_entry_eq]
  generalize (lg_sl ([.ref q, .int g]) ++ List.replicate (3 - (lg_sl ([.ref q, .int g])).length) Slot.unset).toArray = ls at hl ⊢
  have hl : lv_has ls 3 [(0, .ref q), (1, .int g)] := hl
  refine lv_aload_n hx hb dX4_open_0 rfl (lv_at hl 0 rfl) ?_
  refine lv_iload_n hx hb dX4_open_1 rfl (lv_at hl 1 rfl) ?_
  exact tTX (E := "java/lang/IllegalArgumentException") (vx_runV (As := [.int g]) (rest := []) ⟨hx, hb, hml, hown, hts⟩ ((tX4_checkGroup_b l hfl Γ q an ap qs ac au ax nn v g (by first | assumption | omega | decide) (by first | assumption | omega | decide)) _) (cwV 1 hts gX4_open_X4_checkGroup rfl rfl rfl (by decide +kernel) ⟨Nat.le_of_ble_eq_true rfl, Nat.le_of_ble_eq_true rfl⟩) ⟨wPre_blind, va_recv hK hP (ci := 4) (q0 := 0) rfl rfl, wPre_mk hP hD hK hS hA hAB hAm [0, 1] rfl rfl⟩ rfl rfl hl.1 rfl (lv_room (Nat.le_of_ble_eq_true rfl)) dX4_open_2 ⟨Nat.le_of_ble_eq_true rfl, Nat.le_of_ble_eq_true rfl⟩) hS hA (fun ce q9 H1 locs1 h1 h2 hS hc hv hcl => vx_out (fun x hx => (hnt x hx).elim) hlocks hc hv hcl (fun t ht ha => ⟨(), trivial, rfl, hS.F ht⟩) hS.2.2 (Nat.le_of_ble_eq_true rfl) (Nat.le_of_ble_eq_true rfl))
set_option maxHeartbeats 4000000 in
set_option maxRecDepth 100000 in
theorem tX4_undo_a (l : Launch) (hfl : l.stackTraces = false) (Γ : wG) (q : Nat) (an : Nat → Nat) (ap : Nat → Nat) (qs : Nat) (ac : Nat → Nat) (au : Nat → Nat) (ax : Nat → Nat) : TX l Γ yX4_undo wsX4_undo ({ frames := 6, cells := 1, slots := 6, locals := 90 }) [.ref q] [mnC q an ap qs ac au ax (nI 0)] "java/lang/IllegalStateException" := by
  intro sz
  refine vx_ofW (cc := cX4_undo) (maxL := 1) (ret := (some .int)) (by decide) rfl ?_
  intro p e s m args below meth c s₁ B hml hnt hv
  obtain ⟨rfl, hsz, hP, hK, hD0, hAm⟩ := hv
  have hx := B.exec
  have hb := B.bytes
  have hr := B.returns
  have hts := atoms_spec (ws := wsX4_undo) B.pre
  have hown : s.vm.findClass RX4 = some m.cls := findClass_of_methodNamed B.named
  have hlocks := B.notSynchronized
  subst hsz
  have hD := hD0.self (sz := s.heap.size)
  generalize hBe : va_A (wcat [mnC q an ap qs ac au ax (nI 0)]) s.heap.size = B0 at hD hAm
  obtain ⟨A, hAe⟩ : ∃ A, A = va_A [] s.heap.size := ⟨_, rfl⟩
  rw [← hAe]
  have hA : ∀ q : Nat, s.heap.size ≤ q → A q := fun q h => by rw [hAe]; exact Or.inr h
  have hAB : ∀ q : Nat, A q → B0 q := fun q h => by rw [hAe] at h; rw [← hBe]; exact Or.inr (wnone h)
  have hS : va_S A s.heap s.heap [] := va_S.rf
  have hl := lv_entry ([.ref q]) (n := 1) (Nat.le_of_ble_eq_true rfl)
  rw [lg_entry_eq]
  generalize (lg_sl ([.ref q]) ++ List.replicate (1 - (lg_sl ([.ref q])).length) Slot.unset).toArray = ls at hl ⊢
  have hl : lv_has ls 1 [(0, .ref q)] := hl
  have hi4 : ∀ w ∈ wsX40, w ∈ wsX4_undo := by decide +kernel
  have kf23 := hts (.fieldLink RX4 23 "CapsuleKeepers" "savedCount" "I") (by decide +kernel)
  refine lv_aload_n hx hb dX4_undo_0 rfl (lv_at hl 0 rfl) ?_
  refine va_get (D := Γ.1) (ci := 4) (v := .int (nI 0)) (C := RX4) (T := TX4) (N := 7) hx hb hts hi4 hown hK hP 0 rfl rfl 3 (by decide) kf23 (fun _ h9 => h9) rfl dX4_undo_1 ?_
  refine lv_iconst (v := (nI 1)) hx hb dX4_undo_4 (by decide) ?_
  refine lv_icmp_lt (tgt := 17) hx hb dX4_undo_5 (by decide) (fun c_5 => ?_) (fun c_5 => absurd c_5 (by decide))
  obtain ⟨sx, hstr⟩ := hAm.2.2.2.2.1 (173, "there is no saved state") (by decide +kernel)
  exact vx_throwS (names := nm2) (A := A) hx hb hfl hown (by decide +kernel) (by decide +kernel) (hts (.classLink RX4 51 "java/lang/IllegalStateException") (by decide +kernel)) (hts (.initialized "java/lang/IllegalStateException") (by decide +kernel)) hstr (thr_hat hAm (by decide +kernel) (by decide +kernel) (fun w hw => hts w ((by decide +kernel : ∀ w ∈ (vx_atS RX4 55 "java/lang/IllegalStateException" nm2).filter goodWord, w ∈ wsX4_undo) w hw))) (by decide +kernel) ((hAm.narrow hAB).2.2.1) ((hAm.narrow hAB).2.2.2.1) hS (by rw [hml]; exact hl.1) dX4_undo_17 dX4_undo_20 dX4_undo_21 dX4_undo_23 dX4_undo_26 (fun x hx => (hnt x hx).elim) (Nat.le_of_ble_eq_true rfl) (Nat.le_of_ble_eq_true rfl) (Nat.le_of_ble_eq_true rfl) (Nat.le_of_ble_eq_true rfl) hlocks (fun t _ h1 h2 => ⟨(), trivial, rfl, xF hS h1 h2⟩) hS.2.2 (Nat.le_of_ble_eq_true rfl) (Nat.le_of_ble_eq_true rfl)
set_option maxHeartbeats 4000000 in
set_option maxRecDepth 100000 in
theorem tX4_live_a (l : Launch) (hfl : l.stackTraces = false) (Γ : wG) (q : Nat) (an : Nat → Nat) (ap : Nat → Nat) (qs : Nat) (ac : Nat → Nat) (au : Nat → Nat) (ax : Nat → Nat) (L : Nat) (nn : Int32) (cs : (Nat → Int32)) (hL : L ≤ 60) (hw : fX1_isWhole L cs = 0) : TX l Γ yX4_live wsX4_live ({ frames := 6, cells := 1, slots := 6, locals := 90 }) [.ref q] [mnC q an ap qs ac au ax nn, txB Γ ax cs (nI L)] "java/lang/IllegalArgumentException" := by
  intro sz
  refine vx_ofW (cc := cX4_live) (maxL := 3) (ret := (some .int)) (by decide) rfl ?_
  intro p e s m args below meth c s₁ B hml hnt hv
  obtain ⟨rfl, hsz, hP, hK, hD0, hAm⟩ := hv
  have hx := B.exec
  have hb := B.bytes
  have hr := B.returns
  have hts := atoms_spec (ws := wsX4_live) B.pre
  have hown : s.vm.findClass RX4 = some m.cls := findClass_of_methodNamed B.named
  have hlocks := B.notSynchronized
  subst hsz
  have hD := hD0.self (sz := s.heap.size)
  generalize hBe : va_A (wcat [mnC q an ap qs ac au ax nn, txB Γ ax cs (nI L)]) s.heap.size = B0 at hD hAm
  obtain ⟨A, hAe⟩ : ∃ A, A = va_A [] s.heap.size := ⟨_, rfl⟩
  rw [← hAe]
  have hA : ∀ q : Nat, s.heap.size ≤ q → A q := fun q h => by rw [hAe]; exact Or.inr h
  have hAB : ∀ q : Nat, A q → B0 q := fun q h => by rw [hAe] at h; rw [← hBe]; exact Or.inr (wnone h)
  have hS : va_S A s.heap s.heap [] := va_S.rf
  have hl := lv_entry ([.ref q]) (n := 3) (Nat.le_of_ble_eq_true rfl)
  rw [lg_entry_eq]
  generalize (lg_sl ([.ref q]) ++ List.replicate (3 - (lg_sl ([.ref q])).length) Slot.unset).toArray = ls at hl ⊢
  have hl : lv_has ls 3 [(0, .ref q)] := hl
  have hi4 : ∀ w ∈ wsX40, w ∈ wsX4_live := by decide +kernel
  have kf44 := hts (.fieldLink RX4 44 "CapsuleKeepers" "text" "LCapsuleKeepers$DaysText;") (by decide +kernel)
  refine lv_aload_n hx hb dX4_live_0 rfl (lv_at hl 0 rfl) ?_
  refine va_get (D := Γ.1) (ci := 4) (v := .ref (ax 0)) (C := RX4) (T := TX4) (N := 7) hx hb hts hi4 hown hK hP 0 rfl rfl 6 (by decide) kf44 (fun _ h9 => h9) rfl dX4_live_1 ?_
  refine cLI (va_runV (As := []) (rest := []) ⟨hx, hb, hml, hown, hts⟩ ((kX1_isWhole l Γ ax (L) cs (by first | assumption | omega | decide)) _) (cwV 0 hts gX4_live_X1_isWhole rfl rfl rfl (by decide +kernel) ⟨Nat.le_of_ble_eq_true rfl, Nat.le_of_ble_eq_true rfl⟩) ⟨wPre_blind, va_recv hK hP (ci := 1) (q0 := 1) rfl rfl, wPre_mk hP hD hK hS hA hAB hAm [1] rfl rfl⟩ rfl rfl hl.1 rfl (lv_room (Nat.le_of_ble_eq_true rfl)) dX4_live_4 ⟨Nat.zero_le _, Nat.zero_le _⟩) hP hS hA (fun H locs hP hS => ?_)
  refine lv_if_ne (tgt := 20) hx hb dX4_live_7 (by decide) (fun c_7 => absurd hw c_7) (fun c_7 => ?_)
  obtain ⟨sx, hstr⟩ := hAm.2.2.2.2.1 (164, "the buffer does not tell days as a text") (by decide +kernel)
  exact vx_throwS (names := nm2) (A := A) hx hb hfl hown (by decide +kernel) (by decide +kernel) (hts (.classLink RX4 162 "java/lang/IllegalArgumentException") (by decide +kernel)) (hts (.initialized "java/lang/IllegalArgumentException") (by decide +kernel)) hstr (thr_hat hAm (by decide +kernel) (by decide +kernel) (fun w hw => hts w ((by decide +kernel : ∀ w ∈ (vx_atS RX4 166 "java/lang/IllegalArgumentException" nm2).filter goodWord, w ∈ wsX4_live) w hw))) (by decide +kernel) ((hAm.narrow hAB).2.2.1) ((hAm.narrow hAB).2.2.2.1) hS (by rw [hml]; exact hl.1) dX4_live_10 dX4_live_13 dX4_live_14 dX4_live_16 dX4_live_19 (fun x hx => (hnt x hx).elim) (Nat.le_of_ble_eq_true rfl) (Nat.le_of_ble_eq_true rfl) (Nat.le_of_ble_eq_true rfl) (Nat.le_of_ble_eq_true rfl) hlocks (fun t _ h1 h2 => ⟨(), trivial, rfl, xF hS h1 h2⟩) hS.2.2 (Nat.le_of_ble_eq_true rfl) (Nat.le_of_ble_eq_true rfl)
