theorem fs_dS (v : Nat → Nat → Int32) : fX4_firstShare v ∈ dS := by
  unfold fX4_firstShare
  obtain ⟨x, hx1, ex⟩ := homeB v
  obtain ⟨y, hy1, ey⟩ := bitsB v
  rw [ex, ey]
  show (if nI y = 0 then FP.dconst1 else FP.ddiv (FP.i2d (nI x)) (FP.i2d (nI y))) ∈ dS
  by_cases h : nI y = 0
  · rw [if_pos h]; exact dS_one
  · rw [if_neg h]; exact dS_quo x hx1 y hy1 (fun q => h (by rw [q]; decide))
theorem nn0 {j : Nat} (h : j < 2 ^ 31) : ¬ nI j < nI 0 := nI_pos h
theorem nnle {j k : Nat} (h : j ≤ k) (hk : k < 2 ^ 31) : nI j ≤ nI k := (nI_leI (by omega) hk).mpr h
def fX4_mixTold (v : (Nat → Nat → Int32)) (ck : (Nat → Int32)) (h : Int64) : Int64 := (let r_1 := (fX4_told v ck (nI 7)); (let r_2 := (fX4_mix h (r_1.toInt64)); (let r_3 := (fX4_told v ck (nI 14)); (let r_4 := (fX4_mix r_2 (r_3.toInt64)); (let r_5 := (fX4_told v ck (nI 56)); (let r_6 := (fX4_mix r_4 (r_5.toInt64)); (let r_7 := (fX4_told v ck (nI 255)); (let r_8 := (fX4_mix r_6 (r_7.toInt64)); (let r_9 := (fX4_possible v ck (nI 0)); (let r_10 := (fX4_mix r_8 (r_9.toInt64)); (let r_11 := (fX4_possible v ck (nI 3)); (let r_12 := (fX4_mix r_10 (r_11.toInt64)); (let r_13 := (fX4_possible v ck (nI 7)); (let r_14 := (fX4_mix r_12 (r_13.toInt64)); (let r_15 := (fX4_possible v ck (nI 24)); (let r_16 := (fX4_mix r_14 (r_15.toInt64)); (let r_17 := (fX4_possible v ck (nI 255)); (let r_18 := (fX4_mix r_16 (r_17.toInt64)); (r_18)))))))))))))))))))
set_option maxHeartbeats 4000000 in
set_option maxRecDepth 100000 in
theorem kX4_mixTold (l : Launch) (Γ : wG) (q : Nat) (an : Nat → Nat) (ap : Nat → Nat) (qs : Nat) (ac : Nat → Nat) (au : Nat → Nat) (ax : Nat → Nat) (nn : Int32) (v : (Nat → Nat → Int32)) (ck : (Nat → Int32)) (h : Int64) : LL l Γ yX4_mixTold wsX4_mixTold ({ frames := 3, cells := 0, slots := 0, locals := 67 }) [.ref q, .long h] [mnC q an ap qs ac au ax nn, plB Γ an v, cuB Γ ac ck] (fX4_mixTold v ck h) := by
  intro sz
  refine Met.ofW (cc := cX4_mixTold) (maxL := 5) (ret := (some .long)) (by decide) rfl ?_
  intro p e s m args below meth c s₁ B hml hv
  obtain ⟨rfl, hsz, hP, hK, hD0, hAm⟩ := hv
  have hx := B.exec
  have hb := B.bytes
  have hr := B.returns
  have hts := atoms_spec (ws := wsX4_mixTold) B.pre
  have hown : s.vm.findClass RX4 = some m.cls := findClass_of_methodNamed B.named
  have hlocks := B.notSynchronized
  subst hsz
  have hD := hD0.self (sz := s.heap.size)
  generalize hBe : va_A (wcat [mnC q an ap qs ac au ax nn, plB Γ an v, cuB Γ ac ck]) s.heap.size = B0 at hD hAm
  obtain ⟨A, hAe⟩ : ∃ A, A = va_A [] s.heap.size := ⟨_, rfl⟩
  rw [← hAe]
  have hA : ∀ q : Nat, s.heap.size ≤ q → A q := fun q h => by rw [hAe]; exact Or.inr h
  have hAB : ∀ q : Nat, A q → B0 q := fun q h => by rw [hAe] at h; rw [← hBe]; exact Or.inr (wnone h)
  have hS : va_S A s.heap s.heap [] := va_S.rf
  have hl := lv_entry ([.ref q, .long h]) (n := 5) (Nat.le_of_ble_eq_true rfl)
  rw [lg_entry_eq]
  generalize (lg_sl ([.ref q, .long h]) ++ List.replicate (5 - (lg_sl ([.ref q, .long h])).length) Slot.unset).toArray = ls at hl ⊢
  have hl : lv_has ls 5 [(0, .ref q), (1, .long h)] := hl
  have hq : (fX4_mixTold v ck h) = (let r_1 := (fX4_told v ck (nI 7)); (let r_2 := (fX4_mix h (r_1.toInt64)); (let r_3 := (fX4_told v ck (nI 14)); (let r_4 := (fX4_mix r_2 (r_3.toInt64)); (let r_5 := (fX4_told v ck (nI 56)); (let r_6 := (fX4_mix r_4 (r_5.toInt64)); (let r_7 := (fX4_told v ck (nI 255)); (let r_8 := (fX4_mix r_6 (r_7.toInt64)); (let r_9 := (fX4_possible v ck (nI 0)); (let r_10 := (fX4_mix r_8 (r_9.toInt64)); (let r_11 := (fX4_possible v ck (nI 3)); (let r_12 := (fX4_mix r_10 (r_11.toInt64)); (let r_13 := (fX4_possible v ck (nI 7)); (let r_14 := (fX4_mix r_12 (r_13.toInt64)); (let r_15 := (fX4_possible v ck (nI 24)); (let r_16 := (fX4_mix r_14 (r_15.toInt64)); (let r_17 := (fX4_possible v ck (nI 255)); (let r_18 := (fX4_mix r_16 (r_17.toInt64)); (r_18))))))))))))))))))) := rfl
  refine lv_lload_n hx hb dX4_mixTold_0 rfl (lv_at hl 1 rfl) ?_
  refine lv_lstore_n (lv' := [(3, .long h), (0, .ref q), (1, .long h)]) hx hb dX4_mixTold_1 rfl hl (by decide) rfl (fun ls hl => ?_)
  refine lv_lload_n hx hb dX4_mixTold_2 rfl (lv_at hl 0 rfl) ?_
  refine lv_aload_n hx hb dX4_mixTold_3 rfl (lv_at hl 1 rfl) ?_
  refine lv_bipush (v := (nI 7)) hx hb dX4_mixTold_4 (by decide) ?_
  have kc := (kX4_told l Γ q an ap qs ac au ax nn v ck (nI 7) (by first | assumption | omega | decide) (by first | assumption | omega | decide))
  generalize hr_1 : (fX4_told v ck (nI 7)) = r_1 at kc hq
  replace hq : (fX4_mixTold v ck h) = (let r_2 := (fX4_mix h (r_1.toInt64)); (let r_3 := (fX4_told v ck (nI 14)); (let r_4 := (fX4_mix r_2 (r_3.toInt64)); (let r_5 := (fX4_told v ck (nI 56)); (let r_6 := (fX4_mix r_4 (r_5.toInt64)); (let r_7 := (fX4_told v ck (nI 255)); (let r_8 := (fX4_mix r_6 (r_7.toInt64)); (let r_9 := (fX4_possible v ck (nI 0)); (let r_10 := (fX4_mix r_8 (r_9.toInt64)); (let r_11 := (fX4_possible v ck (nI 3)); (let r_12 := (fX4_mix r_10 (r_11.toInt64)); (let r_13 := (fX4_possible v ck (nI 7)); (let r_14 := (fX4_mix r_12 (r_13.toInt64)); (let r_15 := (fX4_possible v ck (nI 24)); (let r_16 := (fX4_mix r_14 (r_15.toInt64)); (let r_17 := (fX4_possible v ck (nI 255)); (let r_18 := (fX4_mix r_16 (r_17.toInt64)); (r_18)))))))))))))))))) := hq
  refine cLI (va_runV (As := [.int (nI 7)]) (rest := [.long h]) ⟨hx, hb, hml, hown, hts⟩ (kc _) (cwV 1 hts gX4_mixTold_X4_told rfl rfl rfl (by decide +kernel) ⟨Nat.le_of_ble_eq_true rfl, Nat.le_of_ble_eq_true rfl⟩) ⟨wPre_blind, va_recv hK hP (ci := 4) (q0 := 0) rfl rfl, wPre_mk hP hD hK hS hA hAB hAm [0, 1, 2] rfl rfl⟩ rfl rfl hl.1 rfl (lv_room (Nat.le_of_ble_eq_true rfl)) dX4_mixTold_6 ⟨Nat.zero_le _, Nat.zero_le _⟩) hP hS hA (fun H locs hP hS => ?_)
  refine lv_i2l (v := r_1.toInt64) hx hb dX4_mixTold_9 rfl ?_
  have kc := (kX4_mix l Γ h (r_1.toInt64))
  generalize hr_2 : (fX4_mix h (r_1.toInt64)) = r_2 at kc hq
  replace hq : (fX4_mixTold v ck h) = (let r_3 := (fX4_told v ck (nI 14)); (let r_4 := (fX4_mix r_2 (r_3.toInt64)); (let r_5 := (fX4_told v ck (nI 56)); (let r_6 := (fX4_mix r_4 (r_5.toInt64)); (let r_7 := (fX4_told v ck (nI 255)); (let r_8 := (fX4_mix r_6 (r_7.toInt64)); (let r_9 := (fX4_possible v ck (nI 0)); (let r_10 := (fX4_mix r_8 (r_9.toInt64)); (let r_11 := (fX4_possible v ck (nI 3)); (let r_12 := (fX4_mix r_10 (r_11.toInt64)); (let r_13 := (fX4_possible v ck (nI 7)); (let r_14 := (fX4_mix r_12 (r_13.toInt64)); (let r_15 := (fX4_possible v ck (nI 24)); (let r_16 := (fX4_mix r_14 (r_15.toInt64)); (let r_17 := (fX4_possible v ck (nI 255)); (let r_18 := (fX4_mix r_16 (r_17.toInt64)); (r_18))))))))))))))))) := hq
  refine cLL (va_runS (As := [.long h, .long (r_1.toInt64)]) (rest := []) ⟨hx, hb, hml, hown, hts⟩ (kc _) (va_cwS 2 hts gX4_mixTold_X4_mix rfl rfl rfl (by decide +kernel) ⟨Nat.le_of_ble_eq_true rfl, Nat.le_of_ble_eq_true rfl⟩) ⟨wPre_blind, wPre_mk hP hD hK hS hA hAB hAm [] rfl rfl⟩ rfl rfl hl.1 rfl (lv_room (Nat.le_of_ble_eq_true rfl)) dX4_mixTold_10 ⟨Nat.zero_le _, Nat.zero_le _⟩) hP hS hA (fun H locs hP hS => ?_)
  refine lv_lstore_n (lv' := [(3, .long r_2), (0, .ref q), (1, .long h)]) hx hb dX4_mixTold_13 rfl hl (by decide) rfl (fun ls hl => ?_)
  refine lv_lload_n hx hb dX4_mixTold_14 rfl (lv_at hl 0 rfl) ?_
  refine lv_aload_n hx hb dX4_mixTold_15 rfl (lv_at hl 1 rfl) ?_
  refine lv_bipush (v := (nI 14)) hx hb dX4_mixTold_16 (by decide) ?_
  have kc := (kX4_told l Γ q an ap qs ac au ax nn v ck (nI 14) (by first | assumption | omega | decide) (by first | assumption | omega | decide))
  generalize hr_3 : (fX4_told v ck (nI 14)) = r_3 at kc hq
  replace hq : (fX4_mixTold v ck h) = (let r_4 := (fX4_mix r_2 (r_3.toInt64)); (let r_5 := (fX4_told v ck (nI 56)); (let r_6 := (fX4_mix r_4 (r_5.toInt64)); (let r_7 := (fX4_told v ck (nI 255)); (let r_8 := (fX4_mix r_6 (r_7.toInt64)); (let r_9 := (fX4_possible v ck (nI 0)); (let r_10 := (fX4_mix r_8 (r_9.toInt64)); (let r_11 := (fX4_possible v ck (nI 3)); (let r_12 := (fX4_mix r_10 (r_11.toInt64)); (let r_13 := (fX4_possible v ck (nI 7)); (let r_14 := (fX4_mix r_12 (r_13.toInt64)); (let r_15 := (fX4_possible v ck (nI 24)); (let r_16 := (fX4_mix r_14 (r_15.toInt64)); (let r_17 := (fX4_possible v ck (nI 255)); (let r_18 := (fX4_mix r_16 (r_17.toInt64)); (r_18)))))))))))))))) := hq
  refine cLI (va_runV (As := [.int (nI 14)]) (rest := [.long r_2]) ⟨hx, hb, hml, hown, hts⟩ (kc _) (cwV 1 hts gX4_mixTold_X4_told rfl rfl rfl (by decide +kernel) ⟨Nat.le_of_ble_eq_true rfl, Nat.le_of_ble_eq_true rfl⟩) ⟨wPre_blind, va_recv hK hP (ci := 4) (q0 := 0) rfl rfl, wPre_mk hP hD hK hS hA hAB hAm [0, 1, 2] rfl rfl⟩ rfl rfl hl.1 rfl (lv_room (Nat.le_of_ble_eq_true rfl)) dX4_mixTold_18 ⟨Nat.zero_le _, Nat.zero_le _⟩) hP hS hA (fun H locs hP hS => ?_)
  refine lv_i2l (v := r_3.toInt64) hx hb dX4_mixTold_21 rfl ?_
  have kc := (kX4_mix l Γ r_2 (r_3.toInt64))
  generalize hr_4 : (fX4_mix r_2 (r_3.toInt64)) = r_4 at kc hq
  replace hq : (fX4_mixTold v ck h) = (let r_5 := (fX4_told v ck (nI 56)); (let r_6 := (fX4_mix r_4 (r_5.toInt64)); (let r_7 := (fX4_told v ck (nI 255)); (let r_8 := (fX4_mix r_6 (r_7.toInt64)); (let r_9 := (fX4_possible v ck (nI 0)); (let r_10 := (fX4_mix r_8 (r_9.toInt64)); (let r_11 := (fX4_possible v ck (nI 3)); (let r_12 := (fX4_mix r_10 (r_11.toInt64)); (let r_13 := (fX4_possible v ck (nI 7)); (let r_14 := (fX4_mix r_12 (r_13.toInt64)); (let r_15 := (fX4_possible v ck (nI 24)); (let r_16 := (fX4_mix r_14 (r_15.toInt64)); (let r_17 := (fX4_possible v ck (nI 255)); (let r_18 := (fX4_mix r_16 (r_17.toInt64)); (r_18))))))))))))))) := hq
  refine cLL (va_runS (As := [.long r_2, .long (r_3.toInt64)]) (rest := []) ⟨hx, hb, hml, hown, hts⟩ (kc _) (va_cwS 2 hts gX4_mixTold_X4_mix rfl rfl rfl (by decide +kernel) ⟨Nat.le_of_ble_eq_true rfl, Nat.le_of_ble_eq_true rfl⟩) ⟨wPre_blind, wPre_mk hP hD hK hS hA hAB hAm [] rfl rfl⟩ rfl rfl hl.1 rfl (lv_room (Nat.le_of_ble_eq_true rfl)) dX4_mixTold_22 ⟨Nat.zero_le _, Nat.zero_le _⟩) hP hS hA (fun H locs hP hS => ?_)
  refine lv_lstore_n (lv' := [(3, .long r_4), (0, .ref q), (1, .long h)]) hx hb dX4_mixTold_25 rfl hl (by decide) rfl (fun ls hl => ?_)
  refine lv_lload_n hx hb dX4_mixTold_26 rfl (lv_at hl 0 rfl) ?_
  refine lv_aload_n hx hb dX4_mixTold_27 rfl (lv_at hl 1 rfl) ?_
  refine lv_bipush (v := (nI 56)) hx hb dX4_mixTold_28 (by decide) ?_
  have kc := (kX4_told l Γ q an ap qs ac au ax nn v ck (nI 56) (by first | assumption | omega | decide) (by first | assumption | omega | decide))
  generalize hr_5 : (fX4_told v ck (nI 56)) = r_5 at kc hq
  replace hq : (fX4_mixTold v ck h) = (let r_6 := (fX4_mix r_4 (r_5.toInt64)); (let r_7 := (fX4_told v ck (nI 255)); (let r_8 := (fX4_mix r_6 (r_7.toInt64)); (let r_9 := (fX4_possible v ck (nI 0)); (let r_10 := (fX4_mix r_8 (r_9.toInt64)); (let r_11 := (fX4_possible v ck (nI 3)); (let r_12 := (fX4_mix r_10 (r_11.toInt64)); (let r_13 := (fX4_possible v ck (nI 7)); (let r_14 := (fX4_mix r_12 (r_13.toInt64)); (let r_15 := (fX4_possible v ck (nI 24)); (let r_16 := (fX4_mix r_14 (r_15.toInt64)); (let r_17 := (fX4_possible v ck (nI 255)); (let r_18 := (fX4_mix r_16 (r_17.toInt64)); (r_18)))))))))))))) := hq
  refine cLI (va_runV (As := [.int (nI 56)]) (rest := [.long r_4]) ⟨hx, hb, hml, hown, hts⟩ (kc _) (cwV 1 hts gX4_mixTold_X4_told rfl rfl rfl (by decide +kernel) ⟨Nat.le_of_ble_eq_true rfl, Nat.le_of_ble_eq_true rfl⟩) ⟨wPre_blind, va_recv hK hP (ci := 4) (q0 := 0) rfl rfl, wPre_mk hP hD hK hS hA hAB hAm [0, 1, 2] rfl rfl⟩ rfl rfl hl.1 rfl (lv_room (Nat.le_of_ble_eq_true rfl)) dX4_mixTold_30 ⟨Nat.zero_le _, Nat.zero_le _⟩) hP hS hA (fun H locs hP hS => ?_)
  refine lv_i2l (v := r_5.toInt64) hx hb dX4_mixTold_33 rfl ?_
  have kc := (kX4_mix l Γ r_4 (r_5.toInt64))
  generalize hr_6 : (fX4_mix r_4 (r_5.toInt64)) = r_6 at kc hq
  replace hq : (fX4_mixTold v ck h) = (let r_7 := (fX4_told v ck (nI 255)); (let r_8 := (fX4_mix r_6 (r_7.toInt64)); (let r_9 := (fX4_possible v ck (nI 0)); (let r_10 := (fX4_mix r_8 (r_9.toInt64)); (let r_11 := (fX4_possible v ck (nI 3)); (let r_12 := (fX4_mix r_10 (r_11.toInt64)); (let r_13 := (fX4_possible v ck (nI 7)); (let r_14 := (fX4_mix r_12 (r_13.toInt64)); (let r_15 := (fX4_possible v ck (nI 24)); (let r_16 := (fX4_mix r_14 (r_15.toInt64)); (let r_17 := (fX4_possible v ck (nI 255)); (let r_18 := (fX4_mix r_16 (r_17.toInt64)); (r_18))))))))))))) := hq
  refine cLL (va_runS (As := [.long r_4, .long (r_5.toInt64)]) (rest := []) ⟨hx, hb, hml, hown, hts⟩ (kc _) (va_cwS 2 hts gX4_mixTold_X4_mix rfl rfl rfl (by decide +kernel) ⟨Nat.le_of_ble_eq_true rfl, Nat.le_of_ble_eq_true rfl⟩) ⟨wPre_blind, wPre_mk hP hD hK hS hA hAB hAm [] rfl rfl⟩ rfl rfl hl.1 rfl (lv_room (Nat.le_of_ble_eq_true rfl)) dX4_mixTold_34 ⟨Nat.zero_le _, Nat.zero_le _⟩) hP hS hA (fun H locs hP hS => ?_)
  refine lv_lstore_n (lv' := [(3, .long r_6), (0, .ref q), (1, .long h)]) hx hb dX4_mixTold_37 rfl hl (by decide) rfl (fun ls hl => ?_)
  refine lv_lload_n hx hb dX4_mixTold_38 rfl (lv_at hl 0 rfl) ?_
  refine lv_aload_n hx hb dX4_mixTold_39 rfl (lv_at hl 1 rfl) ?_
  refine lv_sipush (v := (nI 255)) hx hb dX4_mixTold_40 (by decide) ?_
  have kc := (kX4_told l Γ q an ap qs ac au ax nn v ck (nI 255) (by first | assumption | omega | decide) (by first | assumption | omega | decide))
  generalize hr_7 : (fX4_told v ck (nI 255)) = r_7 at kc hq
  replace hq : (fX4_mixTold v ck h) = (let r_8 := (fX4_mix r_6 (r_7.toInt64)); (let r_9 := (fX4_possible v ck (nI 0)); (let r_10 := (fX4_mix r_8 (r_9.toInt64)); (let r_11 := (fX4_possible v ck (nI 3)); (let r_12 := (fX4_mix r_10 (r_11.toInt64)); (let r_13 := (fX4_possible v ck (nI 7)); (let r_14 := (fX4_mix r_12 (r_13.toInt64)); (let r_15 := (fX4_possible v ck (nI 24)); (let r_16 := (fX4_mix r_14 (r_15.toInt64)); (let r_17 := (fX4_possible v ck (nI 255)); (let r_18 := (fX4_mix r_16 (r_17.toInt64)); (r_18)))))))))))) := hq
  refine cLI (va_runV (As := [.int (nI 255)]) (rest := [.long r_6]) ⟨hx, hb, hml, hown, hts⟩ (kc _) (cwV 1 hts gX4_mixTold_X4_told rfl rfl rfl (by decide +kernel) ⟨Nat.le_of_ble_eq_true rfl, Nat.le_of_ble_eq_true rfl⟩) ⟨wPre_blind, va_recv hK hP (ci := 4) (q0 := 0) rfl rfl, wPre_mk hP hD hK hS hA hAB hAm [0, 1, 2] rfl rfl⟩ rfl rfl hl.1 rfl (lv_room (Nat.le_of_ble_eq_true rfl)) dX4_mixTold_43 ⟨Nat.zero_le _, Nat.zero_le _⟩) hP hS hA (fun H locs hP hS => ?_)
  refine lv_i2l (v := r_7.toInt64) hx hb dX4_mixTold_46 rfl ?_
  have kc := (kX4_mix l Γ r_6 (r_7.toInt64))
  generalize hr_8 : (fX4_mix r_6 (r_7.toInt64)) = r_8 at kc hq
  replace hq : (fX4_mixTold v ck h) = (let r_9 := (fX4_possible v ck (nI 0)); (let r_10 := (fX4_mix r_8 (r_9.toInt64)); (let r_11 := (fX4_possible v ck (nI 3)); (let r_12 := (fX4_mix r_10 (r_11.toInt64)); (let r_13 := (fX4_possible v ck (nI 7)); (let r_14 := (fX4_mix r_12 (r_13.toInt64)); (let r_15 := (fX4_possible v ck (nI 24)); (let r_16 := (fX4_mix r_14 (r_15.toInt64)); (let r_17 := (fX4_possible v ck (nI 255)); (let r_18 := (fX4_mix r_16 (r_17.toInt64)); (r_18))))))))))) := hq
  refine cLL (va_runS (As := [.long r_6, .long (r_7.toInt64)]) (rest := []) ⟨hx, hb, hml, hown, hts⟩ (kc _) (va_cwS 2 hts gX4_mixTold_X4_mix rfl rfl rfl (by decide +kernel) ⟨Nat.le_of_ble_eq_true rfl, Nat.le_of_ble_eq_true rfl⟩) ⟨wPre_blind, wPre_mk hP hD hK hS hA hAB hAm [] rfl rfl⟩ rfl rfl hl.1 rfl (lv_room (Nat.le_of_ble_eq_true rfl)) dX4_mixTold_47 ⟨Nat.zero_le _, Nat.zero_le _⟩) hP hS hA (fun H locs hP hS => ?_)
  refine lv_lstore_n (lv' := [(3, .long r_8), (0, .ref q), (1, .long h)]) hx hb dX4_mixTold_50 rfl hl (by decide) rfl (fun ls hl => ?_)
  refine lv_lload_n hx hb dX4_mixTold_51 rfl (lv_at hl 0 rfl) ?_
  refine lv_aload_n hx hb dX4_mixTold_52 rfl (lv_at hl 1 rfl) ?_
  refine lv_iconst (v := (nI 0)) hx hb dX4_mixTold_53 (by decide) ?_
  have kc := (kX4_possible l Γ q an ap qs ac au ax nn v ck (nI 0) (by first | assumption | omega | decide) (by first | assumption | omega | decide))
  generalize hr_9 : (fX4_possible v ck (nI 0)) = r_9 at kc hq
  replace hq : (fX4_mixTold v ck h) = (let r_10 := (fX4_mix r_8 (r_9.toInt64)); (let r_11 := (fX4_possible v ck (nI 3)); (let r_12 := (fX4_mix r_10 (r_11.toInt64)); (let r_13 := (fX4_possible v ck (nI 7)); (let r_14 := (fX4_mix r_12 (r_13.toInt64)); (let r_15 := (fX4_possible v ck (nI 24)); (let r_16 := (fX4_mix r_14 (r_15.toInt64)); (let r_17 := (fX4_possible v ck (nI 255)); (let r_18 := (fX4_mix r_16 (r_17.toInt64)); (r_18)))))))))) := hq
  refine cLI (va_runV (As := [.int (nI 0)]) (rest := [.long r_8]) ⟨hx, hb, hml, hown, hts⟩ (kc _) (cwV 1 hts gX4_mixTold_X4_possible rfl rfl rfl (by decide +kernel) ⟨Nat.le_of_ble_eq_true rfl, Nat.le_of_ble_eq_true rfl⟩) ⟨wPre_blind, va_recv hK hP (ci := 4) (q0 := 0) rfl rfl, wPre_mk hP hD hK hS hA hAB hAm [0, 1, 2] rfl rfl⟩ rfl rfl hl.1 rfl (lv_room (Nat.le_of_ble_eq_true rfl)) dX4_mixTold_54 ⟨Nat.zero_le _, Nat.zero_le _⟩) hP hS hA (fun H locs hP hS => ?_)
  refine lv_i2l (v := r_9.toInt64) hx hb dX4_mixTold_57 rfl ?_
  have kc := (kX4_mix l Γ r_8 (r_9.toInt64))
  generalize hr_10 : (fX4_mix r_8 (r_9.toInt64)) = r_10 at kc hq
  replace hq : (fX4_mixTold v ck h) = (let r_11 := (fX4_possible v ck (nI 3)); (let r_12 := (fX4_mix r_10 (r_11.toInt64)); (let r_13 := (fX4_possible v ck (nI 7)); (let r_14 := (fX4_mix r_12 (r_13.toInt64)); (let r_15 := (fX4_possible v ck (nI 24)); (let r_16 := (fX4_mix r_14 (r_15.toInt64)); (let r_17 := (fX4_possible v ck (nI 255)); (let r_18 := (fX4_mix r_16 (r_17.toInt64)); (r_18))))))))) := hq
  refine cLL (va_runS (As := [.long r_8, .long (r_9.toInt64)]) (rest := []) ⟨hx, hb, hml, hown, hts⟩ (kc _) (va_cwS 2 hts gX4_mixTold_X4_mix rfl rfl rfl (by decide +kernel) ⟨Nat.le_of_ble_eq_true rfl, Nat.le_of_ble_eq_true rfl⟩) ⟨wPre_blind, wPre_mk hP hD hK hS hA hAB hAm [] rfl rfl⟩ rfl rfl hl.1 rfl (lv_room (Nat.le_of_ble_eq_true rfl)) dX4_mixTold_58 ⟨Nat.zero_le _, Nat.zero_le _⟩) hP hS hA (fun H locs hP hS => ?_)
  refine lv_lstore_n (lv' := [(3, .long r_10), (0, .ref q), (1, .long h)]) hx hb dX4_mixTold_61 rfl hl (by decide) rfl (fun ls hl => ?_)
  refine lv_lload_n hx hb dX4_mixTold_62 rfl (lv_at hl 0 rfl) ?_
  refine lv_aload_n hx hb dX4_mixTold_63 rfl (lv_at hl 1 rfl) ?_
  refine lv_iconst (v := (nI 3)) hx hb dX4_mixTold_64 (by decide) ?_
  have kc := (kX4_possible l Γ q an ap qs ac au ax nn v ck (nI 3) (by first | assumption | omega | decide) (by first | assumption | omega | decide))
  generalize hr_11 : (fX4_possible v ck (nI 3)) = r_11 at kc hq
  replace hq : (fX4_mixTold v ck h) = (let r_12 := (fX4_mix r_10 (r_11.toInt64)); (let r_13 := (fX4_possible v ck (nI 7)); (let r_14 := (fX4_mix r_12 (r_13.toInt64)); (let r_15 := (fX4_possible v ck (nI 24)); (let r_16 := (fX4_mix r_14 (r_15.toInt64)); (let r_17 := (fX4_possible v ck (nI 255)); (let r_18 := (fX4_mix r_16 (r_17.toInt64)); (r_18)))))))) := hq
  refine cLI (va_runV (As := [.int (nI 3)]) (rest := [.long r_10]) ⟨hx, hb, hml, hown, hts⟩ (kc _) (cwV 1 hts gX4_mixTold_X4_possible rfl rfl rfl (by decide +kernel) ⟨Nat.le_of_ble_eq_true rfl, Nat.le_of_ble_eq_true rfl⟩) ⟨wPre_blind, va_recv hK hP (ci := 4) (q0 := 0) rfl rfl, wPre_mk hP hD hK hS hA hAB hAm [0, 1, 2] rfl rfl⟩ rfl rfl hl.1 rfl (lv_room (Nat.le_of_ble_eq_true rfl)) dX4_mixTold_65 ⟨Nat.zero_le _, Nat.zero_le _⟩) hP hS hA (fun H locs hP hS => ?_)
  refine lv_i2l (v := r_11.toInt64) hx hb dX4_mixTold_68 rfl ?_
  have kc := (kX4_mix l Γ r_10 (r_11.toInt64))
  generalize hr_12 : (fX4_mix r_10 (r_11.toInt64)) = r_12 at kc hq
  replace hq : (fX4_mixTold v ck h) = (let r_13 := (fX4_possible v ck (nI 7)); (let r_14 := (fX4_mix r_12 (r_13.toInt64)); (let r_15 := (fX4_possible v ck (nI 24)); (let r_16 := (fX4_mix r_14 (r_15.toInt64)); (let r_17 := (fX4_possible v ck (nI 255)); (let r_18 := (fX4_mix r_16 (r_17.toInt64)); (r_18))))))) := hq
  refine cLL (va_runS (As := [.long r_10, .long (r_11.toInt64)]) (rest := []) ⟨hx, hb, hml, hown, hts⟩ (kc _) (va_cwS 2 hts gX4_mixTold_X4_mix rfl rfl rfl (by decide +kernel) ⟨Nat.le_of_ble_eq_true rfl, Nat.le_of_ble_eq_true rfl⟩) ⟨wPre_blind, wPre_mk hP hD hK hS hA hAB hAm [] rfl rfl⟩ rfl rfl hl.1 rfl (lv_room (Nat.le_of_ble_eq_true rfl)) dX4_mixTold_69 ⟨Nat.zero_le _, Nat.zero_le _⟩) hP hS hA (fun H locs hP hS => ?_)
  refine lv_lstore_n (lv' := [(3, .long r_12), (0, .ref q), (1, .long h)]) hx hb dX4_mixTold_72 rfl hl (by decide) rfl (fun ls hl => ?_)
  refine lv_lload_n hx hb dX4_mixTold_73 rfl (lv_at hl 0 rfl) ?_
  refine lv_aload_n hx hb dX4_mixTold_74 rfl (lv_at hl 1 rfl) ?_
  refine lv_bipush (v := (nI 7)) hx hb dX4_mixTold_75 (by decide) ?_
  have kc := (kX4_possible l Γ q an ap qs ac au ax nn v ck (nI 7) (by first | assumption | omega | decide) (by first | assumption | omega | decide))
  generalize hr_13 : (fX4_possible v ck (nI 7)) = r_13 at kc hq
  replace hq : (fX4_mixTold v ck h) = (let r_14 := (fX4_mix r_12 (r_13.toInt64)); (let r_15 := (fX4_possible v ck (nI 24)); (let r_16 := (fX4_mix r_14 (r_15.toInt64)); (let r_17 := (fX4_possible v ck (nI 255)); (let r_18 := (fX4_mix r_16 (r_17.toInt64)); (r_18)))))) := hq
  refine cLI (va_runV (As := [.int (nI 7)]) (rest := [.long r_12]) ⟨hx, hb, hml, hown, hts⟩ (kc _) (cwV 1 hts gX4_mixTold_X4_possible rfl rfl rfl (by decide +kernel) ⟨Nat.le_of_ble_eq_true rfl, Nat.le_of_ble_eq_true rfl⟩) ⟨wPre_blind, va_recv hK hP (ci := 4) (q0 := 0) rfl rfl, wPre_mk hP hD hK hS hA hAB hAm [0, 1, 2] rfl rfl⟩ rfl rfl hl.1 rfl (lv_room (Nat.le_of_ble_eq_true rfl)) dX4_mixTold_77 ⟨Nat.zero_le _, Nat.zero_le _⟩) hP hS hA (fun H locs hP hS => ?_)
  refine lv_i2l (v := r_13.toInt64) hx hb dX4_mixTold_80 rfl ?_
  have kc := (kX4_mix l Γ r_12 (r_13.toInt64))
  generalize hr_14 : (fX4_mix r_12 (r_13.toInt64)) = r_14 at kc hq
  replace hq : (fX4_mixTold v ck h) = (let r_15 := (fX4_possible v ck (nI 24)); (let r_16 := (fX4_mix r_14 (r_15.toInt64)); (let r_17 := (fX4_possible v ck (nI 255)); (let r_18 := (fX4_mix r_16 (r_17.toInt64)); (r_18))))) := hq
  refine cLL (va_runS (As := [.long r_12, .long (r_13.toInt64)]) (rest := []) ⟨hx, hb, hml, hown, hts⟩ (kc _) (va_cwS 2 hts gX4_mixTold_X4_mix rfl rfl rfl (by decide +kernel) ⟨Nat.le_of_ble_eq_true rfl, Nat.le_of_ble_eq_true rfl⟩) ⟨wPre_blind, wPre_mk hP hD hK hS hA hAB hAm [] rfl rfl⟩ rfl rfl hl.1 rfl (lv_room (Nat.le_of_ble_eq_true rfl)) dX4_mixTold_81 ⟨Nat.zero_le _, Nat.zero_le _⟩) hP hS hA (fun H locs hP hS => ?_)
  refine lv_lstore_n (lv' := [(3, .long r_14), (0, .ref q), (1, .long h)]) hx hb dX4_mixTold_84 rfl hl (by decide) rfl (fun ls hl => ?_)
  refine lv_lload_n hx hb dX4_mixTold_85 rfl (lv_at hl 0 rfl) ?_
  refine lv_aload_n hx hb dX4_mixTold_86 rfl (lv_at hl 1 rfl) ?_
  refine lv_bipush (v := (nI 24)) hx hb dX4_mixTold_87 (by decide) ?_
  have kc := (kX4_possible l Γ q an ap qs ac au ax nn v ck (nI 24) (by first | assumption | omega | decide) (by first | assumption | omega | decide))
  generalize hr_15 : (fX4_possible v ck (nI 24)) = r_15 at kc hq
  replace hq : (fX4_mixTold v ck h) = (let r_16 := (fX4_mix r_14 (r_15.toInt64)); (let r_17 := (fX4_possible v ck (nI 255)); (let r_18 := (fX4_mix r_16 (r_17.toInt64)); (r_18)))) := hq
  refine cLI (va_runV (As := [.int (nI 24)]) (rest := [.long r_14]) ⟨hx, hb, hml, hown, hts⟩ (kc _) (cwV 1 hts gX4_mixTold_X4_possible rfl rfl rfl (by decide +kernel) ⟨Nat.le_of_ble_eq_true rfl, Nat.le_of_ble_eq_true rfl⟩) ⟨wPre_blind, va_recv hK hP (ci := 4) (q0 := 0) rfl rfl, wPre_mk hP hD hK hS hA hAB hAm [0, 1, 2] rfl rfl⟩ rfl rfl hl.1 rfl (lv_room (Nat.le_of_ble_eq_true rfl)) dX4_mixTold_89 ⟨Nat.zero_le _, Nat.zero_le _⟩) hP hS hA (fun H locs hP hS => ?_)
  refine lv_i2l (v := r_15.toInt64) hx hb dX4_mixTold_92 rfl ?_
  have kc := (kX4_mix l Γ r_14 (r_15.toInt64))
  generalize hr_16 : (fX4_mix r_14 (r_15.toInt64)) = r_16 at kc hq
  replace hq : (fX4_mixTold v ck h) = (let r_17 := (fX4_possible v ck (nI 255)); (let r_18 := (fX4_mix r_16 (r_17.toInt64)); (r_18))) := hq
  refine cLL (va_runS (As := [.long r_14, .long (r_15.toInt64)]) (rest := []) ⟨hx, hb, hml, hown, hts⟩ (kc _) (va_cwS 2 hts gX4_mixTold_X4_mix rfl rfl rfl (by decide +kernel) ⟨Nat.le_of_ble_eq_true rfl, Nat.le_of_ble_eq_true rfl⟩) ⟨wPre_blind, wPre_mk hP hD hK hS hA hAB hAm [] rfl rfl⟩ rfl rfl hl.1 rfl (lv_room (Nat.le_of_ble_eq_true rfl)) dX4_mixTold_93 ⟨Nat.zero_le _, Nat.zero_le _⟩) hP hS hA (fun H locs hP hS => ?_)
  refine lv_lstore_n (lv' := [(3, .long r_16), (0, .ref q), (1, .long h)]) hx hb dX4_mixTold_96 rfl hl (by decide) rfl (fun ls hl => ?_)
  refine lv_lload_n hx hb dX4_mixTold_97 rfl (lv_at hl 0 rfl) ?_
  refine lv_aload_n hx hb dX4_mixTold_98 rfl (lv_at hl 1 rfl) ?_
  refine lv_sipush (v := (nI 255)) hx hb dX4_mixTold_99 (by decide) ?_
  have kc := (kX4_possible l Γ q an ap qs ac au ax nn v ck (nI 255) (by first | assumption | omega | decide) (by first | assumption | omega | decide))
  generalize hr_17 : (fX4_possible v ck (nI 255)) = r_17 at kc hq
  replace hq : (fX4_mixTold v ck h) = (let r_18 := (fX4_mix r_16 (r_17.toInt64)); (r_18)) := hq
  refine cLI (va_runV (As := [.int (nI 255)]) (rest := [.long r_16]) ⟨hx, hb, hml, hown, hts⟩ (kc _) (cwV 1 hts gX4_mixTold_X4_possible rfl rfl rfl (by decide +kernel) ⟨Nat.le_of_ble_eq_true rfl, Nat.le_of_ble_eq_true rfl⟩) ⟨wPre_blind, va_recv hK hP (ci := 4) (q0 := 0) rfl rfl, wPre_mk hP hD hK hS hA hAB hAm [0, 1, 2] rfl rfl⟩ rfl rfl hl.1 rfl (lv_room (Nat.le_of_ble_eq_true rfl)) dX4_mixTold_102 ⟨Nat.zero_le _, Nat.zero_le _⟩) hP hS hA (fun H locs hP hS => ?_)
  refine lv_i2l (v := r_17.toInt64) hx hb dX4_mixTold_105 rfl ?_
  have kc := (kX4_mix l Γ r_16 (r_17.toInt64))
  generalize hr_18 : (fX4_mix r_16 (r_17.toInt64)) = r_18 at kc hq
  replace hq : (fX4_mixTold v ck h) = (r_18) := hq
  refine cLL (va_runS (As := [.long r_16, .long (r_17.toInt64)]) (rest := []) ⟨hx, hb, hml, hown, hts⟩ (kc _) (va_cwS 2 hts gX4_mixTold_X4_mix rfl rfl rfl (by decide +kernel) ⟨Nat.le_of_ble_eq_true rfl, Nat.le_of_ble_eq_true rfl⟩) ⟨wPre_blind, wPre_mk hP hD hK hS hA hAB hAm [] rfl rfl⟩ rfl rfl hl.1 rfl (lv_room (Nat.le_of_ble_eq_true rfl)) dX4_mixTold_106 ⟨Nat.zero_le _, Nat.zero_le _⟩) hP hS hA (fun H locs hP hS => ?_)
  exact W.lret (v := r_18) hx hb hr (fun t ht hW => eLL hS ht (by rw [hq])) hS.2.2 dX4_mixTold_109
