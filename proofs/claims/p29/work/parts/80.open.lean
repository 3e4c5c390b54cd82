theorem suB_w {Γ : wG} {a : Nat → Nat} {o p : Nat → Int32} : wad (suB Γ a o p) = [a 0, a 1, a 2] := rfl
theorem plB_w {Γ : wG} {a : Nat → Nat} {v : Nat → Nat → Int32} : wad (plB Γ a v) = [a 0, a 1, a 2, a 3, a 4, a 5] := rfl
theorem cuB_w {Γ : wG} {a : Nat → Nat} {k : Nat → Int32} : wad (cuB Γ a k) = [a 0, a 1] := rfl
theorem txB_w {Γ : wG} {a : Nat → Nat} {cs : Nat → Int32} {n : Int32} : wad (txB Γ a cs n) = [a 0, a 1] := rfl
theorem mnC_w {q : Nat} {an ap : Nat → Nat} {qs : Nat} {ac au ax : Nat → Nat} {n : Int32} : wad (mnC q an ap qs ac au ax n) = [q] := rfl
theorem ouB_w {Γ : wG} {q : Nat} {f : Nat → Int64} : wad (ouB Γ q f) = [q] := rfl
theorem saB_w {Γ : wG} {q : Nat} {sa : Nat → Nat → Nat} {r : Nat} {vs : Nat → Nat → Nat → Int32} : wad (saB Γ q sa r vs) = q :: (wad (plB Γ (sa 0) (vs 0)) ++ (wad (plB Γ (sa 1) (vs 1)) ++ (wad (plB Γ (sa 2) (vs 2)) ++ (wad (plB Γ (sa 3) (vs 3)) ++ (wad (plB Γ (sa 4) (vs 4)) ++ wad (plB Γ (sa 5) (vs 5))))))) := rfl
def fX4_mixOpening (v : (Nat → Nat → Int32)) (vsp : (Nat → Nat → Int32)) (ck : (Nat → Int32)) (so : (Nat → Int32)) (sp : (Nat → Int32)) (h : Int64) : Int64 × (Nat → Nat → Int32) × (Nat → Int32) × (Nat → Int32) := (let r_1 := (fX2_everybody v); (let r_2 := (fX4_refusal v ck so sp r_1); (let r_3 := (fX4_mix h (r_2.1.toInt64)); (let r_4 := (fX4_smallest v ck r_2.2.1 r_2.2.2 (nI 0)); (let r_5 := (fX4_mix r_3 (r_4.1.toInt64)); (let r_6 := (fX4_smallest v ck r_4.2.1 r_4.2.2 (nI 1)); (let r_7 := (fX4_mix r_5 (r_6.1.toInt64)); (let r_8 := (fX4_groups v ck r_6.2.1 r_6.2.2); (let r_9 := (fX4_mix r_7 (r_8.1.toInt64)); (let r_10 := (fX4_needed v vsp ck r_8.2.1 r_8.2.2); (let r_11 := (fX4_mix r_9 (r_10.1.toInt64)); (let r_12 := (fX4_peace v ck r_10.2.2.1 r_10.2.2.2 (nI 0)); (let r_13 := (fX4_mix r_11 (r_12.1.toInt64)); (let r_14 := (fX4_peace v ck r_12.2.1 r_12.2.2 (nI 1)); (let r_15 := (fX4_mix r_13 (r_14.1.toInt64)); (r_15, r_10.2.1, r_14.2.1, r_14.2.2))))))))))))))))
set_option maxHeartbeats 4000000 in
set_option maxRecDepth 100000 in
theorem kX4_mixOpening (l : Launch) (Γ : wG) (q : Nat) (an : Nat → Nat) (ap : Nat → Nat) (qs : Nat) (ac : Nat → Nat) (au : Nat → Nat) (ax : Nat → Nat) (nn : Int32) (v : (Nat → Nat → Int32)) (vsp : (Nat → Nat → Int32)) (ck : (Nat → Int32)) (so : (Nat → Int32)) (sp : (Nat → Int32)) (h : Int64) : ML l Γ yX4_mixOpening wsX4_mixOpening ({ frames := 5, cells := 0, slots := 0, locals := 110 }) [.ref q, .long h] [mnC q an ap qs ac au ax nn, plB Γ an v, plB Γ ap vsp, cuB Γ ac ck, suB Γ au so sp] [mnC q an ap qs ac au ax nn, plB Γ an v, plB Γ ap (fX4_mixOpening v vsp ck so sp h).2.1, cuB Γ ac ck, suB Γ au (fX4_mixOpening v vsp ck so sp h).2.2.1 (fX4_mixOpening v vsp ck so sp h).2.2.2] (fX4_mixOpening v vsp ck so sp h).1 := by
  intro sz
  refine Met.ofW (cc := cX4_mixOpening) (maxL := 5) (ret := (some .long)) (by decide) rfl ?_
  intro p e s m args below meth c s₁ B hml hv
  obtain ⟨rfl, hsz, hP, hK, hD0, hAm⟩ := hv
  have hx := B.exec
  have hb := B.bytes
  have hr := B.returns
  have hts := atoms_spec (ws := wsX4_mixOpening) B.pre
  have hown : s.vm.findClass RX4 = some m.cls := findClass_of_methodNamed B.named
  have hlocks := B.notSynchronized
  subst hsz
  have hD := hD0.self (sz := s.heap.size)
  generalize hAe : va_A (wcat [mnC q an ap qs ac au ax nn, plB Γ an v, plB Γ ap vsp, cuB Γ ac ck, suB Γ au so sp]) s.heap.size = A at hD hAm ⊢
  have hA : ∀ q : Nat, s.heap.size ≤ q → A q := fun q h => by rw [← hAe]; exact Or.inr h
  have hAB : ∀ q : Nat, A q → A q := fun _ h => h
  have hS : va_S A s.heap s.heap [] := va_S.rf
  have hl := lv_entry ([.ref q, .long h]) (n := 5) (Nat.le_of_ble_eq_true rfl)
  rw [lg_entry_eq]
  generalize (lg_sl ([.ref q, .long h]) ++ List.replicate (5 - (lg_sl ([.ref q, .long h])).length) Slot.unset).toArray = ls at hl ⊢
  have hl : lv_has ls 5 [(0, .ref q), (1, .long h)] := hl
  have hi4 : ∀ w ∈ wsX40, w ∈ wsX4_mixOpening := by decide +kernel
  have kf10 := hts (.fieldLink RX4 10 "CapsuleKeepers" "now" "LCapsuleKeepers$Place;") (by decide +kernel)
  have hq : (fX4_mixOpening v vsp ck so sp h) = (let r_1 := (fX2_everybody v); (let r_2 := (fX4_refusal v ck so sp r_1); (let r_3 := (fX4_mix h (r_2.1.toInt64)); (let r_4 := (fX4_smallest v ck r_2.2.1 r_2.2.2 (nI 0)); (let r_5 := (fX4_mix r_3 (r_4.1.toInt64)); (let r_6 := (fX4_smallest v ck r_4.2.1 r_4.2.2 (nI 1)); (let r_7 := (fX4_mix r_5 (r_6.1.toInt64)); (let r_8 := (fX4_groups v ck r_6.2.1 r_6.2.2); (let r_9 := (fX4_mix r_7 (r_8.1.toInt64)); (let r_10 := (fX4_needed v vsp ck r_8.2.1 r_8.2.2); (let r_11 := (fX4_mix r_9 (r_10.1.toInt64)); (let r_12 := (fX4_peace v ck r_10.2.2.1 r_10.2.2.2 (nI 0)); (let r_13 := (fX4_mix r_11 (r_12.1.toInt64)); (let r_14 := (fX4_peace v ck r_12.2.1 r_12.2.2 (nI 1)); (let r_15 := (fX4_mix r_13 (r_14.1.toInt64)); (r_15, r_10.2.1, r_14.2.1, r_14.2.2)))))))))))))))) := rfl
  refine lv_lload_n hx hb dX4_mixOpening_0 rfl (lv_at hl 1 rfl) ?_
  refine lv_aload_n hx hb dX4_mixOpening_1 rfl (lv_at hl 0 rfl) ?_
  refine lv_aload_n hx hb dX4_mixOpening_2 rfl (lv_at hl 0 rfl) ?_
  refine va_get (D := Γ.1) (ci := 4) (v := .ref (an 0)) (C := RX4) (T := TX4) (N := 7) hx hb hts hi4 hown hK hP 0 rfl rfl 0 (by decide) kf10 (fun _ h9 => h9) rfl dX4_mixOpening_3 ?_
  have kc := (kX2_everybody l Γ an v)
  generalize hr_1 : (fX2_everybody v) = r_1 at kc hq
  replace hq : (fX4_mixOpening v vsp ck so sp h) = (let r_2 := (fX4_refusal v ck so sp r_1); (let r_3 := (fX4_mix h (r_2.1.toInt64)); (let r_4 := (fX4_smallest v ck r_2.2.1 r_2.2.2 (nI 0)); (let r_5 := (fX4_mix r_3 (r_4.1.toInt64)); (let r_6 := (fX4_smallest v ck r_4.2.1 r_4.2.2 (nI 1)); (let r_7 := (fX4_mix r_5 (r_6.1.toInt64)); (let r_8 := (fX4_groups v ck r_6.2.1 r_6.2.2); (let r_9 := (fX4_mix r_7 (r_8.1.toInt64)); (let r_10 := (fX4_needed v vsp ck r_8.2.1 r_8.2.2); (let r_11 := (fX4_mix r_9 (r_10.1.toInt64)); (let r_12 := (fX4_peace v ck r_10.2.2.1 r_10.2.2.2 (nI 0)); (let r_13 := (fX4_mix r_11 (r_12.1.toInt64)); (let r_14 := (fX4_peace v ck r_12.2.1 r_12.2.2 (nI 1)); (let r_15 := (fX4_mix r_13 (r_14.1.toInt64)); (r_15, r_10.2.1, r_14.2.1, r_14.2.2))))))))))))))) := hq
  refine cLI (va_runV (As := []) (rest := [.ref q, .long h]) ⟨hx, hb, hml, hown, hts⟩ (kc _) (cwV 0 hts gX4_mixOpening_X2_everybody rfl rfl rfl (by decide +kernel) ⟨Nat.le_of_ble_eq_true rfl, Nat.le_of_ble_eq_true rfl⟩) ⟨wPre_blind, va_recv hK hP (ci := 2) (q0 := 1) rfl rfl, wPre_mk hP hD hK hS hA hAB hAm [1] rfl rfl⟩ rfl rfl hl.1 rfl (lv_room (Nat.le_of_ble_eq_true rfl)) dX4_mixOpening_6 ⟨Nat.zero_le _, Nat.zero_le _⟩) hP hS hA (fun H locs hP hS => ?_)
  have kc := (kX4_refusal l Γ q an ap qs ac au ax nn v ck so sp r_1)
  generalize hr_2 : (fX4_refusal v ck so sp r_1) = r_2 at kc hq
  replace hq : (fX4_mixOpening v vsp ck so sp h) = (let r_3 := (fX4_mix h (r_2.1.toInt64)); (let r_4 := (fX4_smallest v ck r_2.2.1 r_2.2.2 (nI 0)); (let r_5 := (fX4_mix r_3 (r_4.1.toInt64)); (let r_6 := (fX4_smallest v ck r_4.2.1 r_4.2.2 (nI 1)); (let r_7 := (fX4_mix r_5 (r_6.1.toInt64)); (let r_8 := (fX4_groups v ck r_6.2.1 r_6.2.2); (let r_9 := (fX4_mix r_7 (r_8.1.toInt64)); (let r_10 := (fX4_needed v vsp ck r_8.2.1 r_8.2.2); (let r_11 := (fX4_mix r_9 (r_10.1.toInt64)); (let r_12 := (fX4_peace v ck r_10.2.2.1 r_10.2.2.2 (nI 0)); (let r_13 := (fX4_mix r_11 (r_12.1.toInt64)); (let r_14 := (fX4_peace v ck r_12.2.1 r_12.2.2 (nI 1)); (let r_15 := (fX4_mix r_13 (r_14.1.toInt64)); (r_15, r_10.2.1, r_14.2.1, r_14.2.2)))))))))))))) := hq
  refine cMI (bc' := [mnC q an ap qs ac au ax nn, plB Γ an v, cuB Γ ac ck, suB Γ au r_2.2.1 r_2.2.2]) (va_runV (As := [.int r_1]) (rest := [.long h]) ⟨hx, hb, hml, hown, hts⟩ (kc _) (cwV 1 hts gX4_mixOpening_X4_refusal rfl rfl rfl (by decide +kernel) ⟨Nat.le_of_ble_eq_true rfl, Nat.le_of_ble_eq_true rfl⟩) ⟨wPre_blind, va_recv hK hP (ci := 4) (q0 := 0) rfl rfl, wPre_mk hP hD hK hS hA hAB hAm [0, 1, 3, 4] rfl rfl⟩ rfl rfl hl.1 rfl (lv_room (Nat.le_of_ble_eq_true rfl)) dX4_mixOpening_9 ⟨Nat.zero_le _, Nat.zero_le _⟩) hP hD hS hA [0, 1, 3, 4] rfl (by simp only [List.map_cons, List.map_nil, suB_w, plB_w]) (bs' := [mnC q an ap qs ac au ax nn, plB Γ an v, plB Γ ap vsp, cuB Γ ac ck, suB Γ au r_2.2.1 r_2.2.2]) rfl (fun H locs hP hD hS => ?_)
  refine lv_i2l (v := r_2.1.toInt64) hx hb dX4_mixOpening_12 rfl ?_
  have kc := (kX4_mix l Γ h (r_2.1.toInt64))
  generalize hr_3 : (fX4_mix h (r_2.1.toInt64)) = r_3 at kc hq
  replace hq : (fX4_mixOpening v vsp ck so sp h) = (let r_4 := (fX4_smallest v ck r_2.2.1 r_2.2.2 (nI 0)); (let r_5 := (fX4_mix r_3 (r_4.1.toInt64)); (let r_6 := (fX4_smallest v ck r_4.2.1 r_4.2.2 (nI 1)); (let r_7 := (fX4_mix r_5 (r_6.1.toInt64)); (let r_8 := (fX4_groups v ck r_6.2.1 r_6.2.2); (let r_9 := (fX4_mix r_7 (r_8.1.toInt64)); (let r_10 := (fX4_needed v vsp ck r_8.2.1 r_8.2.2); (let r_11 := (fX4_mix r_9 (r_10.1.toInt64)); (let r_12 := (fX4_peace v ck r_10.2.2.1 r_10.2.2.2 (nI 0)); (let r_13 := (fX4_mix r_11 (r_12.1.toInt64)); (let r_14 := (fX4_peace v ck r_12.2.1 r_12.2.2 (nI 1)); (let r_15 := (fX4_mix r_13 (r_14.1.toInt64)); (r_15, r_10.2.1, r_14.2.1, r_14.2.2))))))))))))) := hq
  refine cLL (va_runS (As := [.long h, .long (r_2.1.toInt64)]) (rest := []) ⟨hx, hb, hml, hown, hts⟩ (kc _) (va_cwS 2 hts gX4_mixOpening_X4_mix rfl rfl rfl (by decide +kernel) ⟨Nat.le_of_ble_eq_true rfl, Nat.le_of_ble_eq_true rfl⟩) ⟨wPre_blind, wPre_mk hP hD hK hS hA hAB hAm [] rfl rfl⟩ rfl rfl hl.1 rfl (lv_room (Nat.le_of_ble_eq_true rfl)) dX4_mixOpening_13 ⟨Nat.zero_le _, Nat.zero_le _⟩) hP hS hA (fun H locs hP hS => ?_)
  refine lv_lstore_n (lv' := [(3, .long r_3), (0, .ref q), (1, .long h)]) hx hb dX4_mixOpening_16 rfl hl (by decide) rfl (fun ls hl => ?_)
  refine lv_lload_n hx hb dX4_mixOpening_17 rfl (lv_at hl 0 rfl) ?_
  refine lv_aload_n hx hb dX4_mixOpening_18 rfl (lv_at hl 1 rfl) ?_
  refine lv_iconst (v := (nI 0)) hx hb dX4_mixOpening_19 (by decide) ?_
  have kc := (kX4_smallest l Γ q an ap qs ac au ax nn v ck r_2.2.1 r_2.2.2 (nI 0) (nn0 (by decide)) (nnle (by decide) (by decide)))
  generalize hr_4 : (fX4_smallest v ck r_2.2.1 r_2.2.2 (nI 0)) = r_4 at kc hq
  replace hq : (fX4_mixOpening v vsp ck so sp h) = (let r_5 := (fX4_mix r_3 (r_4.1.toInt64)); (let r_6 := (fX4_smallest v ck r_4.2.1 r_4.2.2 (nI 1)); (let r_7 := (fX4_mix r_5 (r_6.1.toInt64)); (let r_8 := (fX4_groups v ck r_6.2.1 r_6.2.2); (let r_9 := (fX4_mix r_7 (r_8.1.toInt64)); (let r_10 := (fX4_needed v vsp ck r_8.2.1 r_8.2.2); (let r_11 := (fX4_mix r_9 (r_10.1.toInt64)); (let r_12 := (fX4_peace v ck r_10.2.2.1 r_10.2.2.2 (nI 0)); (let r_13 := (fX4_mix r_11 (r_12.1.toInt64)); (let r_14 := (fX4_peace v ck r_12.2.1 r_12.2.2 (nI 1)); (let r_15 := (fX4_mix r_13 (r_14.1.toInt64)); (r_15, r_10.2.1, r_14.2.1, r_14.2.2)))))))))))) := hq
  refine cMI (bc' := [mnC q an ap qs ac au ax nn, plB Γ an v, cuB Γ ac ck, suB Γ au r_4.2.1 r_4.2.2]) (va_runV (As := [.int (nI 0)]) (rest := [.long r_3]) ⟨hx, hb, hml, hown, hts⟩ (kc _) (cwV 1 hts gX4_mixOpening_X4_smallest rfl rfl rfl (by decide +kernel) ⟨Nat.le_of_ble_eq_true rfl, Nat.le_of_ble_eq_true rfl⟩) ⟨wPre_blind, va_recv hK hP (ci := 4) (q0 := 0) rfl rfl, wPre_mk hP hD hK hS hA hAB hAm [0, 1, 3, 4] rfl rfl⟩ rfl rfl hl.1 rfl (lv_room (Nat.le_of_ble_eq_true rfl)) dX4_mixOpening_20 ⟨Nat.zero_le _, Nat.zero_le _⟩) hP hD hS hA [0, 1, 3, 4] rfl (by simp only [List.map_cons, List.map_nil, suB_w, plB_w]) (bs' := [mnC q an ap qs ac au ax nn, plB Γ an v, plB Γ ap vsp, cuB Γ ac ck, suB Γ au r_4.2.1 r_4.2.2]) rfl (fun H locs hP hD hS => ?_)
  refine lv_i2l (v := r_4.1.toInt64) hx hb dX4_mixOpening_23 rfl ?_
  have kc := (kX4_mix l Γ r_3 (r_4.1.toInt64))
  generalize hr_5 : (fX4_mix r_3 (r_4.1.toInt64)) = r_5 at kc hq
  replace hq : (fX4_mixOpening v vsp ck so sp h) = (let r_6 := (fX4_smallest v ck r_4.2.1 r_4.2.2 (nI 1)); (let r_7 := (fX4_mix r_5 (r_6.1.toInt64)); (let r_8 := (fX4_groups v ck r_6.2.1 r_6.2.2); (let r_9 := (fX4_mix r_7 (r_8.1.toInt64)); (let r_10 := (fX4_needed v vsp ck r_8.2.1 r_8.2.2); (let r_11 := (fX4_mix r_9 (r_10.1.toInt64)); (let r_12 := (fX4_peace v ck r_10.2.2.1 r_10.2.2.2 (nI 0)); (let r_13 := (fX4_mix r_11 (r_12.1.toInt64)); (let r_14 := (fX4_peace v ck r_12.2.1 r_12.2.2 (nI 1)); (let r_15 := (fX4_mix r_13 (r_14.1.toInt64)); (r_15, r_10.2.1, r_14.2.1, r_14.2.2))))))))))) := hq
  refine cLL (va_runS (As := [.long r_3, .long (r_4.1.toInt64)]) (rest := []) ⟨hx, hb, hml, hown, hts⟩ (kc _) (va_cwS 2 hts gX4_mixOpening_X4_mix rfl rfl rfl (by decide +kernel) ⟨Nat.le_of_ble_eq_true rfl, Nat.le_of_ble_eq_true rfl⟩) ⟨wPre_blind, wPre_mk hP hD hK hS hA hAB hAm [] rfl rfl⟩ rfl rfl hl.1 rfl (lv_room (Nat.le_of_ble_eq_true rfl)) dX4_mixOpening_24 ⟨Nat.zero_le _, Nat.zero_le _⟩) hP hS hA (fun H locs hP hS => ?_)
  refine lv_lstore_n (lv' := [(3, .long r_5), (0, .ref q), (1, .long h)]) hx hb dX4_mixOpening_27 rfl hl (by decide) rfl (fun ls hl => ?_)
  refine lv_lload_n hx hb dX4_mixOpening_28 rfl (lv_at hl 0 rfl) ?_
  refine lv_aload_n hx hb dX4_mixOpening_29 rfl (lv_at hl 1 rfl) ?_
  refine lv_iconst (v := (nI 1)) hx hb dX4_mixOpening_30 (by decide) ?_
  have kc := (kX4_smallest l Γ q an ap qs ac au ax nn v ck r_4.2.1 r_4.2.2 (nI 1) (nn0 (by decide)) (nnle (by decide) (by decide)))
  generalize hr_6 : (fX4_smallest v ck r_4.2.1 r_4.2.2 (nI 1)) = r_6 at kc hq
  replace hq : (fX4_mixOpening v vsp ck so sp h) = (let r_7 := (fX4_mix r_5 (r_6.1.toInt64)); (let r_8 := (fX4_groups v ck r_6.2.1 r_6.2.2); (let r_9 := (fX4_mix r_7 (r_8.1.toInt64)); (let r_10 := (fX4_needed v vsp ck r_8.2.1 r_8.2.2); (let r_11 := (fX4_mix r_9 (r_10.1.toInt64)); (let r_12 := (fX4_peace v ck r_10.2.2.1 r_10.2.2.2 (nI 0)); (let r_13 := (fX4_mix r_11 (r_12.1.toInt64)); (let r_14 := (fX4_peace v ck r_12.2.1 r_12.2.2 (nI 1)); (let r_15 := (fX4_mix r_13 (r_14.1.toInt64)); (r_15, r_10.2.1, r_14.2.1, r_14.2.2)))))))))) := hq
  refine cMI (bc' := [mnC q an ap qs ac au ax nn, plB Γ an v, cuB Γ ac ck, suB Γ au r_6.2.1 r_6.2.2]) (va_runV (As := [.int (nI 1)]) (rest := [.long r_5]) ⟨hx, hb, hml, hown, hts⟩ (kc _) (cwV 1 hts gX4_mixOpening_X4_smallest rfl rfl rfl (by decide +kernel) ⟨Nat.le_of_ble_eq_true rfl, Nat.le_of_ble_eq_true rfl⟩) ⟨wPre_blind, va_recv hK hP (ci := 4) (q0 := 0) rfl rfl, wPre_mk hP hD hK hS hA hAB hAm [0, 1, 3, 4] rfl rfl⟩ rfl rfl hl.1 rfl (lv_room (Nat.le_of_ble_eq_true rfl)) dX4_mixOpening_31 ⟨Nat.zero_le _, Nat.zero_le _⟩) hP hD hS hA [0, 1, 3, 4] rfl (by simp only [List.map_cons, List.map_nil, suB_w, plB_w]) (bs' := [mnC q an ap qs ac au ax nn, plB Γ an v, plB Γ ap vsp, cuB Γ ac ck, suB Γ au r_6.2.1 r_6.2.2]) rfl (fun H locs hP hD hS => ?_)
  refine lv_i2l (v := r_6.1.toInt64) hx hb dX4_mixOpening_34 rfl ?_
  have kc := (kX4_mix l Γ r_5 (r_6.1.toInt64))
  generalize hr_7 : (fX4_mix r_5 (r_6.1.toInt64)) = r_7 at kc hq
  replace hq : (fX4_mixOpening v vsp ck so sp h) = (let r_8 := (fX4_groups v ck r_6.2.1 r_6.2.2); (let r_9 := (fX4_mix r_7 (r_8.1.toInt64)); (let r_10 := (fX4_needed v vsp ck r_8.2.1 r_8.2.2); (let r_11 := (fX4_mix r_9 (r_10.1.toInt64)); (let r_12 := (fX4_peace v ck r_10.2.2.1 r_10.2.2.2 (nI 0)); (let r_13 := (fX4_mix r_11 (r_12.1.toInt64)); (let r_14 := (fX4_peace v ck r_12.2.1 r_12.2.2 (nI 1)); (let r_15 := (fX4_mix r_13 (r_14.1.toInt64)); (r_15, r_10.2.1, r_14.2.1, r_14.2.2))))))))) := hq
  refine cLL (va_runS (As := [.long r_5, .long (r_6.1.toInt64)]) (rest := []) ⟨hx, hb, hml, hown, hts⟩ (kc _) (va_cwS 2 hts gX4_mixOpening_X4_mix rfl rfl rfl (by decide +kernel) ⟨Nat.le_of_ble_eq_true rfl, Nat.le_of_ble_eq_true rfl⟩) ⟨wPre_blind, wPre_mk hP hD hK hS hA hAB hAm [] rfl rfl⟩ rfl rfl hl.1 rfl (lv_room (Nat.le_of_ble_eq_true rfl)) dX4_mixOpening_35 ⟨Nat.zero_le _, Nat.zero_le _⟩) hP hS hA (fun H locs hP hS => ?_)
  refine lv_lstore_n (lv' := [(3, .long r_7), (0, .ref q), (1, .long h)]) hx hb dX4_mixOpening_38 rfl hl (by decide) rfl (fun ls hl => ?_)
  refine lv_lload_n hx hb dX4_mixOpening_39 rfl (lv_at hl 0 rfl) ?_
  refine lv_aload_n hx hb dX4_mixOpening_40 rfl (lv_at hl 1 rfl) ?_
  have kc := (kX4_groups l Γ q an ap qs ac au ax nn v ck r_6.2.1 r_6.2.2)
  generalize hr_8 : (fX4_groups v ck r_6.2.1 r_6.2.2) = r_8 at kc hq
  replace hq : (fX4_mixOpening v vsp ck so sp h) = (let r_9 := (fX4_mix r_7 (r_8.1.toInt64)); (let r_10 := (fX4_needed v vsp ck r_8.2.1 r_8.2.2); (let r_11 := (fX4_mix r_9 (r_10.1.toInt64)); (let r_12 := (fX4_peace v ck r_10.2.2.1 r_10.2.2.2 (nI 0)); (let r_13 := (fX4_mix r_11 (r_12.1.toInt64)); (let r_14 := (fX4_peace v ck r_12.2.1 r_12.2.2 (nI 1)); (let r_15 := (fX4_mix r_13 (r_14.1.toInt64)); (r_15, r_10.2.1, r_14.2.1, r_14.2.2)))))))) := hq
  refine cMI (bc' := [mnC q an ap qs ac au ax nn, plB Γ an v, cuB Γ ac ck, suB Γ au r_8.2.1 r_8.2.2]) (va_runV (As := []) (rest := [.long r_7]) ⟨hx, hb, hml, hown, hts⟩ (kc _) (cwV 0 hts gX4_mixOpening_X4_groups rfl rfl rfl (by decide +kernel) ⟨Nat.le_of_ble_eq_true rfl, Nat.le_of_ble_eq_true rfl⟩) ⟨wPre_blind, va_recv hK hP (ci := 4) (q0 := 0) rfl rfl, wPre_mk hP hD hK hS hA hAB hAm [0, 1, 3, 4] rfl rfl⟩ rfl rfl hl.1 rfl (lv_room (Nat.le_of_ble_eq_true rfl)) dX4_mixOpening_41 ⟨Nat.zero_le _, Nat.zero_le _⟩) hP hD hS hA [0, 1, 3, 4] rfl (by simp only [List.map_cons, List.map_nil, suB_w, plB_w]) (bs' := [mnC q an ap qs ac au ax nn, plB Γ an v, plB Γ ap vsp, cuB Γ ac ck, suB Γ au r_8.2.1 r_8.2.2]) rfl (fun H locs hP hD hS => ?_)
  refine lv_i2l (v := r_8.1.toInt64) hx hb dX4_mixOpening_44 rfl ?_
  have kc := (kX4_mix l Γ r_7 (r_8.1.toInt64))
  generalize hr_9 : (fX4_mix r_7 (r_8.1.toInt64)) = r_9 at kc hq
  replace hq : (fX4_mixOpening v vsp ck so sp h) = (let r_10 := (fX4_needed v vsp ck r_8.2.1 r_8.2.2); (let r_11 := (fX4_mix r_9 (r_10.1.toInt64)); (let r_12 := (fX4_peace v ck r_10.2.2.1 r_10.2.2.2 (nI 0)); (let r_13 := (fX4_mix r_11 (r_12.1.toInt64)); (let r_14 := (fX4_peace v ck r_12.2.1 r_12.2.2 (nI 1)); (let r_15 := (fX4_mix r_13 (r_14.1.toInt64)); (r_15, r_10.2.1, r_14.2.1, r_14.2.2))))))) := hq
  refine cLL (va_runS (As := [.long r_7, .long (r_8.1.toInt64)]) (rest := []) ⟨hx, hb, hml, hown, hts⟩ (kc _) (va_cwS 2 hts gX4_mixOpening_X4_mix rfl rfl rfl (by decide +kernel) ⟨Nat.le_of_ble_eq_true rfl, Nat.le_of_ble_eq_true rfl⟩) ⟨wPre_blind, wPre_mk hP hD hK hS hA hAB hAm [] rfl rfl⟩ rfl rfl hl.1 rfl (lv_room (Nat.le_of_ble_eq_true rfl)) dX4_mixOpening_45 ⟨Nat.zero_le _, Nat.zero_le _⟩) hP hS hA (fun H locs hP hS => ?_)
  refine lv_lstore_n (lv' := [(3, .long r_9), (0, .ref q), (1, .long h)]) hx hb dX4_mixOpening_48 rfl hl (by decide) rfl (fun ls hl => ?_)
  refine lv_lload_n hx hb dX4_mixOpening_49 rfl (lv_at hl 0 rfl) ?_
  refine lv_aload_n hx hb dX4_mixOpening_50 rfl (lv_at hl 1 rfl) ?_
  have kc := (kX4_needed l Γ q an ap qs ac au ax nn v vsp ck r_8.2.1 r_8.2.2)
  generalize hr_10 : (fX4_needed v vsp ck r_8.2.1 r_8.2.2) = r_10 at kc hq
  replace hq : (fX4_mixOpening v vsp ck so sp h) = (let r_11 := (fX4_mix r_9 (r_10.1.toInt64)); (let r_12 := (fX4_peace v ck r_10.2.2.1 r_10.2.2.2 (nI 0)); (let r_13 := (fX4_mix r_11 (r_12.1.toInt64)); (let r_14 := (fX4_peace v ck r_12.2.1 r_12.2.2 (nI 1)); (let r_15 := (fX4_mix r_13 (r_14.1.toInt64)); (r_15, r_10.2.1, r_14.2.1, r_14.2.2)))))) := hq
  refine cMI (bc' := [mnC q an ap qs ac au ax nn, plB Γ an v, plB Γ ap r_10.2.1, cuB Γ ac ck, suB Γ au r_10.2.2.1 r_10.2.2.2]) (va_runV (As := []) (rest := [.long r_9]) ⟨hx, hb, hml, hown, hts⟩ (kc _) (cwV 0 hts gX4_mixOpening_X4_needed rfl rfl rfl (by decide +kernel) ⟨Nat.le_of_ble_eq_true rfl, Nat.le_of_ble_eq_true rfl⟩) ⟨wPre_blind, va_recv hK hP (ci := 4) (q0 := 0) rfl rfl, wPre_mk hP hD hK hS hA hAB hAm [0, 1, 2, 3, 4] rfl rfl⟩ rfl rfl hl.1 rfl (lv_room (Nat.le_of_ble_eq_true rfl)) dX4_mixOpening_51 ⟨Nat.zero_le _, Nat.zero_le _⟩) hP hD hS hA [0, 1, 2, 3, 4] rfl (by simp only [List.map_cons, List.map_nil, suB_w, plB_w]) (bs' := [mnC q an ap qs ac au ax nn, plB Γ an v, plB Γ ap r_10.2.1, cuB Γ ac ck, suB Γ au r_10.2.2.1 r_10.2.2.2]) rfl (fun H locs hP hD hS => ?_)
  refine lv_i2l (v := r_10.1.toInt64) hx hb dX4_mixOpening_54 rfl ?_
  have kc := (kX4_mix l Γ r_9 (r_10.1.toInt64))
  generalize hr_11 : (fX4_mix r_9 (r_10.1.toInt64)) = r_11 at kc hq
  replace hq : (fX4_mixOpening v vsp ck so sp h) = (let r_12 := (fX4_peace v ck r_10.2.2.1 r_10.2.2.2 (nI 0)); (let r_13 := (fX4_mix r_11 (r_12.1.toInt64)); (let r_14 := (fX4_peace v ck r_12.2.1 r_12.2.2 (nI 1)); (let r_15 := (fX4_mix r_13 (r_14.1.toInt64)); (r_15, r_10.2.1, r_14.2.1, r_14.2.2))))) := hq
  refine cLL (va_runS (As := [.long r_9, .long (r_10.1.toInt64)]) (rest := []) ⟨hx, hb, hml, hown, hts⟩ (kc _) (va_cwS 2 hts gX4_mixOpening_X4_mix rfl rfl rfl (by decide +kernel) ⟨Nat.le_of_ble_eq_true rfl, Nat.le_of_ble_eq_true rfl⟩) ⟨wPre_blind, wPre_mk hP hD hK hS hA hAB hAm [] rfl rfl⟩ rfl rfl hl.1 rfl (lv_room (Nat.le_of_ble_eq_true rfl)) dX4_mixOpening_55 ⟨Nat.zero_le _, Nat.zero_le _⟩) hP hS hA (fun H locs hP hS => ?_)
  refine lv_lstore_n (lv' := [(3, .long r_11), (0, .ref q), (1, .long h)]) hx hb dX4_mixOpening_58 rfl hl (by decide) rfl (fun ls hl => ?_)
  refine lv_lload_n hx hb dX4_mixOpening_59 rfl (lv_at hl 0 rfl) ?_
  refine lv_aload_n hx hb dX4_mixOpening_60 rfl (lv_at hl 1 rfl) ?_
  refine lv_iconst (v := (nI 0)) hx hb dX4_mixOpening_61 (by decide) ?_
  have kc := (kX4_peace l Γ q an ap qs ac au ax nn v ck r_10.2.2.1 r_10.2.2.2 (nI 0))
  generalize hr_12 : (fX4_peace v ck r_10.2.2.1 r_10.2.2.2 (nI 0)) = r_12 at kc hq
  replace hq : (fX4_mixOpening v vsp ck so sp h) = (let r_13 := (fX4_mix r_11 (r_12.1.toInt64)); (let r_14 := (fX4_peace v ck r_12.2.1 r_12.2.2 (nI 1)); (let r_15 := (fX4_mix r_13 (r_14.1.toInt64)); (r_15, r_10.2.1, r_14.2.1, r_14.2.2)))) := hq
  refine cMI (bc' := [mnC q an ap qs ac au ax nn, plB Γ an v, cuB Γ ac ck, suB Γ au r_12.2.1 r_12.2.2]) (va_runV (As := [.int (nI 0)]) (rest := [.long r_11]) ⟨hx, hb, hml, hown, hts⟩ (kc _) (cwV 1 hts gX4_mixOpening_X4_peace rfl rfl rfl (by decide +kernel) ⟨Nat.le_of_ble_eq_true rfl, Nat.le_of_ble_eq_true rfl⟩) ⟨wPre_blind, va_recv hK hP (ci := 4) (q0 := 0) rfl rfl, wPre_mk hP hD hK hS hA hAB hAm [0, 1, 3, 4] rfl rfl⟩ rfl rfl hl.1 rfl (lv_room (Nat.le_of_ble_eq_true rfl)) dX4_mixOpening_62 ⟨Nat.zero_le _, Nat.zero_le _⟩) hP hD hS hA [0, 1, 3, 4] rfl (by simp only [List.map_cons, List.map_nil, suB_w, plB_w]) (bs' := [mnC q an ap qs ac au ax nn, plB Γ an v, plB Γ ap r_10.2.1, cuB Γ ac ck, suB Γ au r_12.2.1 r_12.2.2]) rfl (fun H locs hP hD hS => ?_)
  refine lv_i2l (v := r_12.1.toInt64) hx hb dX4_mixOpening_65 rfl ?_
  have kc := (kX4_mix l Γ r_11 (r_12.1.toInt64))
  generalize hr_13 : (fX4_mix r_11 (r_12.1.toInt64)) = r_13 at kc hq
  replace hq : (fX4_mixOpening v vsp ck so sp h) = (let r_14 := (fX4_peace v ck r_12.2.1 r_12.2.2 (nI 1)); (let r_15 := (fX4_mix r_13 (r_14.1.toInt64)); (r_15, r_10.2.1, r_14.2.1, r_14.2.2))) := hq
  refine cLL (va_runS (As := [.long r_11, .long (r_12.1.toInt64)]) (rest := []) ⟨hx, hb, hml, hown, hts⟩ (kc _) (va_cwS 2 hts gX4_mixOpening_X4_mix rfl rfl rfl (by decide +kernel) ⟨Nat.le_of_ble_eq_true rfl, Nat.le_of_ble_eq_true rfl⟩) ⟨wPre_blind, wPre_mk hP hD hK hS hA hAB hAm [] rfl rfl⟩ rfl rfl hl.1 rfl (lv_room (Nat.le_of_ble_eq_true rfl)) dX4_mixOpening_66 ⟨Nat.zero_le _, Nat.zero_le _⟩) hP hS hA (fun H locs hP hS => ?_)
  refine lv_lstore_n (lv' := [(3, .long r_13), (0, .ref q), (1, .long h)]) hx hb dX4_mixOpening_69 rfl hl (by decide) rfl (fun ls hl => ?_)
  refine lv_lload_n hx hb dX4_mixOpening_70 rfl (lv_at hl 0 rfl) ?_
  refine lv_aload_n hx hb dX4_mixOpening_71 rfl (lv_at hl 1 rfl) ?_
  refine lv_iconst (v := (nI 1)) hx hb dX4_mixOpening_72 (by decide) ?_
  have kc := (kX4_peace l Γ q an ap qs ac au ax nn v ck r_12.2.1 r_12.2.2 (nI 1))
  generalize hr_14 : (fX4_peace v ck r_12.2.1 r_12.2.2 (nI 1)) = r_14 at kc hq
  replace hq : (fX4_mixOpening v vsp ck so sp h) = (let r_15 := (fX4_mix r_13 (r_14.1.toInt64)); (r_15, r_10.2.1, r_14.2.1, r_14.2.2)) := hq
  refine cMI (bc' := [mnC q an ap qs ac au ax nn, plB Γ an v, cuB Γ ac ck, suB Γ au r_14.2.1 r_14.2.2]) (va_runV (As := [.int (nI 1)]) (rest := [.long r_13]) ⟨hx, hb, hml, hown, hts⟩ (kc _) (cwV 1 hts gX4_mixOpening_X4_peace rfl rfl rfl (by decide +kernel) ⟨Nat.le_of_ble_eq_true rfl, Nat.le_of_ble_eq_true rfl⟩) ⟨wPre_blind, va_recv hK hP (ci := 4) (q0 := 0) rfl rfl, wPre_mk hP hD hK hS hA hAB hAm [0, 1, 3, 4] rfl rfl⟩ rfl rfl hl.1 rfl (lv_room (Nat.le_of_ble_eq_true rfl)) dX4_mixOpening_73 ⟨Nat.zero_le _, Nat.zero_le _⟩) hP hD hS hA [0, 1, 3, 4] rfl (by simp only [List.map_cons, List.map_nil, suB_w, plB_w]) (bs' := [mnC q an ap qs ac au ax nn, plB Γ an v, plB Γ ap r_10.2.1, cuB Γ ac ck, suB Γ au r_14.2.1 r_14.2.2]) rfl (fun H locs hP hD hS => ?_)
  refine lv_i2l (v := r_14.1.toInt64) hx hb dX4_mixOpening_76 rfl ?_
  have kc := (kX4_mix l Γ r_13 (r_14.1.toInt64))
  generalize hr_15 : (fX4_mix r_13 (r_14.1.toInt64)) = r_15 at kc hq
  replace hq : (fX4_mixOpening v vsp ck so sp h) = (r_15, r_10.2.1, r_14.2.1, r_14.2.2) := hq
  refine cLL (va_runS (As := [.long r_13, .long (r_14.1.toInt64)]) (rest := []) ⟨hx, hb, hml, hown, hts⟩ (kc _) (va_cwS 2 hts gX4_mixOpening_X4_mix rfl rfl rfl (by decide +kernel) ⟨Nat.le_of_ble_eq_true rfl, Nat.le_of_ble_eq_true rfl⟩) ⟨wPre_blind, wPre_mk hP hD hK hS hA hAB hAm [] rfl rfl⟩ rfl rfl hl.1 rfl (lv_room (Nat.le_of_ble_eq_true rfl)) dX4_mixOpening_77 ⟨Nat.zero_le _, Nat.zero_le _⟩) hP hS hA (fun H locs hP hS => ?_)
  exact W.lret (v := r_15) hx hb hr (fun t ht hW => eML (by rw [hq]; exact hP) hS ht (by rw [hq])) hS.2.2 dX4_mixOpening_80
