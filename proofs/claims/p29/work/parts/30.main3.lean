theorem ddOK : ∀ x, x < 9 → ∀ y, y < 9 → ¬ y = 0 → vf_n64 (FP.ddiv (FP.i2d (nI x)) (FP.i2d (nI y))) := by
  unfold vf_n64
  decide +kernel
def fX4_needed_L17 (v : (Nat → Nat → Int32)) (ck : (Nat → Int32)) : Nat → Nat → Int32 → (Nat → Nat → Int32) → (Nat → Int32) → (Nat → Int32) → Int32 × (Nat → Nat → Int32) × (Nat → Int32) × (Nat → Int32)
  | 0, i17, x1_17, v2_17, o4_17, p4_17 => (x1_17, v2_17, o4_17, p4_17)
  | n17 + 1, i17, x1_17, v2_17, o4_17, p4_17 => (if (fX2_lives v (nI i17)) = 0 then (fX4_needed_L17 v ck n17 (i17 + 1) x1_17 v2_17 o4_17 p4_17) else (let r_4 := (fX2_bury v (nI i17)); (let r_5 := (fX4_anyCouldOpen ck o4_17 p4_17 r_4.2); (if r_5.1 = 0 then (fX4_needed_L17 v ck n17 (i17 + 1) (x1_17 ||| ((nI 1) <<< ((nI i17) &&& 31))) r_4.2 r_5.2.1 r_5.2.2) else (fX4_needed_L17 v ck n17 (i17 + 1) x1_17 r_4.2 r_5.2.1 r_5.2.2)))))
def fX4_needed (v : (Nat → Nat → Int32)) (vsp : (Nat → Nat → Int32)) (ck : (Nat → Int32)) (so : (Nat → Int32)) (sp : (Nat → Int32)) : Int32 × (Nat → Nat → Int32) × (Nat → Int32) × (Nat → Int32) := (let r_1 := (fX4_anyCouldOpen ck so sp v); (if r_1.1 = 0 then ((nI 0), vsp, r_1.2.1, r_1.2.2) else (fX4_needed_L17 v ck (8) 0 (nI 0) vsp r_1.2.1 r_1.2.2)))
set_option maxHeartbeats 4000000 in
set_option maxRecDepth 100000 in
theorem kX4_needed (l : Launch) (Γ : wG) (q : Nat) (an : Nat → Nat) (ap : Nat → Nat) (qs : Nat) (ac : Nat → Nat) (au : Nat → Nat) (ax : Nat → Nat) (nn : Int32) (v : (Nat → Nat → Int32)) (vsp : (Nat → Nat → Int32)) (ck : (Nat → Int32)) (so : (Nat → Int32)) (sp : (Nat → Int32)) : MI l Γ yX4_needed wsX4_needed ({ frames := 4, cells := 0, slots := 0, locals := 88 }) [.ref q] [mnC q an ap qs ac au ax nn, plB Γ an v, plB Γ ap vsp, cuB Γ ac ck, suB Γ au so sp] [mnC q an ap qs ac au ax nn, plB Γ an v, plB Γ ap (fX4_needed v vsp ck so sp).2.1, cuB Γ ac ck, suB Γ au (fX4_needed v vsp ck so sp).2.2.1 (fX4_needed v vsp ck so sp).2.2.2] (fX4_needed v vsp ck so sp).1 := by
  intro sz
  refine Met.ofW (cc := cX4_needed) (maxL := 3) (ret := (some .int)) (by decide) rfl ?_
  intro p e s m args below meth c s₁ B hml hv
  obtain ⟨rfl, hsz, hP, hK, hD0, hAm⟩ := hv
  have hx := B.exec
  have hb := B.bytes
  have hr := B.returns
  have hts := atoms_spec (ws := wsX4_needed) B.pre
  have hown : s.vm.findClass RX4 = some m.cls := findClass_of_methodNamed B.named
  have hlocks := B.notSynchronized
  subst hsz
  have hD := hD0.self (sz := s.heap.size)
  generalize hAe : va_A (wcat [mnC q an ap qs ac au ax nn, plB Γ an v, plB Γ ap vsp, cuB Γ ac ck, suB Γ au so sp]) s.heap.size = A at hD hAm ⊢
  have hA : ∀ q : Nat, s.heap.size ≤ q → A q := fun q h => by rw [← hAe]; exact Or.inr h
  have hAB : ∀ q : Nat, A q → A q := fun _ h => h
  have hS : va_S A s.heap s.heap [] := va_S.rf
  have hl := lv_entry ([.ref q]) (n := 3) (Nat.le_of_ble_eq_true rfl)
  rw [lg_entry_eq]
  generalize (lg_sl ([.ref q]) ++ List.replicate (3 - (lg_sl ([.ref q])).length) Slot.unset).toArray = ls at hl ⊢
  have hl : lv_has ls 3 [(0, .ref q)] := hl
  have hi4 : ∀ w ∈ wsX40, w ∈ wsX4_needed := by decide +kernel
  have kf10 := hts (.fieldLink RX4 10 "CapsuleKeepers" "now" "LCapsuleKeepers$Place;") (by decide +kernel)
  have kf16 := hts (.fieldLink RX4 16 "CapsuleKeepers" "spare" "LCapsuleKeepers$Place;") (by decide +kernel)
  have hq : (fX4_needed v vsp ck so sp) = (let r_1 := (fX4_anyCouldOpen ck so sp v); (if r_1.1 = 0 then ((nI 0), vsp, r_1.2.1, r_1.2.2) else (fX4_needed_L17 v ck (8) 0 (nI 0) vsp r_1.2.1 r_1.2.2))) := rfl
  refine lv_aload_n hx hb dX4_needed_0 rfl (lv_at hl 0 rfl) ?_
  refine lv_aload_n hx hb dX4_needed_1 rfl (lv_at hl 0 rfl) ?_
  refine va_get (D := Γ.1) (ci := 4) (v := .ref (an 0)) (C := RX4) (T := TX4) (N := 7) hx hb hts hi4 hown hK hP 0 rfl rfl 0 (by decide) kf10 (fun _ h9 => h9) rfl dX4_needed_2 ?_
  have kc := (kX4_anyCouldOpen l Γ q an ap qs ac au ax an nn ck so sp v)
  generalize hr_1 : (fX4_anyCouldOpen ck so sp v) = r_1 at kc hq
  replace hq : (fX4_needed v vsp ck so sp) = (if r_1.1 = 0 then ((nI 0), vsp, r_1.2.1, r_1.2.2) else (fX4_needed_L17 v ck (8) 0 (nI 0) vsp r_1.2.1 r_1.2.2)) := hq
  refine cMI (bc' := [mnC q an ap qs ac au ax nn, cuB Γ ac ck, suB Γ au r_1.2.1 r_1.2.2, plB Γ an v]) (va_runV (As := [.ref (an 0)]) (rest := []) ⟨hx, hb, hml, hown, hts⟩ (kc _) (cwV 1 hts gX4_needed_X4_anyCouldOpen rfl rfl rfl (by decide +kernel) ⟨Nat.le_of_ble_eq_true rfl, Nat.le_of_ble_eq_true rfl⟩) ⟨wPre_blind, va_recv hK hP (ci := 4) (q0 := 0) rfl rfl, wPre_mk hP hD hK hS hA hAB hAm [0, 3, 4, 1] rfl rfl⟩ rfl rfl hl.1 rfl (lv_room (Nat.le_of_ble_eq_true rfl)) dX4_needed_5 ⟨Nat.zero_le _, Nat.zero_le _⟩) hP hD hS hA [0, 3, 4, 1] rfl rfl (bs' := [mnC q an ap qs ac au ax nn, plB Γ an v, plB Γ ap vsp, cuB Γ ac ck, suB Γ au r_1.2.1 r_1.2.2]) rfl (fun H locs hP hD hS => ?_)
  refine lv_if_ne (tgt := 13) hx hb dX4_needed_8 (by decide) (fun c_2 => ?_) (fun c_2 => ?_)
  · have hq := hq.trans (if_neg c_2)
    refine lv_iconst (v := (nI 0)) hx hb dX4_needed_13 (by decide) ?_
    refine lv_istore_n (lv' := [(1, .int (nI 0)), (0, .ref q)]) hx hb dX4_needed_14 rfl hl (by decide) rfl (fun ls hl => ?_)
    refine lv_iconst (v := (nI 0)) hx hb dX4_needed_15 (by decide) ?_
    refine lv_istore_n (lv' := [(2, .int (nI 0)), (1, .int (nI 0)), (0, .ref q)]) hx hb dX4_needed_16 rfl hl (by decide) rfl (fun ls hl => ?_)
    refine wl (pc := 17) (σ := Nat × Int32 × (Nat → Nat → Int32) × (Nat → Int32) × (Nat → Int32)) (fun n (i17, x1_17, v2_17, o4_17, p4_17) H locs ls => (i17 + n = 8) ∧ (fX4_needed v vsp ck so sp) = fX4_needed_L17 v ck n i17 x1_17 v2_17 o4_17 p4_17 ∧ va_P Γ.1 vwCl (wcat [mnC q an ap qs ac au ax nn, plB Γ an v, plB Γ ap v2_17, cuB Γ ac ck, suB Γ au o4_17 p4_17]) H ∧ va_D A (wcat [mnC q an ap qs ac au ax nn, plB Γ an v, plB Γ ap v2_17, cuB Γ ac ck, suB Γ au o4_17 p4_17]) ∧ va_S A s.heap H locs ∧ lv_has ls 3 [(2, .int (nI i17)), (1, .int x1_17), (0, .ref q)]) ?_ ?_ (8) (0, (nI 0), vsp, r_1.2.1, r_1.2.2) _ _ _ ⟨by omega, hq, hP, hD, hS, lv_sub hl [0, 1, 2] rfl⟩
    · intro ⟨i17, x1_17, v2_17, o4_17, p4_17⟩ H locs ls h
      obtain ⟨hn17, hq, hP, hD, hS, hl⟩ := h
      try dsimp only at hn17 hq hP hD hl
      replace hq : (fX4_needed v vsp ck so sp) = (x1_17, v2_17, o4_17, p4_17) := hq
      refine lv_iload_n hx hb dX4_needed_17 rfl (lv_at hl 0 rfl) ?_
      refine lv_bipush (v := (nI 8)) hx hb dX4_needed_18 (by decide) ?_
      refine lv_icmp_ge (tgt := 77) hx hb dX4_needed_20 (by decide) (fun c_20 => ?_) (fun c_20 => absurd (nI_le (by omega) (by omega)) c_20)
      refine lv_iload_n hx hb dX4_needed_77 rfl (lv_at hl 1 rfl) ?_
      exact W.iret (v := x1_17) hx hb hr (fun t ht hW => eMI (by rw [hq]; exact hP) hS ht (by rw [hq])) hS.2.2 dX4_needed_78
    · intro n17 ih17 ⟨i17, x1_17, v2_17, o4_17, p4_17⟩ H locs ls h
      obtain ⟨hn17, hq, hP, hD, hS, hl⟩ := h
      try dsimp only at hn17 hq hP hD hl
      replace hq : (fX4_needed v vsp ck so sp) = (if (fX2_lives v (nI i17)) = 0 then (fX4_needed_L17 v ck n17 (i17 + 1) x1_17 v2_17 o4_17 p4_17) else (let r_4 := (fX2_bury v (nI i17)); (let r_5 := (fX4_anyCouldOpen ck o4_17 p4_17 r_4.2); (if r_5.1 = 0 then (fX4_needed_L17 v ck n17 (i17 + 1) (x1_17 ||| ((nI 1) <<< ((nI i17) &&& 31))) r_4.2 r_5.2.1 r_5.2.2) else (fX4_needed_L17 v ck n17 (i17 + 1) x1_17 r_4.2 r_5.2.1 r_5.2.2))))) := hq
      refine lv_iload_n hx hb dX4_needed_17 rfl (lv_at hl 0 rfl) ?_
      refine lv_bipush (v := (nI 8)) hx hb dX4_needed_18 (by decide) ?_
      refine lv_icmp_ge (tgt := 77) hx hb dX4_needed_20 (by decide) (fun c_20 => absurd c_20 (nI_ge (by omega) (by omega))) (fun c_20 => ?_)
      refine lv_aload_n hx hb dX4_needed_23 rfl (lv_at hl 2 rfl) ?_
      refine va_get (D := Γ.1) (ci := 4) (v := .ref (an 0)) (C := RX4) (T := TX4) (N := 7) hx hb hts hi4 hown hK hP 0 rfl rfl 0 (by decide) kf10 (fun _ h9 => h9) rfl dX4_needed_24 ?_
      refine lv_iload_n hx hb dX4_needed_27 rfl (lv_at hl 0 rfl) ?_
      refine cLI (va_runV (As := [.int (nI i17)]) (rest := []) ⟨hx, hb, hml, hown, hts⟩ ((kX2_lives l Γ an v (nI i17)) _) (cwV 1 hts gX4_needed_X2_lives rfl rfl rfl (by decide +kernel) ⟨Nat.le_of_ble_eq_true rfl, Nat.le_of_ble_eq_true rfl⟩) ⟨wPre_blind, va_recv hK hP (ci := 2) (q0 := 1) rfl rfl, wPre_mk hP hD hK hS hA hAB hAm [1] rfl rfl⟩ rfl rfl hl.1 rfl (lv_room (Nat.le_of_ble_eq_true rfl)) dX4_needed_28 ⟨Nat.zero_le _, Nat.zero_le _⟩) hP hS hA (fun H locs hP hS => ?_)
      refine lv_if_eq (tgt := 71) hx hb dX4_needed_31 (by decide) (fun c_3 => ?_) (fun c_3 => ?_)
      · have hq := hq.trans (if_pos c_3)
        refine lv_iinc (v := (nI (i17 + 1))) (lv' := [(2, .int (nI (i17 + 1))), (1, .int x1_17), (0, .ref q)]) hx hb dX4_needed_71 hl (k := 0) rfl (nI_1 _) (by decide) rfl (fun ls hl => ?_)
        refine lv_goto (tgt := 17) hx hb dX4_needed_74 (by decide) ?_
        exact ih17 ((i17 + 1), x1_17, v2_17, o4_17, p4_17) H locs ls ⟨by omega, hq, hP, hD, hS, lv_sub hl [0, 1, 2] rfl⟩
      · have hq := hq.trans (if_neg c_3)
        refine lv_aload_n hx hb dX4_needed_34 rfl (lv_at hl 2 rfl) ?_
        refine va_get (D := Γ.1) (ci := 4) (v := .ref (ap 0)) (C := RX4) (T := TX4) (N := 7) hx hb hts hi4 hown hK hP 0 rfl rfl 1 (by decide) kf16 (fun _ h9 => h9) rfl dX4_needed_35 ?_
        refine lv_aload_n hx hb dX4_needed_38 rfl (lv_at hl 2 rfl) ?_
        refine va_get (D := Γ.1) (ci := 4) (v := .ref (an 0)) (C := RX4) (T := TX4) (N := 7) hx hb hts hi4 hown hK hP 0 rfl rfl 0 (by decide) kf10 (fun _ h9 => h9) rfl dX4_needed_39 ?_
        refine cMV (bc' := [plB Γ ap v, plB Γ an v]) (va_runV (As := [.ref (an 0)]) (rest := []) ⟨hx, hb, hml, hown, hts⟩ ((ncpF l Γ ap an v2_17 v) _) (cwV 1 hts gX4_needed_X2_copyFrom rfl rfl rfl (by decide +kernel) ⟨Nat.le_of_ble_eq_true rfl, Nat.le_of_ble_eq_true rfl⟩) ⟨wPre_blind, va_recv hK hP (ci := 2) (q0 := 7) rfl rfl, wPre_mk hP hD hK hS hA hAB hAm [2, 1] rfl rfl⟩ rfl rfl hl.1 rfl (lv_room (Nat.le_of_ble_eq_true rfl)) dX4_needed_42 ⟨Nat.zero_le _, Nat.zero_le _⟩) hP hD hS hA [2, 1] rfl rfl (bs' := [mnC q an ap qs ac au ax nn, plB Γ an v, plB Γ ap v, cuB Γ ac ck, suB Γ au o4_17 p4_17]) rfl (fun H locs hP hD hS => ?_)
        refine lv_aload_n hx hb dX4_needed_45 rfl (lv_at hl 2 rfl) ?_
        refine va_get (D := Γ.1) (ci := 4) (v := .ref (ap 0)) (C := RX4) (T := TX4) (N := 7) hx hb hts hi4 hown hK hP 0 rfl rfl 1 (by decide) kf16 (fun _ h9 => h9) rfl dX4_needed_46 ?_
        refine lv_iload_n hx hb dX4_needed_49 rfl (lv_at hl 0 rfl) ?_
        have kc := (kX2_bury l Γ ap v (nI i17) (vp_in_nI (by omega) (by decide)))
        generalize hr_4 : (fX2_bury v (nI i17)) = r_4 at kc hq
        replace hq : (fX4_needed v vsp ck so sp) = (let r_5 := (fX4_anyCouldOpen ck o4_17 p4_17 r_4.2); (if r_5.1 = 0 then (fX4_needed_L17 v ck n17 (i17 + 1) (x1_17 ||| ((nI 1) <<< ((nI i17) &&& 31))) r_4.2 r_5.2.1 r_5.2.2) else (fX4_needed_L17 v ck n17 (i17 + 1) x1_17 r_4.2 r_5.2.1 r_5.2.2))) := hq
        refine cMI (bc' := [plB Γ ap r_4.2]) (va_runV (As := [.int (nI i17)]) (rest := []) ⟨hx, hb, hml, hown, hts⟩ (kc _) (cwV 1 hts gX4_needed_X2_bury rfl rfl rfl (by decide +kernel) ⟨Nat.le_of_ble_eq_true rfl, Nat.le_of_ble_eq_true rfl⟩) ⟨wPre_blind, va_recv hK hP (ci := 2) (q0 := 7) rfl rfl, wPre_mk hP hD hK hS hA hAB hAm [2] rfl rfl⟩ rfl rfl hl.1 rfl (lv_room (Nat.le_of_ble_eq_true rfl)) dX4_needed_50 ⟨Nat.zero_le _, Nat.zero_le _⟩) hP hD hS hA [2] rfl rfl (bs' := [mnC q an ap qs ac au ax nn, plB Γ an v, plB Γ ap r_4.2, cuB Γ ac ck, suB Γ au o4_17 p4_17]) rfl (fun H locs hP hD hS => ?_)
        refine lv_pop hx hb dX4_needed_53 rfl ?_
        refine lv_aload_n hx hb dX4_needed_54 rfl (lv_at hl 2 rfl) ?_
        refine lv_aload_n hx hb dX4_needed_55 rfl (lv_at hl 2 rfl) ?_
        refine va_get (D := Γ.1) (ci := 4) (v := .ref (ap 0)) (C := RX4) (T := TX4) (N := 7) hx hb hts hi4 hown hK hP 0 rfl rfl 1 (by decide) kf16 (fun _ h9 => h9) rfl dX4_needed_56 ?_
        have kc := (kX4_anyCouldOpen l Γ q an ap qs ac au ax ap nn ck o4_17 p4_17 r_4.2)
        generalize hr_5 : (fX4_anyCouldOpen ck o4_17 p4_17 r_4.2) = r_5 at kc hq
        replace hq : (fX4_needed v vsp ck so sp) = (if r_5.1 = 0 then (fX4_needed_L17 v ck n17 (i17 + 1) (x1_17 ||| ((nI 1) <<< ((nI i17) &&& 31))) r_4.2 r_5.2.1 r_5.2.2) else (fX4_needed_L17 v ck n17 (i17 + 1) x1_17 r_4.2 r_5.2.1 r_5.2.2)) := hq
        refine cMI (bc' := [mnC q an ap qs ac au ax nn, cuB Γ ac ck, suB Γ au r_5.2.1 r_5.2.2, plB Γ ap r_4.2]) (va_runV (As := [.ref (ap 0)]) (rest := []) ⟨hx, hb, hml, hown, hts⟩ (kc _) (cwV 1 hts gX4_needed_X4_anyCouldOpen rfl rfl rfl (by decide +kernel) ⟨Nat.le_of_ble_eq_true rfl, Nat.le_of_ble_eq_true rfl⟩) ⟨wPre_blind, va_recv hK hP (ci := 4) (q0 := 0) rfl rfl, wPre_mk hP hD hK hS hA hAB hAm [0, 3, 4, 2] rfl rfl⟩ rfl rfl hl.1 rfl (lv_room (Nat.le_of_ble_eq_true rfl)) dX4_needed_59 ⟨Nat.zero_le _, Nat.zero_le _⟩) hP hD hS hA [0, 3, 4, 2] rfl rfl (bs' := [mnC q an ap qs ac au ax nn, plB Γ an v, plB Γ ap r_4.2, cuB Γ ac ck, suB Γ au r_5.2.1 r_5.2.2]) rfl (fun H locs hP hD hS => ?_)
        refine lv_if_ne (tgt := 71) hx hb dX4_needed_62 (by decide) (fun c_6 => ?_) (fun c_6 => ?_)
        · have hq := hq.trans (if_neg c_6)
          refine lv_iinc (v := (nI (i17 + 1))) (lv' := [(2, .int (nI (i17 + 1))), (1, .int x1_17), (0, .ref q)]) hx hb dX4_needed_71 hl (k := 0) rfl (nI_1 _) (by decide) rfl (fun ls hl => ?_)
          refine lv_goto (tgt := 17) hx hb dX4_needed_74 (by decide) ?_
          exact ih17 ((i17 + 1), x1_17, r_4.2, r_5.2.1, r_5.2.2) H locs ls ⟨by omega, hq, hP, hD, hS, lv_sub hl [0, 1, 2] rfl⟩
        · have hq := hq.trans (if_pos c_6)
          refine lv_iload_n hx hb dX4_needed_65 rfl (lv_at hl 1 rfl) ?_
          refine lv_iconst (v := (nI 1)) hx hb dX4_needed_66 (by decide) ?_
          refine lv_iload_n hx hb dX4_needed_67 rfl (lv_at hl 0 rfl) ?_
          refine lv_ishl hx hb dX4_needed_68 ?_
          refine lv_ior hx hb dX4_needed_69 ?_
          refine lv_istore_n (lv' := [(1, .int (x1_17 ||| ((nI 1) <<< ((nI i17) &&& 31)))), (2, .int (nI i17)), (0, .ref q)]) hx hb dX4_needed_70 rfl hl (by decide) rfl (fun ls hl => ?_)
          refine lv_iinc (v := (nI (i17 + 1))) (lv' := [(2, .int (nI (i17 + 1))), (1, .int (x1_17 ||| ((nI 1) <<< ((nI i17) &&& 31)))), (0, .ref q)]) hx hb dX4_needed_71 hl (k := 1) rfl (nI_1 _) (by decide) rfl (fun ls hl => ?_)
          refine lv_goto (tgt := 17) hx hb dX4_needed_74 (by decide) ?_
          exact ih17 ((i17 + 1), (x1_17 ||| ((nI 1) <<< ((nI i17) &&& 31))), r_4.2, r_5.2.1, r_5.2.2) H locs ls ⟨by omega, hq, hP, hD, hS, lv_sub hl [0, 1, 2] rfl⟩
  · have hq := hq.trans (if_pos c_2)
    refine lv_iconst (v := (nI 0)) hx hb dX4_needed_11 (by decide) ?_
    exact W.iret (v := (nI 0)) hx hb hr (fun t ht hW => eMI (by rw [hq]; exact hP) hS ht (by rw [hq])) hS.2.2 dX4_needed_12
def fX4_firstShare (v : (Nat → Nat → Int32)) : UInt64 := (let y_1 := (fbit (fX2_sharesThere v)); (if y_1 = 0 then (FP.dconst1) else ((FP.ddiv (FP.i2d (fX2_sharesAtHome v)) (FP.i2d y_1)))))
set_option maxHeartbeats 4000000 in
set_option maxRecDepth 100000 in
theorem kX4_firstShare (l : Launch) (Γ : wG) (q : Nat) (an : Nat → Nat) (ap : Nat → Nat) (qs : Nat) (ac : Nat → Nat) (au : Nat → Nat) (ax : Nat → Nat) (nn : Int32) (v : (Nat → Nat → Int32)) : LD l Γ yX4_firstShare wsX4_firstShare ({ frames := 1, cells := 0, slots := 0, locals := 22 }) [.ref q] [mnC q an ap qs ac au ax nn, plB Γ an v] (fX4_firstShare v) := by
  intro sz
  refine Met.ofW (cc := cX4_firstShare) (maxL := 2) (ret := (some .double)) (by decide) rfl ?_
  intro p e s m args below meth c s₁ B hml hv
  obtain ⟨rfl, hsz, hP, hK, hD0, hAm⟩ := hv
  have hx := B.exec
  have hb := B.bytes
  have hr := B.returns
  have hts := atoms_spec (ws := wsX4_firstShare) B.pre
  have hown : s.vm.findClass RX4 = some m.cls := findClass_of_methodNamed B.named
  have hlocks := B.notSynchronized
  subst hsz
  have hD := hD0.self (sz := s.heap.size)
  generalize hBe : va_A (wcat [mnC q an ap qs ac au ax nn, plB Γ an v]) s.heap.size = B0 at hD hAm
  obtain ⟨A, hAe⟩ : ∃ A, A = va_A [] s.heap.size := ⟨_, rfl⟩
  rw [← hAe]
  have hA : ∀ q : Nat, s.heap.size ≤ q → A q := fun q h => by rw [hAe]; exact Or.inr h
  have hAB : ∀ q : Nat, A q → B0 q := fun q h => by rw [hAe] at h; rw [← hBe]; exact Or.inr (wnone h)
  have hS : va_S A s.heap s.heap [] := va_S.rf
  have hl := lv_entry ([.ref q]) (n := 2) (Nat.le_of_ble_eq_true rfl)
  rw [lg_entry_eq]
  generalize (lg_sl ([.ref q]) ++ List.replicate (2 - (lg_sl ([.ref q])).length) Slot.unset).toArray = ls at hl ⊢
  have hl : lv_has ls 2 [(0, .ref q)] := hl
  have hi4 : ∀ w ∈ wsX40, w ∈ wsX4_firstShare := by decide +kernel
  have kf10 := hts (.fieldLink RX4 10 "CapsuleKeepers" "now" "LCapsuleKeepers$Place;") (by decide +kernel)
  have hq : (fX4_firstShare v) = (let y_1 := (fbit (fX2_sharesThere v)); (if y_1 = 0 then (FP.dconst1) else ((FP.ddiv (FP.i2d (fX2_sharesAtHome v)) (FP.i2d y_1))))) := rfl
  refine lv_aload_n hx hb dX4_firstShare_0 rfl (lv_at hl 0 rfl) ?_
  refine va_get (D := Γ.1) (ci := 4) (v := .ref (an 0)) (C := RX4) (T := TX4) (N := 7) hx hb hts hi4 hown hK hP 0 rfl rfl 0 (by decide) kf10 (fun _ h9 => h9) rfl dX4_firstShare_1 ?_
  refine cLI (va_runV (As := []) (rest := []) ⟨hx, hb, hml, hown, hts⟩ ((kX2_sharesThere l Γ an v) _) (cwV 0 hts gX4_firstShare_X2_sharesThere rfl rfl rfl (by decide +kernel) ⟨Nat.le_of_ble_eq_true rfl, Nat.le_of_ble_eq_true rfl⟩) ⟨wPre_blind, va_recv hK hP (ci := 2) (q0 := 1) rfl rfl, wPre_mk hP hD hK hS hA hAB hAm [1] rfl rfl⟩ rfl rfl hl.1 rfl (lv_room (Nat.le_of_ble_eq_true rfl)) dX4_firstShare_4 ⟨Nat.zero_le _, Nat.zero_le _⟩) hP hS hA (fun H locs hP hS => ?_)
  refine cLI (va_runS (As := [.int (fX2_sharesThere v)]) (rest := []) ⟨hx, hb, hml, hown, hts⟩ ((kJ6_bitCount_0f7a4 l Γ (fX2_sharesThere v)) _) (va_cwS 1 hts gX4_firstShare_J6_bitCount_0f7a4 rfl rfl rfl (by decide +kernel) ⟨Nat.le_of_ble_eq_true rfl, Nat.le_of_ble_eq_true rfl⟩) ⟨wPre_blind, wPre_mk hP hD hK hS hA hAB hAm [] rfl rfl⟩ rfl rfl hl.1 rfl (lv_room (Nat.le_of_ble_eq_true rfl)) dX4_firstShare_7 ⟨Nat.zero_le _, Nat.zero_le _⟩) hP hS hA (fun H locs hP hS => ?_)
  refine lv_topi (fun y_1 ey_1 => ?_)
  replace hq : (fX4_firstShare v) = (if y_1 = 0 then (FP.dconst1) else ((FP.ddiv (FP.i2d (fX2_sharesAtHome v)) (FP.i2d y_1)))) := hq.trans (by first | rw [ey_1] | rfl)
  refine lv_istore_n (lv' := [(1, .int y_1), (0, .ref q)]) hx hb dX4_firstShare_10 rfl hl (by decide) rfl (fun ls hl => ?_)
  refine lv_iload_n hx hb dX4_firstShare_11 rfl (lv_at hl 0 rfl) ?_
  refine lv_if_ne (tgt := 19) hx hb dX4_firstShare_12 (by decide) (fun c_2 => ?_) (fun c_2 => ?_)
  · have hq := hq.trans (if_neg c_2)
    refine lv_aload_n hx hb dX4_firstShare_19 rfl (lv_at hl 1 rfl) ?_
    refine va_get (D := Γ.1) (ci := 4) (v := .ref (an 0)) (C := RX4) (T := TX4) (N := 7) hx hb hts hi4 hown hK hP 0 rfl rfl 0 (by decide) kf10 (fun _ h9 => h9) rfl dX4_firstShare_20 ?_
    refine cLI (va_runV (As := []) (rest := []) ⟨hx, hb, hml, hown, hts⟩ ((kX2_sharesAtHome l Γ an v) _) (cwV 0 hts gX4_firstShare_X2_sharesAtHome rfl rfl rfl (by decide +kernel) ⟨Nat.le_of_ble_eq_true rfl, Nat.le_of_ble_eq_true rfl⟩) ⟨wPre_blind, va_recv hK hP (ci := 2) (q0 := 1) rfl rfl, wPre_mk hP hD hK hS hA hAB hAm [1] rfl rfl⟩ rfl rfl hl.1 rfl (lv_room (Nat.le_of_ble_eq_true rfl)) dX4_firstShare_23 ⟨Nat.zero_le _, Nat.zero_le _⟩) hP hS hA (fun H locs hP hS => ?_)
    refine lv_i2d hx hb dX4_firstShare_26 ?_
    refine lv_iload_n hx hb dX4_firstShare_27 rfl (lv_at hl 0 rfl) ?_
    refine lv_i2d hx hb dX4_firstShare_28 ?_
    refine lv_ddiv hx hb dX4_firstShare_29 (by obtain ⟨x, hx1, ex⟩ := homeB v; obtain ⟨y, hy1, ey⟩ := bitsB v; have hne : ¬ y_1 = 0 := (by assumption); have e2 : y_1 = nI y := ey_1.trans ey; exact e2 ▸ ex ▸ ddOK x hx1 y hy1 (fun q => hne (by rw [e2, q]; decide))) ?_
    exact W.dret (v := (FP.ddiv (FP.i2d (fX2_sharesAtHome v)) (FP.i2d y_1))) hx hb hr (fun t ht hW => eLD hS ht (by rw [hq])) hS.2.2 dX4_firstShare_30
  · have hq := hq.trans (if_pos c_2)
    refine lv_dconst1 hx hb dX4_firstShare_15 ?_
    refine lv_goto (tgt := 30) hx hb dX4_firstShare_16 (by decide) ?_
    exact W.dret (v := FP.dconst1) hx hb hr (fun t ht hW => eLD hS ht (by rw [hq])) hS.2.2 dX4_firstShare_30
def fX4_append (L : Nat) (cs : (Nat → Int32)) (ch : Int32) : Int32 × (Nat → Int32) × Int32 := ((fX1_add (L) cs ch).1, (fX1_add (L) cs ch).2.1, (fX1_add (L) cs ch).2.2)
set_option maxHeartbeats 4000000 in
set_option maxRecDepth 100000 in
theorem kX4_append (l : Launch) (Γ : wG) (q : Nat) (an : Nat → Nat) (ap : Nat → Nat) (qs : Nat) (ac : Nat → Nat) (au : Nat → Nat) (ax : Nat → Nat) (L : Nat) (nn : Int32) (cs : (Nat → Int32)) (ch : Int32) (hv : ¬ ch < nI 33) (hw : ch ≤ nI 126) (hL : L ≤ 60) (hf : nI L < nI 60) : MI l Γ yX4_append wsX4_append ({ frames := 1, cells := 0, slots := 0, locals := 22 }) [.ref q, .int ch] [mnC q an ap qs ac au ax nn, txB Γ ax cs (nI L)] [mnC q an ap qs ac au ax nn, txB Γ ax (fX4_append L cs ch).2.1 (fX4_append L cs ch).2.2] (fX4_append L cs ch).1 := by
  intro sz
  refine Met.ofW (cc := cX4_append) (maxL := 2) (ret := (some .int)) (by decide) rfl ?_
  intro p e s m args below meth c s₁ B hml hv
  obtain ⟨rfl, hsz, hP, hK, hD0, hAm⟩ := hv
  have hx := B.exec
  have hb := B.bytes
  have hr := B.returns
  have hts := atoms_spec (ws := wsX4_append) B.pre
  have hown : s.vm.findClass RX4 = some m.cls := findClass_of_methodNamed B.named
  have hlocks := B.notSynchronized
  subst hsz
  have hD := hD0.self (sz := s.heap.size)
  generalize hAe : va_A (wcat [mnC q an ap qs ac au ax nn, txB Γ ax cs (nI L)]) s.heap.size = A at hD hAm ⊢
  have hA : ∀ q : Nat, s.heap.size ≤ q → A q := fun q h => by rw [← hAe]; exact Or.inr h
  have hAB : ∀ q : Nat, A q → A q := fun _ h => h
  have hS : va_S A s.heap s.heap [] := va_S.rf
  have hl := lv_entry ([.ref q, .int ch]) (n := 2) (Nat.le_of_ble_eq_true rfl)
  rw [lg_entry_eq]
  generalize (lg_sl ([.ref q, .int ch]) ++ List.replicate (2 - (lg_sl ([.ref q, .int ch])).length) Slot.unset).toArray = ls at hl ⊢
  have hl : lv_has ls 2 [(0, .ref q), (1, .int ch)] := hl
  have hi1 : ∀ w ∈ wsX10, w ∈ wsX4_append := by decide +kernel
  have hi4 : ∀ w ∈ wsX40, w ∈ wsX4_append := by decide +kernel
  have kf44 := hts (.fieldLink RX4 44 "CapsuleKeepers" "text" "LCapsuleKeepers$DaysText;") (by decide +kernel)
  have hq : (fX4_append L cs ch) = ((fX1_add (L) cs ch).1, (fX1_add (L) cs ch).2.1, (fX1_add (L) cs ch).2.2) := rfl
  refine lv_iload_n hx hb dX4_append_0 rfl (lv_at hl 1 rfl) ?_
  refine lv_bipush (v := (nI 33)) hx hb dX4_append_1 (by decide) ?_
  refine lv_bipush (v := (nI 126)) hx hb dX4_append_3 (by decide) ?_
  refine cLV (va_runS (As := [.int ch, .int (nI 33), .int (nI 126)]) (rest := []) ⟨hx, hb, hml, hown, hts⟩ ((kX4_checkRange l Γ ch (nI 33) (nI 126) (by first | assumption | omega | decide) (by first | assumption | omega | decide)) _) (va_cwS 3 hts gX4_append_X4_checkRange rfl rfl rfl (by decide +kernel) ⟨Nat.le_of_ble_eq_true rfl, Nat.le_of_ble_eq_true rfl⟩) ⟨wPre_blind, wPre_mk hP hD hK hS hA hAB hAm [] rfl rfl⟩ rfl rfl hl.1 rfl (lv_room (Nat.le_of_ble_eq_true rfl)) dX4_append_5 ⟨Nat.zero_le _, Nat.zero_le _⟩) hP hS hA (fun H locs hP hS => ?_)
  refine lv_aload_n hx hb dX4_append_8 rfl (lv_at hl 0 rfl) ?_
  refine va_get (D := Γ.1) (ci := 4) (v := .ref (ax 0)) (C := RX4) (T := TX4) (N := 7) hx hb hts hi4 hown hK hP 0 rfl rfl 6 (by decide) kf44 (fun _ h9 => h9) rfl dX4_append_9 ?_
  refine va_getN (host := RX4) (D := Γ.1) (ci := 1) (v := .int (nI L)) (C := RX1) (T := TX1) (N := 2) hx hb hts hi1 hown hK hP 1 rfl rfl 1 (by decide) (va_Nw.use rfl hAm.1.2.2.2.2) (fun _ h9 => h9) rfl dX4_append_12 ?_
  refine lv_bipush (v := (nI 60)) hx hb dX4_append_15 (by decide) ?_
  refine lv_icmp_lt (tgt := 30) hx hb dX4_append_17 (by decide) (fun c_17 => ?_) (fun c_17 => absurd hf c_17)
  refine lv_aload_n hx hb dX4_append_30 rfl (lv_at hl 0 rfl) ?_
  refine va_get (D := Γ.1) (ci := 4) (v := .ref (ax 0)) (C := RX4) (T := TX4) (N := 7) hx hb hts hi4 hown hK hP 0 rfl rfl 6 (by decide) kf44 (fun _ h9 => h9) rfl dX4_append_31 ?_
  refine lv_iload_n hx hb dX4_append_34 rfl (lv_at hl 1 rfl) ?_
  refine cMI (bc' := [txB Γ ax (fX1_add (L) cs ch).2.1 (fX1_add (L) cs ch).2.2]) (va_runV (As := [.int ch]) (rest := []) ⟨hx, hb, hml, hown, hts⟩ ((kX1_add l Γ ax (L) cs ch (by first | assumption | omega | decide)) _) (cwV 1 hts gX4_append_X1_add rfl rfl rfl (by decide +kernel) ⟨Nat.le_of_ble_eq_true rfl, Nat.le_of_ble_eq_true rfl⟩) ⟨wPre_blind, va_recv hK hP (ci := 1) (q0 := 1) rfl rfl, wPre_mk hP hD hK hS hA hAB hAm [1] rfl rfl⟩ rfl rfl hl.1 rfl (lv_room (Nat.le_of_ble_eq_true rfl)) dX4_append_35 ⟨Nat.zero_le _, Nat.zero_le _⟩) hP hD hS hA [1] rfl rfl (bs' := [mnC q an ap qs ac au ax nn, txB Γ ax (fX1_add (L) cs ch).2.1 (fX1_add (L) cs ch).2.2]) rfl (fun H locs hP hD hS => ?_)
  exact W.iret (v := (fX1_add (L) cs ch).1) hx hb hr (fun t ht hW => eMI (by rw [hq]; exact hP) hS ht (by rw [hq])) hS.2.2 dX4_append_38
set_option maxHeartbeats 4000000 in
set_option maxRecDepth 100000 in
theorem tX4_append_a5 (l : Launch) (hfl : l.stackTraces = false) (Γ : wG) (q : Nat) (an : Nat → Nat) (ap : Nat → Nat) (qs : Nat) (ac : Nat → Nat) (au : Nat → Nat) (ax : Nat → Nat) (L : Nat) (nn : Int32) (cs : (Nat → Int32)) (ch : Int32) (hL : L ≤ 60) (hv : ch < nI 33) : TX l Γ yX4_append wsX4_append ({ frames := 7, cells := 1, slots := 6, locals := 112 }) [.ref q, .int ch] [mnC q an ap qs ac au ax nn, txB Γ ax cs (nI L)] "java/lang/IllegalArgumentException" := by
  intro sz
  refine vx_ofW (cc := cX4_append) (maxL := 2) (ret := (some .int)) (by decide) rfl ?_
  intro p e s m args below meth c s₁ B hml hnt hv
  obtain ⟨rfl, hsz, hP, hK, hD0, hAm⟩ := hv
  have hx := B.exec
  have hb := B.bytes
  have hr := B.returns
  have hts := atoms_spec (ws := wsX4_append) B.pre
  have hown : s.vm.findClass RX4 = some m.cls := findClass_of_methodNamed B.named
  have hlocks := B.notSynchronized
  subst hsz
  have hD := hD0.self (sz := s.heap.size)
  generalize hBe : va_A (wcat [mnC q an ap qs ac au ax nn, txB Γ ax cs (nI L)]) s.heap.size = B0 at hD hAm
  obtain ⟨A, hAe⟩ : ∃ A, A = va_A [] s.heap.size := ⟨_, rfl⟩
  rw [← hAe]
  have hA : ∀ q : Nat, s.heap.size ≤ q → A q := fun q h => by rw [hAe]; exact Or.inr h
  have hAB : ∀ q : Nat, A q → B0 q := fun q h => by rw [hAe] at h; rw [← hBe]; exact Or.inr (wnone h)
  have hS : va_S A s.heap s.heap [] := va_S.rf
  have hl := lv_entry ([.ref q, .int ch]) (n := 2) (Nat.le_of_ble_eq_true rfl)
  rw [lg_entry_eq]
  generalize (lg_sl ([.ref q, .int ch]) ++ List.replicate (2 - (lg_sl ([.ref q, .int ch])).length) Slot.unset).toArray = ls at hl ⊢
  have hl : lv_has ls 2 [(0, .ref q), (1, .int ch)] := hl
  refine lv_iload_n hx hb dX4_append_0 rfl (lv_at hl 1 rfl) ?_
  refine lv_bipush (v := (nI 33)) hx hb dX4_append_1 (by decide) ?_
  refine lv_bipush (v := (nI 126)) hx hb dX4_append_3 (by decide) ?_
  exact tTX (E := "java/lang/IllegalArgumentException") (vx_runS (As := [.int ch, .int (nI 33), .int (nI 126)]) (rest := []) ⟨hx, hb, hml, hown, hts⟩ ((tX4_checkRange_a l hfl Γ ch (nI 33) (nI 126) (by first | assumption | omega | decide)) _) (va_cwS 3 hts gX4_append_X4_checkRange rfl rfl rfl (by decide +kernel) ⟨Nat.le_of_ble_eq_true rfl, Nat.le_of_ble_eq_true rfl⟩) ⟨wPre_blind, wPre_mk hP hD hK hS hA hAB hAm [] rfl rfl⟩ rfl rfl hl.1 rfl (lv_room (Nat.le_of_ble_eq_true rfl)) dX4_append_5 ⟨Nat.le_of_ble_eq_true rfl, Nat.le_of_ble_eq_true rfl⟩) hS hA (fun ce q9 H1 locs1 h1 h2 hS hc hv hcl => vx_out (fun x hx => (hnt x hx).elim) hlocks hc hv hcl (fun t ht ha => ⟨(), trivial, rfl, hS.F ht⟩) hS.2.2 (Nat.le_of_ble_eq_true rfl) (Nat.le_of_ble_eq_true rfl))
set_option maxHeartbeats 4000000 in
set_option maxRecDepth 100000 in
theorem tX4_append_b5 (l : Launch) (hfl : l.stackTraces = false) (Γ : wG) (q : Nat) (an : Nat → Nat) (ap : Nat → Nat) (qs : Nat) (ac : Nat → Nat) (au : Nat → Nat) (ax : Nat → Nat) (L : Nat) (nn : Int32) (cs : (Nat → Int32)) (ch : Int32) (hL : L ≤ 60) (hv : ¬ ch < nI 33) (hw : ¬ ch ≤ nI 126) : TX l Γ yX4_append wsX4_append ({ frames := 7, cells := 1, slots := 6, locals := 112 }) [.ref q, .int ch] [mnC q an ap qs ac au ax nn, txB Γ ax cs (nI L)] "java/lang/IllegalArgumentException" := by
  intro sz
  refine vx_ofW (cc := cX4_append) (maxL := 2) (ret := (some .int)) (by decide) rfl ?_
  intro p e s m args below meth c s₁ B hml hnt hv
  obtain ⟨rfl, hsz, hP, hK, hD0, hAm⟩ := hv
  have hx := B.exec
  have hb := B.bytes
  have hr := B.returns
  have hts := atoms_spec (ws := wsX4_append) B.pre
  have hown : s.vm.findClass RX4 = some m.cls := findClass_of_methodNamed B.named
  have hlocks := B.notSynchronized
  subst hsz
  have hD := hD0.self (sz := s.heap.size)
  generalize hBe : va_A (wcat [mnC q an ap qs ac au ax nn, txB Γ ax cs (nI L)]) s.heap.size = B0 at hD hAm
  obtain ⟨A, hAe⟩ : ∃ A, A = va_A [] s.heap.size := ⟨_, rfl⟩
  rw [← hAe]
  have hA : ∀ q : Nat, s.heap.size ≤ q → A q := fun q h => by rw [hAe]; exact Or.inr h
  have hAB : ∀ q : Nat, A q → B0 q := fun q h => by rw [hAe] at h; rw [← hBe]; exact Or.inr (wnone h)
  have hS : va_S A s.heap s.heap [] := va_S.rf
  have hl := lv_entry ([.ref q, .int ch]) (n := 2) (Nat.le_of_ble_eq_true rfl)
  rw [lg_entry_eq]
  generalize (lg_sl ([.ref q, .int ch]) ++ List.replicate (2 - (lg_sl ([.ref q, .int ch])).length) Slot.unset).toArray = ls at hl ⊢
  have hl : lv_has ls 2 [(0, .ref q), (1, .int ch)] := hl
  refine lv_iload_n hx hb dX4_append_0 rfl (lv_at hl 1 rfl) ?_
  refine lv_bipush (v := (nI 33)) hx hb dX4_append_1 (by decide) ?_
  refine lv_bipush (v := (nI 126)) hx hb dX4_append_3 (by decide) ?_
  exact tTX (E := "java/lang/IllegalArgumentException") (vx_runS (As := [.int ch, .int (nI 33), .int (nI 126)]) (rest := []) ⟨hx, hb, hml, hown, hts⟩ ((tX4_checkRange_b l hfl Γ ch (nI 33) (nI 126) (by first | assumption | omega | decide) (by first | assumption | omega | decide)) _) (va_cwS 3 hts gX4_append_X4_checkRange rfl rfl rfl (by decide +kernel) ⟨Nat.le_of_ble_eq_true rfl, Nat.le_of_ble_eq_true rfl⟩) ⟨wPre_blind, wPre_mk hP hD hK hS hA hAB hAm [] rfl rfl⟩ rfl rfl hl.1 rfl (lv_room (Nat.le_of_ble_eq_true rfl)) dX4_append_5 ⟨Nat.le_of_ble_eq_true rfl, Nat.le_of_ble_eq_true rfl⟩) hS hA (fun ce q9 H1 locs1 h1 h2 hS hc hv hcl => vx_out (fun x hx => (hnt x hx).elim) hlocks hc hv hcl (fun t ht ha => ⟨(), trivial, rfl, hS.F ht⟩) hS.2.2 (Nat.le_of_ble_eq_true rfl) (Nat.le_of_ble_eq_true rfl))
set_option maxHeartbeats 4000000 in
set_option maxRecDepth 100000 in
theorem tX4_append_c (l : Launch) (hfl : l.stackTraces = false) (Γ : wG) (q : Nat) (an : Nat → Nat) (ap : Nat → Nat) (qs : Nat) (ac : Nat → Nat) (au : Nat → Nat) (ax : Nat → Nat) (L : Nat) (nn : Int32) (cs : (Nat → Int32)) (ch : Int32) (hv : ¬ ch < nI 33) (hw : ch ≤ nI 126) (hL : L ≤ 60) (hf : ¬ nI L < nI 60) : TX l Γ yX4_append wsX4_append ({ frames := 6, cells := 1, slots := 6, locals := 90 }) [.ref q, .int ch] [mnC q an ap qs ac au ax nn, txB Γ ax cs (nI L)] "java/lang/IllegalStateException" := by
  intro sz
  refine vx_ofW (cc := cX4_append) (maxL := 2) (ret := (some .int)) (by decide) rfl ?_
  intro p e s m args below meth c s₁ B hml hnt hv
  obtain ⟨rfl, hsz, hP, hK, hD0, hAm⟩ := hv
  have hx := B.exec
  have hb := B.bytes
  have hr := B.returns
  have hts := atoms_spec (ws := wsX4_append) B.pre
  have hown : s.vm.findClass RX4 = some m.cls := findClass_of_methodNamed B.named
  have hlocks := B.notSynchronized
  subst hsz
  have hD := hD0.self (sz := s.heap.size)
  generalize hBe : va_A (wcat [mnC q an ap qs ac au ax nn, txB Γ ax cs (nI L)]) s.heap.size = B0 at hD hAm
  obtain ⟨A, hAe⟩ : ∃ A, A = va_A [] s.heap.size := ⟨_, rfl⟩
  rw [← hAe]
  have hA : ∀ q : Nat, s.heap.size ≤ q → A q := fun q h => by rw [hAe]; exact Or.inr h
  have hAB : ∀ q : Nat, A q → B0 q := fun q h => by rw [hAe] at h; rw [← hBe]; exact Or.inr (wnone h)
  have hS : va_S A s.heap s.heap [] := va_S.rf
  have hl := lv_entry ([.ref q, .int ch]) (n := 2) (Nat.le_of_ble_eq_true rfl)
  rw [lg_entry_eq]
  generalize (lg_sl ([.ref q, .int ch]) ++ List.replicate (2 - (lg_sl ([.ref q, .int ch])).length) Slot.unset).toArray = ls at hl ⊢
  have hl : lv_has ls 2 [(0, .ref q), (1, .int ch)] := hl
  have hi1 : ∀ w ∈ wsX10, w ∈ wsX4_append := by decide +kernel
  have hi4 : ∀ w ∈ wsX40, w ∈ wsX4_append := by decide +kernel
  have kf44 := hts (.fieldLink RX4 44 "CapsuleKeepers" "text" "LCapsuleKeepers$DaysText;") (by decide +kernel)
  refine lv_iload_n hx hb dX4_append_0 rfl (lv_at hl 1 rfl) ?_
  refine lv_bipush (v := (nI 33)) hx hb dX4_append_1 (by decide) ?_
  refine lv_bipush (v := (nI 126)) hx hb dX4_append_3 (by decide) ?_
  refine cLV (va_runS (As := [.int ch, .int (nI 33), .int (nI 126)]) (rest := []) ⟨hx, hb, hml, hown, hts⟩ ((kX4_checkRange l Γ ch (nI 33) (nI 126) (by first | assumption | omega | decide) (by first | assumption | omega | decide)) _) (va_cwS 3 hts gX4_append_X4_checkRange rfl rfl rfl (by decide +kernel) ⟨Nat.le_of_ble_eq_true rfl, Nat.le_of_ble_eq_true rfl⟩) ⟨wPre_blind, wPre_mk hP hD hK hS hA hAB hAm [] rfl rfl⟩ rfl rfl hl.1 rfl (lv_room (Nat.le_of_ble_eq_true rfl)) dX4_append_5 ⟨Nat.zero_le _, Nat.zero_le _⟩) hP hS hA (fun H locs hP hS => ?_)
  refine lv_aload_n hx hb dX4_append_8 rfl (lv_at hl 0 rfl) ?_
  refine va_get (D := Γ.1) (ci := 4) (v := .ref (ax 0)) (C := RX4) (T := TX4) (N := 7) hx hb hts hi4 hown hK hP 0 rfl rfl 6 (by decide) kf44 (fun _ h9 => h9) rfl dX4_append_9 ?_
  refine va_getN (host := RX4) (D := Γ.1) (ci := 1) (v := .int (nI L)) (C := RX1) (T := TX1) (N := 2) hx hb hts hi1 hown hK hP 1 rfl rfl 1 (by decide) (va_Nw.use rfl hAm.1.2.2.2.2) (fun _ h9 => h9) rfl dX4_append_12 ?_
  refine lv_bipush (v := (nI 60)) hx hb dX4_append_15 (by decide) ?_
  refine lv_icmp_lt (tgt := 30) hx hb dX4_append_17 (by decide) (fun c_17 => absurd c_17 hf) (fun c_17 => ?_)
  obtain ⟨sx, hstr⟩ := hAm.2.2.2.2.1 (148, "the buffer has 60 characters") (by decide +kernel)
  exact vx_throwS (names := nm2) (A := A) hx hb hfl hown (by decide +kernel) (by decide +kernel) (hts (.classLink RX4 51 "java/lang/IllegalStateException") (by decide +kernel)) (hts (.initialized "java/lang/IllegalStateException") (by decide +kernel)) hstr (thr_hat hAm (by decide +kernel) (by decide +kernel) (fun w hw => hts w ((by decide +kernel : ∀ w ∈ (vx_atS RX4 55 "java/lang/IllegalStateException" nm2).filter goodWord, w ∈ wsX4_append) w hw))) (by decide +kernel) ((hAm.narrow hAB).2.2.1) ((hAm.narrow hAB).2.2.2.1) hS (by rw [hml]; exact hl.1) dX4_append_20 dX4_append_23 dX4_append_24 dX4_append_26 dX4_append_29 (fun x hx => (hnt x hx).elim) (Nat.le_of_ble_eq_true rfl) (Nat.le_of_ble_eq_true rfl) (Nat.le_of_ble_eq_true rfl) (Nat.le_of_ble_eq_true rfl) hlocks (fun t _ h1 h2 => ⟨(), trivial, rfl, xF hS h1 h2⟩) hS.2.2 (Nat.le_of_ble_eq_true rfl) (Nat.le_of_ble_eq_true rfl)
def fX4_firstError (L : Nat) (cs : (Nat → Int32)) : Int32 := ((fX1_errorIndex (L) cs))
set_option maxHeartbeats 4000000 in
set_option maxRecDepth 100000 in
theorem kX4_firstError (l : Launch) (Γ : wG) (q : Nat) (an : Nat → Nat) (ap : Nat → Nat) (qs : Nat) (ac : Nat → Nat) (au : Nat → Nat) (ax : Nat → Nat) (L : Nat) (nn : Int32) (cs : (Nat → Int32)) (hL : L ≤ 60) : LI l Γ yX4_firstError wsX4_firstError ({ frames := 3, cells := 0, slots := 0, locals := 63 }) [.ref q] [mnC q an ap qs ac au ax nn, txB Γ ax cs (nI L)] (fX4_firstError L cs) := by
  intro sz
  refine Met.ofW (cc := cX4_firstError) (maxL := 1) (ret := (some .int)) (by decide) rfl ?_
  intro p e s m args below meth c s₁ B hml hv
  obtain ⟨rfl, hsz, hP, hK, hD0, hAm⟩ := hv
  have hx := B.exec
  have hb := B.bytes
  have hr := B.returns
  have hts := atoms_spec (ws := wsX4_firstError) B.pre
  have hown : s.vm.findClass RX4 = some m.cls := findClass_of_methodNamed B.named
  have hlocks := B.notSynchronized
  subst hsz
  have hD := hD0.self (sz := s.heap.size)
  generalize hBe : va_A (wcat [mnC q an ap qs ac au ax nn, txB Γ ax cs (nI L)]) s.heap.size = B0 at hD hAm
  obtain ⟨A, hAe⟩ : ∃ A, A = va_A [] s.heap.size := ⟨_, rfl⟩
  rw [← hAe]
  have hA : ∀ q : Nat, s.heap.size ≤ q → A q := fun q h => by rw [hAe]; exact Or.inr h
  have hAB : ∀ q : Nat, A q → B0 q := fun q h => by rw [hAe] at h; rw [← hBe]; exact Or.inr (wnone h)
  have hS : va_S A s.heap s.heap [] := va_S.rf
  have hl := lv_entry ([.ref q]) (n := 1) (Nat.le_of_ble_eq_true rfl)
  rw [lg_entry_eq]
  generalize (lg_sl ([.ref q]) ++ List.replicate (1 - (lg_sl ([.ref q])).length) Slot.unset).toArray = ls at hl ⊢
  have hl : lv_has ls 1 [(0, .ref q)] := hl
  have hi4 : ∀ w ∈ wsX40, w ∈ wsX4_firstError := by decide +kernel
  have kf44 := hts (.fieldLink RX4 44 "CapsuleKeepers" "text" "LCapsuleKeepers$DaysText;") (by decide +kernel)
  have hq : (fX4_firstError L cs) = ((fX1_errorIndex (L) cs)) := rfl
  refine lv_aload_n hx hb dX4_firstError_0 rfl (lv_at hl 0 rfl) ?_
  refine va_get (D := Γ.1) (ci := 4) (v := .ref (ax 0)) (C := RX4) (T := TX4) (N := 7) hx hb hts hi4 hown hK hP 0 rfl rfl 6 (by decide) kf44 (fun _ h9 => h9) rfl dX4_firstError_1 ?_
  refine cLI (va_runV (As := []) (rest := []) ⟨hx, hb, hml, hown, hts⟩ ((kX1_errorIndex l Γ ax (L) cs (by first | assumption | omega | decide)) _) (cwV 0 hts gX4_firstError_X1_errorIndex rfl rfl rfl (by decide +kernel) ⟨Nat.le_of_ble_eq_true rfl, Nat.le_of_ble_eq_true rfl⟩) ⟨wPre_blind, va_recv hK hP (ci := 1) (q0 := 1) rfl rfl, wPre_mk hP hD hK hS hA hAB hAm [1] rfl rfl⟩ rfl rfl hl.1 rfl (lv_room (Nat.le_of_ble_eq_true rfl)) dX4_firstError_4 ⟨Nat.zero_le _, Nat.zero_le _⟩) hP hS hA (fun H locs hP hS => ?_)
  exact W.iret (v := (fX1_errorIndex (L) cs)) hx hb hr (fun t ht hW => eLI hS ht (by rw [hq])) hS.2.2 dX4_firstError_7
def fX4_bitsOf_L18 : Nat → Nat → UInt64 → Int64 → Int64
  | 0, i18, x2_18, x4_18 => (let y_2 := (FP.d2l (FP.dmul (FP.dsub x2_18 FP.dconst1) (4841369599423283200 : UInt64))); (((x4_18 <<< ((nI 52).toInt64 &&& 63)) + y_2)))
  | n18 + 1, i18, x2_18, x4_18 => (if 0 ≤ (Op.cmpValue (FP.dcmp x2_18 FP.dconst1) .g) then (let y_4 := (FP.d2l (FP.dmul (FP.dsub x2_18 FP.dconst1) (4841369599423283200 : UInt64))); (((x4_18 <<< ((nI 52).toInt64 &&& 63)) + y_4))) else (fX4_bitsOf_L18 n18 (i18 + 1) (FP.dmul x2_18 (4611686018427387904 : UInt64)) (x4_18 - (1 : Int64))))
def fX4_bitsOf (dd : UInt64) : Int64 := (if 0 < (Op.cmpValue (FP.dcmp dd FP.dconst0) .g) then (fX4_bitsOf_L18 (1000) 0 dd (1023 : Int64)) else ((0 : Int64)))
set_option maxHeartbeats 4000000 in
set_option maxRecDepth 100000 in
theorem kX4_bitsOf (l : Launch) (Γ : wG) (dd : UInt64) (hd : dd ∈ dS) : LL l Γ yX4_bitsOf wsX4_bitsOf ({ frames := 0, cells := 0, slots := 0, locals := 0 }) [.double dd] [] (fX4_bitsOf dd) := by
  intro sz
  refine Met.ofW (cc := cX4_bitsOf) (maxL := 8) (ret := (some .long)) (by decide) rfl ?_
  intro p e s m args below meth c s₁ B hml hv
  obtain ⟨rfl, hsz, hP, hK, hD0, hAm⟩ := hv
  have hx := B.exec
  have hb := B.bytes
  have hr := B.returns
  have hts := atoms_spec (ws := wsX4_bitsOf) B.pre
  have hown : s.vm.findClass RX4 = some m.cls := findClass_of_methodNamed B.named
  have hlocks := B.notSynchronized
  subst hsz
  have hD := hD0.self (sz := s.heap.size)
  generalize hBe : va_A (wcat []) s.heap.size = B0 at hD hAm
  obtain ⟨A, hAe⟩ : ∃ A, A = va_A [] s.heap.size := ⟨_, rfl⟩
  rw [← hAe]
  have hA : ∀ q : Nat, s.heap.size ≤ q → A q := fun q h => by rw [hAe]; exact Or.inr h
  have hAB : ∀ q : Nat, A q → B0 q := fun q h => by rw [hAe] at h; rw [← hBe]; exact Or.inr (wnone h)
  have hS : va_S A s.heap s.heap [] := va_S.rf
  have hl := lv_entry ([.double dd]) (n := 8) (Nat.le_of_ble_eq_true rfl)
  rw [lg_entry_eq]
  generalize (lg_sl ([.double dd]) ++ List.replicate (8 - (lg_sl ([.double dd])).length) Slot.unset).toArray = ls at hl ⊢
  have hl : lv_has ls 8 [(0, .double dd)] := hl
  have kc373 := hts (.constantLong RX4 373 (1023)) (by decide +kernel)
  have kc375 := hts (.constantDouble RX4 375 (4611686018427387904)) (by decide +kernel)
  have kc377 := hts (.constantDouble RX4 377 (4841369599423283200)) (by decide +kernel)
  have hq : (fX4_bitsOf dd) = (if 0 < (Op.cmpValue (FP.dcmp dd FP.dconst0) .g) then (fX4_bitsOf_L18 (1000) 0 dd (1023 : Int64)) else ((0 : Int64))) := rfl
  refine lv_dload_n hx hb dX4_bitsOf_0 rfl (lv_at hl 0 rfl) ?_
  refine lv_dconst0 hx hb dX4_bitsOf_1 ?_
  refine lv_dcmp hx hb dX4_bitsOf_2 ?_
  refine lv_if_gt (tgt := 8) hx hb dX4_bitsOf_3 (by decide) (fun c_1 => ?_) (fun c_1 => ?_)
  · have hq := hq.trans (if_pos c_1)
    refine lv_dload_n hx hb dX4_bitsOf_8 rfl (lv_at hl 0 rfl) ?_
    refine lv_dstore_n (lv' := [(2, .double dd), (0, .double dd)]) hx hb dX4_bitsOf_9 rfl hl (by decide) rfl (fun ls hl => ?_)
    refine lv_ldc2 (v := 1023) hx hb hown kc373 dX4_bitsOf_10 ?_
    refine lv_lstore (lv' := [(4, .long (1023 : Int64)), (2, .double dd), (0, .double dd)]) hx hb dX4_bitsOf_13 hl (by decide) rfl (fun ls hl => ?_)
    refine lv_iconst (v := (nI 0)) hx hb dX4_bitsOf_15 (by decide) ?_
    refine lv_istore (lv' := [(6, .int (nI 0)), (4, .long (1023 : Int64)), (2, .double dd), (0, .double dd)]) hx hb dX4_bitsOf_16 hl (by decide) rfl (fun ls hl => ?_)
    refine wl (pc := 18) (σ := Nat × UInt64 × Int64) (fun n (i18, x2_18, x4_18) H locs ls => (i18 + n = 1000 ∧ x2_18 ∈ dS) ∧ (fX4_bitsOf dd) = fX4_bitsOf_L18 n i18 x2_18 x4_18 ∧ va_P Γ.1 vwCl (wcat []) H ∧ va_S A s.heap H locs ∧ lv_has ls 8 [(6, .int (nI i18)), (4, .long x4_18), (2, .double x2_18), (0, .double dd)]) ?_ ?_ (1000) (0, dd, (1023 : Int64)) _ _ _ ⟨⟨by omega, hd⟩, hq, hP, hS, lv_sub hl [0, 1, 2, 3] rfl⟩
    · intro ⟨i18, x2_18, x4_18⟩ H locs ls h
      obtain ⟨hn18, hq, hP, hS, hl⟩ := h
      try dsimp only at hn18 hq hP hl
      obtain ⟨hn18, hS18⟩ := hn18
      replace hq : (fX4_bitsOf dd) = (let y_2 := (FP.d2l (FP.dmul (FP.dsub x2_18 FP.dconst1) (4841369599423283200 : UInt64))); (((x4_18 <<< ((nI 52).toInt64 &&& 63)) + y_2))) := hq
      refine lv_iload hx hb dX4_bitsOf_18 (lv_at hl 0 rfl) ?_
      refine lv_sipush (v := (nI 1000)) hx hb dX4_bitsOf_20 (by decide) ?_
      refine lv_icmp_ge (tgt := 50) hx hb dX4_bitsOf_23 (by decide) (fun c_23 => ?_) (fun c_23 => absurd (nI_le (by omega) (by omega)) c_23)
      refine lv_dload_n hx hb dX4_bitsOf_50 rfl (lv_at hl 2 rfl) ?_
      refine lv_dconst1 hx hb dX4_bitsOf_51 ?_
      refine lv_dsub hx hb dX4_bitsOf_52 (dS_all _ hS18).1.2.1 ?_
      refine lv_ldc2d (v := 4841369599423283200) hx hb hown kc377 dX4_bitsOf_53 ?_
      refine lv_dmul hx hb dX4_bitsOf_56 (dS_all _ hS18).1.2.2 ?_
      refine lv_d2l hx hb dX4_bitsOf_57 ?_
      refine lv_topl (fun y_2 ey_2 => ?_)
      replace hq : (fX4_bitsOf dd) = (((x4_18 <<< ((nI 52).toInt64 &&& 63)) + y_2)) := hq.trans (by first | rw [ey_2] | rfl)
      refine lv_lstore (lv' := [(6, .long y_2), (4, .long x4_18), (2, .double x2_18), (0, .double dd)]) hx hb dX4_bitsOf_58 hl (by decide) rfl (fun ls hl => ?_)
      refine lv_lload hx hb dX4_bitsOf_60 (lv_at hl 1 rfl) ?_
      refine lv_bipush (v := (nI 52)) hx hb dX4_bitsOf_62 (by decide) ?_
      refine lv_lshl (v := (x4_18 <<< ((nI 52).toInt64 &&& 63))) hx hb dX4_bitsOf_64 rfl ?_
      refine lv_lload hx hb dX4_bitsOf_65 (lv_at hl 0 rfl) ?_
      refine lv_ladd hx hb dX4_bitsOf_67 ?_
      exact W.lret (v := ((x4_18 <<< ((nI 52).toInt64 &&& 63)) + y_2)) hx hb hr (fun t ht hW => eLL hS ht (by rw [hq])) hS.2.2 dX4_bitsOf_68
    · intro n18 ih18 ⟨i18, x2_18, x4_18⟩ H locs ls h
      obtain ⟨hn18, hq, hP, hS, hl⟩ := h
      try dsimp only at hn18 hq hP hl
      obtain ⟨hn18, hS18⟩ := hn18
      replace hq : (fX4_bitsOf dd) = (if 0 ≤ (Op.cmpValue (FP.dcmp x2_18 FP.dconst1) .g) then (let y_4 := (FP.d2l (FP.dmul (FP.dsub x2_18 FP.dconst1) (4841369599423283200 : UInt64))); (((x4_18 <<< ((nI 52).toInt64 &&& 63)) + y_4))) else (fX4_bitsOf_L18 n18 (i18 + 1) (FP.dmul x2_18 (4611686018427387904 : UInt64)) (x4_18 - (1 : Int64)))) := hq
      refine lv_iload hx hb dX4_bitsOf_18 (lv_at hl 0 rfl) ?_
      refine lv_sipush (v := (nI 1000)) hx hb dX4_bitsOf_20 (by decide) ?_
      refine lv_icmp_ge (tgt := 50) hx hb dX4_bitsOf_23 (by decide) (fun c_23 => absurd c_23 (nI_ge (by omega) (by omega))) (fun c_23 => ?_)
      refine lv_dload_n hx hb dX4_bitsOf_26 rfl (lv_at hl 2 rfl) ?_
      refine lv_dconst1 hx hb dX4_bitsOf_27 ?_
      refine lv_dcmp hx hb dX4_bitsOf_28 ?_
      refine lv_if_ge (tgt := 50) hx hb dX4_bitsOf_29 (by decide) (fun c_3 => ?_) (fun c_3 => ?_)
      · have hq := hq.trans (if_pos c_3)
        refine lv_dload_n hx hb dX4_bitsOf_50 rfl (lv_at hl 2 rfl) ?_
        refine lv_dconst1 hx hb dX4_bitsOf_51 ?_
        refine lv_dsub hx hb dX4_bitsOf_52 (dS_all _ hS18).1.2.1 ?_
        refine lv_ldc2d (v := 4841369599423283200) hx hb hown kc377 dX4_bitsOf_53 ?_
        refine lv_dmul hx hb dX4_bitsOf_56 (dS_all _ hS18).1.2.2 ?_
        refine lv_d2l hx hb dX4_bitsOf_57 ?_
        refine lv_topl (fun y_4 ey_4 => ?_)
        replace hq : (fX4_bitsOf dd) = (((x4_18 <<< ((nI 52).toInt64 &&& 63)) + y_4)) := hq.trans (by first | rw [ey_4] | rfl)
        refine lv_lstore (lv' := [(6, .long y_4), (4, .long x4_18), (2, .double x2_18), (0, .double dd)]) hx hb dX4_bitsOf_58 hl (by decide) rfl (fun ls hl => ?_)
        refine lv_lload hx hb dX4_bitsOf_60 (lv_at hl 1 rfl) ?_
        refine lv_bipush (v := (nI 52)) hx hb dX4_bitsOf_62 (by decide) ?_
        refine lv_lshl (v := (x4_18 <<< ((nI 52).toInt64 &&& 63))) hx hb dX4_bitsOf_64 rfl ?_
        refine lv_lload hx hb dX4_bitsOf_65 (lv_at hl 0 rfl) ?_
        refine lv_ladd hx hb dX4_bitsOf_67 ?_
        exact W.lret (v := ((x4_18 <<< ((nI 52).toInt64 &&& 63)) + y_4)) hx hb hr (fun t ht hW => eLL hS ht (by rw [hq])) hS.2.2 dX4_bitsOf_68
      · have hq := hq.trans (if_neg c_3)
        refine lv_dload_n hx hb dX4_bitsOf_32 rfl (lv_at hl 2 rfl) ?_
        refine lv_ldc2d (v := 4611686018427387904) hx hb hown kc375 dX4_bitsOf_33 ?_
        refine lv_dmul hx hb dX4_bitsOf_36 (dS_all _ hS18).1.1 ?_
        refine lv_dstore_n (lv' := [(2, .double (FP.dmul x2_18 (4611686018427387904 : UInt64))), (6, .int (nI i18)), (4, .long x4_18), (0, .double dd)]) hx hb dX4_bitsOf_37 rfl hl (by decide) rfl (fun ls hl => ?_)
        refine lv_lload hx hb dX4_bitsOf_38 (lv_at hl 2 rfl) ?_
        refine lv_lconst (v := 1) hx hb dX4_bitsOf_40 (by decide) ?_
        refine lv_lsub hx hb dX4_bitsOf_41 ?_
        refine lv_lstore (lv' := [(4, .long (x4_18 - (1 : Int64))), (2, .double (FP.dmul x2_18 (4611686018427387904 : UInt64))), (6, .int (nI i18)), (0, .double dd)]) hx hb dX4_bitsOf_42 hl (by decide) rfl (fun ls hl => ?_)
        refine lv_iinc (v := (nI (i18 + 1))) (lv' := [(6, .int (nI (i18 + 1))), (4, .long (x4_18 - (1 : Int64))), (2, .double (FP.dmul x2_18 (4611686018427387904 : UInt64))), (0, .double dd)]) hx hb dX4_bitsOf_44 hl (k := 2) rfl (nI_1 _) (by decide) rfl (fun ls hl => ?_)
        refine lv_goto (tgt := 18) hx hb dX4_bitsOf_47 (by decide) ?_
        exact ih18 ((i18 + 1), (FP.dmul x2_18 (4611686018427387904 : UInt64)), (x4_18 - (1 : Int64))) H locs ls ⟨⟨by omega, (dS_all _ hS18).2 (by assumption)⟩, hq, hP, hS, lv_sub hl [0, 1, 2, 3] rfl⟩
  · have hq := hq.trans (if_neg c_1)
    refine lv_lconst (v := 0) hx hb dX4_bitsOf_6 (by decide) ?_
    exact W.lret (v := (0 : Int64)) hx hb hr (fun t ht hW => eLL hS ht (by rw [hq])) hS.2.2 dX4_bitsOf_7
def fX4_carryOut (L : Nat) (Qn : Nat) (v : (Nat → Nat → Int32)) (ck : (Nat → Int32)) (cs : (Nat → Int32)) (kt : Nat) : Int32 × (Nat → Nat → Int32) × (Nat → Int32) := (let y_1 := (fX1_digit (L) cs (nI (kt + 1))); (let y_2 := (fX1_digit (L) cs (nI (kt + 3))); (let r_3 := (fX1_code (L) cs (nI kt)); (if r_3 = (nI 100) then ((fX4_buryIfAlive v y_1).1, (fX4_buryIfAlive v y_1).2, ck) else (if r_3 = (nI 104) then ((fX4_nameIfFree v y_1 y_2).1, (fX4_nameIfFree v y_1 y_2).2, ck) else (if r_3 = (nI 113) then ((fX4_toggleIfThere v y_1 y_2).1, (fX4_toggleIfThere v y_1 y_2).2, ck) else (if r_3 = (nI 116) then (let r_8 := (fX1_number (L) cs (kt + 1)); ((fX4_passIfInTime v r_8).1, (fX4_passIfInTime v r_8).2, ck)) else ((fX4_renewIfShut Qn v ck).1, (fX4_renewIfShut Qn v ck).2.1, (fX4_renewIfShut Qn v ck).2.2))))))))
set_option maxHeartbeats 4000000 in
set_option maxRecDepth 100000 in
theorem kX4_carryOut (l : Launch) (Γ : wG) (q : Nat) (an : Nat → Nat) (ap : Nat → Nat) (qs : Nat) (ac : Nat → Nat) (au : Nat → Nat) (ax : Nat → Nat) (L : Nat) (Qn : Nat) (nn : Int32) (v : (Nat → Nat → Int32)) (ck : (Nat → Int32)) (cs : (Nat → Int32)) (kt : Nat) (hqv : v 0 4 = nI 1 → v 0 6 = nI Qn) (hq1 : 1 ≤ Qn) (hq8 : Qn ≤ 8) (hL : L ≤ 60) (hkt : kt < 60) : MI l Γ yX4_carryOut wsX4_carryOut ({ frames := 5, cells := 0, slots := 0, locals := 106 }) [.ref q, .int (nI kt)] [mnC q an ap qs ac au ax nn, plB Γ an v, cuB Γ ac ck, txB Γ ax cs (nI L)] [mnC q an ap qs ac au ax nn, plB Γ an (fX4_carryOut L Qn v ck cs kt).2.1, cuB Γ ac (fX4_carryOut L Qn v ck cs kt).2.2, txB Γ ax cs (nI L)] (fX4_carryOut L Qn v ck cs kt).1 := by
  intro sz
  refine Met.ofW (cc := cX4_carryOut) (maxL := 4) (ret := (some .boolean)) (by decide) rfl ?_
  intro p e s m args below meth c s₁ B hml hv
  obtain ⟨rfl, hsz, hP, hK, hD0, hAm⟩ := hv
  have hx := B.exec
  have hb := B.bytes
  have hr := B.returns
  have hts := atoms_spec (ws := wsX4_carryOut) B.pre
  have hown : s.vm.findClass RX4 = some m.cls := findClass_of_methodNamed B.named
  have hlocks := B.notSynchronized
  subst hsz
  have hD := hD0.self (sz := s.heap.size)
  generalize hAe : va_A (wcat [mnC q an ap qs ac au ax nn, plB Γ an v, cuB Γ ac ck, txB Γ ax cs (nI L)]) s.heap.size = A at hD hAm ⊢
  have hA : ∀ q : Nat, s.heap.size ≤ q → A q := fun q h => by rw [← hAe]; exact Or.inr h
  have hAB : ∀ q : Nat, A q → A q := fun _ h => h
  have hS : va_S A s.heap s.heap [] := va_S.rf
  have hl := lv_entry ([.ref q, .int (nI kt)]) (n := 4) (Nat.le_of_ble_eq_true rfl)
  rw [lg_entry_eq]
  generalize (lg_sl ([.ref q, .int (nI kt)]) ++ List.replicate (4 - (lg_sl ([.ref q, .int (nI kt)])).length) Slot.unset).toArray = ls at hl ⊢
  have hl : lv_has ls 4 [(0, .ref q), (1, .int (nI kt))] := hl
  have hi4 : ∀ w ∈ wsX40, w ∈ wsX4_carryOut := by decide +kernel
  have kf44 := hts (.fieldLink RX4 44 "CapsuleKeepers" "text" "LCapsuleKeepers$DaysText;") (by decide +kernel)
  have hq : (fX4_carryOut L Qn v ck cs kt) = (let y_1 := (fX1_digit (L) cs (nI (kt + 1))); (let y_2 := (fX1_digit (L) cs (nI (kt + 3))); (let r_3 := (fX1_code (L) cs (nI kt)); (if r_3 = (nI 100) then ((fX4_buryIfAlive v y_1).1, (fX4_buryIfAlive v y_1).2, ck) else (if r_3 = (nI 104) then ((fX4_nameIfFree v y_1 y_2).1, (fX4_nameIfFree v y_1 y_2).2, ck) else (if r_3 = (nI 113) then ((fX4_toggleIfThere v y_1 y_2).1, (fX4_toggleIfThere v y_1 y_2).2, ck) else (if r_3 = (nI 116) then (let r_8 := (fX1_number (L) cs (kt + 1)); ((fX4_passIfInTime v r_8).1, (fX4_passIfInTime v r_8).2, ck)) else ((fX4_renewIfShut Qn v ck).1, (fX4_renewIfShut Qn v ck).2.1, (fX4_renewIfShut Qn v ck).2.2)))))))) := rfl
  refine lv_aload_n hx hb dX4_carryOut_0 rfl (lv_at hl 0 rfl) ?_
  refine va_get (D := Γ.1) (ci := 4) (v := .ref (ax 0)) (C := RX4) (T := TX4) (N := 7) hx hb hts hi4 hown hK hP 0 rfl rfl 6 (by decide) kf44 (fun _ h9 => h9) rfl dX4_carryOut_1 ?_
  refine lv_iload_n hx hb dX4_carryOut_4 rfl (lv_at hl 1 rfl) ?_
  refine lv_iconst (v := (nI 1)) hx hb dX4_carryOut_5 (by decide) ?_
  refine lv_iadd hx hb dX4_carryOut_6 ?_
  refine lv_eqi (y := (nI (kt + 1))) (nI_add _ _) ?_
  refine cLI (va_runV (As := [.int (nI (kt + 1))]) (rest := []) ⟨hx, hb, hml, hown, hts⟩ ((kX1_digit l Γ ax (L) cs (nI (kt + 1)) (by first | assumption | omega | decide)) _) (cwV 1 hts gX4_carryOut_X1_digit rfl rfl rfl (by decide +kernel) ⟨Nat.le_of_ble_eq_true rfl, Nat.le_of_ble_eq_true rfl⟩) ⟨wPre_blind, va_recv hK hP (ci := 1) (q0 := 9) rfl rfl, wPre_mk hP hD hK hS hA hAB hAm [3] rfl rfl⟩ rfl rfl hl.1 rfl (lv_room (Nat.le_of_ble_eq_true rfl)) dX4_carryOut_7 ⟨Nat.zero_le _, Nat.zero_le _⟩) hP hS hA (fun H locs hP hS => ?_)
  refine lv_topi (fun y_1 ey_1 => ?_)
  replace hq : (fX4_carryOut L Qn v ck cs kt) = (let y_2 := (fX1_digit (L) cs (nI (kt + 3))); (let r_3 := (fX1_code (L) cs (nI kt)); (if r_3 = (nI 100) then ((fX4_buryIfAlive v y_1).1, (fX4_buryIfAlive v y_1).2, ck) else (if r_3 = (nI 104) then ((fX4_nameIfFree v y_1 y_2).1, (fX4_nameIfFree v y_1 y_2).2, ck) else (if r_3 = (nI 113) then ((fX4_toggleIfThere v y_1 y_2).1, (fX4_toggleIfThere v y_1 y_2).2, ck) else (if r_3 = (nI 116) then (let r_8 := (fX1_number (L) cs (kt + 1)); ((fX4_passIfInTime v r_8).1, (fX4_passIfInTime v r_8).2, ck)) else ((fX4_renewIfShut Qn v ck).1, (fX4_renewIfShut Qn v ck).2.1, (fX4_renewIfShut Qn v ck).2.2))))))) := hq.trans (by first | rw [ey_1] | rfl)
  refine lv_istore_n (lv' := [(2, .int y_1), (0, .ref q), (1, .int (nI kt))]) hx hb dX4_carryOut_10 rfl hl (by decide) rfl (fun ls hl => ?_)
  refine lv_aload_n hx hb dX4_carryOut_11 rfl (lv_at hl 1 rfl) ?_
  refine va_get (D := Γ.1) (ci := 4) (v := .ref (ax 0)) (C := RX4) (T := TX4) (N := 7) hx hb hts hi4 hown hK hP 0 rfl rfl 6 (by decide) kf44 (fun _ h9 => h9) rfl dX4_carryOut_12 ?_
  refine lv_iload_n hx hb dX4_carryOut_15 rfl (lv_at hl 2 rfl) ?_
  refine lv_iconst (v := (nI 3)) hx hb dX4_carryOut_16 (by decide) ?_
  refine lv_iadd hx hb dX4_carryOut_17 ?_
  refine lv_eqi (y := (nI (kt + 3))) (nI_add _ _) ?_
  refine cLI (va_runV (As := [.int (nI (kt + 3))]) (rest := []) ⟨hx, hb, hml, hown, hts⟩ ((kX1_digit l Γ ax (L) cs (nI (kt + 3)) (by first | assumption | omega | decide)) _) (cwV 1 hts gX4_carryOut_X1_digit rfl rfl rfl (by decide +kernel) ⟨Nat.le_of_ble_eq_true rfl, Nat.le_of_ble_eq_true rfl⟩) ⟨wPre_blind, va_recv hK hP (ci := 1) (q0 := 9) rfl rfl, wPre_mk hP hD hK hS hA hAB hAm [3] rfl rfl⟩ rfl rfl hl.1 rfl (lv_room (Nat.le_of_ble_eq_true rfl)) dX4_carryOut_18 ⟨Nat.zero_le _, Nat.zero_le _⟩) hP hS hA (fun H locs hP hS => ?_)
  refine lv_topi (fun y_2 ey_2 => ?_)
  replace hq : (fX4_carryOut L Qn v ck cs kt) = (let r_3 := (fX1_code (L) cs (nI kt)); (if r_3 = (nI 100) then ((fX4_buryIfAlive v y_1).1, (fX4_buryIfAlive v y_1).2, ck) else (if r_3 = (nI 104) then ((fX4_nameIfFree v y_1 y_2).1, (fX4_nameIfFree v y_1 y_2).2, ck) else (if r_3 = (nI 113) then ((fX4_toggleIfThere v y_1 y_2).1, (fX4_toggleIfThere v y_1 y_2).2, ck) else (if r_3 = (nI 116) then (let r_8 := (fX1_number (L) cs (kt + 1)); ((fX4_passIfInTime v r_8).1, (fX4_passIfInTime v r_8).2, ck)) else ((fX4_renewIfShut Qn v ck).1, (fX4_renewIfShut Qn v ck).2.1, (fX4_renewIfShut Qn v ck).2.2)))))) := hq.trans (by first | rw [ey_2] | rfl)
  refine lv_istore_n (lv' := [(3, .int y_2), (2, .int y_1), (0, .ref q), (1, .int (nI kt))]) hx hb dX4_carryOut_21 rfl hl (by decide) rfl (fun ls hl => ?_)
  refine lv_aload_n hx hb dX4_carryOut_22 rfl (lv_at hl 2 rfl) ?_
  refine va_get (D := Γ.1) (ci := 4) (v := .ref (ax 0)) (C := RX4) (T := TX4) (N := 7) hx hb hts hi4 hown hK hP 0 rfl rfl 6 (by decide) kf44 (fun _ h9 => h9) rfl dX4_carryOut_23 ?_
  refine lv_iload_n hx hb dX4_carryOut_26 rfl (lv_at hl 3 rfl) ?_
  have kc := (kX1_code l Γ ax (L) cs (nI kt) (by first | assumption | omega | decide))
  generalize hr_3 : (fX1_code (L) cs (nI kt)) = r_3 at kc hq
  replace hq : (fX4_carryOut L Qn v ck cs kt) = (if r_3 = (nI 100) then ((fX4_buryIfAlive v y_1).1, (fX4_buryIfAlive v y_1).2, ck) else (if r_3 = (nI 104) then ((fX4_nameIfFree v y_1 y_2).1, (fX4_nameIfFree v y_1 y_2).2, ck) else (if r_3 = (nI 113) then ((fX4_toggleIfThere v y_1 y_2).1, (fX4_toggleIfThere v y_1 y_2).2, ck) else (if r_3 = (nI 116) then (let r_8 := (fX1_number (L) cs (kt + 1)); ((fX4_passIfInTime v r_8).1, (fX4_passIfInTime v r_8).2, ck)) else ((fX4_renewIfShut Qn v ck).1, (fX4_renewIfShut Qn v ck).2.1, (fX4_renewIfShut Qn v ck).2.2))))) := hq
  refine cLI (va_runV (As := [.int (nI kt)]) (rest := []) ⟨hx, hb, hml, hown, hts⟩ (kc _) (cwV 1 hts gX4_carryOut_X1_code rfl rfl rfl (by decide +kernel) ⟨Nat.le_of_ble_eq_true rfl, Nat.le_of_ble_eq_true rfl⟩) ⟨wPre_blind, va_recv hK hP (ci := 1) (q0 := 9) rfl rfl, wPre_mk hP hD hK hS hA hAB hAm [3] rfl rfl⟩ rfl rfl hl.1 rfl (lv_room (Nat.le_of_ble_eq_true rfl)) dX4_carryOut_27 ⟨Nat.zero_le _, Nat.zero_le _⟩) hP hS hA (fun H locs hP hS => ?_)
  by_cases c_4 : r_3 = (nI 100)
  · have hq := hq.trans (if_pos c_4)
    refine lv_lookup (off := 42) (tgt := 72) hx hb dX4_carryOut_30 (by decide) (by rw [c_4]; decide +kernel) (by decide) ?_
    refine lv_aload_n hx hb dX4_carryOut_72 rfl (lv_at hl 2 rfl) ?_
    refine lv_iload_n hx hb dX4_carryOut_73 rfl (lv_at hl 1 rfl) ?_
    refine cMI (bc' := [mnC q an ap qs ac au ax nn, plB Γ an (fX4_buryIfAlive v y_1).2]) (va_runV (As := [.int y_1]) (rest := []) ⟨hx, hb, hml, hown, hts⟩ ((kX4_buryIfAlive l Γ q an ap qs ac au ax nn v y_1) _) (cwV 1 hts gX4_carryOut_X4_buryIfAlive rfl rfl rfl (by decide +kernel) ⟨Nat.le_of_ble_eq_true rfl, Nat.le_of_ble_eq_true rfl⟩) ⟨wPre_blind, va_recv hK hP (ci := 4) (q0 := 0) rfl rfl, wPre_mk hP hD hK hS hA hAB hAm [0, 1] rfl rfl⟩ rfl rfl hl.1 rfl (lv_room (Nat.le_of_ble_eq_true rfl)) dX4_carryOut_74 ⟨Nat.zero_le _, Nat.zero_le _⟩) hP hD hS hA [0, 1] rfl rfl (bs' := [mnC q an ap qs ac au ax nn, plB Γ an (fX4_buryIfAlive v y_1).2, cuB Γ ac ck, txB Γ ax cs (nI L)]) rfl (fun H locs hP hD hS => ?_)
    exact W.zret (v := (fX4_buryIfAlive v y_1).1) hx hb hr (by first | exact nar01 (bX4_buryIfAlive _ _) | exact nar01 (bX4_toggleIfThere _ _ _) | exact nar01 (bX4_nameIfFree _ _ _) | exact nar01 (bX4_passIfInTime _ _) | exact nar01 (bX4_renewIfShut _ _ _)) (fun t ht hW => eMI (by rw [hq]; exact hP) hS ht (by rw [hq])) hS.2.2 dX4_carryOut_77
  replace hq := hq.trans (if_neg c_4)
  by_cases c_5 : r_3 = (nI 104)
  · have hq := hq.trans (if_pos c_5)
    refine lv_lookup (off := 55) (tgt := 85) hx hb dX4_carryOut_30 (by decide) (by rw [c_5]; decide +kernel) (by decide) ?_
    refine lv_aload_n hx hb dX4_carryOut_85 rfl (lv_at hl 2 rfl) ?_
    refine lv_iload_n hx hb dX4_carryOut_86 rfl (lv_at hl 1 rfl) ?_
    refine lv_iload_n hx hb dX4_carryOut_87 rfl (lv_at hl 0 rfl) ?_
    refine cMI (bc' := [mnC q an ap qs ac au ax nn, plB Γ an (fX4_nameIfFree v y_1 y_2).2]) (va_runV (As := [.int y_1, .int y_2]) (rest := []) ⟨hx, hb, hml, hown, hts⟩ ((kX4_nameIfFree l Γ q an ap qs ac au ax nn v y_1 y_2) _) (cwV 2 hts gX4_carryOut_X4_nameIfFree rfl rfl rfl (by decide +kernel) ⟨Nat.le_of_ble_eq_true rfl, Nat.le_of_ble_eq_true rfl⟩) ⟨wPre_blind, va_recv hK hP (ci := 4) (q0 := 0) rfl rfl, wPre_mk hP hD hK hS hA hAB hAm [0, 1] rfl rfl⟩ rfl rfl hl.1 rfl (lv_room (Nat.le_of_ble_eq_true rfl)) dX4_carryOut_88 ⟨Nat.zero_le _, Nat.zero_le _⟩) hP hD hS hA [0, 1] rfl rfl (bs' := [mnC q an ap qs ac au ax nn, plB Γ an (fX4_nameIfFree v y_1 y_2).2, cuB Γ ac ck, txB Γ ax cs (nI L)]) rfl (fun H locs hP hD hS => ?_)
    exact W.zret (v := (fX4_nameIfFree v y_1 y_2).1) hx hb hr (by first | exact nar01 (bX4_buryIfAlive _ _) | exact nar01 (bX4_toggleIfThere _ _ _) | exact nar01 (bX4_nameIfFree _ _ _) | exact nar01 (bX4_passIfInTime _ _) | exact nar01 (bX4_renewIfShut _ _ _)) (fun t ht hW => eMI (by rw [hq]; exact hP) hS ht (by rw [hq])) hS.2.2 dX4_carryOut_91
  replace hq := hq.trans (if_neg c_5)
  by_cases c_6 : r_3 = (nI 113)
  · have hq := hq.trans (if_pos c_6)
    refine lv_lookup (off := 48) (tgt := 78) hx hb dX4_carryOut_30 (by decide) (by rw [c_6]; decide +kernel) (by decide) ?_
    refine lv_aload_n hx hb dX4_carryOut_78 rfl (lv_at hl 2 rfl) ?_
    refine lv_iload_n hx hb dX4_carryOut_79 rfl (lv_at hl 1 rfl) ?_
    refine lv_iload_n hx hb dX4_carryOut_80 rfl (lv_at hl 0 rfl) ?_
    refine cMI (bc' := [mnC q an ap qs ac au ax nn, plB Γ an (fX4_toggleIfThere v y_1 y_2).2]) (va_runV (As := [.int y_1, .int y_2]) (rest := []) ⟨hx, hb, hml, hown, hts⟩ ((kX4_toggleIfThere l Γ q an ap qs ac au ax nn v y_1 y_2) _) (cwV 2 hts gX4_carryOut_X4_toggleIfThere rfl rfl rfl (by decide +kernel) ⟨Nat.le_of_ble_eq_true rfl, Nat.le_of_ble_eq_true rfl⟩) ⟨wPre_blind, va_recv hK hP (ci := 4) (q0 := 0) rfl rfl, wPre_mk hP hD hK hS hA hAB hAm [0, 1] rfl rfl⟩ rfl rfl hl.1 rfl (lv_room (Nat.le_of_ble_eq_true rfl)) dX4_carryOut_81 ⟨Nat.zero_le _, Nat.zero_le _⟩) hP hD hS hA [0, 1] rfl rfl (bs' := [mnC q an ap qs ac au ax nn, plB Γ an (fX4_toggleIfThere v y_1 y_2).2, cuB Γ ac ck, txB Γ ax cs (nI L)]) rfl (fun H locs hP hD hS => ?_)
    exact W.zret (v := (fX4_toggleIfThere v y_1 y_2).1) hx hb hr (by first | exact nar01 (bX4_buryIfAlive _ _) | exact nar01 (bX4_toggleIfThere _ _ _) | exact nar01 (bX4_nameIfFree _ _ _) | exact nar01 (bX4_passIfInTime _ _) | exact nar01 (bX4_renewIfShut _ _ _)) (fun t ht hW => eMI (by rw [hq]; exact hP) hS ht (by rw [hq])) hS.2.2 dX4_carryOut_84
  replace hq := hq.trans (if_neg c_6)
  by_cases c_7 : r_3 = (nI 116)
  · have hq := hq.trans (if_pos c_7)
    refine lv_lookup (off := 62) (tgt := 92) hx hb dX4_carryOut_30 (by decide) (by rw [c_7]; decide +kernel) (by decide) ?_
    refine lv_aload_n hx hb dX4_carryOut_92 rfl (lv_at hl 2 rfl) ?_
    refine lv_aload_n hx hb dX4_carryOut_93 rfl (lv_at hl 2 rfl) ?_
    refine va_get (D := Γ.1) (ci := 4) (v := .ref (ax 0)) (C := RX4) (T := TX4) (N := 7) hx hb hts hi4 hown hK hP 0 rfl rfl 6 (by decide) kf44 (fun _ h9 => h9) rfl dX4_carryOut_94 ?_
    refine lv_iload_n hx hb dX4_carryOut_97 rfl (lv_at hl 3 rfl) ?_
    refine lv_iconst (v := (nI 1)) hx hb dX4_carryOut_98 (by decide) ?_
    refine lv_iadd hx hb dX4_carryOut_99 ?_
    refine lv_eqi (y := (nI (kt + 1))) (nI_add _ _) ?_
    have kc := (kX1_number l Γ ax (L) cs (kt + 1) (by first | assumption | omega | decide) (by first | assumption | omega | decide))
    generalize hr_8 : (fX1_number (L) cs (kt + 1)) = r_8 at kc hq
    replace hq : (fX4_carryOut L Qn v ck cs kt) = ((fX4_passIfInTime v r_8).1, (fX4_passIfInTime v r_8).2, ck) := hq
    refine cLI (va_runV (As := [.int (nI (kt + 1))]) (rest := [.ref q]) ⟨hx, hb, hml, hown, hts⟩ (kc _) (cwV 1 hts gX4_carryOut_X1_number rfl rfl rfl (by decide +kernel) ⟨Nat.le_of_ble_eq_true rfl, Nat.le_of_ble_eq_true rfl⟩) ⟨wPre_blind, va_recv hK hP (ci := 1) (q0 := 9) rfl rfl, wPre_mk hP hD hK hS hA hAB hAm [3] rfl rfl⟩ rfl rfl hl.1 rfl (lv_room (Nat.le_of_ble_eq_true rfl)) dX4_carryOut_100 ⟨Nat.zero_le _, Nat.zero_le _⟩) hP hS hA (fun H locs hP hS => ?_)
    refine cMI (bc' := [mnC q an ap qs ac au ax nn, plB Γ an (fX4_passIfInTime v r_8).2]) (va_runV (As := [.int r_8]) (rest := []) ⟨hx, hb, hml, hown, hts⟩ ((kX4_passIfInTime l Γ q an ap qs ac au ax nn v r_8) _) (cwV 1 hts gX4_carryOut_X4_passIfInTime rfl rfl rfl (by decide +kernel) ⟨Nat.le_of_ble_eq_true rfl, Nat.le_of_ble_eq_true rfl⟩) ⟨wPre_blind, va_recv hK hP (ci := 4) (q0 := 0) rfl rfl, wPre_mk hP hD hK hS hA hAB hAm [0, 1] rfl rfl⟩ rfl rfl hl.1 rfl (lv_room (Nat.le_of_ble_eq_true rfl)) dX4_carryOut_103 ⟨Nat.zero_le _, Nat.zero_le _⟩) hP hD hS hA [0, 1] rfl rfl (bs' := [mnC q an ap qs ac au ax nn, plB Γ an (fX4_passIfInTime v r_8).2, cuB Γ ac ck, txB Γ ax cs (nI L)]) rfl (fun H locs hP hD hS => ?_)
    exact W.zret (v := (fX4_passIfInTime v r_8).1) hx hb hr (by first | exact nar01 (bX4_buryIfAlive _ _) | exact nar01 (bX4_toggleIfThere _ _ _) | exact nar01 (bX4_nameIfFree _ _ _) | exact nar01 (bX4_passIfInTime _ _) | exact nar01 (bX4_renewIfShut _ _ _)) (fun t ht hW => eMI (by rw [hq]; exact hP) hS ht (by rw [hq])) hS.2.2 dX4_carryOut_106
  replace hq := hq.trans (if_neg c_7)
  refine lv_lookup (off := 77) (tgt := 107) hx hb dX4_carryOut_30 (by decide) ((lv_osw c_4 (by decide)).trans ((lv_osw c_5 (by decide)).trans ((lv_osw c_6 (by decide)).trans ((lv_osw c_7 (by decide)).trans (rfl))))) (by decide) ?_
  refine lv_aload_n hx hb dX4_carryOut_107 rfl (lv_at hl 2 rfl) ?_
  refine cMI (bc' := [mnC q an ap qs ac au ax nn, plB Γ an (fX4_renewIfShut Qn v ck).2.1, cuB Γ ac (fX4_renewIfShut Qn v ck).2.2]) (va_runV (As := []) (rest := []) ⟨hx, hb, hml, hown, hts⟩ ((kX4_renewIfShut l Γ q an ap qs ac au ax Qn nn v ck (by first | assumption | omega | decide) (by first | assumption | omega | decide) (by first | assumption | omega | decide)) _) (cwV 0 hts gX4_carryOut_X4_renewIfShut rfl rfl rfl (by decide +kernel) ⟨Nat.le_of_ble_eq_true rfl, Nat.le_of_ble_eq_true rfl⟩) ⟨wPre_blind, va_recv hK hP (ci := 4) (q0 := 0) rfl rfl, wPre_mk hP hD hK hS hA hAB hAm [0, 1, 2] rfl rfl⟩ rfl rfl hl.1 rfl (lv_room (Nat.le_of_ble_eq_true rfl)) dX4_carryOut_108 ⟨Nat.zero_le _, Nat.zero_le _⟩) hP hD hS hA [0, 1, 2] rfl rfl (bs' := [mnC q an ap qs ac au ax nn, plB Γ an (fX4_renewIfShut Qn v ck).2.1, cuB Γ ac (fX4_renewIfShut Qn v ck).2.2, txB Γ ax cs (nI L)]) rfl (fun H locs hP hD hS => ?_)
  exact W.zret (v := (fX4_renewIfShut Qn v ck).1) hx hb hr (by first | exact nar01 (bX4_buryIfAlive _ _) | exact nar01 (bX4_toggleIfThere _ _ _) | exact nar01 (bX4_nameIfFree _ _ _) | exact nar01 (bX4_passIfInTime _ _) | exact nar01 (bX4_renewIfShut _ _ _)) (fun t ht hW => eMI (by rw [hq]; exact hP) hS ht (by rw [hq])) hS.2.2 dX4_carryOut_111
