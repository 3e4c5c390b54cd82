def fX0_keyOf (k : (Nat → Int32)) (g : Int32) : Int32 := (if g < 0 then ((-1)) else (if (nI 256) ≤ g then ((-1)) else ((k g.toNatClampNeg))))
set_option maxHeartbeats 4000000 in
set_option maxRecDepth 100000 in
theorem kX0_keyOf (l : Launch) (Γ : wG) (a : Nat → Nat) (k : (Nat → Int32)) (g : Int32) : LI l Γ yX0_keyOf wsX0_keyOf ({ frames := 0, cells := 0, slots := 0, locals := 0 }) [.ref (a 0), .int g] [cuB Γ a k] (fX0_keyOf k g) := by
  intro sz
  refine Met.ofW (cc := cX0_keyOf) (maxL := 2) (ret := (some .int)) (by decide) rfl ?_
  intro p e s m args below meth c s₁ B hml hv
  obtain ⟨rfl, hsz, hP, hK, hD0, hAm⟩ := hv
  have hx := B.exec
  have hb := B.bytes
  have hr := B.returns
  have hts := atoms_spec (ws := wsX0_keyOf) B.pre
  have hown : s.vm.findClass RX0 = some m.cls := findClass_of_methodNamed B.named
  have hlocks := B.notSynchronized
  subst hsz
  have hD := hD0.self (sz := s.heap.size)
  generalize hBe : va_A (wcat [cuB Γ a k]) s.heap.size = B0 at hD hAm
  obtain ⟨A, hAe⟩ : ∃ A, A = va_A [] s.heap.size := ⟨_, rfl⟩
  rw [← hAe]
  have hA : ∀ q : Nat, s.heap.size ≤ q → A q := fun q h => by rw [hAe]; exact Or.inr h
  have hAB : ∀ q : Nat, A q → B0 q := fun q h => by rw [hAe] at h; rw [← hBe]; exact Or.inr (wnone h)
  have hS : va_S A s.heap s.heap [] := va_S.rf
  have hl := lv_entry ([.ref (a 0), .int g]) (n := 2) (Nat.le_of_ble_eq_true rfl)
  rw [lg_entry_eq]
  generalize (lg_sl ([.ref (a 0), .int g]) ++ List.replicate (2 - (lg_sl ([.ref (a 0), .int g])).length) Slot.unset).toArray = ls at hl ⊢
  have hl : lv_has ls 2 [(0, .ref (a 0)), (1, .int g)] := hl
  have hi0 : ∀ w ∈ wsX00, w ∈ wsX0_keyOf := by decide +kernel
  have kf9 := hts (.fieldLink RX0 9 "CapsuleKeepers$Curves" "keys" "[I") (by decide +kernel)
  have hq : (fX0_keyOf k g) = (if g < 0 then ((-1)) else (if (nI 256) ≤ g then ((-1)) else ((k g.toNatClampNeg)))) := rfl
  refine lv_iload_n hx hb dX0_keyOf_0 rfl (lv_at hl 1 rfl) ?_
  refine lv_if_lt (tgt := 20) hx hb dX0_keyOf_1 (by decide) (fun c_1 => ?_) (fun c_1 => ?_)
  · have hq := hq.trans (if_pos c_1)
    refine lv_iconst (v := (-1)) hx hb dX0_keyOf_20 (by decide) ?_
    exact W.iret (v := (-1)) hx hb hr (fun t ht hW => eLI hS ht (by rw [hq])) hS.2.2 dX0_keyOf_21
  · have hq := hq.trans (if_neg c_1)
    refine lv_iload_n hx hb dX0_keyOf_4 rfl (lv_at hl 1 rfl) ?_
    refine lv_sipush (v := (nI 256)) hx hb dX0_keyOf_5 (by decide) ?_
    refine lv_icmp_ge (tgt := 20) hx hb dX0_keyOf_8 (by decide) (fun c_2 => ?_) (fun c_2 => ?_)
    · have hq := hq.trans (if_pos c_2)
      refine lv_iconst (v := (-1)) hx hb dX0_keyOf_20 (by decide) ?_
      exact W.iret (v := (-1)) hx hb hr (fun t ht hW => eLI hS ht (by rw [hq])) hS.2.2 dX0_keyOf_21
    · have hq := hq.trans (if_neg c_2)
      refine lv_aload_n hx hb dX0_keyOf_11 rfl (lv_at hl 0 rfl) ?_
      refine va_get (D := Γ.1) (ci := 0) (v := .ref (a 1)) (C := RX0) (T := TX0) (N := 1) hx hb hts hi0 hown hK hP 0 rfl rfl 0 (by decide) kf9 (fun _ h9 => h9) rfl dX0_keyOf_12 ?_
      refine lv_iload_n hx hb dX0_keyOf_15 rfl (lv_at hl 1 rfl) ?_
      refine va_iald (f := k) hx hb hK hP 1 0 rfl rfl (vp256 (by assumption) (by assumption)) dX0_keyOf_16 ?_
      refine lv_goto (tgt := 21) hx hb dX0_keyOf_17 (by decide) ?_
      exact W.iret (v := (k g.toNatClampNeg)) hx hb hr (fun t ht hW => eLI hS ht (by rw [hq])) hS.2.2 dX0_keyOf_21
def fX0_isOneCurve_L5 (k : (Nat → Int32)) (q : Int32) : Nat → Nat → Int32 → Int32
  | 0, i5, x3_5 => ((nI 1))
  | n5 + 1, i5, x3_5 => (if (fbit x3_5) ≤ q then ((nI 1)) else (if (fX0_keyOf k (x3_5 &&& (x3_5 - (nI 1)))) = (fX0_keyOf k x3_5) then (fX0_isOneCurve_L5 k q n5 (i5 + 1) (x3_5 &&& (x3_5 - (nI 1)))) else ((nI 0))))
def fX0_isOneCurve (k : (Nat → Int32)) (g : Int32) (q : Int32) : Int32 := (fX0_isOneCurve_L5 k q (8) 0 g)
set_option maxHeartbeats 4000000 in
set_option maxRecDepth 100000 in
theorem kX0_isOneCurve (l : Launch) (Γ : wG) (a : Nat → Nat) (k : (Nat → Int32)) (g : Int32) (q : Int32) : LI l Γ yX0_isOneCurve wsX0_isOneCurve ({ frames := 1, cells := 0, slots := 0, locals := 21 }) [.ref (a 0), .int g, .int q] [cuB Γ a k] (fX0_isOneCurve k g q) := by
  intro sz
  refine Met.ofW (cc := cX0_isOneCurve) (maxL := 6) (ret := (some .boolean)) (by decide) rfl ?_
  intro p e s m args below meth c s₁ B hml hv
  obtain ⟨rfl, hsz, hP, hK, hD0, hAm⟩ := hv
  have hx := B.exec
  have hb := B.bytes
  have hr := B.returns
  have hts := atoms_spec (ws := wsX0_isOneCurve) B.pre
  have hown : s.vm.findClass RX0 = some m.cls := findClass_of_methodNamed B.named
  have hlocks := B.notSynchronized
  subst hsz
  have hD := hD0.self (sz := s.heap.size)
  generalize hBe : va_A (wcat [cuB Γ a k]) s.heap.size = B0 at hD hAm
  obtain ⟨A, hAe⟩ : ∃ A, A = va_A [] s.heap.size := ⟨_, rfl⟩
  rw [← hAe]
  have hA : ∀ q : Nat, s.heap.size ≤ q → A q := fun q h => by rw [hAe]; exact Or.inr h
  have hAB : ∀ q : Nat, A q → B0 q := fun q h => by rw [hAe] at h; rw [← hBe]; exact Or.inr (wnone h)
  have hS : va_S A s.heap s.heap [] := va_S.rf
  have hl := lv_entry ([.ref (a 0), .int g, .int q]) (n := 6) (Nat.le_of_ble_eq_true rfl)
  rw [lg_entry_eq]
  generalize (lg_sl ([.ref (a 0), .int g, .int q]) ++ List.replicate (6 - (lg_sl ([.ref (a 0), .int g, .int q])).length) Slot.unset).toArray = ls at hl ⊢
  have hl : lv_has ls 6 [(0, .ref (a 0)), (1, .int g), (2, .int q)] := hl
  have hq : (fX0_isOneCurve k g q) = (fX0_isOneCurve_L5 k q (8) 0 g) := rfl
  refine lv_iload_n hx hb dX0_isOneCurve_0 rfl (lv_at hl 1 rfl) ?_
  refine lv_istore_n (lv' := [(3, .int g), (0, .ref (a 0)), (1, .int g), (2, .int q)]) hx hb dX0_isOneCurve_1 rfl hl (by decide) rfl (fun ls hl => ?_)
  refine lv_iconst (v := (nI 0)) hx hb dX0_isOneCurve_2 (by decide) ?_
  refine lv_istore (lv' := [(4, .int (nI 0)), (3, .int g), (0, .ref (a 0)), (1, .int g), (2, .int q)]) hx hb dX0_isOneCurve_3 hl (by decide) rfl (fun ls hl => ?_)
  refine wl (pc := 5) (σ := Nat × Int32) (fun n (i5, x3_5) H locs ls => (i5 + n = 8) ∧ (fX0_isOneCurve k g q) = fX0_isOneCurve_L5 k q n i5 x3_5 ∧ va_P Γ.1 vwCl (wcat [cuB Γ a k]) H ∧ va_S A s.heap H locs ∧ lv_has ls 6 [(4, .int (nI i5)), (3, .int x3_5), (0, .ref (a 0)), (1, .int g), (2, .int q)]) ?_ ?_ (8) (0, g) _ _ _ ⟨by omega, hq, hP, hS, lv_sub hl [0, 1, 2, 3, 4] rfl⟩
  · intro ⟨i5, x3_5⟩ H locs ls h
    obtain ⟨hn5, hq, hP, hS, hl⟩ := h
    try dsimp only at hn5 hq hP hl
    replace hq : (fX0_isOneCurve k g q) = ((nI 1)) := hq
    refine lv_iload hx hb dX0_isOneCurve_5 (lv_at hl 0 rfl) ?_
    refine lv_bipush (v := (nI 8)) hx hb dX0_isOneCurve_7 (by decide) ?_
    refine lv_icmp_ge (tgt := 52) hx hb dX0_isOneCurve_9 (by decide) (fun c_9 => ?_) (fun c_9 => absurd (nI_le (by omega) (by omega)) c_9)
    refine lv_iconst (v := (nI 1)) hx hb dX0_isOneCurve_52 (by decide) ?_
    exact W.zret (v := (nI 1)) hx hb hr (by first | rfl | decide) (fun t ht hW => eLI hS ht (by rw [hq])) hS.2.2 dX0_isOneCurve_53
  · intro n5 ih5 ⟨i5, x3_5⟩ H locs ls h
    obtain ⟨hn5, hq, hP, hS, hl⟩ := h
    try dsimp only at hn5 hq hP hl
    replace hq : (fX0_isOneCurve k g q) = (if (fbit x3_5) ≤ q then ((nI 1)) else (if (fX0_keyOf k (x3_5 &&& (x3_5 - (nI 1)))) = (fX0_keyOf k x3_5) then (fX0_isOneCurve_L5 k q n5 (i5 + 1) (x3_5 &&& (x3_5 - (nI 1)))) else ((nI 0)))) := hq
    refine lv_iload hx hb dX0_isOneCurve_5 (lv_at hl 0 rfl) ?_
    refine lv_bipush (v := (nI 8)) hx hb dX0_isOneCurve_7 (by decide) ?_
    refine lv_icmp_ge (tgt := 52) hx hb dX0_isOneCurve_9 (by decide) (fun c_9 => absurd c_9 (nI_ge (by omega) (by omega))) (fun c_9 => ?_)
    refine lv_iload_n hx hb dX0_isOneCurve_12 rfl (lv_at hl 1 rfl) ?_
    refine cLI (va_runS (As := [.int x3_5]) (rest := []) ⟨hx, hb, hml, hown, hts⟩ ((kJ6_bitCount_0f7a4 l Γ x3_5) _) (va_cwS 1 hts gX0_isOneCurve_J6_bitCount_0f7a4 rfl rfl rfl (by decide +kernel) ⟨Nat.le_of_ble_eq_true rfl, Nat.le_of_ble_eq_true rfl⟩) ⟨wPre_blind, wPre_mk hP hD hK hS hA hAB hAm [] rfl rfl⟩ rfl rfl hl.1 rfl (lv_room (Nat.le_of_ble_eq_true rfl)) dX0_isOneCurve_13 ⟨Nat.zero_le _, Nat.zero_le _⟩) hP hS hA (fun H locs hP hS => ?_)
    refine lv_iload_n hx hb dX0_isOneCurve_16 rfl (lv_at hl 4 rfl) ?_
    refine lv_icmp_le (tgt := 52) hx hb dX0_isOneCurve_17 (by decide) (fun c_1 => ?_) (fun c_1 => ?_)
    · have hq := hq.trans (if_pos c_1)
      refine lv_iconst (v := (nI 1)) hx hb dX0_isOneCurve_52 (by decide) ?_
      exact W.zret (v := (nI 1)) hx hb hr (by first | rfl | decide) (fun t ht hW => eLI hS ht (by rw [hq])) hS.2.2 dX0_isOneCurve_53
    · have hq := hq.trans (if_neg c_1)
      refine lv_iload_n hx hb dX0_isOneCurve_20 rfl (lv_at hl 1 rfl) ?_
      refine lv_iload_n hx hb dX0_isOneCurve_21 rfl (lv_at hl 1 rfl) ?_
      refine lv_iconst (v := (nI 1)) hx hb dX0_isOneCurve_22 (by decide) ?_
      refine lv_isub hx hb dX0_isOneCurve_23 ?_
      refine lv_iand hx hb dX0_isOneCurve_24 ?_
      refine lv_istore (lv' := [(5, .int (x3_5 &&& (x3_5 - (nI 1)))), (4, .int (nI i5)), (3, .int x3_5), (0, .ref (a 0)), (1, .int g), (2, .int q)]) hx hb dX0_isOneCurve_25 hl (by decide) rfl (fun ls hl => ?_)
      refine lv_aload_n hx hb dX0_isOneCurve_27 rfl (lv_at hl 3 rfl) ?_
      refine lv_iload hx hb dX0_isOneCurve_28 (lv_at hl 0 rfl) ?_
      refine cLI (va_runV (As := [.int (x3_5 &&& (x3_5 - (nI 1)))]) (rest := []) ⟨hx, hb, hml, hown, hts⟩ ((kX0_keyOf l Γ a k (x3_5 &&& (x3_5 - (nI 1)))) _) (cwV 1 hts gX0_isOneCurve_X0_keyOf rfl rfl rfl (by decide +kernel) ⟨Nat.le_of_ble_eq_true rfl, Nat.le_of_ble_eq_true rfl⟩) ⟨wPre_blind, va_recv hK hP (ci := 0) (q0 := 0) rfl rfl, wPre_mk hP hD hK hS hA hAB hAm [0] rfl rfl⟩ rfl rfl hl.1 rfl (lv_room (Nat.le_of_ble_eq_true rfl)) dX0_isOneCurve_30 ⟨Nat.zero_le _, Nat.zero_le _⟩) hP hS hA (fun H locs hP hS => ?_)
      refine lv_aload_n hx hb dX0_isOneCurve_33 rfl (lv_at hl 3 rfl) ?_
      refine lv_iload_n hx hb dX0_isOneCurve_34 rfl (lv_at hl 2 rfl) ?_
      refine cLI (va_runV (As := [.int x3_5]) (rest := [.int (fX0_keyOf k (x3_5 &&& (x3_5 - (nI 1))))]) ⟨hx, hb, hml, hown, hts⟩ ((kX0_keyOf l Γ a k x3_5) _) (cwV 1 hts gX0_isOneCurve_X0_keyOf rfl rfl rfl (by decide +kernel) ⟨Nat.le_of_ble_eq_true rfl, Nat.le_of_ble_eq_true rfl⟩) ⟨wPre_blind, va_recv hK hP (ci := 0) (q0 := 0) rfl rfl, wPre_mk hP hD hK hS hA hAB hAm [0] rfl rfl⟩ rfl rfl hl.1 rfl (lv_room (Nat.le_of_ble_eq_true rfl)) dX0_isOneCurve_35 ⟨Nat.zero_le _, Nat.zero_le _⟩) hP hS hA (fun H locs hP hS => ?_)
      refine lv_icmp_eq (tgt := 43) hx hb dX0_isOneCurve_38 (by decide) (fun c_2 => ?_) (fun c_2 => ?_)
      · have hq := hq.trans (if_pos c_2)
        refine lv_iload hx hb dX0_isOneCurve_43 (lv_at hl 0 rfl) ?_
        refine lv_istore_n (lv' := [(3, .int (x3_5 &&& (x3_5 - (nI 1)))), (5, .int (x3_5 &&& (x3_5 - (nI 1)))), (4, .int (nI i5)), (0, .ref (a 0)), (1, .int g), (2, .int q)]) hx hb dX0_isOneCurve_45 rfl hl (by decide) rfl (fun ls hl => ?_)
        refine lv_iinc (v := (nI (i5 + 1))) (lv' := [(4, .int (nI (i5 + 1))), (3, .int (x3_5 &&& (x3_5 - (nI 1)))), (5, .int (x3_5 &&& (x3_5 - (nI 1)))), (0, .ref (a 0)), (1, .int g), (2, .int q)]) hx hb dX0_isOneCurve_46 hl (k := 2) rfl (nI_1 _) (by decide) rfl (fun ls hl => ?_)
        refine lv_goto (tgt := 5) hx hb dX0_isOneCurve_49 (by decide) ?_
        exact ih5 ((i5 + 1), (x3_5 &&& (x3_5 - (nI 1)))) H locs ls ⟨by omega, hq, hP, hS, lv_sub hl [0, 1, 3, 4, 5] rfl⟩
      · have hq := hq.trans (if_neg c_2)
        refine lv_iconst (v := (nI 0)) hx hb dX0_isOneCurve_41 (by decide) ?_
        exact W.zret (v := (nI 0)) hx hb hr (by first | rfl | decide) (fun t ht hW => eLI hS ht (by rw [hq])) hS.2.2 dX0_isOneCurve_42
def fX3_sharesOf (so : (Nat → Int32)) (g : Int32) : Int32 := (if g < 0 then ((nI 0)) else (if (nI 256) ≤ g then ((nI 0)) else ((so g.toNatClampNeg))))
set_option maxHeartbeats 4000000 in
set_option maxRecDepth 100000 in
theorem kX3_sharesOf (l : Launch) (Γ : wG) (a : Nat → Nat) (so : (Nat → Int32)) (sp : (Nat → Int32)) (g : Int32) : LI l Γ yX3_sharesOf wsX3_sharesOf ({ frames := 0, cells := 0, slots := 0, locals := 0 }) [.ref (a 0), .int g] [suB Γ a so sp] (fX3_sharesOf so g) := by
  intro sz
  refine Met.ofW (cc := cX3_sharesOf) (maxL := 2) (ret := (some .int)) (by decide) rfl ?_
  intro p e s m args below meth c s₁ B hml hv
  obtain ⟨rfl, hsz, hP, hK, hD0, hAm⟩ := hv
  have hx := B.exec
  have hb := B.bytes
  have hr := B.returns
  have hts := atoms_spec (ws := wsX3_sharesOf) B.pre
  have hown : s.vm.findClass RX3 = some m.cls := findClass_of_methodNamed B.named
  have hlocks := B.notSynchronized
  subst hsz
  have hD := hD0.self (sz := s.heap.size)
  generalize hBe : va_A (wcat [suB Γ a so sp]) s.heap.size = B0 at hD hAm
  obtain ⟨A, hAe⟩ : ∃ A, A = va_A [] s.heap.size := ⟨_, rfl⟩
  rw [← hAe]
  have hA : ∀ q : Nat, s.heap.size ≤ q → A q := fun q h => by rw [hAe]; exact Or.inr h
  have hAB : ∀ q : Nat, A q → B0 q := fun q h => by rw [hAe] at h; rw [← hBe]; exact Or.inr (wnone h)
  have hS : va_S A s.heap s.heap [] := va_S.rf
  have hl := lv_entry ([.ref (a 0), .int g]) (n := 2) (Nat.le_of_ble_eq_true rfl)
  rw [lg_entry_eq]
  generalize (lg_sl ([.ref (a 0), .int g]) ++ List.replicate (2 - (lg_sl ([.ref (a 0), .int g])).length) Slot.unset).toArray = ls at hl ⊢
  have hl : lv_has ls 2 [(0, .ref (a 0)), (1, .int g)] := hl
  have hi3 : ∀ w ∈ wsX30, w ∈ wsX3_sharesOf := by decide +kernel
  have kf9 := hts (.fieldLink RX3 9 "CapsuleKeepers$Survey" "owned" "[I") (by decide +kernel)
  have hq : (fX3_sharesOf so g) = (if g < 0 then ((nI 0)) else (if (nI 256) ≤ g then ((nI 0)) else ((so g.toNatClampNeg)))) := rfl
  refine lv_iload_n hx hb dX3_sharesOf_0 rfl (lv_at hl 1 rfl) ?_
  refine lv_if_lt (tgt := 20) hx hb dX3_sharesOf_1 (by decide) (fun c_1 => ?_) (fun c_1 => ?_)
  · have hq := hq.trans (if_pos c_1)
    refine lv_iconst (v := (nI 0)) hx hb dX3_sharesOf_20 (by decide) ?_
    exact W.iret (v := (nI 0)) hx hb hr (fun t ht hW => eLI hS ht (by rw [hq])) hS.2.2 dX3_sharesOf_21
  · have hq := hq.trans (if_neg c_1)
    refine lv_iload_n hx hb dX3_sharesOf_4 rfl (lv_at hl 1 rfl) ?_
    refine lv_sipush (v := (nI 256)) hx hb dX3_sharesOf_5 (by decide) ?_
    refine lv_icmp_ge (tgt := 20) hx hb dX3_sharesOf_8 (by decide) (fun c_2 => ?_) (fun c_2 => ?_)
    · have hq := hq.trans (if_pos c_2)
      refine lv_iconst (v := (nI 0)) hx hb dX3_sharesOf_20 (by decide) ?_
      exact W.iret (v := (nI 0)) hx hb hr (fun t ht hW => eLI hS ht (by rw [hq])) hS.2.2 dX3_sharesOf_21
    · have hq := hq.trans (if_neg c_2)
      refine lv_aload_n hx hb dX3_sharesOf_11 rfl (lv_at hl 0 rfl) ?_
      refine va_get (D := Γ.1) (ci := 3) (v := .ref (a 1)) (C := RX3) (T := TX3) (N := 2) hx hb hts hi3 hown hK hP 0 rfl rfl 0 (by decide) kf9 (fun _ h9 => h9) rfl dX3_sharesOf_12 ?_
      refine lv_iload_n hx hb dX3_sharesOf_15 rfl (lv_at hl 1 rfl) ?_
      refine va_iald (f := so) hx hb hK hP 1 0 rfl rfl (vp256 (by assumption) (by assumption)) dX3_sharesOf_16 ?_
      refine lv_goto (tgt := 21) hx hb dX3_sharesOf_17 (by decide) ?_
      exact W.iret (v := (so g.toNatClampNeg)) hx hb hr (fun t ht hW => eLI hS ht (by rw [hq])) hS.2.2 dX3_sharesOf_21
def fX3_pairsIn (sp : (Nat → Int32)) (g : Int32) : Int32 := (if g < 0 then ((nI 0)) else (if (nI 256) ≤ g then ((nI 0)) else ((sp g.toNatClampNeg))))
set_option maxHeartbeats 4000000 in
set_option maxRecDepth 100000 in
theorem kX3_pairsIn (l : Launch) (Γ : wG) (a : Nat → Nat) (so : (Nat → Int32)) (sp : (Nat → Int32)) (g : Int32) : LI l Γ yX3_pairsIn wsX3_pairsIn ({ frames := 0, cells := 0, slots := 0, locals := 0 }) [.ref (a 0), .int g] [suB Γ a so sp] (fX3_pairsIn sp g) := by
  intro sz
  refine Met.ofW (cc := cX3_pairsIn) (maxL := 2) (ret := (some .int)) (by decide) rfl ?_
  intro p e s m args below meth c s₁ B hml hv
  obtain ⟨rfl, hsz, hP, hK, hD0, hAm⟩ := hv
  have hx := B.exec
  have hb := B.bytes
  have hr := B.returns
  have hts := atoms_spec (ws := wsX3_pairsIn) B.pre
  have hown : s.vm.findClass RX3 = some m.cls := findClass_of_methodNamed B.named
  have hlocks := B.notSynchronized
  subst hsz
  have hD := hD0.self (sz := s.heap.size)
  generalize hBe : va_A (wcat [suB Γ a so sp]) s.heap.size = B0 at hD hAm
  obtain ⟨A, hAe⟩ : ∃ A, A = va_A [] s.heap.size := ⟨_, rfl⟩
  rw [← hAe]
  have hA : ∀ q : Nat, s.heap.size ≤ q → A q := fun q h => by rw [hAe]; exact Or.inr h
  have hAB : ∀ q : Nat, A q → B0 q := fun q h => by rw [hAe] at h; rw [← hBe]; exact Or.inr (wnone h)
  have hS : va_S A s.heap s.heap [] := va_S.rf
  have hl := lv_entry ([.ref (a 0), .int g]) (n := 2) (Nat.le_of_ble_eq_true rfl)
  rw [lg_entry_eq]
  generalize (lg_sl ([.ref (a 0), .int g]) ++ List.replicate (2 - (lg_sl ([.ref (a 0), .int g])).length) Slot.unset).toArray = ls at hl ⊢
  have hl : lv_has ls 2 [(0, .ref (a 0)), (1, .int g)] := hl
  have hi3 : ∀ w ∈ wsX30, w ∈ wsX3_pairsIn := by decide +kernel
  have kf15 := hts (.fieldLink RX3 15 "CapsuleKeepers$Survey" "pairs" "[I") (by decide +kernel)
  have hq : (fX3_pairsIn sp g) = (if g < 0 then ((nI 0)) else (if (nI 256) ≤ g then ((nI 0)) else ((sp g.toNatClampNeg)))) := rfl
  refine lv_iload_n hx hb dX3_pairsIn_0 rfl (lv_at hl 1 rfl) ?_
  refine lv_if_lt (tgt := 20) hx hb dX3_pairsIn_1 (by decide) (fun c_1 => ?_) (fun c_1 => ?_)
  · have hq := hq.trans (if_pos c_1)
    refine lv_iconst (v := (nI 0)) hx hb dX3_pairsIn_20 (by decide) ?_
    exact W.iret (v := (nI 0)) hx hb hr (fun t ht hW => eLI hS ht (by rw [hq])) hS.2.2 dX3_pairsIn_21
  · have hq := hq.trans (if_neg c_1)
    refine lv_iload_n hx hb dX3_pairsIn_4 rfl (lv_at hl 1 rfl) ?_
    refine lv_sipush (v := (nI 256)) hx hb dX3_pairsIn_5 (by decide) ?_
    refine lv_icmp_ge (tgt := 20) hx hb dX3_pairsIn_8 (by decide) (fun c_2 => ?_) (fun c_2 => ?_)
    · have hq := hq.trans (if_pos c_2)
      refine lv_iconst (v := (nI 0)) hx hb dX3_pairsIn_20 (by decide) ?_
      exact W.iret (v := (nI 0)) hx hb hr (fun t ht hW => eLI hS ht (by rw [hq])) hS.2.2 dX3_pairsIn_21
    · have hq := hq.trans (if_neg c_2)
      refine lv_aload_n hx hb dX3_pairsIn_11 rfl (lv_at hl 0 rfl) ?_
      refine va_get (D := Γ.1) (ci := 3) (v := .ref (a 2)) (C := RX3) (T := TX3) (N := 2) hx hb hts hi3 hown hK hP 0 rfl rfl 1 (by decide) kf15 (fun _ h9 => h9) rfl dX3_pairsIn_12 ?_
      refine lv_iload_n hx hb dX3_pairsIn_15 rfl (lv_at hl 1 rfl) ?_
      refine va_iald (f := sp) hx hb hK hP 2 0 rfl rfl (vp256 (by assumption) (by assumption)) dX3_pairsIn_16 ?_
      refine lv_goto (tgt := 21) hx hb dX3_pairsIn_17 (by decide) ?_
      exact W.iret (v := (sp g.toNatClampNeg)) hx hb hr (fun t ht hW => eLI hS ht (by rw [hq])) hS.2.2 dX3_pairsIn_21
def fX1_isKeeperDigit (ch : Int32) : Int32 := (if ch < (nI 48) then ((nI 0)) else (if (nI 55) < ch then ((nI 0)) else ((nI 1))))
set_option maxHeartbeats 4000000 in
set_option maxRecDepth 100000 in
theorem kX1_isKeeperDigit (l : Launch) (Γ : wG) (ch : Int32) : LI l Γ yX1_isKeeperDigit wsX1_isKeeperDigit ({ frames := 0, cells := 0, slots := 0, locals := 0 }) [.int ch] [] (fX1_isKeeperDigit ch) := by
  intro sz
  refine Met.ofW (cc := cX1_isKeeperDigit) (maxL := 1) (ret := (some .boolean)) (by decide) rfl ?_
  intro p e s m args below meth c s₁ B hml hv
  obtain ⟨rfl, hsz, hP, hK, hD0, hAm⟩ := hv
  have hx := B.exec
  have hb := B.bytes
  have hr := B.returns
  have hts := atoms_spec (ws := wsX1_isKeeperDigit) B.pre
  have hown : s.vm.findClass RX1 = some m.cls := findClass_of_methodNamed B.named
  have hlocks := B.notSynchronized
  subst hsz
  have hD := hD0.self (sz := s.heap.size)
  generalize hBe : va_A (wcat []) s.heap.size = B0 at hD hAm
  obtain ⟨A, hAe⟩ : ∃ A, A = va_A [] s.heap.size := ⟨_, rfl⟩
  rw [← hAe]
  have hA : ∀ q : Nat, s.heap.size ≤ q → A q := fun q h => by rw [hAe]; exact Or.inr h
  have hAB : ∀ q : Nat, A q → B0 q := fun q h => by rw [hAe] at h; rw [← hBe]; exact Or.inr (wnone h)
  have hS : va_S A s.heap s.heap [] := va_S.rf
  have hl := lv_entry ([.int ch]) (n := 1) (Nat.le_of_ble_eq_true rfl)
  rw [lg_entry_eq]
  generalize (lg_sl ([.int ch]) ++ List.replicate (1 - (lg_sl ([.int ch])).length) Slot.unset).toArray = ls at hl ⊢
  have hl : lv_has ls 1 [(0, .int ch)] := hl
  have hq : (fX1_isKeeperDigit ch) = (if ch < (nI 48) then ((nI 0)) else (if (nI 55) < ch then ((nI 0)) else ((nI 1)))) := rfl
  refine lv_iload_n hx hb dX1_isKeeperDigit_0 rfl (lv_at hl 0 rfl) ?_
  refine lv_bipush (v := (nI 48)) hx hb dX1_isKeeperDigit_1 (by decide) ?_
  refine lv_icmp_lt (tgt := 16) hx hb dX1_isKeeperDigit_3 (by decide) (fun c_1 => ?_) (fun c_1 => ?_)
  · have hq := hq.trans (if_pos c_1)
    refine lv_iconst (v := (nI 0)) hx hb dX1_isKeeperDigit_16 (by decide) ?_
    exact W.zret (v := (nI 0)) hx hb hr (by first | rfl | decide) (fun t ht hW => eLI hS ht (by rw [hq])) hS.2.2 dX1_isKeeperDigit_17
  · have hq := hq.trans (if_neg c_1)
    refine lv_iload_n hx hb dX1_isKeeperDigit_6 rfl (lv_at hl 0 rfl) ?_
    refine lv_bipush (v := (nI 55)) hx hb dX1_isKeeperDigit_7 (by decide) ?_
    refine lv_icmp_gt (tgt := 16) hx hb dX1_isKeeperDigit_9 (by decide) (fun c_2 => ?_) (fun c_2 => ?_)
    · have hq := hq.trans (if_pos c_2)
      refine lv_iconst (v := (nI 0)) hx hb dX1_isKeeperDigit_16 (by decide) ?_
      exact W.zret (v := (nI 0)) hx hb hr (by first | rfl | decide) (fun t ht hW => eLI hS ht (by rw [hq])) hS.2.2 dX1_isKeeperDigit_17
    · have hq := hq.trans (if_neg c_2)
      refine lv_iconst (v := (nI 1)) hx hb dX1_isKeeperDigit_12 (by decide) ?_
      refine lv_goto (tgt := 17) hx hb dX1_isKeeperDigit_13 (by decide) ?_
      exact W.zret (v := (nI 1)) hx hb hr (by first | rfl | decide) (fun t ht hW => eLI hS ht (by rw [hq])) hS.2.2 dX1_isKeeperDigit_17
def fX1_isDigit (ch : Int32) : Int32 := (if ch < (nI 48) then ((nI 0)) else (if (nI 57) < ch then ((nI 0)) else ((nI 1))))
set_option maxHeartbeats 4000000 in
set_option maxRecDepth 100000 in
theorem kX1_isDigit (l : Launch) (Γ : wG) (ch : Int32) : LI l Γ yX1_isDigit wsX1_isDigit ({ frames := 0, cells := 0, slots := 0, locals := 0 }) [.int ch] [] (fX1_isDigit ch) := by
  intro sz
  refine Met.ofW (cc := cX1_isDigit) (maxL := 1) (ret := (some .boolean)) (by decide) rfl ?_
  intro p e s m args below meth c s₁ B hml hv
  obtain ⟨rfl, hsz, hP, hK, hD0, hAm⟩ := hv
  have hx := B.exec
  have hb := B.bytes
  have hr := B.returns
  have hts := atoms_spec (ws := wsX1_isDigit) B.pre
  have hown : s.vm.findClass RX1 = some m.cls := findClass_of_methodNamed B.named
  have hlocks := B.notSynchronized
  subst hsz
  have hD := hD0.self (sz := s.heap.size)
  generalize hBe : va_A (wcat []) s.heap.size = B0 at hD hAm
  obtain ⟨A, hAe⟩ : ∃ A, A = va_A [] s.heap.size := ⟨_, rfl⟩
  rw [← hAe]
  have hA : ∀ q : Nat, s.heap.size ≤ q → A q := fun q h => by rw [hAe]; exact Or.inr h
  have hAB : ∀ q : Nat, A q → B0 q := fun q h => by rw [hAe] at h; rw [← hBe]; exact Or.inr (wnone h)
  have hS : va_S A s.heap s.heap [] := va_S.rf
  have hl := lv_entry ([.int ch]) (n := 1) (Nat.le_of_ble_eq_true rfl)
  rw [lg_entry_eq]
  generalize (lg_sl ([.int ch]) ++ List.replicate (1 - (lg_sl ([.int ch])).length) Slot.unset).toArray = ls at hl ⊢
  have hl : lv_has ls 1 [(0, .int ch)] := hl
  have hq : (fX1_isDigit ch) = (if ch < (nI 48) then ((nI 0)) else (if (nI 57) < ch then ((nI 0)) else ((nI 1)))) := rfl
  refine lv_iload_n hx hb dX1_isDigit_0 rfl (lv_at hl 0 rfl) ?_
  refine lv_bipush (v := (nI 48)) hx hb dX1_isDigit_1 (by decide) ?_
  refine lv_icmp_lt (tgt := 16) hx hb dX1_isDigit_3 (by decide) (fun c_1 => ?_) (fun c_1 => ?_)
  · have hq := hq.trans (if_pos c_1)
    refine lv_iconst (v := (nI 0)) hx hb dX1_isDigit_16 (by decide) ?_
    exact W.zret (v := (nI 0)) hx hb hr (by first | rfl | decide) (fun t ht hW => eLI hS ht (by rw [hq])) hS.2.2 dX1_isDigit_17
  · have hq := hq.trans (if_neg c_1)
    refine lv_iload_n hx hb dX1_isDigit_6 rfl (lv_at hl 0 rfl) ?_
    refine lv_bipush (v := (nI 57)) hx hb dX1_isDigit_7 (by decide) ?_
    refine lv_icmp_gt (tgt := 16) hx hb dX1_isDigit_9 (by decide) (fun c_2 => ?_) (fun c_2 => ?_)
    · have hq := hq.trans (if_pos c_2)
      refine lv_iconst (v := (nI 0)) hx hb dX1_isDigit_16 (by decide) ?_
      exact W.zret (v := (nI 0)) hx hb hr (by first | rfl | decide) (fun t ht hW => eLI hS ht (by rw [hq])) hS.2.2 dX1_isDigit_17
    · have hq := hq.trans (if_neg c_2)
      refine lv_iconst (v := (nI 1)) hx hb dX1_isDigit_12 (by decide) ?_
      refine lv_goto (tgt := 17) hx hb dX1_isDigit_13 (by decide) ?_
      exact W.zret (v := (nI 1)) hx hb hr (by first | rfl | decide) (fun t ht hW => eLI hS ht (by rw [hq])) hS.2.2 dX1_isDigit_17
def fX1_afterOrder (ch : Int32) : Int32 := (if ch = (nI 59) then ((nI 0)) else ((-1)))
set_option maxHeartbeats 4000000 in
set_option maxRecDepth 100000 in
theorem kX1_afterOrder (l : Launch) (Γ : wG) (ch : Int32) : LI l Γ yX1_afterOrder wsX1_afterOrder ({ frames := 0, cells := 0, slots := 0, locals := 0 }) [.int ch] [] (fX1_afterOrder ch) := by
  intro sz
  refine Met.ofW (cc := cX1_afterOrder) (maxL := 1) (ret := (some .int)) (by decide) rfl ?_
  intro p e s m args below meth c s₁ B hml hv
  obtain ⟨rfl, hsz, hP, hK, hD0, hAm⟩ := hv
  have hx := B.exec
  have hb := B.bytes
  have hr := B.returns
  have hts := atoms_spec (ws := wsX1_afterOrder) B.pre
  have hown : s.vm.findClass RX1 = some m.cls := findClass_of_methodNamed B.named
  have hlocks := B.notSynchronized
  subst hsz
  have hD := hD0.self (sz := s.heap.size)
  generalize hBe : va_A (wcat []) s.heap.size = B0 at hD hAm
  obtain ⟨A, hAe⟩ : ∃ A, A = va_A [] s.heap.size := ⟨_, rfl⟩
  rw [← hAe]
  have hA : ∀ q : Nat, s.heap.size ≤ q → A q := fun q h => by rw [hAe]; exact Or.inr h
  have hAB : ∀ q : Nat, A q → B0 q := fun q h => by rw [hAe] at h; rw [← hBe]; exact Or.inr (wnone h)
  have hS : va_S A s.heap s.heap [] := va_S.rf
  have hl := lv_entry ([.int ch]) (n := 1) (Nat.le_of_ble_eq_true rfl)
  rw [lg_entry_eq]
  generalize (lg_sl ([.int ch]) ++ List.replicate (1 - (lg_sl ([.int ch])).length) Slot.unset).toArray = ls at hl ⊢
  have hl : lv_has ls 1 [(0, .int ch)] := hl
  have hq : (fX1_afterOrder ch) = (if ch = (nI 59) then ((nI 0)) else ((-1))) := rfl
  refine lv_iload_n hx hb dX1_afterOrder_0 rfl (lv_at hl 0 rfl) ?_
  refine lv_bipush (v := (nI 59)) hx hb dX1_afterOrder_1 (by decide) ?_
  refine lv_icmp_ne (tgt := 10) hx hb dX1_afterOrder_3 (by decide) (fun c_1 => ?_) (fun c_1 => ?_)
  · have hq := hq.trans (if_neg c_1)
    refine lv_iconst (v := (-1)) hx hb dX1_afterOrder_10 (by decide) ?_
    exact W.iret (v := (-1)) hx hb hr (fun t ht hW => eLI hS ht (by rw [hq])) hS.2.2 dX1_afterOrder_11
  · have hq := hq.trans (if_pos c_1)
    refine lv_iconst (v := (nI 0)) hx hb dX1_afterOrder_6 (by decide) ?_
    refine lv_goto (tgt := 11) hx hb dX1_afterOrder_7 (by decide) ?_
    exact W.iret (v := (nI 0)) hx hb hr (fun t ht hW => eLI hS ht (by rw [hq])) hS.2.2 dX1_afterOrder_11
def fX1_afterLetter (ch : Int32) : Int32 := (if ch = (nI 100) then ((nI 1)) else (if ch = (nI 104) then ((nI 4)) else (if ch = (nI 113) then ((nI 2)) else (if ch = (nI 114) then ((nI 9)) else (if ch = (nI 116) then ((nI 6)) else ((-1)))))))
set_option maxHeartbeats 4000000 in
set_option maxRecDepth 100000 in
theorem kX1_afterLetter (l : Launch) (Γ : wG) (ch : Int32) : LI l Γ yX1_afterLetter wsX1_afterLetter ({ frames := 0, cells := 0, slots := 0, locals := 0 }) [.int ch] [] (fX1_afterLetter ch) := by
  intro sz
  refine Met.ofW (cc := cX1_afterLetter) (maxL := 1) (ret := (some .int)) (by decide) rfl ?_
  intro p e s m args below meth c s₁ B hml hv
  obtain ⟨rfl, hsz, hP, hK, hD0, hAm⟩ := hv
  have hx := B.exec
  have hb := B.bytes
  have hr := B.returns
  have hts := atoms_spec (ws := wsX1_afterLetter) B.pre
  have hown : s.vm.findClass RX1 = some m.cls := findClass_of_methodNamed B.named
  have hlocks := B.notSynchronized
  subst hsz
  have hD := hD0.self (sz := s.heap.size)
  generalize hBe : va_A (wcat []) s.heap.size = B0 at hD hAm
  obtain ⟨A, hAe⟩ : ∃ A, A = va_A [] s.heap.size := ⟨_, rfl⟩
  rw [← hAe]
  have hA : ∀ q : Nat, s.heap.size ≤ q → A q := fun q h => by rw [hAe]; exact Or.inr h
  have hAB : ∀ q : Nat, A q → B0 q := fun q h => by rw [hAe] at h; rw [← hBe]; exact Or.inr (wnone h)
  have hS : va_S A s.heap s.heap [] := va_S.rf
  have hl := lv_entry ([.int ch]) (n := 1) (Nat.le_of_ble_eq_true rfl)
  rw [lg_entry_eq]
  generalize (lg_sl ([.int ch]) ++ List.replicate (1 - (lg_sl ([.int ch])).length) Slot.unset).toArray = ls at hl ⊢
  have hl : lv_has ls 1 [(0, .int ch)] := hl
  have hq : (fX1_afterLetter ch) = (if ch = (nI 100) then ((nI 1)) else (if ch = (nI 104) then ((nI 4)) else (if ch = (nI 113) then ((nI 2)) else (if ch = (nI 114) then ((nI 9)) else (if ch = (nI 116) then ((nI 6)) else ((-1))))))) := rfl
  refine lv_iload_n hx hb dX1_afterLetter_0 rfl (lv_at hl 0 rfl) ?_
  by_cases c_1 : ch = (nI 100)
  · have hq := hq.trans (if_pos c_1)
    refine lv_lookup (off := 51) (tgt := 52) hx hb dX1_afterLetter_1 (by decide) (by rw [c_1]; decide +kernel) (by decide) ?_
    refine lv_iconst (v := (nI 1)) hx hb dX1_afterLetter_52 (by decide) ?_
    exact W.iret (v := (nI 1)) hx hb hr (fun t ht hW => eLI hS ht (by rw [hq])) hS.2.2 dX1_afterLetter_53
  replace hq := hq.trans (if_neg c_1)
  by_cases c_2 : ch = (nI 104)
  · have hq := hq.trans (if_pos c_2)
    refine lv_lookup (off := 55) (tgt := 56) hx hb dX1_afterLetter_1 (by decide) (by rw [c_2]; decide +kernel) (by decide) ?_
    refine lv_iconst (v := (nI 4)) hx hb dX1_afterLetter_56 (by decide) ?_
    exact W.iret (v := (nI 4)) hx hb hr (fun t ht hW => eLI hS ht (by rw [hq])) hS.2.2 dX1_afterLetter_57
  replace hq := hq.trans (if_neg c_2)
  by_cases c_3 : ch = (nI 113)
  · have hq := hq.trans (if_pos c_3)
    refine lv_lookup (off := 53) (tgt := 54) hx hb dX1_afterLetter_1 (by decide) (by rw [c_3]; decide +kernel) (by decide) ?_
    refine lv_iconst (v := (nI 2)) hx hb dX1_afterLetter_54 (by decide) ?_
    exact W.iret (v := (nI 2)) hx hb hr (fun t ht hW => eLI hS ht (by rw [hq])) hS.2.2 dX1_afterLetter_55
  replace hq := hq.trans (if_neg c_3)
  by_cases c_4 : ch = (nI 114)
  · have hq := hq.trans (if_pos c_4)
    refine lv_lookup (off := 60) (tgt := 61) hx hb dX1_afterLetter_1 (by decide) (by rw [c_4]; decide +kernel) (by decide) ?_
    refine lv_bipush (v := (nI 9)) hx hb dX1_afterLetter_61 (by decide) ?_
    exact W.iret (v := (nI 9)) hx hb hr (fun t ht hW => eLI hS ht (by rw [hq])) hS.2.2 dX1_afterLetter_63
  replace hq := hq.trans (if_neg c_4)
  by_cases c_5 : ch = (nI 116)
  · have hq := hq.trans (if_pos c_5)
    refine lv_lookup (off := 57) (tgt := 58) hx hb dX1_afterLetter_1 (by decide) (by rw [c_5]; decide +kernel) (by decide) ?_
    refine lv_bipush (v := (nI 6)) hx hb dX1_afterLetter_58 (by decide) ?_
    exact W.iret (v := (nI 6)) hx hb hr (fun t ht hW => eLI hS ht (by rw [hq])) hS.2.2 dX1_afterLetter_60
  replace hq := hq.trans (if_neg c_5)
  refine lv_lookup (off := 63) (tgt := 64) hx hb dX1_afterLetter_1 (by decide) ((lv_osw c_1 (by decide)).trans ((lv_osw c_2 (by decide)).trans ((lv_osw c_3 (by decide)).trans ((lv_osw c_4 (by decide)).trans ((lv_osw c_5 (by decide)).trans (rfl)))))) (by decide) ?_
  refine lv_iconst (v := (-1)) hx hb dX1_afterLetter_64 (by decide) ?_
  exact W.iret (v := (-1)) hx hb hr (fun t ht hW => eLI hS ht (by rw [hq])) hS.2.2 dX1_afterLetter_65
def fX1_after (st : Int32) (ch : Int32) : Int32 := (if st = (nI 0) then ((fX1_afterLetter ch)) else (if st = (nI 1) then (if (fX1_isKeeperDigit ch) = 0 then ((-1)) else ((nI 9))) else (if st = (nI 2) then (if (fX1_isKeeperDigit ch) = 0 then ((-1)) else ((nI 3))) else (if st = (nI 3) then (if ch = (nI 45) then ((nI 1)) else ((-1))) else (if st = (nI 4) then (if (fX1_isKeeperDigit ch) = 0 then ((-1)) else ((nI 5))) else (if st = (nI 5) then (if ch = (nI 62) then ((nI 1)) else ((-1))) else (if st = (nI 6) then (if (fX1_isDigit ch) = 0 then ((-1)) else (if ch = (nI 48) then ((-1)) else ((nI 7)))) else (if st = (nI 7) then (if (fX1_isDigit ch) = 0 then ((fX1_afterOrder ch)) else ((nI 8))) else (if st = (nI 8) then (if (fX1_isDigit ch) = 0 then ((fX1_afterOrder ch)) else ((nI 9))) else (if st = (nI 9) then ((fX1_afterOrder ch)) else ((-1))))))))))))
set_option maxHeartbeats 4000000 in
set_option maxRecDepth 100000 in
theorem kX1_after (l : Launch) (Γ : wG) (st : Int32) (ch : Int32) : LI l Γ yX1_after wsX1_after ({ frames := 1, cells := 0, slots := 0, locals := 20 }) [.int st, .int ch] [] (fX1_after st ch) := by
  intro sz
  refine Met.ofW (cc := cX1_after) (maxL := 2) (ret := (some .int)) (by decide) rfl ?_
  intro p e s m args below meth c s₁ B hml hv
  obtain ⟨rfl, hsz, hP, hK, hD0, hAm⟩ := hv
  have hx := B.exec
  have hb := B.bytes
  have hr := B.returns
  have hts := atoms_spec (ws := wsX1_after) B.pre
  have hown : s.vm.findClass RX1 = some m.cls := findClass_of_methodNamed B.named
  have hlocks := B.notSynchronized
  subst hsz
  have hD := hD0.self (sz := s.heap.size)
  generalize hBe : va_A (wcat []) s.heap.size = B0 at hD hAm
  obtain ⟨A, hAe⟩ : ∃ A, A = va_A [] s.heap.size := ⟨_, rfl⟩
  rw [← hAe]
  have hA : ∀ q : Nat, s.heap.size ≤ q → A q := fun q h => by rw [hAe]; exact Or.inr h
  have hAB : ∀ q : Nat, A q → B0 q := fun q h => by rw [hAe] at h; rw [← hBe]; exact Or.inr (wnone h)
  have hS : va_S A s.heap s.heap [] := va_S.rf
  have hl := lv_entry ([.int st, .int ch]) (n := 2) (Nat.le_of_ble_eq_true rfl)
  rw [lg_entry_eq]
  generalize (lg_sl ([.int st, .int ch]) ++ List.replicate (2 - (lg_sl ([.int st, .int ch])).length) Slot.unset).toArray = ls at hl ⊢
  have hl : lv_has ls 2 [(0, .int st), (1, .int ch)] := hl
  have hq : (fX1_after st ch) = (if st = (nI 0) then ((fX1_afterLetter ch)) else (if st = (nI 1) then (if (fX1_isKeeperDigit ch) = 0 then ((-1)) else ((nI 9))) else (if st = (nI 2) then (if (fX1_isKeeperDigit ch) = 0 then ((-1)) else ((nI 3))) else (if st = (nI 3) then (if ch = (nI 45) then ((nI 1)) else ((-1))) else (if st = (nI 4) then (if (fX1_isKeeperDigit ch) = 0 then ((-1)) else ((nI 5))) else (if st = (nI 5) then (if ch = (nI 62) then ((nI 1)) else ((-1))) else (if st = (nI 6) then (if (fX1_isDigit ch) = 0 then ((-1)) else (if ch = (nI 48) then ((-1)) else ((nI 7)))) else (if st = (nI 7) then (if (fX1_isDigit ch) = 0 then ((fX1_afterOrder ch)) else ((nI 8))) else (if st = (nI 8) then (if (fX1_isDigit ch) = 0 then ((fX1_afterOrder ch)) else ((nI 9))) else (if st = (nI 9) then ((fX1_afterOrder ch)) else ((-1)))))))))))) := rfl
  refine lv_iload_n hx hb dX1_after_0 rfl (lv_at hl 0 rfl) ?_
  by_cases c_1 : st = (nI 0)
  · have hq := hq.trans (if_pos c_1)
    refine lv_tableIn (off := 55) (tgt := 56) hx hb dX1_after_1 (by rw [c_1]; decide) (by rw [c_1]; decide) (by rw [c_1]; decide +kernel) (by decide) ?_
    refine lv_iload_n hx hb dX1_after_56 rfl (lv_at hl 1 rfl) ?_
    refine cLI (va_runS (As := [.int ch]) (rest := []) ⟨hx, hb, hml, hown, hts⟩ ((kX1_afterLetter l Γ ch) _) (va_cwS 1 hts gX1_after_X1_afterLetter rfl rfl rfl (by decide +kernel) ⟨Nat.le_of_ble_eq_true rfl, Nat.le_of_ble_eq_true rfl⟩) ⟨wPre_blind, wPre_mk hP hD hK hS hA hAB hAm [] rfl rfl⟩ rfl rfl hl.1 rfl (lv_room (Nat.le_of_ble_eq_true rfl)) dX1_after_57 ⟨Nat.zero_le _, Nat.zero_le _⟩) hP hS hA (fun H locs hP hS => ?_)
    exact W.iret (v := (fX1_afterLetter ch)) hx hb hr (fun t ht hW => eLI hS ht (by rw [hq])) hS.2.2 dX1_after_60
  replace hq := hq.trans (if_neg c_1)
  by_cases c_2 : st = (nI 1)
  · have hq := hq.trans (if_pos c_2)
    refine lv_tableIn (off := 60) (tgt := 61) hx hb dX1_after_1 (by rw [c_2]; decide) (by rw [c_2]; decide) (by rw [c_2]; decide +kernel) (by decide) ?_
    refine lv_iload_n hx hb dX1_after_61 rfl (lv_at hl 1 rfl) ?_
    refine cLI (va_runS (As := [.int ch]) (rest := []) ⟨hx, hb, hml, hown, hts⟩ ((kX1_isKeeperDigit l Γ ch) _) (va_cwS 1 hts gX1_after_X1_isKeeperDigit rfl rfl rfl (by decide +kernel) ⟨Nat.le_of_ble_eq_true rfl, Nat.le_of_ble_eq_true rfl⟩) ⟨wPre_blind, wPre_mk hP hD hK hS hA hAB hAm [] rfl rfl⟩ rfl rfl hl.1 rfl (lv_room (Nat.le_of_ble_eq_true rfl)) dX1_after_62 ⟨Nat.zero_le _, Nat.zero_le _⟩) hP hS hA (fun H locs hP hS => ?_)
    refine lv_if_eq (tgt := 73) hx hb dX1_after_65 (by decide) (fun c_3 => ?_) (fun c_3 => ?_)
    · have hq := hq.trans (if_pos c_3)
      refine lv_iconst (v := (-1)) hx hb dX1_after_73 (by decide) ?_
      exact W.iret (v := (-1)) hx hb hr (fun t ht hW => eLI hS ht (by rw [hq])) hS.2.2 dX1_after_74
    · have hq := hq.trans (if_neg c_3)
      refine lv_bipush (v := (nI 9)) hx hb dX1_after_68 (by decide) ?_
      refine lv_goto (tgt := 74) hx hb dX1_after_70 (by decide) ?_
      exact W.iret (v := (nI 9)) hx hb hr (fun t ht hW => eLI hS ht (by rw [hq])) hS.2.2 dX1_after_74
  replace hq := hq.trans (if_neg c_2)
  by_cases c_4 : st = (nI 2)
  · have hq := hq.trans (if_pos c_4)
    refine lv_tableIn (off := 74) (tgt := 75) hx hb dX1_after_1 (by rw [c_4]; decide) (by rw [c_4]; decide) (by rw [c_4]; decide +kernel) (by decide) ?_
    refine lv_iload_n hx hb dX1_after_75 rfl (lv_at hl 1 rfl) ?_
    refine cLI (va_runS (As := [.int ch]) (rest := []) ⟨hx, hb, hml, hown, hts⟩ ((kX1_isKeeperDigit l Γ ch) _) (va_cwS 1 hts gX1_after_X1_isKeeperDigit rfl rfl rfl (by decide +kernel) ⟨Nat.le_of_ble_eq_true rfl, Nat.le_of_ble_eq_true rfl⟩) ⟨wPre_blind, wPre_mk hP hD hK hS hA hAB hAm [] rfl rfl⟩ rfl rfl hl.1 rfl (lv_room (Nat.le_of_ble_eq_true rfl)) dX1_after_76 ⟨Nat.zero_le _, Nat.zero_le _⟩) hP hS hA (fun H locs hP hS => ?_)
    refine lv_if_eq (tgt := 86) hx hb dX1_after_79 (by decide) (fun c_5 => ?_) (fun c_5 => ?_)
    · have hq := hq.trans (if_pos c_5)
      refine lv_iconst (v := (-1)) hx hb dX1_after_86 (by decide) ?_
      exact W.iret (v := (-1)) hx hb hr (fun t ht hW => eLI hS ht (by rw [hq])) hS.2.2 dX1_after_87
    · have hq := hq.trans (if_neg c_5)
      refine lv_iconst (v := (nI 3)) hx hb dX1_after_82 (by decide) ?_
      refine lv_goto (tgt := 87) hx hb dX1_after_83 (by decide) ?_
      exact W.iret (v := (nI 3)) hx hb hr (fun t ht hW => eLI hS ht (by rw [hq])) hS.2.2 dX1_after_87
  replace hq := hq.trans (if_neg c_4)
  by_cases c_6 : st = (nI 3)
  · have hq := hq.trans (if_pos c_6)
    refine lv_tableIn (off := 87) (tgt := 88) hx hb dX1_after_1 (by rw [c_6]; decide) (by rw [c_6]; decide) (by rw [c_6]; decide +kernel) (by decide) ?_
    refine lv_iload_n hx hb dX1_after_88 rfl (lv_at hl 1 rfl) ?_
    refine lv_bipush (v := (nI 45)) hx hb dX1_after_89 (by decide) ?_
    refine lv_icmp_ne (tgt := 98) hx hb dX1_after_91 (by decide) (fun c_7 => ?_) (fun c_7 => ?_)
    · have hq := hq.trans (if_neg c_7)
      refine lv_iconst (v := (-1)) hx hb dX1_after_98 (by decide) ?_
      exact W.iret (v := (-1)) hx hb hr (fun t ht hW => eLI hS ht (by rw [hq])) hS.2.2 dX1_after_99
    · have hq := hq.trans (if_pos c_7)
      refine lv_iconst (v := (nI 1)) hx hb dX1_after_94 (by decide) ?_
      refine lv_goto (tgt := 99) hx hb dX1_after_95 (by decide) ?_
      exact W.iret (v := (nI 1)) hx hb hr (fun t ht hW => eLI hS ht (by rw [hq])) hS.2.2 dX1_after_99
  replace hq := hq.trans (if_neg c_6)
  by_cases c_8 : st = (nI 4)
  · have hq := hq.trans (if_pos c_8)
    refine lv_tableIn (off := 99) (tgt := 100) hx hb dX1_after_1 (by rw [c_8]; decide) (by rw [c_8]; decide) (by rw [c_8]; decide +kernel) (by decide) ?_
    refine lv_iload_n hx hb dX1_after_100 rfl (lv_at hl 1 rfl) ?_
    refine cLI (va_runS (As := [.int ch]) (rest := []) ⟨hx, hb, hml, hown, hts⟩ ((kX1_isKeeperDigit l Γ ch) _) (va_cwS 1 hts gX1_after_X1_isKeeperDigit rfl rfl rfl (by decide +kernel) ⟨Nat.le_of_ble_eq_true rfl, Nat.le_of_ble_eq_true rfl⟩) ⟨wPre_blind, wPre_mk hP hD hK hS hA hAB hAm [] rfl rfl⟩ rfl rfl hl.1 rfl (lv_room (Nat.le_of_ble_eq_true rfl)) dX1_after_101 ⟨Nat.zero_le _, Nat.zero_le _⟩) hP hS hA (fun H locs hP hS => ?_)
    refine lv_if_eq (tgt := 111) hx hb dX1_after_104 (by decide) (fun c_9 => ?_) (fun c_9 => ?_)
    · have hq := hq.trans (if_pos c_9)
      refine lv_iconst (v := (-1)) hx hb dX1_after_111 (by decide) ?_
      exact W.iret (v := (-1)) hx hb hr (fun t ht hW => eLI hS ht (by rw [hq])) hS.2.2 dX1_after_112
    · have hq := hq.trans (if_neg c_9)
      refine lv_iconst (v := (nI 5)) hx hb dX1_after_107 (by decide) ?_
      refine lv_goto (tgt := 112) hx hb dX1_after_108 (by decide) ?_
      exact W.iret (v := (nI 5)) hx hb hr (fun t ht hW => eLI hS ht (by rw [hq])) hS.2.2 dX1_after_112
  replace hq := hq.trans (if_neg c_8)
  by_cases c_10 : st = (nI 5)
  · have hq := hq.trans (if_pos c_10)
    refine lv_tableIn (off := 112) (tgt := 113) hx hb dX1_after_1 (by rw [c_10]; decide) (by rw [c_10]; decide) (by rw [c_10]; decide +kernel) (by decide) ?_
    refine lv_iload_n hx hb dX1_after_113 rfl (lv_at hl 1 rfl) ?_
    refine lv_bipush (v := (nI 62)) hx hb dX1_after_114 (by decide) ?_
    refine lv_icmp_ne (tgt := 123) hx hb dX1_after_116 (by decide) (fun c_11 => ?_) (fun c_11 => ?_)
    · have hq := hq.trans (if_neg c_11)
      refine lv_iconst (v := (-1)) hx hb dX1_after_123 (by decide) ?_
      exact W.iret (v := (-1)) hx hb hr (fun t ht hW => eLI hS ht (by rw [hq])) hS.2.2 dX1_after_124
    · have hq := hq.trans (if_pos c_11)
      refine lv_iconst (v := (nI 1)) hx hb dX1_after_119 (by decide) ?_
      refine lv_goto (tgt := 124) hx hb dX1_after_120 (by decide) ?_
      exact W.iret (v := (nI 1)) hx hb hr (fun t ht hW => eLI hS ht (by rw [hq])) hS.2.2 dX1_after_124
  replace hq := hq.trans (if_neg c_10)
  by_cases c_12 : st = (nI 6)
  · have hq := hq.trans (if_pos c_12)
    refine lv_tableIn (off := 124) (tgt := 125) hx hb dX1_after_1 (by rw [c_12]; decide) (by rw [c_12]; decide) (by rw [c_12]; decide +kernel) (by decide) ?_
    refine lv_iload_n hx hb dX1_after_125 rfl (lv_at hl 1 rfl) ?_
    refine cLI (va_runS (As := [.int ch]) (rest := []) ⟨hx, hb, hml, hown, hts⟩ ((kX1_isDigit l Γ ch) _) (va_cwS 1 hts gX1_after_X1_isDigit rfl rfl rfl (by decide +kernel) ⟨Nat.le_of_ble_eq_true rfl, Nat.le_of_ble_eq_true rfl⟩) ⟨wPre_blind, wPre_mk hP hD hK hS hA hAB hAm [] rfl rfl⟩ rfl rfl hl.1 rfl (lv_room (Nat.le_of_ble_eq_true rfl)) dX1_after_126 ⟨Nat.zero_le _, Nat.zero_le _⟩) hP hS hA (fun H locs hP hS => ?_)
    refine lv_if_eq (tgt := 143) hx hb dX1_after_129 (by decide) (fun c_13 => ?_) (fun c_13 => ?_)
    · have hq := hq.trans (if_pos c_13)
      refine lv_iconst (v := (-1)) hx hb dX1_after_143 (by decide) ?_
      exact W.iret (v := (-1)) hx hb hr (fun t ht hW => eLI hS ht (by rw [hq])) hS.2.2 dX1_after_144
    · have hq := hq.trans (if_neg c_13)
      refine lv_iload_n hx hb dX1_after_132 rfl (lv_at hl 1 rfl) ?_
      refine lv_bipush (v := (nI 48)) hx hb dX1_after_133 (by decide) ?_
      refine lv_icmp_eq (tgt := 143) hx hb dX1_after_135 (by decide) (fun c_14 => ?_) (fun c_14 => ?_)
      · have hq := hq.trans (if_pos c_14)
        refine lv_iconst (v := (-1)) hx hb dX1_after_143 (by decide) ?_
        exact W.iret (v := (-1)) hx hb hr (fun t ht hW => eLI hS ht (by rw [hq])) hS.2.2 dX1_after_144
      · have hq := hq.trans (if_neg c_14)
        refine lv_bipush (v := (nI 7)) hx hb dX1_after_138 (by decide) ?_
        refine lv_goto (tgt := 144) hx hb dX1_after_140 (by decide) ?_
        exact W.iret (v := (nI 7)) hx hb hr (fun t ht hW => eLI hS ht (by rw [hq])) hS.2.2 dX1_after_144
  replace hq := hq.trans (if_neg c_12)
  by_cases c_15 : st = (nI 7)
  · have hq := hq.trans (if_pos c_15)
    refine lv_tableIn (off := 144) (tgt := 145) hx hb dX1_after_1 (by rw [c_15]; decide) (by rw [c_15]; decide) (by rw [c_15]; decide +kernel) (by decide) ?_
    refine lv_iload_n hx hb dX1_after_145 rfl (lv_at hl 1 rfl) ?_
    refine cLI (va_runS (As := [.int ch]) (rest := []) ⟨hx, hb, hml, hown, hts⟩ ((kX1_isDigit l Γ ch) _) (va_cwS 1 hts gX1_after_X1_isDigit rfl rfl rfl (by decide +kernel) ⟨Nat.le_of_ble_eq_true rfl, Nat.le_of_ble_eq_true rfl⟩) ⟨wPre_blind, wPre_mk hP hD hK hS hA hAB hAm [] rfl rfl⟩ rfl rfl hl.1 rfl (lv_room (Nat.le_of_ble_eq_true rfl)) dX1_after_146 ⟨Nat.zero_le _, Nat.zero_le _⟩) hP hS hA (fun H locs hP hS => ?_)
    refine lv_if_eq (tgt := 157) hx hb dX1_after_149 (by decide) (fun c_16 => ?_) (fun c_16 => ?_)
    · have hq := hq.trans (if_pos c_16)
      refine lv_iload_n hx hb dX1_after_157 rfl (lv_at hl 1 rfl) ?_
      refine cLI (va_runS (As := [.int ch]) (rest := []) ⟨hx, hb, hml, hown, hts⟩ ((kX1_afterOrder l Γ ch) _) (va_cwS 1 hts gX1_after_X1_afterOrder rfl rfl rfl (by decide +kernel) ⟨Nat.le_of_ble_eq_true rfl, Nat.le_of_ble_eq_true rfl⟩) ⟨wPre_blind, wPre_mk hP hD hK hS hA hAB hAm [] rfl rfl⟩ rfl rfl hl.1 rfl (lv_room (Nat.le_of_ble_eq_true rfl)) dX1_after_158 ⟨Nat.zero_le _, Nat.zero_le _⟩) hP hS hA (fun H locs hP hS => ?_)
      exact W.iret (v := (fX1_afterOrder ch)) hx hb hr (fun t ht hW => eLI hS ht (by rw [hq])) hS.2.2 dX1_after_161
    · have hq := hq.trans (if_neg c_16)
      refine lv_bipush (v := (nI 8)) hx hb dX1_after_152 (by decide) ?_
      refine lv_goto (tgt := 161) hx hb dX1_after_154 (by decide) ?_
      exact W.iret (v := (nI 8)) hx hb hr (fun t ht hW => eLI hS ht (by rw [hq])) hS.2.2 dX1_after_161
  replace hq := hq.trans (if_neg c_15)
  by_cases c_17 : st = (nI 8)
  · have hq := hq.trans (if_pos c_17)
    refine lv_tableIn (off := 161) (tgt := 162) hx hb dX1_after_1 (by rw [c_17]; decide) (by rw [c_17]; decide) (by rw [c_17]; decide +kernel) (by decide) ?_
    refine lv_iload_n hx hb dX1_after_162 rfl (lv_at hl 1 rfl) ?_
    refine cLI (va_runS (As := [.int ch]) (rest := []) ⟨hx, hb, hml, hown, hts⟩ ((kX1_isDigit l Γ ch) _) (va_cwS 1 hts gX1_after_X1_isDigit rfl rfl rfl (by decide +kernel) ⟨Nat.le_of_ble_eq_true rfl, Nat.le_of_ble_eq_true rfl⟩) ⟨wPre_blind, wPre_mk hP hD hK hS hA hAB hAm [] rfl rfl⟩ rfl rfl hl.1 rfl (lv_room (Nat.le_of_ble_eq_true rfl)) dX1_after_163 ⟨Nat.zero_le _, Nat.zero_le _⟩) hP hS hA (fun H locs hP hS => ?_)
    refine lv_if_eq (tgt := 174) hx hb dX1_after_166 (by decide) (fun c_18 => ?_) (fun c_18 => ?_)
    · have hq := hq.trans (if_pos c_18)
      refine lv_iload_n hx hb dX1_after_174 rfl (lv_at hl 1 rfl) ?_
      refine cLI (va_runS (As := [.int ch]) (rest := []) ⟨hx, hb, hml, hown, hts⟩ ((kX1_afterOrder l Γ ch) _) (va_cwS 1 hts gX1_after_X1_afterOrder rfl rfl rfl (by decide +kernel) ⟨Nat.le_of_ble_eq_true rfl, Nat.le_of_ble_eq_true rfl⟩) ⟨wPre_blind, wPre_mk hP hD hK hS hA hAB hAm [] rfl rfl⟩ rfl rfl hl.1 rfl (lv_room (Nat.le_of_ble_eq_true rfl)) dX1_after_175 ⟨Nat.zero_le _, Nat.zero_le _⟩) hP hS hA (fun H locs hP hS => ?_)
      exact W.iret (v := (fX1_afterOrder ch)) hx hb hr (fun t ht hW => eLI hS ht (by rw [hq])) hS.2.2 dX1_after_178
    · have hq := hq.trans (if_neg c_18)
      refine lv_bipush (v := (nI 9)) hx hb dX1_after_169 (by decide) ?_
      refine lv_goto (tgt := 178) hx hb dX1_after_171 (by decide) ?_
      exact W.iret (v := (nI 9)) hx hb hr (fun t ht hW => eLI hS ht (by rw [hq])) hS.2.2 dX1_after_178
  replace hq := hq.trans (if_neg c_17)
  by_cases c_19 : st = (nI 9)
  · have hq := hq.trans (if_pos c_19)
    refine lv_tableIn (off := 178) (tgt := 179) hx hb dX1_after_1 (by rw [c_19]; decide) (by rw [c_19]; decide) (by rw [c_19]; decide +kernel) (by decide) ?_
    refine lv_iload_n hx hb dX1_after_179 rfl (lv_at hl 1 rfl) ?_
    refine cLI (va_runS (As := [.int ch]) (rest := []) ⟨hx, hb, hml, hown, hts⟩ ((kX1_afterOrder l Γ ch) _) (va_cwS 1 hts gX1_after_X1_afterOrder rfl rfl rfl (by decide +kernel) ⟨Nat.le_of_ble_eq_true rfl, Nat.le_of_ble_eq_true rfl⟩) ⟨wPre_blind, wPre_mk hP hD hK hS hA hAB hAm [] rfl rfl⟩ rfl rfl hl.1 rfl (lv_room (Nat.le_of_ble_eq_true rfl)) dX1_after_180 ⟨Nat.zero_le _, Nat.zero_le _⟩) hP hS hA (fun H locs hP hS => ?_)
    exact W.iret (v := (fX1_afterOrder ch)) hx hb hr (fun t ht hW => eLI hS ht (by rw [hq])) hS.2.2 dX1_after_183
  replace hq := hq.trans (if_neg c_19)
  have tc_1 := lv_neT (a := 0) c_1 (by decide)
  have tc_2 := lv_neT (a := 1) c_2 (by decide)
  have tc_4 := lv_neT (a := 2) c_4 (by decide)
  have tc_6 := lv_neT (a := 3) c_6 (by decide)
  have tc_8 := lv_neT (a := 4) c_8 (by decide)
  have tc_10 := lv_neT (a := 5) c_10 (by decide)
  have tc_12 := lv_neT (a := 6) c_12 (by decide)
  have tc_15 := lv_neT (a := 7) c_15 (by decide)
  have tc_17 := lv_neT (a := 8) c_17 (by decide)
  have tc_19 := lv_neT (a := 9) c_19 (by decide)
  refine lv_tableOut (tgt := 184) hx hb dX1_after_1 (by omega) (by decide) ?_
  refine lv_iconst (v := (-1)) hx hb dX1_after_184 (by decide) ?_
  exact W.iret (v := (-1)) hx hb hr (fun t ht hW => eLI hS ht (by rw [hq])) hS.2.2 dX1_after_185
def fX1_code (L : Nat) (cs : (Nat → Int32)) (k : Int32) : Int32 := (if k < 0 then ((nI 0)) else (if (nI L) ≤ k then ((nI 0)) else (if (nI 60) ≤ k then ((nI 0)) else ((cs k.toNatClampNeg)))))
set_option maxHeartbeats 4000000 in
set_option maxRecDepth 100000 in
theorem kX1_code (l : Launch) (Γ : wG) (a : Nat → Nat) (L : Nat) (cs : (Nat → Int32)) (k : Int32) (hL : L ≤ 60) : LI l Γ yX1_code wsX1_code ({ frames := 0, cells := 0, slots := 0, locals := 0 }) [.ref (a 0), .int k] [txB Γ a cs (nI L)] (fX1_code L cs k) := by
  intro sz
  refine Met.ofW (cc := cX1_code) (maxL := 2) (ret := (some .int)) (by decide) rfl ?_
  intro p e s m args below meth c s₁ B hml hv
  obtain ⟨rfl, hsz, hP, hK, hD0, hAm⟩ := hv
  have hx := B.exec
  have hb := B.bytes
  have hr := B.returns
  have hts := atoms_spec (ws := wsX1_code) B.pre
  have hown : s.vm.findClass RX1 = some m.cls := findClass_of_methodNamed B.named
  have hlocks := B.notSynchronized
  subst hsz
  have hD := hD0.self (sz := s.heap.size)
  generalize hBe : va_A (wcat [txB Γ a cs (nI L)]) s.heap.size = B0 at hD hAm
  obtain ⟨A, hAe⟩ : ∃ A, A = va_A [] s.heap.size := ⟨_, rfl⟩
  rw [← hAe]
  have hA : ∀ q : Nat, s.heap.size ≤ q → A q := fun q h => by rw [hAe]; exact Or.inr h
  have hAB : ∀ q : Nat, A q → B0 q := fun q h => by rw [hAe] at h; rw [← hBe]; exact Or.inr (wnone h)
  have hS : va_S A s.heap s.heap [] := va_S.rf
  have hl := lv_entry ([.ref (a 0), .int k]) (n := 2) (Nat.le_of_ble_eq_true rfl)
  rw [lg_entry_eq]
  generalize (lg_sl ([.ref (a 0), .int k]) ++ List.replicate (2 - (lg_sl ([.ref (a 0), .int k])).length) Slot.unset).toArray = ls at hl ⊢
  have hl : lv_has ls 2 [(0, .ref (a 0)), (1, .int k)] := hl
  have hi1 : ∀ w ∈ wsX10, w ∈ wsX1_code := by decide +kernel
  have kf15 := hts (.fieldLink RX1 15 "CapsuleKeepers$DaysText" "length" "I") (by decide +kernel)
  have kf9 := hts (.fieldLink RX1 9 "CapsuleKeepers$DaysText" "codes" "[I") (by decide +kernel)
  have hq : (fX1_code L cs k) = (if k < 0 then ((nI 0)) else (if (nI L) ≤ k then ((nI 0)) else (if (nI 60) ≤ k then ((nI 0)) else ((cs k.toNatClampNeg))))) := rfl
  refine lv_iload_n hx hb dX1_code_0 rfl (lv_at hl 1 rfl) ?_
  refine lv_if_lt (tgt := 27) hx hb dX1_code_1 (by decide) (fun c_1 => ?_) (fun c_1 => ?_)
  · have hq := hq.trans (if_pos c_1)
    refine lv_iconst (v := (nI 0)) hx hb dX1_code_27 (by decide) ?_
    exact W.iret (v := (nI 0)) hx hb hr (fun t ht hW => eLI hS ht (by rw [hq])) hS.2.2 dX1_code_28
  · have hq := hq.trans (if_neg c_1)
    refine lv_iload_n hx hb dX1_code_4 rfl (lv_at hl 1 rfl) ?_
    refine lv_aload_n hx hb dX1_code_5 rfl (lv_at hl 0 rfl) ?_
    refine va_get (D := Γ.1) (ci := 1) (v := .int (nI L)) (C := RX1) (T := TX1) (N := 2) hx hb hts hi1 hown hK hP 0 rfl rfl 1 (by decide) kf15 (fun _ h9 => h9) rfl dX1_code_6 ?_
    refine lv_icmp_ge (tgt := 27) hx hb dX1_code_9 (by decide) (fun c_2 => ?_) (fun c_2 => ?_)
    · have hq := hq.trans (if_pos c_2)
      refine lv_iconst (v := (nI 0)) hx hb dX1_code_27 (by decide) ?_
      exact W.iret (v := (nI 0)) hx hb hr (fun t ht hW => eLI hS ht (by rw [hq])) hS.2.2 dX1_code_28
    · have hq := hq.trans (if_neg c_2)
      refine lv_iload_n hx hb dX1_code_12 rfl (lv_at hl 1 rfl) ?_
      refine lv_bipush (v := (nI 60)) hx hb dX1_code_13 (by decide) ?_
      refine lv_icmp_ge (tgt := 27) hx hb dX1_code_15 (by decide) (fun c_3 => ?_) (fun c_3 => ?_)
      · have hq := hq.trans (if_pos c_3)
        refine lv_iconst (v := (nI 0)) hx hb dX1_code_27 (by decide) ?_
        exact W.iret (v := (nI 0)) hx hb hr (fun t ht hW => eLI hS ht (by rw [hq])) hS.2.2 dX1_code_28
      · have hq := hq.trans (if_neg c_3)
        refine lv_aload_n hx hb dX1_code_18 rfl (lv_at hl 0 rfl) ?_
        refine va_get (D := Γ.1) (ci := 1) (v := .ref (a 1)) (C := RX1) (T := TX1) (N := 2) hx hb hts hi1 hown hK hP 0 rfl rfl 0 (by decide) kf9 (fun _ h9 => h9) rfl dX1_code_19 ?_
        refine lv_iload_n hx hb dX1_code_22 rfl (lv_at hl 1 rfl) ?_
        refine va_iald (f := cs) hx hb hK hP 1 0 rfl rfl (vp60 (by assumption) (by assumption)) dX1_code_23 ?_
        refine lv_goto (tgt := 28) hx hb dX1_code_24 (by decide) ?_
        exact W.iret (v := (cs k.toNatClampNeg)) hx hb hr (fun t ht hW => eLI hS ht (by rw [hq])) hS.2.2 dX1_code_28
def fX1_empty (L : Nat) : Int32 × Int32 := ((nI L), (nI 0))
set_option maxHeartbeats 4000000 in
set_option maxRecDepth 100000 in
theorem kX1_empty (l : Launch) (Γ : wG) (a : Nat → Nat) (L : Nat) (cs : (Nat → Int32)) (hL : L ≤ 60) : MI l Γ yX1_empty wsX1_empty ({ frames := 0, cells := 0, slots := 0, locals := 0 }) [.ref (a 0)] [txB Γ a cs (nI L)] [txB Γ a cs (fX1_empty L).2] (fX1_empty L).1 := by
  intro sz
  refine Met.ofW (cc := cX1_empty) (maxL := 2) (ret := (some .int)) (by decide) rfl ?_
  intro p e s m args below meth c s₁ B hml hv
  obtain ⟨rfl, hsz, hP, hK, hD0, hAm⟩ := hv
  have hx := B.exec
  have hb := B.bytes
  have hr := B.returns
  have hts := atoms_spec (ws := wsX1_empty) B.pre
  have hown : s.vm.findClass RX1 = some m.cls := findClass_of_methodNamed B.named
  have hlocks := B.notSynchronized
  subst hsz
  have hD := hD0.self (sz := s.heap.size)
  generalize hAe : va_A (wcat [txB Γ a cs (nI L)]) s.heap.size = A at hD hAm ⊢
  have hA : ∀ q : Nat, s.heap.size ≤ q → A q := fun q h => by rw [← hAe]; exact Or.inr h
  have hAB : ∀ q : Nat, A q → A q := fun _ h => h
  have hS : va_S A s.heap s.heap [] := va_S.rf
  have hl := lv_entry ([.ref (a 0)]) (n := 2) (Nat.le_of_ble_eq_true rfl)
  rw [lg_entry_eq]
  generalize (lg_sl ([.ref (a 0)]) ++ List.replicate (2 - (lg_sl ([.ref (a 0)])).length) Slot.unset).toArray = ls at hl ⊢
  have hl : lv_has ls 2 [(0, .ref (a 0))] := hl
  have hi1 : ∀ w ∈ wsX10, w ∈ wsX1_empty := by decide +kernel
  have kf15 := hts (.fieldLink RX1 15 "CapsuleKeepers$DaysText" "length" "I") (by decide +kernel)
  have hq : (fX1_empty L) = ((nI L), (nI 0)) := rfl
  refine lv_aload_n hx hb dX1_empty_0 rfl (lv_at hl 0 rfl) ?_
  refine va_get (D := Γ.1) (ci := 1) (v := .int (nI L)) (C := RX1) (T := TX1) (N := 2) hx hb hts hi1 hown hK hP 0 rfl rfl 1 (by decide) kf15 (fun _ h9 => h9) rfl dX1_empty_1 ?_
  refine lv_istore_n (lv' := [(1, .int (nI L)), (0, .ref (a 0))]) hx hb dX1_empty_4 rfl hl (by decide) rfl (fun ls hl => ?_)
  refine lv_aload_n hx hb dX1_empty_5 rfl (lv_at hl 1 rfl) ?_
  refine lv_iconst (v := (nI 0)) hx hb dX1_empty_6 (by decide) ?_
  refine va_put (D := Γ.1) (ci := 1) (v := .int (nI 0)) (ty := .int) (C := RX1) (T := TX1) (N := 2) hx hb hts hi1 tyX1 tyX1_ok nmX1 hown hK hP hD hS 0 rfl rfl 1 (by decide) kf15 (fun _ h9 => h9) rfl (by decide +kernel) rfl rfl (Nat.le_of_ble_eq_true rfl) dX1_empty_7 (fun H locs hP hD hS => ?_)
  have hP : va_P Γ.1 vwCl (wcat [txB Γ a cs (nI 0)]) H := hP
  have hD : va_D A (wcat [txB Γ a cs (nI 0)]) := hD
  refine lv_iload_n hx hb dX1_empty_10 rfl (lv_at hl 0 rfl) ?_
  exact W.iret (v := (nI L)) hx hb hr (fun t ht hW => eMI (by rw [hq]; exact hP) hS ht (by rw [hq])) hS.2.2 dX1_empty_11
def fX1_add (L : Nat) (cs : (Nat → Int32)) (ch : Int32) : Int32 × (Nat → Int32) × Int32 := (if (nI L) < 0 then ((nI L), cs, (nI L)) else (if (nI 60) ≤ (nI L) then ((nI L), cs, (nI L)) else ((nI (L + 1)), (upd cs L ch), (nI (L + 1)))))
set_option maxHeartbeats 4000000 in
set_option maxRecDepth 100000 in
theorem kX1_add (l : Launch) (Γ : wG) (a : Nat → Nat) (L : Nat) (cs : (Nat → Int32)) (ch : Int32) (hL : L ≤ 60) : MI l Γ yX1_add wsX1_add ({ frames := 0, cells := 0, slots := 0, locals := 0 }) [.ref (a 0), .int ch] [txB Γ a cs (nI L)] [txB Γ a (fX1_add L cs ch).2.1 (fX1_add L cs ch).2.2] (fX1_add L cs ch).1 := by
  intro sz
  refine Met.ofW (cc := cX1_add) (maxL := 2) (ret := (some .int)) (by decide) rfl ?_
  intro p e s m args below meth c s₁ B hml hv
  obtain ⟨rfl, hsz, hP, hK, hD0, hAm⟩ := hv
  have hx := B.exec
  have hb := B.bytes
  have hr := B.returns
  have hts := atoms_spec (ws := wsX1_add) B.pre
  have hown : s.vm.findClass RX1 = some m.cls := findClass_of_methodNamed B.named
  have hlocks := B.notSynchronized
  subst hsz
  have hD := hD0.self (sz := s.heap.size)
  generalize hAe : va_A (wcat [txB Γ a cs (nI L)]) s.heap.size = A at hD hAm ⊢
  have hA : ∀ q : Nat, s.heap.size ≤ q → A q := fun q h => by rw [← hAe]; exact Or.inr h
  have hAB : ∀ q : Nat, A q → A q := fun _ h => h
  have hS : va_S A s.heap s.heap [] := va_S.rf
  have hl := lv_entry ([.ref (a 0), .int ch]) (n := 2) (Nat.le_of_ble_eq_true rfl)
  rw [lg_entry_eq]
  generalize (lg_sl ([.ref (a 0), .int ch]) ++ List.replicate (2 - (lg_sl ([.ref (a 0), .int ch])).length) Slot.unset).toArray = ls at hl ⊢
  have hl : lv_has ls 2 [(0, .ref (a 0)), (1, .int ch)] := hl
  have hi1 : ∀ w ∈ wsX10, w ∈ wsX1_add := by decide +kernel
  have kf15 := hts (.fieldLink RX1 15 "CapsuleKeepers$DaysText" "length" "I") (by decide +kernel)
  have kf9 := hts (.fieldLink RX1 9 "CapsuleKeepers$DaysText" "codes" "[I") (by decide +kernel)
  have hq : (fX1_add L cs ch) = (if (nI L) < 0 then ((nI L), cs, (nI L)) else (if (nI 60) ≤ (nI L) then ((nI L), cs, (nI L)) else ((nI (L + 1)), (upd cs L ch), (nI (L + 1))))) := rfl
  refine lv_aload_n hx hb dX1_add_0 rfl (lv_at hl 0 rfl) ?_
  refine va_get (D := Γ.1) (ci := 1) (v := .int (nI L)) (C := RX1) (T := TX1) (N := 2) hx hb hts hi1 hown hK hP 0 rfl rfl 1 (by decide) kf15 (fun _ h9 => h9) rfl dX1_add_1 ?_
  refine lv_if_lt (tgt := 36) hx hb dX1_add_4 (by decide) (fun c_1 => ?_) (fun c_1 => ?_)
  · have hq := hq.trans (if_pos c_1)
    refine lv_aload_n hx hb dX1_add_36 rfl (lv_at hl 0 rfl) ?_
    refine va_get (D := Γ.1) (ci := 1) (v := .int (nI L)) (C := RX1) (T := TX1) (N := 2) hx hb hts hi1 hown hK hP 0 rfl rfl 1 (by decide) kf15 (fun _ h9 => h9) rfl dX1_add_37 ?_
    exact W.iret (v := (nI L)) hx hb hr (fun t ht hW => eMI (by rw [hq]; exact hP) hS ht (by rw [hq])) hS.2.2 dX1_add_40
  · have hq := hq.trans (if_neg c_1)
    refine lv_aload_n hx hb dX1_add_7 rfl (lv_at hl 0 rfl) ?_
    refine va_get (D := Γ.1) (ci := 1) (v := .int (nI L)) (C := RX1) (T := TX1) (N := 2) hx hb hts hi1 hown hK hP 0 rfl rfl 1 (by decide) kf15 (fun _ h9 => h9) rfl dX1_add_8 ?_
    refine lv_bipush (v := (nI 60)) hx hb dX1_add_11 (by decide) ?_
    refine lv_icmp_ge (tgt := 36) hx hb dX1_add_13 (by decide) (fun c_2 => ?_) (fun c_2 => ?_)
    · have hq := hq.trans (if_pos c_2)
      refine lv_aload_n hx hb dX1_add_36 rfl (lv_at hl 0 rfl) ?_
      refine va_get (D := Γ.1) (ci := 1) (v := .int (nI L)) (C := RX1) (T := TX1) (N := 2) hx hb hts hi1 hown hK hP 0 rfl rfl 1 (by decide) kf15 (fun _ h9 => h9) rfl dX1_add_37 ?_
      exact W.iret (v := (nI L)) hx hb hr (fun t ht hW => eMI (by rw [hq]; exact hP) hS ht (by rw [hq])) hS.2.2 dX1_add_40
    · have hq := hq.trans (if_neg c_2)
      refine lv_aload_n hx hb dX1_add_16 rfl (lv_at hl 0 rfl) ?_
      refine va_get (D := Γ.1) (ci := 1) (v := .ref (a 1)) (C := RX1) (T := TX1) (N := 2) hx hb hts hi1 hown hK hP 0 rfl rfl 0 (by decide) kf9 (fun _ h9 => h9) rfl dX1_add_17 ?_
      refine lv_aload_n hx hb dX1_add_20 rfl (lv_at hl 0 rfl) ?_
      refine va_get (D := Γ.1) (ci := 1) (v := .int (nI L)) (C := RX1) (T := TX1) (N := 2) hx hb hts hi1 hown hK hP 0 rfl rfl 1 (by decide) kf15 (fun _ h9 => h9) rfl dX1_add_21 ?_
      refine lv_iload_n hx hb dX1_add_24 rfl (lv_at hl 1 rfl) ?_
      refine va_iast_n (f := cs) hx hb hK hP hD hS 1 0 rfl rfl (ltN (by omega) (by omega) (by assumption)) (Nat.le_of_ble_eq_true rfl) dX1_add_25 (fun H locs hP hD hS => ?_)
      have hP : va_P Γ.1 vwCl (wcat [txB Γ a (upd cs L ch) (nI L)]) H := hP
      have hD : va_D A (wcat [txB Γ a (upd cs L ch) (nI L)]) := hD
      refine lv_aload_n hx hb dX1_add_26 rfl (lv_at hl 0 rfl) ?_
      refine lv_dup hx hb dX1_add_27 rfl ?_
      refine va_get (D := Γ.1) (ci := 1) (v := .int (nI L)) (C := RX1) (T := TX1) (N := 2) hx hb hts hi1 hown hK hP 0 rfl rfl 1 (by decide) kf15 (fun _ h9 => h9) rfl dX1_add_28 ?_
      refine lv_iconst (v := (nI 1)) hx hb dX1_add_31 (by decide) ?_
      refine lv_iadd hx hb dX1_add_32 ?_
      refine lv_eqi (y := (nI (L + 1))) (nI_add _ _) ?_
      refine va_put (D := Γ.1) (ci := 1) (v := .int (nI (L + 1))) (ty := .int) (C := RX1) (T := TX1) (N := 2) hx hb hts hi1 tyX1 tyX1_ok nmX1 hown hK hP hD hS 0 rfl rfl 1 (by decide) kf15 (fun _ h9 => h9) rfl (by decide +kernel) rfl rfl (Nat.le_of_ble_eq_true rfl) dX1_add_33 (fun H locs hP hD hS => ?_)
      have hP : va_P Γ.1 vwCl (wcat [txB Γ a (upd cs L ch) (nI (L + 1))]) H := hP
      have hD : va_D A (wcat [txB Γ a (upd cs L ch) (nI (L + 1))]) := hD
      refine lv_aload_n hx hb dX1_add_36 rfl (lv_at hl 0 rfl) ?_
      refine va_get (D := Γ.1) (ci := 1) (v := .int (nI (L + 1))) (C := RX1) (T := TX1) (N := 2) hx hb hts hi1 hown hK hP 0 rfl rfl 1 (by decide) kf15 (fun _ h9 => h9) rfl dX1_add_37 ?_
      exact W.iret (v := (nI (L + 1))) hx hb hr (fun t ht hW => eMI (by rw [hq]; exact hP) hS ht (by rw [hq])) hS.2.2 dX1_add_40
def fX1_digit (L : Nat) (cs : (Nat → Int32)) (k : Int32) : Int32 := (if (fX1_isKeeperDigit (fX1_code (L) cs k)) = 0 then ((-1)) else (((fX1_code (L) cs k) - (nI 48))))
set_option maxHeartbeats 4000000 in
set_option maxRecDepth 100000 in
theorem kX1_digit (l : Launch) (Γ : wG) (a : Nat → Nat) (L : Nat) (cs : (Nat → Int32)) (k : Int32) (hL : L ≤ 60) : LI l Γ yX1_digit wsX1_digit ({ frames := 1, cells := 0, slots := 0, locals := 21 }) [.ref (a 0), .int k] [txB Γ a cs (nI L)] (fX1_digit L cs k) := by
  intro sz
  refine Met.ofW (cc := cX1_digit) (maxL := 2) (ret := (some .int)) (by decide) rfl ?_
  intro p e s m args below meth c s₁ B hml hv
  obtain ⟨rfl, hsz, hP, hK, hD0, hAm⟩ := hv
  have hx := B.exec
  have hb := B.bytes
  have hr := B.returns
  have hts := atoms_spec (ws := wsX1_digit) B.pre
  have hown : s.vm.findClass RX1 = some m.cls := findClass_of_methodNamed B.named
  have hlocks := B.notSynchronized
  subst hsz
  have hD := hD0.self (sz := s.heap.size)
  generalize hBe : va_A (wcat [txB Γ a cs (nI L)]) s.heap.size = B0 at hD hAm
  obtain ⟨A, hAe⟩ : ∃ A, A = va_A [] s.heap.size := ⟨_, rfl⟩
  rw [← hAe]
  have hA : ∀ q : Nat, s.heap.size ≤ q → A q := fun q h => by rw [hAe]; exact Or.inr h
  have hAB : ∀ q : Nat, A q → B0 q := fun q h => by rw [hAe] at h; rw [← hBe]; exact Or.inr (wnone h)
  have hS : va_S A s.heap s.heap [] := va_S.rf
  have hl := lv_entry ([.ref (a 0), .int k]) (n := 2) (Nat.le_of_ble_eq_true rfl)
  rw [lg_entry_eq]
  generalize (lg_sl ([.ref (a 0), .int k]) ++ List.replicate (2 - (lg_sl ([.ref (a 0), .int k])).length) Slot.unset).toArray = ls at hl ⊢
  have hl : lv_has ls 2 [(0, .ref (a 0)), (1, .int k)] := hl
  have hq : (fX1_digit L cs k) = (if (fX1_isKeeperDigit (fX1_code (L) cs k)) = 0 then ((-1)) else (((fX1_code (L) cs k) - (nI 48)))) := rfl
  refine lv_aload_n hx hb dX1_digit_0 rfl (lv_at hl 0 rfl) ?_
  refine lv_iload_n hx hb dX1_digit_1 rfl (lv_at hl 1 rfl) ?_
  refine cLI (va_runV (As := [.int k]) (rest := []) ⟨hx, hb, hml, hown, hts⟩ ((kX1_code l Γ a (L) cs k (by first | assumption | omega)) _) (cwV 1 hts gX1_digit_X1_code rfl rfl rfl (by decide +kernel) ⟨Nat.le_of_ble_eq_true rfl, Nat.le_of_ble_eq_true rfl⟩) ⟨wPre_blind, va_recv hK hP (ci := 1) (q0 := 0) rfl rfl, wPre_mk hP hD hK hS hA hAB hAm [0] rfl rfl⟩ rfl rfl hl.1 rfl (lv_room (Nat.le_of_ble_eq_true rfl)) dX1_digit_2 ⟨Nat.zero_le _, Nat.zero_le _⟩) hP hS hA (fun H locs hP hS => ?_)
  refine cLI (va_runS (As := [.int (fX1_code (L) cs k)]) (rest := []) ⟨hx, hb, hml, hown, hts⟩ ((kX1_isKeeperDigit l Γ (fX1_code (L) cs k)) _) (va_cwS 1 hts gX1_digit_X1_isKeeperDigit rfl rfl rfl (by decide +kernel) ⟨Nat.le_of_ble_eq_true rfl, Nat.le_of_ble_eq_true rfl⟩) ⟨wPre_blind, wPre_mk hP hD hK hS hA hAB hAm [] rfl rfl⟩ rfl rfl hl.1 rfl (lv_room (Nat.le_of_ble_eq_true rfl)) dX1_digit_5 ⟨Nat.zero_le _, Nat.zero_le _⟩) hP hS hA (fun H locs hP hS => ?_)
  refine lv_if_eq (tgt := 22) hx hb dX1_digit_8 (by decide) (fun c_1 => ?_) (fun c_1 => ?_)
  · have hq := hq.trans (if_pos c_1)
    refine lv_iconst (v := (-1)) hx hb dX1_digit_22 (by decide) ?_
    exact W.iret (v := (-1)) hx hb hr (fun t ht hW => eLI hS ht (by rw [hq])) hS.2.2 dX1_digit_23
  · have hq := hq.trans (if_neg c_1)
    refine lv_aload_n hx hb dX1_digit_11 rfl (lv_at hl 0 rfl) ?_
    refine lv_iload_n hx hb dX1_digit_12 rfl (lv_at hl 1 rfl) ?_
    refine cLI (va_runV (As := [.int k]) (rest := []) ⟨hx, hb, hml, hown, hts⟩ ((kX1_code l Γ a (L) cs k (by first | assumption | omega)) _) (cwV 1 hts gX1_digit_X1_code rfl rfl rfl (by decide +kernel) ⟨Nat.le_of_ble_eq_true rfl, Nat.le_of_ble_eq_true rfl⟩) ⟨wPre_blind, va_recv hK hP (ci := 1) (q0 := 0) rfl rfl, wPre_mk hP hD hK hS hA hAB hAm [0] rfl rfl⟩ rfl rfl hl.1 rfl (lv_room (Nat.le_of_ble_eq_true rfl)) dX1_digit_13 ⟨Nat.zero_le _, Nat.zero_le _⟩) hP hS hA (fun H locs hP hS => ?_)
    refine lv_bipush (v := (nI 48)) hx hb dX1_digit_16 (by decide) ?_
    refine lv_isub hx hb dX1_digit_18 ?_
    refine lv_goto (tgt := 23) hx hb dX1_digit_19 (by decide) ?_
    exact W.iret (v := ((fX1_code (L) cs k) - (nI 48))) hx hb hr (fun t ht hW => eLI hS ht (by rw [hq])) hS.2.2 dX1_digit_23
def fX1_number_L4 (L : Nat) (cs : (Nat → Int32)) : Nat → Nat → Int32 → Int32
  | 0, i4, x2_4 => (x2_4)
  | n4 + 1, i4, x2_4 => (if (fX1_isDigit (fX1_code (L) cs (nI i4))) = 0 then (x2_4) else (fX1_number_L4 L cs n4 (i4 + 1) ((((nI 10) * x2_4) + (fX1_code (L) cs (nI i4))) - (nI 48))))
def fX1_number (L : Nat) (cs : (Nat → Int32)) (k : Nat) : Int32 := (fX1_number_L4 L cs (3) k (nI 0))
set_option maxHeartbeats 4000000 in
set_option maxRecDepth 100000 in
theorem kX1_number (l : Launch) (Γ : wG) (a : Nat → Nat) (L : Nat) (cs : (Nat → Int32)) (k : Nat) (hk : k ≤ 1000) (hL : L ≤ 60) : LI l Γ yX1_number wsX1_number ({ frames := 1, cells := 0, slots := 0, locals := 21 }) [.ref (a 0), .int (nI k)] [txB Γ a cs (nI L)] (fX1_number L cs k) := by
  intro sz
  refine Met.ofW (cc := cX1_number) (maxL := 4) (ret := (some .int)) (by decide) rfl ?_
  intro p e s m args below meth c s₁ B hml hv
  obtain ⟨rfl, hsz, hP, hK, hD0, hAm⟩ := hv
  have hx := B.exec
  have hb := B.bytes
  have hr := B.returns
  have hts := atoms_spec (ws := wsX1_number) B.pre
  have hown : s.vm.findClass RX1 = some m.cls := findClass_of_methodNamed B.named
  have hlocks := B.notSynchronized
  subst hsz
  have hD := hD0.self (sz := s.heap.size)
  generalize hBe : va_A (wcat [txB Γ a cs (nI L)]) s.heap.size = B0 at hD hAm
  obtain ⟨A, hAe⟩ : ∃ A, A = va_A [] s.heap.size := ⟨_, rfl⟩
  rw [← hAe]
  have hA : ∀ q : Nat, s.heap.size ≤ q → A q := fun q h => by rw [hAe]; exact Or.inr h
  have hAB : ∀ q : Nat, A q → B0 q := fun q h => by rw [hAe] at h; rw [← hBe]; exact Or.inr (wnone h)
  have hS : va_S A s.heap s.heap [] := va_S.rf
  have hl := lv_entry ([.ref (a 0), .int (nI k)]) (n := 4) (Nat.le_of_ble_eq_true rfl)
  rw [lg_entry_eq]
  generalize (lg_sl ([.ref (a 0), .int (nI k)]) ++ List.replicate (4 - (lg_sl ([.ref (a 0), .int (nI k)])).length) Slot.unset).toArray = ls at hl ⊢
  have hl : lv_has ls 4 [(0, .ref (a 0)), (1, .int (nI k))] := hl
  have hq : (fX1_number L cs k) = (fX1_number_L4 L cs (3) k (nI 0)) := rfl
  refine lv_iconst (v := (nI 0)) hx hb dX1_number_0 (by decide) ?_
  refine lv_istore_n (lv' := [(2, .int (nI 0)), (0, .ref (a 0)), (1, .int (nI k))]) hx hb dX1_number_1 rfl hl (by decide) rfl (fun ls hl => ?_)
  refine lv_iload_n hx hb dX1_number_2 rfl (lv_at hl 2 rfl) ?_
  refine lv_istore_n (lv' := [(3, .int (nI k)), (2, .int (nI 0)), (0, .ref (a 0)), (1, .int (nI k))]) hx hb dX1_number_3 rfl hl (by decide) rfl (fun ls hl => ?_)
  refine wl (pc := 4) (σ := Nat × Int32) (fun n (i4, x2_4) H locs ls => (i4 + n = k + 3) ∧ (fX1_number L cs k) = fX1_number_L4 L cs n i4 x2_4 ∧ va_P Γ.1 vwCl (wcat [txB Γ a cs (nI L)]) H ∧ va_S A s.heap H locs ∧ lv_has ls 4 [(3, .int (nI i4)), (2, .int x2_4), (0, .ref (a 0)), (1, .int (nI k))]) ?_ ?_ (3) (k, (nI 0)) _ _ _ ⟨by omega, hq, hP, hS, lv_sub hl [0, 1, 2, 3] rfl⟩
  · intro ⟨i4, x2_4⟩ H locs ls h
    obtain ⟨hn4, hq, hP, hS, hl⟩ := h
    try dsimp only at hn4 hq hP hl
    replace hq : (fX1_number L cs k) = (x2_4) := hq
    refine lv_iload_n hx hb dX1_number_4 rfl (lv_at hl 0 rfl) ?_
    refine lv_iload_n hx hb dX1_number_5 rfl (lv_at hl 3 rfl) ?_
    refine lv_iconst (v := (nI 3)) hx hb dX1_number_6 (by decide) ?_
    refine lv_iadd hx hb dX1_number_7 ?_
    refine lv_eqi (y := (nI (k + 3))) (nI_add _ _) ?_
    refine lv_icmp_ge (tgt := 42) hx hb dX1_number_8 (by decide) (fun c_8 => ?_) (fun c_8 => absurd (nI_le (by omega) (by omega)) c_8)
    refine lv_iload_n hx hb dX1_number_42 rfl (lv_at hl 1 rfl) ?_
    exact W.iret (v := x2_4) hx hb hr (fun t ht hW => eLI hS ht (by rw [hq])) hS.2.2 dX1_number_43
  · intro n4 ih4 ⟨i4, x2_4⟩ H locs ls h
    obtain ⟨hn4, hq, hP, hS, hl⟩ := h
    try dsimp only at hn4 hq hP hl
    replace hq : (fX1_number L cs k) = (if (fX1_isDigit (fX1_code (L) cs (nI i4))) = 0 then (x2_4) else (fX1_number_L4 L cs n4 (i4 + 1) ((((nI 10) * x2_4) + (fX1_code (L) cs (nI i4))) - (nI 48)))) := hq
    refine lv_iload_n hx hb dX1_number_4 rfl (lv_at hl 0 rfl) ?_
    refine lv_iload_n hx hb dX1_number_5 rfl (lv_at hl 3 rfl) ?_
    refine lv_iconst (v := (nI 3)) hx hb dX1_number_6 (by decide) ?_
    refine lv_iadd hx hb dX1_number_7 ?_
    refine lv_eqi (y := (nI (k + 3))) (nI_add _ _) ?_
    refine lv_icmp_ge (tgt := 42) hx hb dX1_number_8 (by decide) (fun c_8 => absurd c_8 (nI_ge (by omega) (by omega))) (fun c_8 => ?_)
    refine lv_aload_n hx hb dX1_number_11 rfl (lv_at hl 2 rfl) ?_
    refine lv_iload_n hx hb dX1_number_12 rfl (lv_at hl 0 rfl) ?_
    refine cLI (va_runV (As := [.int (nI i4)]) (rest := []) ⟨hx, hb, hml, hown, hts⟩ ((kX1_code l Γ a (L) cs (nI i4) (by first | assumption | omega)) _) (cwV 1 hts gX1_number_X1_code rfl rfl rfl (by decide +kernel) ⟨Nat.le_of_ble_eq_true rfl, Nat.le_of_ble_eq_true rfl⟩) ⟨wPre_blind, va_recv hK hP (ci := 1) (q0 := 0) rfl rfl, wPre_mk hP hD hK hS hA hAB hAm [0] rfl rfl⟩ rfl rfl hl.1 rfl (lv_room (Nat.le_of_ble_eq_true rfl)) dX1_number_13 ⟨Nat.zero_le _, Nat.zero_le _⟩) hP hS hA (fun H locs hP hS => ?_)
    refine cLI (va_runS (As := [.int (fX1_code (L) cs (nI i4))]) (rest := []) ⟨hx, hb, hml, hown, hts⟩ ((kX1_isDigit l Γ (fX1_code (L) cs (nI i4))) _) (va_cwS 1 hts gX1_number_X1_isDigit rfl rfl rfl (by decide +kernel) ⟨Nat.le_of_ble_eq_true rfl, Nat.le_of_ble_eq_true rfl⟩) ⟨wPre_blind, wPre_mk hP hD hK hS hA hAB hAm [] rfl rfl⟩ rfl rfl hl.1 rfl (lv_room (Nat.le_of_ble_eq_true rfl)) dX1_number_16 ⟨Nat.zero_le _, Nat.zero_le _⟩) hP hS hA (fun H locs hP hS => ?_)
    refine lv_if_eq (tgt := 42) hx hb dX1_number_19 (by decide) (fun c_1 => ?_) (fun c_1 => ?_)
    · have hq := hq.trans (if_pos c_1)
      refine lv_iload_n hx hb dX1_number_42 rfl (lv_at hl 1 rfl) ?_
      exact W.iret (v := x2_4) hx hb hr (fun t ht hW => eLI hS ht (by rw [hq])) hS.2.2 dX1_number_43
    · have hq := hq.trans (if_neg c_1)
      refine lv_bipush (v := (nI 10)) hx hb dX1_number_22 (by decide) ?_
      refine lv_iload_n hx hb dX1_number_24 rfl (lv_at hl 1 rfl) ?_
      refine lv_imul hx hb dX1_number_25 ?_
      refine lv_aload_n hx hb dX1_number_26 rfl (lv_at hl 2 rfl) ?_
      refine lv_iload_n hx hb dX1_number_27 rfl (lv_at hl 0 rfl) ?_
      refine cLI (va_runV (As := [.int (nI i4)]) (rest := [.int ((nI 10) * x2_4)]) ⟨hx, hb, hml, hown, hts⟩ ((kX1_code l Γ a (L) cs (nI i4) (by first | assumption | omega)) _) (cwV 1 hts gX1_number_X1_code rfl rfl rfl (by decide +kernel) ⟨Nat.le_of_ble_eq_true rfl, Nat.le_of_ble_eq_true rfl⟩) ⟨wPre_blind, va_recv hK hP (ci := 1) (q0 := 0) rfl rfl, wPre_mk hP hD hK hS hA hAB hAm [0] rfl rfl⟩ rfl rfl hl.1 rfl (lv_room (Nat.le_of_ble_eq_true rfl)) dX1_number_28 ⟨Nat.zero_le _, Nat.zero_le _⟩) hP hS hA (fun H locs hP hS => ?_)
      refine lv_iadd hx hb dX1_number_31 ?_
      refine lv_bipush (v := (nI 48)) hx hb dX1_number_32 (by decide) ?_
      refine lv_isub hx hb dX1_number_34 ?_
      refine lv_istore_n (lv' := [(2, .int ((((nI 10) * x2_4) + (fX1_code (L) cs (nI i4))) - (nI 48))), (3, .int (nI i4)), (0, .ref (a 0)), (1, .int (nI k))]) hx hb dX1_number_35 rfl hl (by decide) rfl (fun ls hl => ?_)
      refine lv_iinc (v := (nI (i4 + 1))) (lv' := [(3, .int (nI (i4 + 1))), (2, .int ((((nI 10) * x2_4) + (fX1_code (L) cs (nI i4))) - (nI 48))), (0, .ref (a 0)), (1, .int (nI k))]) hx hb dX1_number_36 hl (k := 1) rfl (nI_1 _) (by decide) rfl (fun ls hl => ?_)
      refine lv_goto (tgt := 4) hx hb dX1_number_39 (by decide) ?_
      exact ih4 ((i4 + 1), ((((nI 10) * x2_4) + (fX1_code (L) cs (nI i4))) - (nI 48))) H locs ls ⟨by omega, hq, hP, hS, lv_sub hl [0, 1, 2, 3] rfl⟩
def fX1_beginsOrder (L : Nat) (cs : (Nat → Int32)) (k : Int32) : Int32 := (if k = 0 then ((nI 1)) else (if (fX1_code (L) cs (k - (nI 1))) = (nI 59) then ((nI 1)) else ((nI 0))))
set_option maxHeartbeats 4000000 in
set_option maxRecDepth 100000 in
theorem kX1_beginsOrder (l : Launch) (Γ : wG) (a : Nat → Nat) (L : Nat) (cs : (Nat → Int32)) (k : Int32) (hL : L ≤ 60) : LI l Γ yX1_beginsOrder wsX1_beginsOrder ({ frames := 1, cells := 0, slots := 0, locals := 21 }) [.ref (a 0), .int k] [txB Γ a cs (nI L)] (fX1_beginsOrder L cs k) := by
  intro sz
  refine Met.ofW (cc := cX1_beginsOrder) (maxL := 2) (ret := (some .boolean)) (by decide) rfl ?_
  intro p e s m args below meth c s₁ B hml hv
  obtain ⟨rfl, hsz, hP, hK, hD0, hAm⟩ := hv
  have hx := B.exec
  have hb := B.bytes
  have hr := B.returns
  have hts := atoms_spec (ws := wsX1_beginsOrder) B.pre
  have hown : s.vm.findClass RX1 = some m.cls := findClass_of_methodNamed B.named
  have hlocks := B.notSynchronized
  subst hsz
  have hD := hD0.self (sz := s.heap.size)
  generalize hBe : va_A (wcat [txB Γ a cs (nI L)]) s.heap.size = B0 at hD hAm
  obtain ⟨A, hAe⟩ : ∃ A, A = va_A [] s.heap.size := ⟨_, rfl⟩
  rw [← hAe]
  have hA : ∀ q : Nat, s.heap.size ≤ q → A q := fun q h => by rw [hAe]; exact Or.inr h
  have hAB : ∀ q : Nat, A q → B0 q := fun q h => by rw [hAe] at h; rw [← hBe]; exact Or.inr (wnone h)
  have hS : va_S A s.heap s.heap [] := va_S.rf
  have hl := lv_entry ([.ref (a 0), .int k]) (n := 2) (Nat.le_of_ble_eq_true rfl)
  rw [lg_entry_eq]
  generalize (lg_sl ([.ref (a 0), .int k]) ++ List.replicate (2 - (lg_sl ([.ref (a 0), .int k])).length) Slot.unset).toArray = ls at hl ⊢
  have hl : lv_has ls 2 [(0, .ref (a 0)), (1, .int k)] := hl
  have hq : (fX1_beginsOrder L cs k) = (if k = 0 then ((nI 1)) else (if (fX1_code (L) cs (k - (nI 1))) = (nI 59) then ((nI 1)) else ((nI 0)))) := rfl
  refine lv_iload_n hx hb dX1_beginsOrder_0 rfl (lv_at hl 1 rfl) ?_
  refine lv_if_eq (tgt := 16) hx hb dX1_beginsOrder_1 (by decide) (fun c_1 => ?_) (fun c_1 => ?_)
  · have hq := hq.trans (if_pos c_1)
    refine lv_iconst (v := (nI 1)) hx hb dX1_beginsOrder_16 (by decide) ?_
    refine lv_goto (tgt := 21) hx hb dX1_beginsOrder_17 (by decide) ?_
    exact W.zret (v := (nI 1)) hx hb hr (by first | rfl | decide) (fun t ht hW => eLI hS ht (by rw [hq])) hS.2.2 dX1_beginsOrder_21
  · have hq := hq.trans (if_neg c_1)
    refine lv_aload_n hx hb dX1_beginsOrder_4 rfl (lv_at hl 0 rfl) ?_
    refine lv_iload_n hx hb dX1_beginsOrder_5 rfl (lv_at hl 1 rfl) ?_
    refine lv_iconst (v := (nI 1)) hx hb dX1_beginsOrder_6 (by decide) ?_
    refine lv_isub hx hb dX1_beginsOrder_7 ?_
    refine cLI (va_runV (As := [.int (k - (nI 1))]) (rest := []) ⟨hx, hb, hml, hown, hts⟩ ((kX1_code l Γ a (L) cs (k - (nI 1)) (by first | assumption | omega)) _) (cwV 1 hts gX1_beginsOrder_X1_code rfl rfl rfl (by decide +kernel) ⟨Nat.le_of_ble_eq_true rfl, Nat.le_of_ble_eq_true rfl⟩) ⟨wPre_blind, va_recv hK hP (ci := 1) (q0 := 0) rfl rfl, wPre_mk hP hD hK hS hA hAB hAm [0] rfl rfl⟩ rfl rfl hl.1 rfl (lv_room (Nat.le_of_ble_eq_true rfl)) dX1_beginsOrder_8 ⟨Nat.zero_le _, Nat.zero_le _⟩) hP hS hA (fun H locs hP hS => ?_)
    refine lv_bipush (v := (nI 59)) hx hb dX1_beginsOrder_11 (by decide) ?_
    refine lv_icmp_ne (tgt := 20) hx hb dX1_beginsOrder_13 (by decide) (fun c_2 => ?_) (fun c_2 => ?_)
    · have hq := hq.trans (if_neg c_2)
      refine lv_iconst (v := (nI 0)) hx hb dX1_beginsOrder_20 (by decide) ?_
      exact W.zret (v := (nI 0)) hx hb hr (by first | rfl | decide) (fun t ht hW => eLI hS ht (by rw [hq])) hS.2.2 dX1_beginsOrder_21
    · have hq := hq.trans (if_pos c_2)
      refine lv_iconst (v := (nI 1)) hx hb dX1_beginsOrder_16 (by decide) ?_
      refine lv_goto (tgt := 21) hx hb dX1_beginsOrder_17 (by decide) ?_
      exact W.zret (v := (nI 1)) hx hb hr (by first | rfl | decide) (fun t ht hW => eLI hS ht (by rw [hq])) hS.2.2 dX1_beginsOrder_21
def fX1_errorIndex_L4 (L : Nat) (cs : (Nat → Int32)) : Nat → Nat → Int32 → Int32
  | 0, i4, x1_4 => ((nI L))
  | n4 + 1, i4, x1_4 => (if (fX1_after x1_4 (fX1_code (L) cs (nI i4))) = (-1) then ((nI i4)) else (fX1_errorIndex_L4 L cs n4 (i4 + 1) (fX1_after x1_4 (fX1_code (L) cs (nI i4)))))
def fX1_errorIndex (L : Nat) (cs : (Nat → Int32)) : Int32 := (fX1_errorIndex_L4 L cs (L) 0 (nI 0))
set_option maxHeartbeats 4000000 in
set_option maxRecDepth 100000 in
theorem kX1_errorIndex (l : Launch) (Γ : wG) (a : Nat → Nat) (L : Nat) (cs : (Nat → Int32)) (hL : L ≤ 60) : LI l Γ yX1_errorIndex wsX1_errorIndex ({ frames := 2, cells := 0, slots := 0, locals := 41 }) [.ref (a 0)] [txB Γ a cs (nI L)] (fX1_errorIndex L cs) := by
  intro sz
  refine Met.ofW (cc := cX1_errorIndex) (maxL := 3) (ret := (some .int)) (by decide) rfl ?_
  intro p e s m args below meth c s₁ B hml hv
  obtain ⟨rfl, hsz, hP, hK, hD0, hAm⟩ := hv
  have hx := B.exec
  have hb := B.bytes
  have hr := B.returns
  have hts := atoms_spec (ws := wsX1_errorIndex) B.pre
  have hown : s.vm.findClass RX1 = some m.cls := findClass_of_methodNamed B.named
  have hlocks := B.notSynchronized
  subst hsz
  have hD := hD0.self (sz := s.heap.size)
  generalize hBe : va_A (wcat [txB Γ a cs (nI L)]) s.heap.size = B0 at hD hAm
  obtain ⟨A, hAe⟩ : ∃ A, A = va_A [] s.heap.size := ⟨_, rfl⟩
  rw [← hAe]
  have hA : ∀ q : Nat, s.heap.size ≤ q → A q := fun q h => by rw [hAe]; exact Or.inr h
  have hAB : ∀ q : Nat, A q → B0 q := fun q h => by rw [hAe] at h; rw [← hBe]; exact Or.inr (wnone h)
  have hS : va_S A s.heap s.heap [] := va_S.rf
  have hl := lv_entry ([.ref (a 0)]) (n := 3) (Nat.le_of_ble_eq_true rfl)
  rw [lg_entry_eq]
  generalize (lg_sl ([.ref (a 0)]) ++ List.replicate (3 - (lg_sl ([.ref (a 0)])).length) Slot.unset).toArray = ls at hl ⊢
  have hl : lv_has ls 3 [(0, .ref (a 0))] := hl
  have hi1 : ∀ w ∈ wsX10, w ∈ wsX1_errorIndex := by decide +kernel
  have kf15 := hts (.fieldLink RX1 15 "CapsuleKeepers$DaysText" "length" "I") (by decide +kernel)
  have hq : (fX1_errorIndex L cs) = (fX1_errorIndex_L4 L cs (L) 0 (nI 0)) := rfl
  refine lv_iconst (v := (nI 0)) hx hb dX1_errorIndex_0 (by decide) ?_
  refine lv_istore_n (lv' := [(1, .int (nI 0)), (0, .ref (a 0))]) hx hb dX1_errorIndex_1 rfl hl (by decide) rfl (fun ls hl => ?_)
  refine lv_iconst (v := (nI 0)) hx hb dX1_errorIndex_2 (by decide) ?_
  refine lv_istore_n (lv' := [(2, .int (nI 0)), (1, .int (nI 0)), (0, .ref (a 0))]) hx hb dX1_errorIndex_3 rfl hl (by decide) rfl (fun ls hl => ?_)
  refine wl (pc := 4) (σ := Nat × Int32) (fun n (i4, x1_4) H locs ls => (i4 + n = L) ∧ (fX1_errorIndex L cs) = fX1_errorIndex_L4 L cs n i4 x1_4 ∧ va_P Γ.1 vwCl (wcat [txB Γ a cs (nI L)]) H ∧ va_S A s.heap H locs ∧ lv_has ls 3 [(2, .int (nI i4)), (1, .int x1_4), (0, .ref (a 0))]) ?_ ?_ (L) (0, (nI 0)) _ _ _ ⟨by omega, hq, hP, hS, lv_sub hl [0, 1, 2] rfl⟩
  · intro ⟨i4, x1_4⟩ H locs ls h
    obtain ⟨hn4, hq, hP, hS, hl⟩ := h
    try dsimp only at hn4 hq hP hl
    replace hq : (fX1_errorIndex L cs) = ((nI L)) := hq
    refine lv_iload_n hx hb dX1_errorIndex_4 rfl (lv_at hl 0 rfl) ?_
    refine lv_aload_n hx hb dX1_errorIndex_5 rfl (lv_at hl 2 rfl) ?_
    refine va_get (D := Γ.1) (ci := 1) (v := .int (nI L)) (C := RX1) (T := TX1) (N := 2) hx hb hts hi1 hown hK hP 0 rfl rfl 1 (by decide) kf15 (fun _ h9 => h9) rfl dX1_errorIndex_6 ?_
    refine lv_icmp_ge (tgt := 35) hx hb dX1_errorIndex_9 (by decide) (fun c_9 => ?_) (fun c_9 => absurd (nI_le (by omega) (by omega)) c_9)
    refine lv_aload_n hx hb dX1_errorIndex_35 rfl (lv_at hl 2 rfl) ?_
    refine va_get (D := Γ.1) (ci := 1) (v := .int (nI L)) (C := RX1) (T := TX1) (N := 2) hx hb hts hi1 hown hK hP 0 rfl rfl 1 (by decide) kf15 (fun _ h9 => h9) rfl dX1_errorIndex_36 ?_
    exact W.iret (v := (nI L)) hx hb hr (fun t ht hW => eLI hS ht (by rw [hq])) hS.2.2 dX1_errorIndex_39
  · intro n4 ih4 ⟨i4, x1_4⟩ H locs ls h
    obtain ⟨hn4, hq, hP, hS, hl⟩ := h
    try dsimp only at hn4 hq hP hl
    replace hq : (fX1_errorIndex L cs) = (if (fX1_after x1_4 (fX1_code (L) cs (nI i4))) = (-1) then ((nI i4)) else (fX1_errorIndex_L4 L cs n4 (i4 + 1) (fX1_after x1_4 (fX1_code (L) cs (nI i4))))) := hq
    refine lv_iload_n hx hb dX1_errorIndex_4 rfl (lv_at hl 0 rfl) ?_
    refine lv_aload_n hx hb dX1_errorIndex_5 rfl (lv_at hl 2 rfl) ?_
    refine va_get (D := Γ.1) (ci := 1) (v := .int (nI L)) (C := RX1) (T := TX1) (N := 2) hx hb hts hi1 hown hK hP 0 rfl rfl 1 (by decide) kf15 (fun _ h9 => h9) rfl dX1_errorIndex_6 ?_
    refine lv_icmp_ge (tgt := 35) hx hb dX1_errorIndex_9 (by decide) (fun c_9 => absurd c_9 (nI_ge (by omega) (by omega))) (fun c_9 => ?_)
    refine lv_iload_n hx hb dX1_errorIndex_12 rfl (lv_at hl 1 rfl) ?_
    refine lv_aload_n hx hb dX1_errorIndex_13 rfl (lv_at hl 2 rfl) ?_
    refine lv_iload_n hx hb dX1_errorIndex_14 rfl (lv_at hl 0 rfl) ?_
    refine cLI (va_runV (As := [.int (nI i4)]) (rest := [.int x1_4]) ⟨hx, hb, hml, hown, hts⟩ ((kX1_code l Γ a (L) cs (nI i4) (by first | assumption | omega)) _) (cwV 1 hts gX1_errorIndex_X1_code rfl rfl rfl (by decide +kernel) ⟨Nat.le_of_ble_eq_true rfl, Nat.le_of_ble_eq_true rfl⟩) ⟨wPre_blind, va_recv hK hP (ci := 1) (q0 := 0) rfl rfl, wPre_mk hP hD hK hS hA hAB hAm [0] rfl rfl⟩ rfl rfl hl.1 rfl (lv_room (Nat.le_of_ble_eq_true rfl)) dX1_errorIndex_15 ⟨Nat.zero_le _, Nat.zero_le _⟩) hP hS hA (fun H locs hP hS => ?_)
    refine cLI (va_runS (As := [.int x1_4, .int (fX1_code (L) cs (nI i4))]) (rest := []) ⟨hx, hb, hml, hown, hts⟩ ((kX1_after l Γ x1_4 (fX1_code (L) cs (nI i4))) _) (va_cwS 2 hts gX1_errorIndex_X1_after rfl rfl rfl (by decide +kernel) ⟨Nat.le_of_ble_eq_true rfl, Nat.le_of_ble_eq_true rfl⟩) ⟨wPre_blind, wPre_mk hP hD hK hS hA hAB hAm [] rfl rfl⟩ rfl rfl hl.1 rfl (lv_room (Nat.le_of_ble_eq_true rfl)) dX1_errorIndex_18 ⟨Nat.zero_le _, Nat.zero_le _⟩) hP hS hA (fun H locs hP hS => ?_)
    refine lv_istore_n (lv' := [(1, .int (fX1_after x1_4 (fX1_code (L) cs (nI i4)))), (2, .int (nI i4)), (0, .ref (a 0))]) hx hb dX1_errorIndex_21 rfl hl (by decide) rfl (fun ls hl => ?_)
    refine lv_iload_n hx hb dX1_errorIndex_22 rfl (lv_at hl 0 rfl) ?_
    refine lv_iconst (v := (-1)) hx hb dX1_errorIndex_23 (by decide) ?_
    refine lv_icmp_ne (tgt := 29) hx hb dX1_errorIndex_24 (by decide) (fun c_1 => ?_) (fun c_1 => ?_)
    · have hq := hq.trans (if_neg c_1)
      refine lv_iinc (v := (nI (i4 + 1))) (lv' := [(2, .int (nI (i4 + 1))), (1, .int (fX1_after x1_4 (fX1_code (L) cs (nI i4)))), (0, .ref (a 0))]) hx hb dX1_errorIndex_29 hl (k := 1) rfl (nI_1 _) (by decide) rfl (fun ls hl => ?_)
      refine lv_goto (tgt := 4) hx hb dX1_errorIndex_32 (by decide) ?_
      exact ih4 ((i4 + 1), (fX1_after x1_4 (fX1_code (L) cs (nI i4)))) H locs ls ⟨by omega, hq, hP, hS, lv_sub hl [0, 1, 2] rfl⟩
    · have hq := hq.trans (if_pos c_1)
      refine lv_iload_n hx hb dX1_errorIndex_27 rfl (lv_at hl 1 rfl) ?_
      exact W.iret (v := (nI i4)) hx hb hr (fun t ht hW => eLI hS ht (by rw [hq])) hS.2.2 dX1_errorIndex_28
def fX1_isWhole_L4 (L : Nat) (cs : (Nat → Int32)) : Nat → Nat → Int32 → Int32
  | 0, i4, x1_4 => (if x1_4 = (nI 7) then ((nI 1)) else (if x1_4 = (nI 8) then ((nI 1)) else (if x1_4 = (nI 9) then ((nI 1)) else ((nI 0)))))
  | n4 + 1, i4, x1_4 => (fX1_isWhole_L4 L cs n4 (i4 + 1) (fX1_after x1_4 (fX1_code (L) cs (nI i4))))
def fX1_isWhole (L : Nat) (cs : (Nat → Int32)) : Int32 := (fX1_isWhole_L4 L cs (L) 0 (nI 0))
set_option maxHeartbeats 4000000 in
set_option maxRecDepth 100000 in
theorem kX1_isWhole (l : Launch) (Γ : wG) (a : Nat → Nat) (L : Nat) (cs : (Nat → Int32)) (hL : L ≤ 60) : LI l Γ yX1_isWhole wsX1_isWhole ({ frames := 2, cells := 0, slots := 0, locals := 41 }) [.ref (a 0)] [txB Γ a cs (nI L)] (fX1_isWhole L cs) := by
  intro sz
  refine Met.ofW (cc := cX1_isWhole) (maxL := 3) (ret := (some .boolean)) (by decide) rfl ?_
  intro p e s m args below meth c s₁ B hml hv
  obtain ⟨rfl, hsz, hP, hK, hD0, hAm⟩ := hv
  have hx := B.exec
  have hb := B.bytes
  have hr := B.returns
  have hts := atoms_spec (ws := wsX1_isWhole) B.pre
  have hown : s.vm.findClass RX1 = some m.cls := findClass_of_methodNamed B.named
  have hlocks := B.notSynchronized
  subst hsz
  have hD := hD0.self (sz := s.heap.size)
  generalize hBe : va_A (wcat [txB Γ a cs (nI L)]) s.heap.size = B0 at hD hAm
  obtain ⟨A, hAe⟩ : ∃ A, A = va_A [] s.heap.size := ⟨_, rfl⟩
  rw [← hAe]
  have hA : ∀ q : Nat, s.heap.size ≤ q → A q := fun q h => by rw [hAe]; exact Or.inr h
  have hAB : ∀ q : Nat, A q → B0 q := fun q h => by rw [hAe] at h; rw [← hBe]; exact Or.inr (wnone h)
  have hS : va_S A s.heap s.heap [] := va_S.rf
  have hl := lv_entry ([.ref (a 0)]) (n := 3) (Nat.le_of_ble_eq_true rfl)
  rw [lg_entry_eq]
  generalize (lg_sl ([.ref (a 0)]) ++ List.replicate (3 - (lg_sl ([.ref (a 0)])).length) Slot.unset).toArray = ls at hl ⊢
  have hl : lv_has ls 3 [(0, .ref (a 0))] := hl
  have hi1 : ∀ w ∈ wsX10, w ∈ wsX1_isWhole := by decide +kernel
  have kf15 := hts (.fieldLink RX1 15 "CapsuleKeepers$DaysText" "length" "I") (by decide +kernel)
  have hq : (fX1_isWhole L cs) = (fX1_isWhole_L4 L cs (L) 0 (nI 0)) := rfl
  refine lv_iconst (v := (nI 0)) hx hb dX1_isWhole_0 (by decide) ?_
  refine lv_istore_n (lv' := [(1, .int (nI 0)), (0, .ref (a 0))]) hx hb dX1_isWhole_1 rfl hl (by decide) rfl (fun ls hl => ?_)
  refine lv_iconst (v := (nI 0)) hx hb dX1_isWhole_2 (by decide) ?_
  refine lv_istore_n (lv' := [(2, .int (nI 0)), (1, .int (nI 0)), (0, .ref (a 0))]) hx hb dX1_isWhole_3 rfl hl (by decide) rfl (fun ls hl => ?_)
  refine wl (pc := 4) (σ := Nat × Int32) (fun n (i4, x1_4) H locs ls => (i4 + n = L) ∧ (fX1_isWhole L cs) = fX1_isWhole_L4 L cs n i4 x1_4 ∧ va_P Γ.1 vwCl (wcat [txB Γ a cs (nI L)]) H ∧ va_S A s.heap H locs ∧ lv_has ls 3 [(2, .int (nI i4)), (1, .int x1_4), (0, .ref (a 0))]) ?_ ?_ (L) (0, (nI 0)) _ _ _ ⟨by omega, hq, hP, hS, lv_sub hl [0, 1, 2] rfl⟩
  · intro ⟨i4, x1_4⟩ H locs ls h
    obtain ⟨hn4, hq, hP, hS, hl⟩ := h
    try dsimp only at hn4 hq hP hl
    replace hq : (fX1_isWhole L cs) = (if x1_4 = (nI 7) then ((nI 1)) else (if x1_4 = (nI 8) then ((nI 1)) else (if x1_4 = (nI 9) then ((nI 1)) else ((nI 0))))) := hq
    refine lv_iload_n hx hb dX1_isWhole_4 rfl (lv_at hl 0 rfl) ?_
    refine lv_aload_n hx hb dX1_isWhole_5 rfl (lv_at hl 2 rfl) ?_
    refine va_get (D := Γ.1) (ci := 1) (v := .int (nI L)) (C := RX1) (T := TX1) (N := 2) hx hb hts hi1 hown hK hP 0 rfl rfl 1 (by decide) kf15 (fun _ h9 => h9) rfl dX1_isWhole_6 ?_
    refine lv_icmp_ge (tgt := 28) hx hb dX1_isWhole_9 (by decide) (fun c_9 => ?_) (fun c_9 => absurd (nI_le (by omega) (by omega)) c_9)
    refine lv_iload_n hx hb dX1_isWhole_28 rfl (lv_at hl 1 rfl) ?_
    refine lv_bipush (v := (nI 7)) hx hb dX1_isWhole_29 (by decide) ?_
    refine lv_icmp_eq (tgt := 46) hx hb dX1_isWhole_31 (by decide) (fun c_1 => ?_) (fun c_1 => ?_)
    · have hq := hq.trans (if_pos c_1)
      refine lv_iconst (v := (nI 1)) hx hb dX1_isWhole_46 (by decide) ?_
      refine lv_goto (tgt := 51) hx hb dX1_isWhole_47 (by decide) ?_
      exact W.zret (v := (nI 1)) hx hb hr (by first | rfl | decide) (fun t ht hW => eLI hS ht (by rw [hq])) hS.2.2 dX1_isWhole_51
    · have hq := hq.trans (if_neg c_1)
      refine lv_iload_n hx hb dX1_isWhole_34 rfl (lv_at hl 1 rfl) ?_
      refine lv_bipush (v := (nI 8)) hx hb dX1_isWhole_35 (by decide) ?_
      refine lv_icmp_eq (tgt := 46) hx hb dX1_isWhole_37 (by decide) (fun c_2 => ?_) (fun c_2 => ?_)
      · have hq := hq.trans (if_pos c_2)
        refine lv_iconst (v := (nI 1)) hx hb dX1_isWhole_46 (by decide) ?_
        refine lv_goto (tgt := 51) hx hb dX1_isWhole_47 (by decide) ?_
        exact W.zret (v := (nI 1)) hx hb hr (by first | rfl | decide) (fun t ht hW => eLI hS ht (by rw [hq])) hS.2.2 dX1_isWhole_51
      · have hq := hq.trans (if_neg c_2)
        refine lv_iload_n hx hb dX1_isWhole_40 rfl (lv_at hl 1 rfl) ?_
        refine lv_bipush (v := (nI 9)) hx hb dX1_isWhole_41 (by decide) ?_
        refine lv_icmp_ne (tgt := 50) hx hb dX1_isWhole_43 (by decide) (fun c_3 => ?_) (fun c_3 => ?_)
        · have hq := hq.trans (if_neg c_3)
          refine lv_iconst (v := (nI 0)) hx hb dX1_isWhole_50 (by decide) ?_
          exact W.zret (v := (nI 0)) hx hb hr (by first | rfl | decide) (fun t ht hW => eLI hS ht (by rw [hq])) hS.2.2 dX1_isWhole_51
        · have hq := hq.trans (if_pos c_3)
          refine lv_iconst (v := (nI 1)) hx hb dX1_isWhole_46 (by decide) ?_
          refine lv_goto (tgt := 51) hx hb dX1_isWhole_47 (by decide) ?_
          exact W.zret (v := (nI 1)) hx hb hr (by first | rfl | decide) (fun t ht hW => eLI hS ht (by rw [hq])) hS.2.2 dX1_isWhole_51
  · intro n4 ih4 ⟨i4, x1_4⟩ H locs ls h
    obtain ⟨hn4, hq, hP, hS, hl⟩ := h
    try dsimp only at hn4 hq hP hl
    replace hq : (fX1_isWhole L cs) = (fX1_isWhole_L4 L cs n4 (i4 + 1) (fX1_after x1_4 (fX1_code (L) cs (nI i4)))) := hq
    refine lv_iload_n hx hb dX1_isWhole_4 rfl (lv_at hl 0 rfl) ?_
    refine lv_aload_n hx hb dX1_isWhole_5 rfl (lv_at hl 2 rfl) ?_
    refine va_get (D := Γ.1) (ci := 1) (v := .int (nI L)) (C := RX1) (T := TX1) (N := 2) hx hb hts hi1 hown hK hP 0 rfl rfl 1 (by decide) kf15 (fun _ h9 => h9) rfl dX1_isWhole_6 ?_
    refine lv_icmp_ge (tgt := 28) hx hb dX1_isWhole_9 (by decide) (fun c_9 => absurd c_9 (nI_ge (by omega) (by omega))) (fun c_9 => ?_)
    refine lv_iload_n hx hb dX1_isWhole_12 rfl (lv_at hl 1 rfl) ?_
    refine lv_aload_n hx hb dX1_isWhole_13 rfl (lv_at hl 2 rfl) ?_
    refine lv_iload_n hx hb dX1_isWhole_14 rfl (lv_at hl 0 rfl) ?_
    refine cLI (va_runV (As := [.int (nI i4)]) (rest := [.int x1_4]) ⟨hx, hb, hml, hown, hts⟩ ((kX1_code l Γ a (L) cs (nI i4) (by first | assumption | omega)) _) (cwV 1 hts gX1_isWhole_X1_code rfl rfl rfl (by decide +kernel) ⟨Nat.le_of_ble_eq_true rfl, Nat.le_of_ble_eq_true rfl⟩) ⟨wPre_blind, va_recv hK hP (ci := 1) (q0 := 0) rfl rfl, wPre_mk hP hD hK hS hA hAB hAm [0] rfl rfl⟩ rfl rfl hl.1 rfl (lv_room (Nat.le_of_ble_eq_true rfl)) dX1_isWhole_15 ⟨Nat.zero_le _, Nat.zero_le _⟩) hP hS hA (fun H locs hP hS => ?_)
    refine cLI (va_runS (As := [.int x1_4, .int (fX1_code (L) cs (nI i4))]) (rest := []) ⟨hx, hb, hml, hown, hts⟩ ((kX1_after l Γ x1_4 (fX1_code (L) cs (nI i4))) _) (va_cwS 2 hts gX1_isWhole_X1_after rfl rfl rfl (by decide +kernel) ⟨Nat.le_of_ble_eq_true rfl, Nat.le_of_ble_eq_true rfl⟩) ⟨wPre_blind, wPre_mk hP hD hK hS hA hAB hAm [] rfl rfl⟩ rfl rfl hl.1 rfl (lv_room (Nat.le_of_ble_eq_true rfl)) dX1_isWhole_18 ⟨Nat.zero_le _, Nat.zero_le _⟩) hP hS hA (fun H locs hP hS => ?_)
    refine lv_istore_n (lv' := [(1, .int (fX1_after x1_4 (fX1_code (L) cs (nI i4)))), (2, .int (nI i4)), (0, .ref (a 0))]) hx hb dX1_isWhole_21 rfl hl (by decide) rfl (fun ls hl => ?_)
    refine lv_iinc (v := (nI (i4 + 1))) (lv' := [(2, .int (nI (i4 + 1))), (1, .int (fX1_after x1_4 (fX1_code (L) cs (nI i4)))), (0, .ref (a 0))]) hx hb dX1_isWhole_22 hl (k := 1) rfl (nI_1 _) (by decide) rfl (fun ls hl => ?_)
    refine lv_goto (tgt := 4) hx hb dX1_isWhole_25 (by decide) ?_
    exact ih4 ((i4 + 1), (fX1_after x1_4 (fX1_code (L) cs (nI i4)))) H locs ls ⟨by omega, hq, hP, hS, lv_sub hl [0, 1, 2] rfl⟩
def fX4_mix (h : Int64) (x : Int64) : Int64 := ((((31 : Int64) * h) + x))
set_option maxHeartbeats 4000000 in
set_option maxRecDepth 100000 in
theorem kX4_mix (l : Launch) (Γ : wG) (h : Int64) (x : Int64) : LL l Γ yX4_mix wsX4_mix ({ frames := 0, cells := 0, slots := 0, locals := 0 }) [.long h, .long x] [] (fX4_mix h x) := by
  intro sz
  refine Met.ofW (cc := cX4_mix) (maxL := 4) (ret := (some .long)) (by decide) rfl ?_
  intro p e s m args below meth c s₁ B hml hv
  obtain ⟨rfl, hsz, hP, hK, hD0, hAm⟩ := hv
  have hx := B.exec
  have hb := B.bytes
  have hr := B.returns
  have hts := atoms_spec (ws := wsX4_mix) B.pre
  have hown : s.vm.findClass RX4 = some m.cls := findClass_of_methodNamed B.named
  have hlocks := B.notSynchronized
  subst hsz
  have hD := hD0.self (sz := s.heap.size)
  generalize hBe : va_A (wcat []) s.heap.size = B0 at hD hAm
  obtain ⟨A, hAe⟩ : ∃ A, A = va_A [] s.heap.size := ⟨_, rfl⟩
  rw [← hAe]
  have hA : ∀ q : Nat, s.heap.size ≤ q → A q := fun q h => by rw [hAe]; exact Or.inr h
  have hAB : ∀ q : Nat, A q → B0 q := fun q h => by rw [hAe] at h; rw [← hBe]; exact Or.inr (wnone h)
  have hS : va_S A s.heap s.heap [] := va_S.rf
  have hl := lv_entry ([.long h, .long x]) (n := 4) (Nat.le_of_ble_eq_true rfl)
  rw [lg_entry_eq]
  generalize (lg_sl ([.long h, .long x]) ++ List.replicate (4 - (lg_sl ([.long h, .long x])).length) Slot.unset).toArray = ls at hl ⊢
  have hl : lv_has ls 4 [(0, .long h), (2, .long x)] := hl
  have kc371 := hts (.constantLong RX4 371 (31)) (by decide +kernel)
  have hq : (fX4_mix h x) = ((((31 : Int64) * h) + x)) := rfl
  refine lv_ldc2 (v := 31) hx hb hown kc371 dX4_mix_0 ?_
  refine lv_lload_n hx hb dX4_mix_3 rfl (lv_at hl 0 rfl) ?_
  refine lv_lmul hx hb dX4_mix_4 ?_
  refine lv_lload_n hx hb dX4_mix_5 rfl (lv_at hl 1 rfl) ?_
  refine lv_ladd hx hb dX4_mix_6 ?_
  exact W.lret (v := (((31 : Int64) * h) + x)) hx hb hr (fun t ht hW => eLL hS ht (by rw [hq])) hS.2.2 dX4_mix_7
def fX1_mixCodes_L5 (L : Nat) (cs : (Nat → Int32)) : Nat → Nat → Int64 → Int64
  | 0, i5, x3_5 => (x3_5)
  | n5 + 1, i5, x3_5 => (fX1_mixCodes_L5 L cs n5 (i5 + 1) (fX4_mix x3_5 ((fX1_code (L) cs (nI i5)).toInt64)))
def fX1_mixCodes (L : Nat) (cs : (Nat → Int32)) (h : Int64) : Int64 := (fX1_mixCodes_L5 L cs (L) 0 h)
set_option maxHeartbeats 4000000 in
set_option maxRecDepth 100000 in
theorem kX1_mixCodes (l : Launch) (Γ : wG) (a : Nat → Nat) (L : Nat) (cs : (Nat → Int32)) (h : Int64) (hL : L ≤ 60) : LL l Γ yX1_mixCodes wsX1_mixCodes ({ frames := 1, cells := 0, slots := 0, locals := 23 }) [.ref (a 0), .long h] [txB Γ a cs (nI L)] (fX1_mixCodes L cs h) := by
  intro sz
  refine Met.ofW (cc := cX1_mixCodes) (maxL := 6) (ret := (some .long)) (by decide) rfl ?_
  intro p e s m args below meth c s₁ B hml hv
  obtain ⟨rfl, hsz, hP, hK, hD0, hAm⟩ := hv
  have hx := B.exec
  have hb := B.bytes
  have hr := B.returns
  have hts := atoms_spec (ws := wsX1_mixCodes) B.pre
  have hown : s.vm.findClass RX1 = some m.cls := findClass_of_methodNamed B.named
  have hlocks := B.notSynchronized
  subst hsz
  have hD := hD0.self (sz := s.heap.size)
  generalize hBe : va_A (wcat [txB Γ a cs (nI L)]) s.heap.size = B0 at hD hAm
  obtain ⟨A, hAe⟩ : ∃ A, A = va_A [] s.heap.size := ⟨_, rfl⟩
  rw [← hAe]
  have hA : ∀ q : Nat, s.heap.size ≤ q → A q := fun q h => by rw [hAe]; exact Or.inr h
  have hAB : ∀ q : Nat, A q → B0 q := fun q h => by rw [hAe] at h; rw [← hBe]; exact Or.inr (wnone h)
  have hS : va_S A s.heap s.heap [] := va_S.rf
  have hl := lv_entry ([.ref (a 0), .long h]) (n := 6) (Nat.le_of_ble_eq_true rfl)
  rw [lg_entry_eq]
  generalize (lg_sl ([.ref (a 0), .long h]) ++ List.replicate (6 - (lg_sl ([.ref (a 0), .long h])).length) Slot.unset).toArray = ls at hl ⊢
  have hl : lv_has ls 6 [(0, .ref (a 0)), (1, .long h)] := hl
  have hi1 : ∀ w ∈ wsX10, w ∈ wsX1_mixCodes := by decide +kernel
  have kf15 := hts (.fieldLink RX1 15 "CapsuleKeepers$DaysText" "length" "I") (by decide +kernel)
  have hq : (fX1_mixCodes L cs h) = (fX1_mixCodes_L5 L cs (L) 0 h) := rfl
  refine lv_lload_n hx hb dX1_mixCodes_0 rfl (lv_at hl 1 rfl) ?_
  refine lv_lstore_n (lv' := [(3, .long h), (0, .ref (a 0)), (1, .long h)]) hx hb dX1_mixCodes_1 rfl hl (by decide) rfl (fun ls hl => ?_)
  refine lv_iconst (v := (nI 0)) hx hb dX1_mixCodes_2 (by decide) ?_
  refine lv_istore (lv' := [(5, .int (nI 0)), (3, .long h), (0, .ref (a 0)), (1, .long h)]) hx hb dX1_mixCodes_3 hl (by decide) rfl (fun ls hl => ?_)
  refine wl (pc := 5) (σ := Nat × Int64) (fun n (i5, x3_5) H locs ls => (i5 + n = L) ∧ (fX1_mixCodes L cs h) = fX1_mixCodes_L5 L cs n i5 x3_5 ∧ va_P Γ.1 vwCl (wcat [txB Γ a cs (nI L)]) H ∧ va_S A s.heap H locs ∧ lv_has ls 6 [(5, .int (nI i5)), (3, .long x3_5), (0, .ref (a 0)), (1, .long h)]) ?_ ?_ (L) (0, h) _ _ _ ⟨by omega, hq, hP, hS, lv_sub hl [0, 1, 2, 3] rfl⟩
  · intro ⟨i5, x3_5⟩ H locs ls h
    obtain ⟨hn5, hq, hP, hS, hl⟩ := h
    try dsimp only at hn5 hq hP hl
    replace hq : (fX1_mixCodes L cs h) = (x3_5) := hq
    refine lv_iload hx hb dX1_mixCodes_5 (lv_at hl 0 rfl) ?_
    refine lv_aload_n hx hb dX1_mixCodes_7 rfl (lv_at hl 2 rfl) ?_
    refine va_get (D := Γ.1) (ci := 1) (v := .int (nI L)) (C := RX1) (T := TX1) (N := 2) hx hb hts hi1 hown hK hP 0 rfl rfl 1 (by decide) kf15 (fun _ h9 => h9) rfl dX1_mixCodes_8 ?_
    refine lv_icmp_ge (tgt := 32) hx hb dX1_mixCodes_11 (by decide) (fun c_11 => ?_) (fun c_11 => absurd (nI_le (by omega) (by omega)) c_11)
    refine lv_lload_n hx hb dX1_mixCodes_32 rfl (lv_at hl 1 rfl) ?_
    exact W.lret (v := x3_5) hx hb hr (fun t ht hW => eLL hS ht (by rw [hq])) hS.2.2 dX1_mixCodes_33
  · intro n5 ih5 ⟨i5, x3_5⟩ H locs ls h
    obtain ⟨hn5, hq, hP, hS, hl⟩ := h
    try dsimp only at hn5 hq hP hl
    replace hq : (fX1_mixCodes L cs h) = (fX1_mixCodes_L5 L cs n5 (i5 + 1) (fX4_mix x3_5 ((fX1_code (L) cs (nI i5)).toInt64))) := hq
    refine lv_iload hx hb dX1_mixCodes_5 (lv_at hl 0 rfl) ?_
    refine lv_aload_n hx hb dX1_mixCodes_7 rfl (lv_at hl 2 rfl) ?_
    refine va_get (D := Γ.1) (ci := 1) (v := .int (nI L)) (C := RX1) (T := TX1) (N := 2) hx hb hts hi1 hown hK hP 0 rfl rfl 1 (by decide) kf15 (fun _ h9 => h9) rfl dX1_mixCodes_8 ?_
    refine lv_icmp_ge (tgt := 32) hx hb dX1_mixCodes_11 (by decide) (fun c_11 => absurd c_11 (nI_ge (by omega) (by omega))) (fun c_11 => ?_)
    refine lv_lload_n hx hb dX1_mixCodes_14 rfl (lv_at hl 1 rfl) ?_
    refine lv_aload_n hx hb dX1_mixCodes_15 rfl (lv_at hl 2 rfl) ?_
    refine lv_iload hx hb dX1_mixCodes_16 (lv_at hl 0 rfl) ?_
    refine cLI (va_runV (As := [.int (nI i5)]) (rest := [.long x3_5]) ⟨hx, hb, hml, hown, hts⟩ ((kX1_code l Γ a (L) cs (nI i5) (by first | assumption | omega)) _) (cwV 1 hts gX1_mixCodes_X1_code rfl rfl rfl (by decide +kernel) ⟨Nat.le_of_ble_eq_true rfl, Nat.le_of_ble_eq_true rfl⟩) ⟨wPre_blind, va_recv hK hP (ci := 1) (q0 := 0) rfl rfl, wPre_mk hP hD hK hS hA hAB hAm [0] rfl rfl⟩ rfl rfl hl.1 rfl (lv_room (Nat.le_of_ble_eq_true rfl)) dX1_mixCodes_18 ⟨Nat.zero_le _, Nat.zero_le _⟩) hP hS hA (fun H locs hP hS => ?_)
    refine lv_i2l (v := (fX1_code (L) cs (nI i5)).toInt64) hx hb dX1_mixCodes_21 rfl ?_
    refine cLL (va_runSN (As := [.long x3_5, .long ((fX1_code (L) cs (nI i5)).toInt64)]) (rest := []) ⟨hx, hb, hml, hown, hts⟩ ((kX4_mix l Γ x3_5 ((fX1_code (L) cs (nI i5)).toInt64)) _) ⟨va_cnB 2 hts gX1_mixCodes_X4_mix_n34 rfl rfl rfl (hAm.1.2.2.2.1) (hts (.initialized RX4) (by decide +kernel)) (by decide +kernel) ⟨Nat.le_of_ble_eq_true rfl, Nat.le_of_ble_eq_true rfl⟩, hts (.static yX4_mix) (by decide +kernel), trivial⟩ ⟨wPre_blind, wPre_mk hP hD hK hS hA hAB hAm [] rfl rfl⟩ rfl rfl hl.1 rfl (lv_room (Nat.le_of_ble_eq_true rfl)) dX1_mixCodes_22 ⟨Nat.zero_le _, Nat.zero_le _⟩) hP hS hA (fun H locs hP hS => ?_)
    refine lv_lstore_n (lv' := [(3, .long (fX4_mix x3_5 ((fX1_code (L) cs (nI i5)).toInt64))), (5, .int (nI i5)), (0, .ref (a 0)), (1, .long h)]) hx hb dX1_mixCodes_25 rfl hl (by decide) rfl (fun ls hl => ?_)
    refine lv_iinc (v := (nI (i5 + 1))) (lv' := [(5, .int (nI (i5 + 1))), (3, .long (fX4_mix x3_5 ((fX1_code (L) cs (nI i5)).toInt64))), (0, .ref (a 0)), (1, .long h)]) hx hb dX1_mixCodes_26 hl (k := 1) rfl (nI_1 _) (by decide) rfl (fun ls hl => ?_)
    refine lv_goto (tgt := 5) hx hb dX1_mixCodes_29 (by decide) ?_
    exact ih5 ((i5 + 1), (fX4_mix x3_5 ((fX1_code (L) cs (nI i5)).toInt64))) H locs ls ⟨by omega, hq, hP, hS, lv_sub hl [0, 1, 2, 3] rfl⟩
