def fX5_isNext (T : Nat) (P : Nat) (mt : (Nat → Int32)) (m5 : Int32) (lo : Int32) (hi : Int32) : Int32 := (if m5 = 0 then ((nI 0)) else (if (nI T) ≤ (nI P) then ((nI 0)) else (if (fX5_in (mt P) lo hi) = 0 then ((nI 0)) else ((nI 1)))))
set_option maxHeartbeats 4000000 in
set_option maxRecDepth 100000 in
theorem kX5_isNext (l : Launch) (Γ : wG) (a : Nat → Nat) (T : Nat) (P : Nat) (ms : (Nat → Int32)) (mt : (Nat → Int32)) (mc : (Nat → Int32)) (md : (Nat → Int32)) (m0 : Int32) (m1 : Int32) (m3 : Int32) (m5 : Int32) (lo : Int32) (hi : Int32) (hT : T ≤ 60) (hP9 : P ≤ T) : LI l Γ yX5_isNext wsX5_isNext ({ frames := 1, cells := 0, slots := 0, locals := 22 }) [.ref (a 0), .int lo, .int hi] [moB Γ a ms mt mc md m0 m1 (nI T) m3 (nI P) m5] (fX5_isNext T P mt m5 lo hi) := by
  intro sz
  refine Met.ofW (cc := cX5_isNext) (maxL := 3) (ret := (some .boolean)) (by decide) rfl ?_
  intro p e s m args below meth c s₁ B hml hv
  obtain ⟨rfl, hsz, hP, hK, hD0, hAm⟩ := hv
  have hx := B.exec
  have hb := B.bytes
  have hr := B.returns
  have hts := atoms_spec (ws := wsX5_isNext) B.pre
  have hown : s.vm.findClass RX5 = some m.cls := findClass_of_methodNamed B.named
  have hlocks := B.notSynchronized
  subst hsz
  have hD := hD0.self (sz := s.heap.size)
  generalize hBe : va_A (wcat [moB Γ a ms mt mc md m0 m1 (nI T) m3 (nI P) m5]) s.heap.size = B0 at hD hAm
  obtain ⟨A, hAe⟩ : ∃ A, A = va_A [] s.heap.size := ⟨_, rfl⟩
  rw [← hAe]
  have hA : ∀ q : Nat, s.heap.size ≤ q → A q := fun q h => by rw [hAe]; exact Or.inr h
  have hAB : ∀ q : Nat, A q → B0 q := fun q h => by rw [hAe] at h; rw [← hBe]; exact Or.inr (wnone h)
  have hS : va_S A s.heap s.heap [] := va_S.rf
  have hl := lv_entry ([.ref (a 0), .int lo, .int hi]) (n := 3) (Nat.le_of_ble_eq_true rfl)
  rw [lg_entry_eq]
  generalize (lg_sl ([.ref (a 0), .int lo, .int hi]) ++ List.replicate (3 - (lg_sl ([.ref (a 0), .int lo, .int hi])).length) Slot.unset).toArray = ls at hl ⊢
  have hl : lv_has ls 3 [(0, .ref (a 0)), (1, .int lo), (2, .int hi)] := hl
  have hi5 : ∀ w ∈ wsX50, w ∈ wsX5_isNext := by decide +kernel
  have kf101 := hts (.fieldLink RX5 101 "CapsuleKeepersModel" "typed" "I") (by decide +kernel)
  have kf104 := hts (.fieldLink RX5 104 "CapsuleKeepersModel" "isRight" "Z") (by decide +kernel)
  have kf108 := hts (.fieldLink RX5 108 "CapsuleKeepersModel" "at" "I") (by decide +kernel)
  have kf13 := hts (.fieldLink RX5 13 "CapsuleKeepersModel" "text" "[C") (by decide +kernel)
  have hq : (fX5_isNext T P mt m5 lo hi) = (if m5 = 0 then ((nI 0)) else (if (nI T) ≤ (nI P) then ((nI 0)) else (if (fX5_in (mt P) lo hi) = 0 then ((nI 0)) else ((nI 1))))) := rfl
  refine lv_aload_n hx hb dX5_isNext_0 rfl (lv_at hl 0 rfl) ?_
  refine va_get (D := Γ.1) (ci := 5) (v := .int m5) (C := RX5) (T := TX5) (N := 10) hx hb hts hi5 hown hK hP 0 rfl rfl 9 (by decide) kf104 (fun _ h9 => h9) rfl dX5_isNext_1 ?_
  refine lv_if_eq (tgt := 39) hx hb dX5_isNext_4 (by decide) (fun c_1 => ?_) (fun c_1 => ?_)
  · have hq := hq.trans (if_pos c_1)
    refine lv_iconst (v := (nI 0)) hx hb dX5_isNext_39 (by decide) ?_
    exact W.zret (v := (nI 0)) hx hb hr (by first | rfl | decide) (fun t ht hW => eLI hS ht (by rw [hq])) hS.2.2 dX5_isNext_40
  · have hq := hq.trans (if_neg c_1)
    refine lv_aload_n hx hb dX5_isNext_7 rfl (lv_at hl 0 rfl) ?_
    refine va_get (D := Γ.1) (ci := 5) (v := .int (nI P)) (C := RX5) (T := TX5) (N := 10) hx hb hts hi5 hown hK hP 0 rfl rfl 8 (by decide) kf108 (fun _ h9 => h9) rfl dX5_isNext_8 ?_
    refine lv_aload_n hx hb dX5_isNext_11 rfl (lv_at hl 0 rfl) ?_
    refine va_get (D := Γ.1) (ci := 5) (v := .int (nI T)) (C := RX5) (T := TX5) (N := 10) hx hb hts hi5 hown hK hP 0 rfl rfl 4 (by decide) kf101 (fun _ h9 => h9) rfl dX5_isNext_12 ?_
    refine lv_icmp_ge (tgt := 39) hx hb dX5_isNext_15 (by decide) (fun c_2 => ?_) (fun c_2 => ?_)
    · have hq := hq.trans (if_pos c_2)
      refine lv_iconst (v := (nI 0)) hx hb dX5_isNext_39 (by decide) ?_
      exact W.zret (v := (nI 0)) hx hb hr (by first | rfl | decide) (fun t ht hW => eLI hS ht (by rw [hq])) hS.2.2 dX5_isNext_40
    · have hq := hq.trans (if_neg c_2)
      refine lv_aload_n hx hb dX5_isNext_18 rfl (lv_at hl 0 rfl) ?_
      refine va_get (D := Γ.1) (ci := 5) (v := .ref (a 2)) (C := RX5) (T := TX5) (N := 10) hx hb hts hi5 hown hK hP 0 rfl rfl 3 (by decide) kf13 (fun _ h9 => h9) rfl dX5_isNext_19 ?_
      refine lv_aload_n hx hb dX5_isNext_22 rfl (lv_at hl 0 rfl) ?_
      refine va_get (D := Γ.1) (ci := 5) (v := .int (nI P)) (C := RX5) (T := TX5) (N := 10) hx hb hts hi5 hown hK hP 0 rfl rfl 8 (by decide) kf108 (fun _ h9 => h9) rfl dX5_isNext_23 ?_
      refine va_cald_n (f := mt) hx hb hK hP 2 1 rfl rfl (by have := ltN (a := P) (b := T) (by omega) (by omega) (by assumption); omega) (Nat.le_of_ble_eq_true rfl) dX5_isNext_26 ?_
      refine lv_iload_n hx hb dX5_isNext_27 rfl (lv_at hl 1 rfl) ?_
      refine lv_iload_n hx hb dX5_isNext_28 rfl (lv_at hl 2 rfl) ?_
      refine cLI (va_runS (As := [.int (mt P), .int lo, .int hi]) (rest := []) ⟨hx, hb, hml, hown, hts⟩ ((kX5_in l Γ (mt P) lo hi) _) (va_cwS 3 hts gX5_isNext_X5_in rfl rfl rfl (by decide +kernel) ⟨Nat.le_of_ble_eq_true rfl, Nat.le_of_ble_eq_true rfl⟩) ⟨wPre_blind, wPre_mk hP hD hK hS hA hAB hAm [] rfl rfl⟩ rfl rfl hl.1 rfl (lv_room (Nat.le_of_ble_eq_true rfl)) dX5_isNext_29 ⟨Nat.zero_le _, Nat.zero_le _⟩) hP hS hA (fun H locs hP hS => ?_)
      refine lv_if_eq (tgt := 39) hx hb dX5_isNext_32 (by decide) (fun c_3 => ?_) (fun c_3 => ?_)
      · have hq := hq.trans (if_pos c_3)
        refine lv_iconst (v := (nI 0)) hx hb dX5_isNext_39 (by decide) ?_
        exact W.zret (v := (nI 0)) hx hb hr (by first | rfl | decide) (fun t ht hW => eLI hS ht (by rw [hq])) hS.2.2 dX5_isNext_40
      · have hq := hq.trans (if_neg c_3)
        refine lv_iconst (v := (nI 1)) hx hb dX5_isNext_35 (by decide) ?_
        refine lv_goto (tgt := 40) hx hb dX5_isNext_36 (by decide) ?_
        exact W.zret (v := (nI 1)) hx hb hr (by first | rfl | decide) (fun t ht hW => eLI hS ht (by rw [hq])) hS.2.2 dX5_isNext_40
theorem bX5_isNext (T P : Nat) (mt : Nat → Int32) (m5 lo hi : Int32) : fX5_isNext T P mt m5 lo hi = nI 0 ∨ fX5_isNext T P mt m5 lo hi = nI 1 := by
  unfold fX5_isNext
  (repeat' split) <;> simp
theorem isNext_ne {T P : Nat} {mt : Nat → Int32} {m5 lo hi : Int32} (hT : T < 2 ^ 31) (hP : P < 2 ^ 31) (h : ¬ fX5_isNext T P mt m5 lo hi = 0) : P < T := by
  have h0 : nI 0 = 0 := by decide
  unfold fX5_isNext at h
  by_cases a : m5 = 0
  · rw [if_pos a] at h; exact absurd h0 h
  · rw [if_neg a] at h
    by_cases b : nI T ≤ nI P
    · rw [if_pos b] at h; exact absurd h0 h
    · exact ltN hP hT b
def fX5_digit (T : Nat) (P : Nat) (mt : (Nat → Int32)) (m5 : Int32) : Int32 × Nat × Int32 := (if (fX5_isNext (T) (P) mt m5 (nI 48) (nI 55)) = 0 then ((nI 0), P + 0, (fX5_isNext (T) (P) mt m5 (nI 48) (nI 55))) else (((mt P) - (nI 48)), P + 1, (fX5_isNext (T) (P) mt m5 (nI 48) (nI 55))))
set_option maxHeartbeats 4000000 in
set_option maxRecDepth 100000 in
theorem kX5_digit (l : Launch) (Γ : wG) (a : Nat → Nat) (T : Nat) (P : Nat) (ms : (Nat → Int32)) (mt : (Nat → Int32)) (mc : (Nat → Int32)) (md : (Nat → Int32)) (m0 : Int32) (m1 : Int32) (m3 : Int32) (m5 : Int32) (hT : T ≤ 60) (hP9 : P ≤ T) : MI l Γ yX5_digit wsX5_digit ({ frames := 2, cells := 0, slots := 0, locals := 44 }) [.ref (a 0)] [moB Γ a ms mt mc md m0 m1 (nI T) m3 (nI P) m5] [moB Γ a ms mt mc md m0 m1 (nI T) m3 (nI (((fX5_digit T P mt m5).2.1))) (fX5_digit T P mt m5).2.2] (fX5_digit T P mt m5).1 := by
  intro sz
  refine Met.ofW (cc := cX5_digit) (maxL := 1) (ret := (some .int)) (by decide) rfl ?_
  intro p e s m args below meth c s₁ B hml hv
  obtain ⟨rfl, hsz, hP, hK, hD0, hAm⟩ := hv
  have hx := B.exec
  have hb := B.bytes
  have hr := B.returns
  have hts := atoms_spec (ws := wsX5_digit) B.pre
  have hown : s.vm.findClass RX5 = some m.cls := findClass_of_methodNamed B.named
  have hlocks := B.notSynchronized
  subst hsz
  have hD := hD0.self (sz := s.heap.size)
  generalize hAe : va_A (wcat [moB Γ a ms mt mc md m0 m1 (nI T) m3 (nI P) m5]) s.heap.size = A at hD hAm ⊢
  have hA : ∀ q : Nat, s.heap.size ≤ q → A q := fun q h => by rw [← hAe]; exact Or.inr h
  have hAB : ∀ q : Nat, A q → A q := fun _ h => h
  have hS : va_S A s.heap s.heap [] := va_S.rf
  have hl := lv_entry ([.ref (a 0)]) (n := 1) (Nat.le_of_ble_eq_true rfl)
  rw [lg_entry_eq]
  generalize (lg_sl ([.ref (a 0)]) ++ List.replicate (1 - (lg_sl ([.ref (a 0)])).length) Slot.unset).toArray = ls at hl ⊢
  have hl : lv_has ls 1 [(0, .ref (a 0))] := hl
  have hi5 : ∀ w ∈ wsX50, w ∈ wsX5_digit := by decide +kernel
  have kf104 := hts (.fieldLink RX5 104 "CapsuleKeepersModel" "isRight" "Z") (by decide +kernel)
  have kf108 := hts (.fieldLink RX5 108 "CapsuleKeepersModel" "at" "I") (by decide +kernel)
  have kf13 := hts (.fieldLink RX5 13 "CapsuleKeepersModel" "text" "[C") (by decide +kernel)
  have hq : (fX5_digit T P mt m5) = (if (fX5_isNext (T) (P) mt m5 (nI 48) (nI 55)) = 0 then ((nI 0), P + 0, (fX5_isNext (T) (P) mt m5 (nI 48) (nI 55))) else (((mt P) - (nI 48)), P + 1, (fX5_isNext (T) (P) mt m5 (nI 48) (nI 55)))) := rfl
  refine lv_aload_n hx hb dX5_digit_0 rfl (lv_at hl 0 rfl) ?_
  refine lv_aload_n hx hb dX5_digit_1 rfl (lv_at hl 0 rfl) ?_
  refine lv_bipush (v := (nI 48)) hx hb dX5_digit_2 (by decide) ?_
  refine lv_bipush (v := (nI 55)) hx hb dX5_digit_4 (by decide) ?_
  refine cLI (va_runV (As := [.int (nI 48), .int (nI 55)]) (rest := [.ref (a 0)]) ⟨hx, hb, hml, hown, hts⟩ ((kX5_isNext l Γ a (T) (P) ms mt mc md m0 m1 m3 m5 (nI 48) (nI 55) (by first | assumption | omega) (by first | assumption | omega)) _) (cwV 2 hts gX5_digit_X5_isNext rfl rfl rfl (by decide +kernel) ⟨Nat.le_of_ble_eq_true rfl, Nat.le_of_ble_eq_true rfl⟩) ⟨wPre_blind, va_recv hK hP (ci := 5) (q0 := 0) rfl rfl, wPre_mk hP hD hK hS hA hAB hAm [0] rfl rfl⟩ rfl rfl hl.1 rfl (lv_room (Nat.le_of_ble_eq_true rfl)) dX5_digit_6 ⟨Nat.zero_le _, Nat.zero_le _⟩) hP hS hA (fun H locs hP hS => ?_)
  refine va_put (D := Γ.1) (ci := 5) (v := .int (fX5_isNext (T) (P) mt m5 (nI 48) (nI 55))) (ty := .boolean) (C := RX5) (T := TX5) (N := 10) hx hb hts hi5 tyX5 tyX5_ok nmX5 hown hK hP hD hS 0 rfl rfl 9 (by decide) kf104 (fun _ h9 => h9) rfl (by decide +kernel) (nar01 (bX5_isNext _ _ _ _ _ _)) (fit01 (bX5_isNext _ _ _ _ _ _)) (Nat.le_of_ble_eq_true rfl) dX5_digit_9 (fun H locs hP hD hS => ?_)
  have hP : va_P Γ.1 vwCl (wcat [moB Γ a ms mt mc md m0 m1 (nI T) m3 (nI P) (fX5_isNext (T) (P) mt m5 (nI 48) (nI 55))]) H := hP
  have hD : va_D A (wcat [moB Γ a ms mt mc md m0 m1 (nI T) m3 (nI P) (fX5_isNext (T) (P) mt m5 (nI 48) (nI 55))]) := hD
  refine lv_aload_n hx hb dX5_digit_12 rfl (lv_at hl 0 rfl) ?_
  refine lv_dup hx hb dX5_digit_13 rfl ?_
  refine va_get (D := Γ.1) (ci := 5) (v := .int (nI P)) (C := RX5) (T := TX5) (N := 10) hx hb hts hi5 hown hK hP 0 rfl rfl 8 (by decide) kf108 (fun _ h9 => h9) rfl dX5_digit_14 ?_
  refine lv_aload_n hx hb dX5_digit_17 rfl (lv_at hl 0 rfl) ?_
  refine va_get (D := Γ.1) (ci := 5) (v := .int (fX5_isNext (T) (P) mt m5 (nI 48) (nI 55))) (C := RX5) (T := TX5) (N := 10) hx hb hts hi5 hown hK hP 0 rfl rfl 9 (by decide) kf104 (fun _ h9 => h9) rfl dX5_digit_18 ?_
  refine lv_if_eq (tgt := 28) hx hb dX5_digit_21 (by decide) (fun c_1 => ?_) (fun c_1 => ?_)
  · have hq := hq.trans (if_pos c_1)
    refine lv_iconst (v := (nI 0)) hx hb dX5_digit_28 (by decide) ?_
    refine lv_iadd hx hb dX5_digit_29 ?_
    refine lv_eqi (y := (nI (P + 0))) (nI_add _ _) ?_
    refine va_put (D := Γ.1) (ci := 5) (v := .int (nI (P + 0))) (ty := .int) (C := RX5) (T := TX5) (N := 10) hx hb hts hi5 tyX5 tyX5_ok nmX5 hown hK hP hD hS 0 rfl rfl 8 (by decide) kf108 (fun _ h9 => h9) rfl (by decide +kernel) rfl rfl (Nat.le_of_ble_eq_true rfl) dX5_digit_30 (fun H locs hP hD hS => ?_)
    have hP : va_P Γ.1 vwCl (wcat [moB Γ a ms mt mc md m0 m1 (nI T) m3 (nI (P + 0)) (fX5_isNext (T) (P) mt m5 (nI 48) (nI 55))]) H := hP
    have hD : va_D A (wcat [moB Γ a ms mt mc md m0 m1 (nI T) m3 (nI (P + 0)) (fX5_isNext (T) (P) mt m5 (nI 48) (nI 55))]) := hD
    refine lv_aload_n hx hb dX5_digit_33 rfl (lv_at hl 0 rfl) ?_
    refine va_get (D := Γ.1) (ci := 5) (v := .int (fX5_isNext (T) (P) mt m5 (nI 48) (nI 55))) (C := RX5) (T := TX5) (N := 10) hx hb hts hi5 hown hK hP 0 rfl rfl 9 (by decide) kf104 (fun _ h9 => h9) rfl dX5_digit_34 ?_
    refine lv_if_eq (tgt := 57) hx hb dX5_digit_37 (by decide) (fun c_37 => ?_) (fun c_37 => absurd c_1 c_37)
    refine lv_iconst (v := (nI 0)) hx hb dX5_digit_57 (by decide) ?_
    exact W.iret (v := (nI 0)) hx hb hr (fun t ht hW => eMI (by rw [hq]; exact hP) hS ht (by rw [hq])) hS.2.2 dX5_digit_58
  · have hq := hq.trans (if_neg c_1)
    refine lv_iconst (v := (nI 1)) hx hb dX5_digit_24 (by decide) ?_
    refine lv_goto (tgt := 29) hx hb dX5_digit_25 (by decide) ?_
    refine lv_iadd hx hb dX5_digit_29 ?_
    refine lv_eqi (y := (nI (P + 1))) (nI_add _ _) ?_
    refine va_put (D := Γ.1) (ci := 5) (v := .int (nI (P + 1))) (ty := .int) (C := RX5) (T := TX5) (N := 10) hx hb hts hi5 tyX5 tyX5_ok nmX5 hown hK hP hD hS 0 rfl rfl 8 (by decide) kf108 (fun _ h9 => h9) rfl (by decide +kernel) rfl rfl (Nat.le_of_ble_eq_true rfl) dX5_digit_30 (fun H locs hP hD hS => ?_)
    have hP : va_P Γ.1 vwCl (wcat [moB Γ a ms mt mc md m0 m1 (nI T) m3 (nI (P + 1)) (fX5_isNext (T) (P) mt m5 (nI 48) (nI 55))]) H := hP
    have hD : va_D A (wcat [moB Γ a ms mt mc md m0 m1 (nI T) m3 (nI (P + 1)) (fX5_isNext (T) (P) mt m5 (nI 48) (nI 55))]) := hD
    refine lv_aload_n hx hb dX5_digit_33 rfl (lv_at hl 0 rfl) ?_
    refine va_get (D := Γ.1) (ci := 5) (v := .int (fX5_isNext (T) (P) mt m5 (nI 48) (nI 55))) (C := RX5) (T := TX5) (N := 10) hx hb hts hi5 hown hK hP 0 rfl rfl 9 (by decide) kf104 (fun _ h9 => h9) rfl dX5_digit_34 ?_
    refine lv_if_eq (tgt := 57) hx hb dX5_digit_37 (by decide) (fun c_37 => absurd c_37 c_1) (fun c_37 => ?_)
    refine lv_aload_n hx hb dX5_digit_40 rfl (lv_at hl 0 rfl) ?_
    refine va_get (D := Γ.1) (ci := 5) (v := .ref (a 2)) (C := RX5) (T := TX5) (N := 10) hx hb hts hi5 hown hK hP 0 rfl rfl 3 (by decide) kf13 (fun _ h9 => h9) rfl dX5_digit_41 ?_
    refine lv_aload_n hx hb dX5_digit_44 rfl (lv_at hl 0 rfl) ?_
    refine va_get (D := Γ.1) (ci := 5) (v := .int (nI (P + 1))) (C := RX5) (T := TX5) (N := 10) hx hb hts hi5 hown hK hP 0 rfl rfl 8 (by decide) kf108 (fun _ h9 => h9) rfl dX5_digit_45 ?_
    refine lv_iconst (v := (nI 1)) hx hb dX5_digit_48 (by decide) ?_
    refine lv_isub hx hb dX5_digit_49 ?_
    refine lv_eqi (y := (nI P)) ((pk_sub (by omega)).trans (by rw [Nat.add_sub_cancel])) ?_
    refine va_cald_n (f := mt) hx hb hK hP 2 1 rfl rfl (by have := isNext_ne (T := T) (P := P) (by omega) (by omega) (by assumption); omega) (Nat.le_of_ble_eq_true rfl) dX5_digit_50 ?_
    refine lv_bipush (v := (nI 48)) hx hb dX5_digit_51 (by decide) ?_
    refine lv_isub hx hb dX5_digit_53 ?_
    refine lv_goto (tgt := 58) hx hb dX5_digit_54 (by decide) ?_
    exact W.iret (v := ((mt P) - (nI 48))) hx hb hr (fun t ht hW => eMI (by rw [hq]; exact hP) hS ht (by rw [hq])) hS.2.2 dX5_digit_58
def fX5_takes (T : Nat) (P : Nat) (mt : (Nat → Int32)) (m5 : Int32) (ch : Int32) : Nat × Int32 := (if (fX5_isNext (T) (P) mt m5 ch ch) = 0 then (P + 0, (fX5_isNext (T) (P) mt m5 ch ch)) else (P + 1, (fX5_isNext (T) (P) mt m5 ch ch)))
set_option maxHeartbeats 4000000 in
set_option maxRecDepth 100000 in
theorem kX5_takes (l : Launch) (Γ : wG) (a : Nat → Nat) (T : Nat) (P : Nat) (ms : (Nat → Int32)) (mt : (Nat → Int32)) (mc : (Nat → Int32)) (md : (Nat → Int32)) (m0 : Int32) (m1 : Int32) (m3 : Int32) (m5 : Int32) (ch : Int32) (hT : T ≤ 60) (hP9 : P ≤ T) : MV l Γ yX5_takes wsX5_takes ({ frames := 2, cells := 0, slots := 0, locals := 44 }) [.ref (a 0), .int ch] [moB Γ a ms mt mc md m0 m1 (nI T) m3 (nI P) m5] [moB Γ a ms mt mc md m0 m1 (nI T) m3 (nI (((fX5_takes T P mt m5 ch).1))) (fX5_takes T P mt m5 ch).2] := by
  intro sz
  refine Met.ofW (cc := cX5_takes) (maxL := 2) (ret := none) (by decide) rfl ?_
  intro p e s m args below meth c s₁ B hml hv
  obtain ⟨rfl, hsz, hP, hK, hD0, hAm⟩ := hv
  have hx := B.exec
  have hb := B.bytes
  have hr := B.returns
  have hts := atoms_spec (ws := wsX5_takes) B.pre
  have hown : s.vm.findClass RX5 = some m.cls := findClass_of_methodNamed B.named
  have hlocks := B.notSynchronized
  subst hsz
  have hD := hD0.self (sz := s.heap.size)
  generalize hAe : va_A (wcat [moB Γ a ms mt mc md m0 m1 (nI T) m3 (nI P) m5]) s.heap.size = A at hD hAm ⊢
  have hA : ∀ q : Nat, s.heap.size ≤ q → A q := fun q h => by rw [← hAe]; exact Or.inr h
  have hAB : ∀ q : Nat, A q → A q := fun _ h => h
  have hS : va_S A s.heap s.heap [] := va_S.rf
  have hl := lv_entry ([.ref (a 0), .int ch]) (n := 2) (Nat.le_of_ble_eq_true rfl)
  rw [lg_entry_eq]
  generalize (lg_sl ([.ref (a 0), .int ch]) ++ List.replicate (2 - (lg_sl ([.ref (a 0), .int ch])).length) Slot.unset).toArray = ls at hl ⊢
  have hl : lv_has ls 2 [(0, .ref (a 0)), (1, .int ch)] := hl
  have hi5 : ∀ w ∈ wsX50, w ∈ wsX5_takes := by decide +kernel
  have kf104 := hts (.fieldLink RX5 104 "CapsuleKeepersModel" "isRight" "Z") (by decide +kernel)
  have kf108 := hts (.fieldLink RX5 108 "CapsuleKeepersModel" "at" "I") (by decide +kernel)
  have hq : (fX5_takes T P mt m5 ch) = (if (fX5_isNext (T) (P) mt m5 ch ch) = 0 then (P + 0, (fX5_isNext (T) (P) mt m5 ch ch)) else (P + 1, (fX5_isNext (T) (P) mt m5 ch ch))) := rfl
  refine lv_aload_n hx hb dX5_takes_0 rfl (lv_at hl 0 rfl) ?_
  refine lv_aload_n hx hb dX5_takes_1 rfl (lv_at hl 0 rfl) ?_
  refine lv_iload_n hx hb dX5_takes_2 rfl (lv_at hl 1 rfl) ?_
  refine lv_iload_n hx hb dX5_takes_3 rfl (lv_at hl 1 rfl) ?_
  refine cLI (va_runV (As := [.int ch, .int ch]) (rest := [.ref (a 0)]) ⟨hx, hb, hml, hown, hts⟩ ((kX5_isNext l Γ a (T) (P) ms mt mc md m0 m1 m3 m5 ch ch (by first | assumption | omega) (by first | assumption | omega)) _) (cwV 2 hts gX5_takes_X5_isNext rfl rfl rfl (by decide +kernel) ⟨Nat.le_of_ble_eq_true rfl, Nat.le_of_ble_eq_true rfl⟩) ⟨wPre_blind, va_recv hK hP (ci := 5) (q0 := 0) rfl rfl, wPre_mk hP hD hK hS hA hAB hAm [0] rfl rfl⟩ rfl rfl hl.1 rfl (lv_room (Nat.le_of_ble_eq_true rfl)) dX5_takes_4 ⟨Nat.zero_le _, Nat.zero_le _⟩) hP hS hA (fun H locs hP hS => ?_)
  refine va_put (D := Γ.1) (ci := 5) (v := .int (fX5_isNext (T) (P) mt m5 ch ch)) (ty := .boolean) (C := RX5) (T := TX5) (N := 10) hx hb hts hi5 tyX5 tyX5_ok nmX5 hown hK hP hD hS 0 rfl rfl 9 (by decide) kf104 (fun _ h9 => h9) rfl (by decide +kernel) (nar01 (bX5_isNext _ _ _ _ _ _)) (fit01 (bX5_isNext _ _ _ _ _ _)) (Nat.le_of_ble_eq_true rfl) dX5_takes_7 (fun H locs hP hD hS => ?_)
  have hP : va_P Γ.1 vwCl (wcat [moB Γ a ms mt mc md m0 m1 (nI T) m3 (nI P) (fX5_isNext (T) (P) mt m5 ch ch)]) H := hP
  have hD : va_D A (wcat [moB Γ a ms mt mc md m0 m1 (nI T) m3 (nI P) (fX5_isNext (T) (P) mt m5 ch ch)]) := hD
  refine lv_aload_n hx hb dX5_takes_10 rfl (lv_at hl 0 rfl) ?_
  refine lv_dup hx hb dX5_takes_11 rfl ?_
  refine va_get (D := Γ.1) (ci := 5) (v := .int (nI P)) (C := RX5) (T := TX5) (N := 10) hx hb hts hi5 hown hK hP 0 rfl rfl 8 (by decide) kf108 (fun _ h9 => h9) rfl dX5_takes_12 ?_
  refine lv_aload_n hx hb dX5_takes_15 rfl (lv_at hl 0 rfl) ?_
  refine va_get (D := Γ.1) (ci := 5) (v := .int (fX5_isNext (T) (P) mt m5 ch ch)) (C := RX5) (T := TX5) (N := 10) hx hb hts hi5 hown hK hP 0 rfl rfl 9 (by decide) kf104 (fun _ h9 => h9) rfl dX5_takes_16 ?_
  refine lv_if_eq (tgt := 26) hx hb dX5_takes_19 (by decide) (fun c_1 => ?_) (fun c_1 => ?_)
  · have hq := hq.trans (if_pos c_1)
    refine lv_iconst (v := (nI 0)) hx hb dX5_takes_26 (by decide) ?_
    refine lv_iadd hx hb dX5_takes_27 ?_
    refine lv_eqi (y := (nI (P + 0))) (nI_add _ _) ?_
    refine va_put (D := Γ.1) (ci := 5) (v := .int (nI (P + 0))) (ty := .int) (C := RX5) (T := TX5) (N := 10) hx hb hts hi5 tyX5 tyX5_ok nmX5 hown hK hP hD hS 0 rfl rfl 8 (by decide) kf108 (fun _ h9 => h9) rfl (by decide +kernel) rfl rfl (Nat.le_of_ble_eq_true rfl) dX5_takes_28 (fun H locs hP hD hS => ?_)
    have hP : va_P Γ.1 vwCl (wcat [moB Γ a ms mt mc md m0 m1 (nI T) m3 (nI (P + 0)) (fX5_isNext (T) (P) mt m5 ch ch)]) H := hP
    have hD : va_D A (wcat [moB Γ a ms mt mc md m0 m1 (nI T) m3 (nI (P + 0)) (fX5_isNext (T) (P) mt m5 ch ch)]) := hD
    exact W.vret hx hb hr (fun t ht hW => eMV (by rw [hq]; exact hP) hS ht) hS.2.2 dX5_takes_31
  · have hq := hq.trans (if_neg c_1)
    refine lv_iconst (v := (nI 1)) hx hb dX5_takes_22 (by decide) ?_
    refine lv_goto (tgt := 27) hx hb dX5_takes_23 (by decide) ?_
    refine lv_iadd hx hb dX5_takes_27 ?_
    refine lv_eqi (y := (nI (P + 1))) (nI_add _ _) ?_
    refine va_put (D := Γ.1) (ci := 5) (v := .int (nI (P + 1))) (ty := .int) (C := RX5) (T := TX5) (N := 10) hx hb hts hi5 tyX5 tyX5_ok nmX5 hown hK hP hD hS 0 rfl rfl 8 (by decide) kf108 (fun _ h9 => h9) rfl (by decide +kernel) rfl rfl (Nat.le_of_ble_eq_true rfl) dX5_takes_28 (fun H locs hP hD hS => ?_)
    have hP : va_P Γ.1 vwCl (wcat [moB Γ a ms mt mc md m0 m1 (nI T) m3 (nI (P + 1)) (fX5_isNext (T) (P) mt m5 ch ch)]) H := hP
    have hD : va_D A (wcat [moB Γ a ms mt mc md m0 m1 (nI T) m3 (nI (P + 1)) (fX5_isNext (T) (P) mt m5 ch ch)]) := hD
    exact W.vret hx hb hr (fun t ht hW => eMV (by rw [hq]; exact hP) hS ht) hS.2.2 dX5_takes_31
def fX5_days_L16 (T : Nat) (P : Nat) (mt : (Nat → Int32)) (m5 : Int32) : Nat → Nat → Int32 → Nat → Int32 × Nat × Int32
  | 0, i16, x1_16, m40_16 => (x1_16, m40_16, (fX5_isNext (T) (P) mt m5 (nI 49) (nI 57)))
  | n16 + 1, i16, x1_16, m40_16 => (if (fX5_isNext (T) (m40_16) mt (fX5_isNext (T) (P) mt m5 (nI 49) (nI 57)) (nI 48) (nI 57)) = 0 then (x1_16, m40_16, (fX5_isNext (T) (P) mt m5 (nI 49) (nI 57))) else (fX5_days_L16 T P mt m5 n16 (i16 + 1) ((((nI 10) * x1_16) + (mt m40_16)) - (nI 48)) (m40_16 + 1)))
def fX5_days (T : Nat) (P : Nat) (mt : (Nat → Int32)) (m5 : Int32) : Int32 × Nat × Int32 := (fX5_days_L16 T P mt m5 (3) 0 (nI 0) P)
set_option maxHeartbeats 4000000 in
set_option maxRecDepth 100000 in
theorem kX5_days (l : Launch) (Γ : wG) (a : Nat → Nat) (T : Nat) (P : Nat) (ms : (Nat → Int32)) (mt : (Nat → Int32)) (mc : (Nat → Int32)) (md : (Nat → Int32)) (m0 : Int32) (m1 : Int32) (m3 : Int32) (m5 : Int32) (hT : T ≤ 60) (hP9 : P ≤ T) : MI l Γ yX5_days wsX5_days ({ frames := 2, cells := 0, slots := 0, locals := 44 }) [.ref (a 0)] [moB Γ a ms mt mc md m0 m1 (nI T) m3 (nI P) m5] [moB Γ a ms mt mc md m0 m1 (nI T) m3 (nI (((fX5_days T P mt m5).2.1))) (fX5_days T P mt m5).2.2] (fX5_days T P mt m5).1 := by
  intro sz
  refine Met.ofW (cc := cX5_days) (maxL := 3) (ret := (some .int)) (by decide) rfl ?_
  intro p e s m args below meth c s₁ B hml hv
  obtain ⟨rfl, hsz, hP, hK, hD0, hAm⟩ := hv
  have hx := B.exec
  have hb := B.bytes
  have hr := B.returns
  have hts := atoms_spec (ws := wsX5_days) B.pre
  have hown : s.vm.findClass RX5 = some m.cls := findClass_of_methodNamed B.named
  have hlocks := B.notSynchronized
  subst hsz
  have hD := hD0.self (sz := s.heap.size)
  generalize hAe : va_A (wcat [moB Γ a ms mt mc md m0 m1 (nI T) m3 (nI P) m5]) s.heap.size = A at hD hAm ⊢
  have hA : ∀ q : Nat, s.heap.size ≤ q → A q := fun q h => by rw [← hAe]; exact Or.inr h
  have hAB : ∀ q : Nat, A q → A q := fun _ h => h
  have hS : va_S A s.heap s.heap [] := va_S.rf
  have hl := lv_entry ([.ref (a 0)]) (n := 3) (Nat.le_of_ble_eq_true rfl)
  rw [lg_entry_eq]
  generalize (lg_sl ([.ref (a 0)]) ++ List.replicate (3 - (lg_sl ([.ref (a 0)])).length) Slot.unset).toArray = ls at hl ⊢
  have hl : lv_has ls 3 [(0, .ref (a 0))] := hl
  have hi5 : ∀ w ∈ wsX50, w ∈ wsX5_days := by decide +kernel
  have kf104 := hts (.fieldLink RX5 104 "CapsuleKeepersModel" "isRight" "Z") (by decide +kernel)
  have kf108 := hts (.fieldLink RX5 108 "CapsuleKeepersModel" "at" "I") (by decide +kernel)
  have kf13 := hts (.fieldLink RX5 13 "CapsuleKeepersModel" "text" "[C") (by decide +kernel)
  have hq : (fX5_days T P mt m5) = (fX5_days_L16 T P mt m5 (3) 0 (nI 0) P) := rfl
  refine lv_aload_n hx hb dX5_days_0 rfl (lv_at hl 0 rfl) ?_
  refine lv_aload_n hx hb dX5_days_1 rfl (lv_at hl 0 rfl) ?_
  refine lv_bipush (v := (nI 49)) hx hb dX5_days_2 (by decide) ?_
  refine lv_bipush (v := (nI 57)) hx hb dX5_days_4 (by decide) ?_
  refine cLI (va_runV (As := [.int (nI 49), .int (nI 57)]) (rest := [.ref (a 0)]) ⟨hx, hb, hml, hown, hts⟩ ((kX5_isNext l Γ a (T) (P) ms mt mc md m0 m1 m3 m5 (nI 49) (nI 57) (by first | assumption | omega) (by first | assumption | omega)) _) (cwV 2 hts gX5_days_X5_isNext rfl rfl rfl (by decide +kernel) ⟨Nat.le_of_ble_eq_true rfl, Nat.le_of_ble_eq_true rfl⟩) ⟨wPre_blind, va_recv hK hP (ci := 5) (q0 := 0) rfl rfl, wPre_mk hP hD hK hS hA hAB hAm [0] rfl rfl⟩ rfl rfl hl.1 rfl (lv_room (Nat.le_of_ble_eq_true rfl)) dX5_days_6 ⟨Nat.zero_le _, Nat.zero_le _⟩) hP hS hA (fun H locs hP hS => ?_)
  refine va_put (D := Γ.1) (ci := 5) (v := .int (fX5_isNext (T) (P) mt m5 (nI 49) (nI 57))) (ty := .boolean) (C := RX5) (T := TX5) (N := 10) hx hb hts hi5 tyX5 tyX5_ok nmX5 hown hK hP hD hS 0 rfl rfl 9 (by decide) kf104 (fun _ h9 => h9) rfl (by decide +kernel) (nar01 (bX5_isNext _ _ _ _ _ _)) (fit01 (bX5_isNext _ _ _ _ _ _)) (Nat.le_of_ble_eq_true rfl) dX5_days_9 (fun H locs hP hD hS => ?_)
  have hP : va_P Γ.1 vwCl (wcat [moB Γ a ms mt mc md m0 m1 (nI T) m3 (nI P) (fX5_isNext (T) (P) mt m5 (nI 49) (nI 57))]) H := hP
  have hD : va_D A (wcat [moB Γ a ms mt mc md m0 m1 (nI T) m3 (nI P) (fX5_isNext (T) (P) mt m5 (nI 49) (nI 57))]) := hD
  refine lv_iconst (v := (nI 0)) hx hb dX5_days_12 (by decide) ?_
  refine lv_istore_n (lv' := [(1, .int (nI 0)), (0, .ref (a 0))]) hx hb dX5_days_13 rfl hl (by decide) rfl (fun ls hl => ?_)
  refine lv_iconst (v := (nI 0)) hx hb dX5_days_14 (by decide) ?_
  refine lv_istore_n (lv' := [(2, .int (nI 0)), (1, .int (nI 0)), (0, .ref (a 0))]) hx hb dX5_days_15 rfl hl (by decide) rfl (fun ls hl => ?_)
  refine wl (pc := 16) (σ := Nat × Int32 × Nat) (fun n (i16, x1_16, m40_16) H locs ls => (i16 + n = 3 ∧ m40_16 ≤ T) ∧ (fX5_days T P mt m5) = fX5_days_L16 T P mt m5 n i16 x1_16 m40_16 ∧ va_P Γ.1 vwCl (wcat [moB Γ a ms mt mc md m0 m1 (nI T) m3 (nI m40_16) (fX5_isNext (T) (P) mt m5 (nI 49) (nI 57))]) H ∧ va_D A (wcat [moB Γ a ms mt mc md m0 m1 (nI T) m3 (nI m40_16) (fX5_isNext (T) (P) mt m5 (nI 49) (nI 57))]) ∧ va_S A s.heap H locs ∧ lv_has ls 3 [(2, .int (nI i16)), (1, .int x1_16), (0, .ref (a 0))]) ?_ ?_ (3) (0, (nI 0), P) _ _ _ ⟨⟨by omega, hP9⟩, hq, hP, hD, hS, lv_sub hl [0, 1, 2] rfl⟩
  · intro ⟨i16, x1_16, m40_16⟩ H locs ls h
    obtain ⟨hn16, hq, hP, hD, hS, hl⟩ := h
    try dsimp only at hn16 hq hP hD hl
    obtain ⟨hn16, hm16⟩ := hn16
    replace hq : (fX5_days T P mt m5) = (x1_16, m40_16, (fX5_isNext (T) (P) mt m5 (nI 49) (nI 57))) := hq
    refine lv_iload_n hx hb dX5_days_16 rfl (lv_at hl 0 rfl) ?_
    refine lv_iconst (v := (nI 3)) hx hb dX5_days_17 (by decide) ?_
    refine lv_icmp_ge (tgt := 66) hx hb dX5_days_18 (by decide) (fun c_18 => ?_) (fun c_18 => absurd (nI_le (by omega) (by omega)) c_18)
    refine lv_iload_n hx hb dX5_days_66 rfl (lv_at hl 1 rfl) ?_
    exact W.iret (v := x1_16) hx hb hr (fun t ht hW => eMI (by rw [hq]; exact hP) hS ht (by rw [hq])) hS.2.2 dX5_days_67
  · intro n16 ih16 ⟨i16, x1_16, m40_16⟩ H locs ls h
    obtain ⟨hn16, hq, hP, hD, hS, hl⟩ := h
    try dsimp only at hn16 hq hP hD hl
    obtain ⟨hn16, hm16⟩ := hn16
    replace hq : (fX5_days T P mt m5) = (if (fX5_isNext (T) (m40_16) mt (fX5_isNext (T) (P) mt m5 (nI 49) (nI 57)) (nI 48) (nI 57)) = 0 then (x1_16, m40_16, (fX5_isNext (T) (P) mt m5 (nI 49) (nI 57))) else (fX5_days_L16 T P mt m5 n16 (i16 + 1) ((((nI 10) * x1_16) + (mt m40_16)) - (nI 48)) (m40_16 + 1))) := hq
    refine lv_iload_n hx hb dX5_days_16 rfl (lv_at hl 0 rfl) ?_
    refine lv_iconst (v := (nI 3)) hx hb dX5_days_17 (by decide) ?_
    refine lv_icmp_ge (tgt := 66) hx hb dX5_days_18 (by decide) (fun c_18 => absurd c_18 (nI_ge (by omega) (by omega))) (fun c_18 => ?_)
    refine lv_aload_n hx hb dX5_days_21 rfl (lv_at hl 2 rfl) ?_
    refine lv_bipush (v := (nI 48)) hx hb dX5_days_22 (by decide) ?_
    refine lv_bipush (v := (nI 57)) hx hb dX5_days_24 (by decide) ?_
    refine cLI (va_runV (As := [.int (nI 48), .int (nI 57)]) (rest := []) ⟨hx, hb, hml, hown, hts⟩ ((kX5_isNext l Γ a (T) (m40_16) ms mt mc md m0 m1 m3 (fX5_isNext (T) (P) mt m5 (nI 49) (nI 57)) (nI 48) (nI 57) (by first | assumption | omega) (by first | assumption | omega)) _) (cwV 2 hts gX5_days_X5_isNext rfl rfl rfl (by decide +kernel) ⟨Nat.le_of_ble_eq_true rfl, Nat.le_of_ble_eq_true rfl⟩) ⟨wPre_blind, va_recv hK hP (ci := 5) (q0 := 0) rfl rfl, wPre_mk hP hD hK hS hA hAB hAm [0] rfl rfl⟩ rfl rfl hl.1 rfl (lv_room (Nat.le_of_ble_eq_true rfl)) dX5_days_26 ⟨Nat.zero_le _, Nat.zero_le _⟩) hP hS hA (fun H locs hP hS => ?_)
    refine lv_if_eq (tgt := 66) hx hb dX5_days_29 (by decide) (fun c_1 => ?_) (fun c_1 => ?_)
    · have hq := hq.trans (if_pos c_1)
      refine lv_iload_n hx hb dX5_days_66 rfl (lv_at hl 1 rfl) ?_
      exact W.iret (v := x1_16) hx hb hr (fun t ht hW => eMI (by rw [hq]; exact hP) hS ht (by rw [hq])) hS.2.2 dX5_days_67
    · have hq := hq.trans (if_neg c_1)
      refine lv_bipush (v := (nI 10)) hx hb dX5_days_32 (by decide) ?_
      refine lv_iload_n hx hb dX5_days_34 rfl (lv_at hl 1 rfl) ?_
      refine lv_imul hx hb dX5_days_35 ?_
      refine lv_aload_n hx hb dX5_days_36 rfl (lv_at hl 2 rfl) ?_
      refine va_get (D := Γ.1) (ci := 5) (v := .ref (a 2)) (C := RX5) (T := TX5) (N := 10) hx hb hts hi5 hown hK hP 0 rfl rfl 3 (by decide) kf13 (fun _ h9 => h9) rfl dX5_days_37 ?_
      refine lv_aload_n hx hb dX5_days_40 rfl (lv_at hl 2 rfl) ?_
      refine va_get (D := Γ.1) (ci := 5) (v := .int (nI m40_16)) (C := RX5) (T := TX5) (N := 10) hx hb hts hi5 hown hK hP 0 rfl rfl 8 (by decide) kf108 (fun _ h9 => h9) rfl dX5_days_41 ?_
      refine va_cald_n (f := mt) hx hb hK hP 2 1 rfl rfl (by have := isNext_ne (T := T) (P := m40_16) (by omega) (by omega) (by assumption); omega) (Nat.le_of_ble_eq_true rfl) dX5_days_44 ?_
      refine lv_iadd hx hb dX5_days_45 ?_
      refine lv_bipush (v := (nI 48)) hx hb dX5_days_46 (by decide) ?_
      refine lv_isub hx hb dX5_days_48 ?_
      refine lv_istore_n (lv' := [(1, .int ((((nI 10) * x1_16) + (mt m40_16)) - (nI 48))), (2, .int (nI i16)), (0, .ref (a 0))]) hx hb dX5_days_49 rfl hl (by decide) rfl (fun ls hl => ?_)
      refine lv_aload_n hx hb dX5_days_50 rfl (lv_at hl 2 rfl) ?_
      refine lv_dup hx hb dX5_days_51 rfl ?_
      refine va_get (D := Γ.1) (ci := 5) (v := .int (nI m40_16)) (C := RX5) (T := TX5) (N := 10) hx hb hts hi5 hown hK hP 0 rfl rfl 8 (by decide) kf108 (fun _ h9 => h9) rfl dX5_days_52 ?_
      refine lv_iconst (v := (nI 1)) hx hb dX5_days_55 (by decide) ?_
      refine lv_iadd hx hb dX5_days_56 ?_
      refine lv_eqi (y := (nI (m40_16 + 1))) (nI_add _ _) ?_
      refine va_put (D := Γ.1) (ci := 5) (v := .int (nI (m40_16 + 1))) (ty := .int) (C := RX5) (T := TX5) (N := 10) hx hb hts hi5 tyX5 tyX5_ok nmX5 hown hK hP hD hS 0 rfl rfl 8 (by decide) kf108 (fun _ h9 => h9) rfl (by decide +kernel) rfl rfl (Nat.le_of_ble_eq_true rfl) dX5_days_57 (fun H locs hP hD hS => ?_)
      have hP : va_P Γ.1 vwCl (wcat [moB Γ a ms mt mc md m0 m1 (nI T) m3 (nI (m40_16 + 1)) (fX5_isNext (T) (P) mt m5 (nI 49) (nI 57))]) H := hP
      have hD : va_D A (wcat [moB Γ a ms mt mc md m0 m1 (nI T) m3 (nI (m40_16 + 1)) (fX5_isNext (T) (P) mt m5 (nI 49) (nI 57))]) := hD
      refine lv_iinc (v := (nI (i16 + 1))) (lv' := [(2, .int (nI (i16 + 1))), (1, .int ((((nI 10) * x1_16) + (mt m40_16)) - (nI 48))), (0, .ref (a 0))]) hx hb dX5_days_60 hl (k := 1) rfl (nI_1 _) (by decide) rfl (fun ls hl => ?_)
      refine lv_goto (tgt := 16) hx hb dX5_days_63 (by decide) ?_
      exact ih16 ((i16 + 1), ((((nI 10) * x1_16) + (mt m40_16)) - (nI 48)), (m40_16 + 1)) H locs ls ⟨⟨by omega, by have := isNext_ne (T := T) (P := m40_16) (by omega) (by omega) (by assumption); omega⟩, hq, hP, hD, hS, lv_sub hl [0, 1, 2] rfl⟩
theorem digit_fx {T P : Nat} {mt : Nat → Int32} {m5 : Int32} (hT : T ≤ 60) (h : P ≤ T) : P ≤ (fX5_digit T P mt m5).2.1 ∧ (fX5_digit T P mt m5).2.1 ≤ T ∧ ((fX5_digit T P mt m5).2.2 = nI 0 ∨ (fX5_digit T P mt m5).2.2 = nI 1) := by
  have hb := bX5_isNext T P mt m5 (nI 48) (nI 55)
  unfold fX5_digit
  split
  · exact ⟨by simp, by simpa using h, hb⟩
  · rename_i hne
    have := isNext_ne (by omega) (by omega) hne
    exact ⟨by simp, by simp; omega, hb⟩
theorem takes_fx {T P : Nat} {mt : Nat → Int32} {m5 ch : Int32} (hT : T ≤ 60) (h : P ≤ T) : P ≤ (fX5_takes T P mt m5 ch).1 ∧ (fX5_takes T P mt m5 ch).1 ≤ T ∧ ((fX5_takes T P mt m5 ch).2 = nI 0 ∨ (fX5_takes T P mt m5 ch).2 = nI 1) ∧ (¬ (fX5_takes T P mt m5 ch).2 = 0 → P + 1 ≤ (fX5_takes T P mt m5 ch).1) := by
  have hb := bX5_isNext T P mt m5 ch ch
  unfold fX5_takes
  split
  · rename_i h0
    exact ⟨by simp, by simpa using h, hb, fun q => absurd h0 q⟩
  · rename_i hne
    have := isNext_ne (by omega) (by omega) hne
    exact ⟨by simp, by simp; omega, hb, fun _ => by simp⟩
theorem days_loop {T P : Nat} {mt : Nat → Int32} {m5 : Int32} (hT : T ≤ 60) : ∀ (n i : Nat) (x : Int32) (p : Nat), p ≤ T → p ≤ (fX5_days_L16 T P mt m5 n i x p).2.1 ∧ (fX5_days_L16 T P mt m5 n i x p).2.1 ≤ T ∧ (fX5_days_L16 T P mt m5 n i x p).2.2 = fX5_isNext T P mt m5 (nI 49) (nI 57) := by
  intro n
  induction n with
  | zero => intro i x p h; exact ⟨Nat.le_refl _, h, rfl⟩
  | succ n ih =>
    intro i x p h
    simp only [fX5_days_L16]
    split
    · exact ⟨Nat.le_refl _, h, rfl⟩
    · rename_i hne
      have := isNext_ne (by omega) (by omega) hne
      obtain ⟨h1, h2, h3⟩ := ih (i + 1) (nI 10 * x + mt p - nI 48) (p + 1) (by omega)
      exact ⟨by omega, h2, h3⟩
theorem days_fx {T P : Nat} {mt : Nat → Int32} {m5 : Int32} (hT : T ≤ 60) (h : P ≤ T) : P ≤ (fX5_days T P mt m5).2.1 ∧ (fX5_days T P mt m5).2.1 ≤ T ∧ ((fX5_days T P mt m5).2.2 = nI 0 ∨ (fX5_days T P mt m5).2.2 = nI 1) := by
  obtain ⟨h1, h2, h3⟩ := days_loop (P := P) (mt := mt) (m5 := m5) hT 3 0 (nI 0) P h
  unfold fX5_days
  exact ⟨h1, h2, by rw [h3]; exact bX5_isNext _ _ _ _ _ _⟩
def fX5_reads (T : Nat) (O : Nat) (P : Nat) (mt : (Nat → Int32)) (md : (Nat → Int32)) (m5 : Int32) : (Nat → Int32) × Nat × Nat × Int32 := (if m5 = 0 then (let r_2 := (fX5_digit (T) (P + 0) mt (nI 0)); (let r_3 := (fX5_takes (T) ((r_2.2.1)) mt r_2.2.2 (nI 62)); (let r_4 := (fX5_digit (T) ((r_3.1)) mt r_3.2); (if r_4.2.2 = 0 then (md, O, (r_4.2.1), r_4.2.2) else ((upd (upd (upd md (3 * O) (nI 0)) (3 * O + 1) r_2.1) (3 * O + 2) r_4.1), O + 1, (r_4.2.1), r_4.2.2))))) else (if (nI T) ≤ (nI P) then (let r_7 := (fX5_digit (T) (P + 0) mt (nI 0)); (let r_8 := (fX5_takes (T) ((r_7.2.1)) mt r_7.2.2 (nI 62)); (let r_9 := (fX5_digit (T) ((r_8.1)) mt r_8.2); (if r_9.2.2 = 0 then (md, O, (r_9.2.1), r_9.2.2) else ((upd (upd (upd md (3 * O) (nI 0)) (3 * O + 1) r_7.1) (3 * O + 2) r_9.1), O + 1, (r_9.2.1), r_9.2.2))))) else (if (mt P) = (nI 100) then (if (mt P) = (nI 116) then (let r_16 := (fX5_days (T) (P + 1) mt (nI 1)); (if r_16.2.2 = 0 then (md, O, (r_16.2.1), r_16.2.2) else ((upd (upd (upd md (3 * O) (mt P)) (3 * O + 1) r_16.1) (3 * O + 2) (nI 0)), O + 1, (r_16.2.1), r_16.2.2))) else (if (mt P) = (nI 114) then ((upd (upd (upd md (3 * O) (mt P)) (3 * O + 1) (nI 0)) (3 * O + 2) (nI 0)), O + 1, P + 1, (nI 1)) else (let r_14 := (fX5_digit (T) (P + 1) mt (nI 1)); (if r_14.2.2 = 0 then (md, O, (r_14.2.1), r_14.2.2) else ((upd (upd (upd md (3 * O) (mt P)) (3 * O + 1) r_14.1) (3 * O + 2) (nI 0)), O + 1, (r_14.2.1), r_14.2.2))))) else (if (mt P) = (nI 113) then (if (mt P) = (nI 116) then (let r_25 := (fX5_days (T) (P + 1) mt (nI 1)); (if r_25.2.2 = 0 then (md, O, (r_25.2.1), r_25.2.2) else ((upd (upd (upd md (3 * O) (mt P)) (3 * O + 1) r_25.1) (3 * O + 2) (nI 0)), O + 1, (r_25.2.1), r_25.2.2))) else (if (mt P) = (nI 114) then ((upd (upd (upd md (3 * O) (mt P)) (3 * O + 1) (nI 0)) (3 * O + 2) (nI 0)), O + 1, P + 1, (nI 1)) else (let r_21 := (fX5_digit (T) (P + 1) mt (nI 1)); (let r_22 := (fX5_takes (T) ((r_21.2.1)) mt r_21.2.2 (nI 45)); (let r_23 := (fX5_digit (T) ((r_22.1)) mt r_22.2); (if r_23.2.2 = 0 then (md, O, (r_23.2.1), r_23.2.2) else ((upd (upd (upd md (3 * O) (mt P)) (3 * O + 1) r_21.1) (3 * O + 2) r_23.1), O + 1, (r_23.2.1), r_23.2.2))))))) else (if (mt P) = (nI 104) then (if (mt P) = (nI 116) then (let r_34 := (fX5_days (T) (P + 1) mt (nI 1)); (if r_34.2.2 = 0 then (md, O, (r_34.2.1), r_34.2.2) else ((upd (upd (upd md (3 * O) (mt P)) (3 * O + 1) r_34.1) (3 * O + 2) (nI 0)), O + 1, (r_34.2.1), r_34.2.2))) else (if (mt P) = (nI 114) then ((upd (upd (upd md (3 * O) (mt P)) (3 * O + 1) (nI 0)) (3 * O + 2) (nI 0)), O + 1, P + 1, (nI 1)) else (let r_30 := (fX5_digit (T) (P + 1) mt (nI 1)); (let r_31 := (fX5_takes (T) ((r_30.2.1)) mt r_30.2.2 (nI 62)); (let r_32 := (fX5_digit (T) ((r_31.1)) mt r_31.2); (if r_32.2.2 = 0 then (md, O, (r_32.2.1), r_32.2.2) else ((upd (upd (upd md (3 * O) (mt P)) (3 * O + 1) r_30.1) (3 * O + 2) r_32.1), O + 1, (r_32.2.1), r_32.2.2))))))) else (if (mt P) = (nI 116) then (let r_37 := (fX5_days (T) (P + 1) mt (nI 1)); (if r_37.2.2 = 0 then (md, O, (r_37.2.1), r_37.2.2) else ((upd (upd (upd md (3 * O) (mt P)) (3 * O + 1) r_37.1) (3 * O + 2) (nI 0)), O + 1, (r_37.2.1), r_37.2.2))) else (if (mt P) = (nI 114) then ((upd (upd (upd md (3 * O) (mt P)) (3 * O + 1) (nI 0)) (3 * O + 2) (nI 0)), O + 1, P + 1, (nI 1)) else (let r_40 := (fX5_digit (T) (P + 0) mt (nI 0)); (let r_41 := (fX5_takes (T) ((r_40.2.1)) mt r_40.2.2 (nI 62)); (let r_42 := (fX5_digit (T) ((r_41.1)) mt r_41.2); (if r_42.2.2 = 0 then (md, O, (r_42.2.1), r_42.2.2) else ((upd (upd (upd md (3 * O) (mt P)) (3 * O + 1) r_40.1) (3 * O + 2) r_42.1), O + 1, (r_42.2.1), r_42.2.2))))))))))))
set_option maxHeartbeats 4000000 in
set_option maxRecDepth 100000 in
theorem kX5_reads (l : Launch) (Γ : wG) (a : Nat → Nat) (T : Nat) (O : Nat) (P : Nat) (ms : (Nat → Int32)) (mt : (Nat → Int32)) (mc : (Nat → Int32)) (md : (Nat → Int32)) (m0 : Int32) (m1 : Int32) (m5 : Int32) (hT : T ≤ 60) (hP9 : P ≤ T) (hO : O < 60) : MV l Γ yX5_reads wsX5_reads ({ frames := 3, cells := 0, slots := 0, locals := 66 }) [.ref (a 0)] [moB Γ a ms mt mc md m0 m1 (nI T) (nI O) (nI P) m5] [moB Γ a ms mt mc (fX5_reads T O P mt md m5).1 m0 m1 (nI T) (nI (((fX5_reads T O P mt md m5).2.1))) (nI (((fX5_reads T O P mt md m5).2.2.1))) (fX5_reads T O P mt md m5).2.2.2] := by
  intro sz
  refine Met.ofW (cc := cX5_reads) (maxL := 4) (ret := none) (by decide) rfl ?_
  intro p e s m args below meth c s₁ B hml hv
  obtain ⟨rfl, hsz, hP, hK, hD0, hAm⟩ := hv
  have hx := B.exec
  have hb := B.bytes
  have hr := B.returns
  have hts := atoms_spec (ws := wsX5_reads) B.pre
  have hown : s.vm.findClass RX5 = some m.cls := findClass_of_methodNamed B.named
  have hlocks := B.notSynchronized
  subst hsz
  have hD := hD0.self (sz := s.heap.size)
  generalize hAe : va_A (wcat [moB Γ a ms mt mc md m0 m1 (nI T) (nI O) (nI P) m5]) s.heap.size = A at hD hAm ⊢
  have hA : ∀ q : Nat, s.heap.size ≤ q → A q := fun q h => by rw [← hAe]; exact Or.inr h
  have hAB : ∀ q : Nat, A q → A q := fun _ h => h
  have hS : va_S A s.heap s.heap [] := va_S.rf
  have hl := lv_entry ([.ref (a 0)]) (n := 4) (Nat.le_of_ble_eq_true rfl)
  rw [lg_entry_eq]
  generalize (lg_sl ([.ref (a 0)]) ++ List.replicate (4 - (lg_sl ([.ref (a 0)])).length) Slot.unset).toArray = ls at hl ⊢
  have hl : lv_has ls 4 [(0, .ref (a 0))] := hl
  have hi5 : ∀ w ∈ wsX50, w ∈ wsX5_reads := by decide +kernel
  have kf101 := hts (.fieldLink RX5 101 "CapsuleKeepersModel" "typed" "I") (by decide +kernel)
  have kf104 := hts (.fieldLink RX5 104 "CapsuleKeepersModel" "isRight" "Z") (by decide +kernel)
  have kf108 := hts (.fieldLink RX5 108 "CapsuleKeepersModel" "at" "I") (by decide +kernel)
  have kf125 := hts (.fieldLink RX5 125 "CapsuleKeepersModel" "orders" "I") (by decide +kernel)
  have kf13 := hts (.fieldLink RX5 13 "CapsuleKeepersModel" "text" "[C") (by decide +kernel)
  have kf20 := hts (.fieldLink RX5 20 "CapsuleKeepersModel" "order" "[I") (by decide +kernel)
  have hq : (fX5_reads T O P mt md m5) = (if m5 = 0 then (let r_2 := (fX5_digit (T) (P + 0) mt (nI 0)); (let r_3 := (fX5_takes (T) ((r_2.2.1)) mt r_2.2.2 (nI 62)); (let r_4 := (fX5_digit (T) ((r_3.1)) mt r_3.2); (if r_4.2.2 = 0 then (md, O, (r_4.2.1), r_4.2.2) else ((upd (upd (upd md (3 * O) (nI 0)) (3 * O + 1) r_2.1) (3 * O + 2) r_4.1), O + 1, (r_4.2.1), r_4.2.2))))) else (if (nI T) ≤ (nI P) then (let r_7 := (fX5_digit (T) (P + 0) mt (nI 0)); (let r_8 := (fX5_takes (T) ((r_7.2.1)) mt r_7.2.2 (nI 62)); (let r_9 := (fX5_digit (T) ((r_8.1)) mt r_8.2); (if r_9.2.2 = 0 then (md, O, (r_9.2.1), r_9.2.2) else ((upd (upd (upd md (3 * O) (nI 0)) (3 * O + 1) r_7.1) (3 * O + 2) r_9.1), O + 1, (r_9.2.1), r_9.2.2))))) else (if (mt P) = (nI 100) then (if (mt P) = (nI 116) then (let r_16 := (fX5_days (T) (P + 1) mt (nI 1)); (if r_16.2.2 = 0 then (md, O, (r_16.2.1), r_16.2.2) else ((upd (upd (upd md (3 * O) (mt P)) (3 * O + 1) r_16.1) (3 * O + 2) (nI 0)), O + 1, (r_16.2.1), r_16.2.2))) else (if (mt P) = (nI 114) then ((upd (upd (upd md (3 * O) (mt P)) (3 * O + 1) (nI 0)) (3 * O + 2) (nI 0)), O + 1, P + 1, (nI 1)) else (let r_14 := (fX5_digit (T) (P + 1) mt (nI 1)); (if r_14.2.2 = 0 then (md, O, (r_14.2.1), r_14.2.2) else ((upd (upd (upd md (3 * O) (mt P)) (3 * O + 1) r_14.1) (3 * O + 2) (nI 0)), O + 1, (r_14.2.1), r_14.2.2))))) else (if (mt P) = (nI 113) then (if (mt P) = (nI 116) then (let r_25 := (fX5_days (T) (P + 1) mt (nI 1)); (if r_25.2.2 = 0 then (md, O, (r_25.2.1), r_25.2.2) else ((upd (upd (upd md (3 * O) (mt P)) (3 * O + 1) r_25.1) (3 * O + 2) (nI 0)), O + 1, (r_25.2.1), r_25.2.2))) else (if (mt P) = (nI 114) then ((upd (upd (upd md (3 * O) (mt P)) (3 * O + 1) (nI 0)) (3 * O + 2) (nI 0)), O + 1, P + 1, (nI 1)) else (let r_21 := (fX5_digit (T) (P + 1) mt (nI 1)); (let r_22 := (fX5_takes (T) ((r_21.2.1)) mt r_21.2.2 (nI 45)); (let r_23 := (fX5_digit (T) ((r_22.1)) mt r_22.2); (if r_23.2.2 = 0 then (md, O, (r_23.2.1), r_23.2.2) else ((upd (upd (upd md (3 * O) (mt P)) (3 * O + 1) r_21.1) (3 * O + 2) r_23.1), O + 1, (r_23.2.1), r_23.2.2))))))) else (if (mt P) = (nI 104) then (if (mt P) = (nI 116) then (let r_34 := (fX5_days (T) (P + 1) mt (nI 1)); (if r_34.2.2 = 0 then (md, O, (r_34.2.1), r_34.2.2) else ((upd (upd (upd md (3 * O) (mt P)) (3 * O + 1) r_34.1) (3 * O + 2) (nI 0)), O + 1, (r_34.2.1), r_34.2.2))) else (if (mt P) = (nI 114) then ((upd (upd (upd md (3 * O) (mt P)) (3 * O + 1) (nI 0)) (3 * O + 2) (nI 0)), O + 1, P + 1, (nI 1)) else (let r_30 := (fX5_digit (T) (P + 1) mt (nI 1)); (let r_31 := (fX5_takes (T) ((r_30.2.1)) mt r_30.2.2 (nI 62)); (let r_32 := (fX5_digit (T) ((r_31.1)) mt r_31.2); (if r_32.2.2 = 0 then (md, O, (r_32.2.1), r_32.2.2) else ((upd (upd (upd md (3 * O) (mt P)) (3 * O + 1) r_30.1) (3 * O + 2) r_32.1), O + 1, (r_32.2.1), r_32.2.2))))))) else (if (mt P) = (nI 116) then (let r_37 := (fX5_days (T) (P + 1) mt (nI 1)); (if r_37.2.2 = 0 then (md, O, (r_37.2.1), r_37.2.2) else ((upd (upd (upd md (3 * O) (mt P)) (3 * O + 1) r_37.1) (3 * O + 2) (nI 0)), O + 1, (r_37.2.1), r_37.2.2))) else (if (mt P) = (nI 114) then ((upd (upd (upd md (3 * O) (mt P)) (3 * O + 1) (nI 0)) (3 * O + 2) (nI 0)), O + 1, P + 1, (nI 1)) else (let r_40 := (fX5_digit (T) (P + 0) mt (nI 0)); (let r_41 := (fX5_takes (T) ((r_40.2.1)) mt r_40.2.2 (nI 62)); (let r_42 := (fX5_digit (T) ((r_41.1)) mt r_41.2); (if r_42.2.2 = 0 then (md, O, (r_42.2.1), r_42.2.2) else ((upd (upd (upd md (3 * O) (mt P)) (3 * O + 1) r_40.1) (3 * O + 2) r_42.1), O + 1, (r_42.2.1), r_42.2.2)))))))))))) := rfl
  refine lv_aload_n hx hb dX5_reads_0 rfl (lv_at hl 0 rfl) ?_
  refine va_get (D := Γ.1) (ci := 5) (v := .int m5) (C := RX5) (T := TX5) (N := 10) hx hb hts hi5 hown hK hP 0 rfl rfl 9 (by decide) kf104 (fun _ h9 => h9) rfl dX5_reads_1 ?_
  refine lv_if_eq (tgt := 30) hx hb dX5_reads_4 (by decide) (fun c_1 => ?_) (fun c_1 => ?_)
  · have hq := hq.trans (if_pos c_1)
    refine lv_iconst (v := (nI 0)) hx hb dX5_reads_30 (by decide) ?_
    refine lv_istore_n (lv' := [(1, .int (nI 0)), (0, .ref (a 0))]) hx hb dX5_reads_31 rfl hl (by decide) rfl (fun ls hl => ?_)
    refine lv_aload_n hx hb dX5_reads_32 rfl (lv_at hl 1 rfl) ?_
    refine lv_aload_n hx hb dX5_reads_33 rfl (lv_at hl 1 rfl) ?_
    refine va_get (D := Γ.1) (ci := 5) (v := .int m5) (C := RX5) (T := TX5) (N := 10) hx hb hts hi5 hown hK hP 0 rfl rfl 9 (by decide) kf104 (fun _ h9 => h9) rfl dX5_reads_34 ?_
    refine lv_if_eq (tgt := 74) hx hb dX5_reads_37 (by decide) (fun c_37 => ?_) (fun c_37 => absurd c_1 c_37)
    refine lv_iconst (v := (nI 0)) hx hb dX5_reads_74 (by decide) ?_
    refine va_put (D := Γ.1) (ci := 5) (v := .int (nI 0)) (ty := .boolean) (C := RX5) (T := TX5) (N := 10) hx hb hts hi5 tyX5 tyX5_ok nmX5 hown hK hP hD hS 0 rfl rfl 9 (by decide) kf104 (fun _ h9 => h9) rfl (by decide +kernel) rfl rfl (Nat.le_of_ble_eq_true rfl) dX5_reads_75 (fun H locs hP hD hS => ?_)
    have hP : va_P Γ.1 vwCl (wcat [moB Γ a ms mt mc md m0 m1 (nI T) (nI O) (nI P) (nI 0)]) H := hP
    have hD : va_D A (wcat [moB Γ a ms mt mc md m0 m1 (nI T) (nI O) (nI P) (nI 0)]) := hD
    refine lv_aload_n hx hb dX5_reads_78 rfl (lv_at hl 1 rfl) ?_
    refine lv_dup hx hb dX5_reads_79 rfl ?_
    refine va_get (D := Γ.1) (ci := 5) (v := .int (nI P)) (C := RX5) (T := TX5) (N := 10) hx hb hts hi5 hown hK hP 0 rfl rfl 8 (by decide) kf108 (fun _ h9 => h9) rfl dX5_reads_80 ?_
    refine lv_aload_n hx hb dX5_reads_83 rfl (lv_at hl 1 rfl) ?_
    refine va_get (D := Γ.1) (ci := 5) (v := .int (nI 0)) (C := RX5) (T := TX5) (N := 10) hx hb hts hi5 hown hK hP 0 rfl rfl 9 (by decide) kf104 (fun _ h9 => h9) rfl dX5_reads_84 ?_
    refine lv_if_eq (tgt := 94) hx hb dX5_reads_87 (by decide) (fun c_87 => ?_) (fun c_87 => absurd c_87 (by decide))
    refine lv_iconst (v := (nI 0)) hx hb dX5_reads_94 (by decide) ?_
    refine lv_iadd hx hb dX5_reads_95 ?_
    refine lv_eqi (y := (nI (P + 0))) (nI_add _ _) ?_
    refine va_put (D := Γ.1) (ci := 5) (v := .int (nI (P + 0))) (ty := .int) (C := RX5) (T := TX5) (N := 10) hx hb hts hi5 tyX5 tyX5_ok nmX5 hown hK hP hD hS 0 rfl rfl 8 (by decide) kf108 (fun _ h9 => h9) rfl (by decide +kernel) rfl rfl (Nat.le_of_ble_eq_true rfl) dX5_reads_96 (fun H locs hP hD hS => ?_)
    have hP : va_P Γ.1 vwCl (wcat [moB Γ a ms mt mc md m0 m1 (nI T) (nI O) (nI (P + 0)) (nI 0)]) H := hP
    have hD : va_D A (wcat [moB Γ a ms mt mc md m0 m1 (nI T) (nI O) (nI (P + 0)) (nI 0)]) := hD
    refine lv_iconst (v := (nI 0)) hx hb dX5_reads_99 (by decide) ?_
    refine lv_istore_n (lv' := [(2, .int (nI 0)), (1, .int (nI 0)), (0, .ref (a 0))]) hx hb dX5_reads_100 rfl hl (by decide) rfl (fun ls hl => ?_)
    refine lv_iconst (v := (nI 0)) hx hb dX5_reads_101 (by decide) ?_
    refine lv_istore_n (lv' := [(3, .int (nI 0)), (2, .int (nI 0)), (1, .int (nI 0)), (0, .ref (a 0))]) hx hb dX5_reads_102 rfl hl (by decide) rfl (fun ls hl => ?_)
    refine lv_iload_n hx hb dX5_reads_103 rfl (lv_at hl 2 rfl) ?_
    refine lv_bipush (v := (nI 116)) hx hb dX5_reads_104 (by decide) ?_
    refine lv_icmp_ne (tgt := 117) hx hb dX5_reads_106 (by decide) (fun c_106 => ?_) (fun c_106 => absurd c_106 (by decide))
    refine lv_iload_n hx hb dX5_reads_117 rfl (lv_at hl 2 rfl) ?_
    refine lv_bipush (v := (nI 114)) hx hb dX5_reads_118 (by decide) ?_
    refine lv_icmp_eq (tgt := 156) hx hb dX5_reads_120 (by decide) (fun c_120 => absurd c_120 (by decide)) (fun c_120 => ?_)
    refine lv_aload_n hx hb dX5_reads_123 rfl (lv_at hl 3 rfl) ?_
    refine cMI (bc' := [moB Γ a ms mt mc md m0 m1 (nI T) (nI O) (nI ((fX5_digit (T) (P + 0) mt (nI 0)).2.1)) (fX5_digit (T) (P + 0) mt (nI 0)).2.2]) (va_runV (As := []) (rest := []) ⟨hx, hb, hml, hown, hts⟩ ((kX5_digit l Γ a (T) (P + 0) ms mt mc md m0 m1 (nI O) (nI 0) (by first | assumption | omega) ((by first | omega | (have hq9 := ltN (a := P) (b := T) (by omega) (by omega) (by assumption); omega)))) _) (cwV 0 hts gX5_reads_X5_digit rfl rfl rfl (by decide +kernel) ⟨Nat.le_of_ble_eq_true rfl, Nat.le_of_ble_eq_true rfl⟩) ⟨wPre_blind, va_recv hK hP (ci := 5) (q0 := 0) rfl rfl, wPre_mk hP hD hK hS hA hAB hAm [0] rfl rfl⟩ rfl rfl hl.1 rfl (lv_room (Nat.le_of_ble_eq_true rfl)) dX5_reads_124 ⟨Nat.zero_le _, Nat.zero_le _⟩) hP hD hS hA [0] rfl rfl (bs' := [moB Γ a ms mt mc md m0 m1 (nI T) (nI O) (nI ((fX5_digit (T) (P + 0) mt (nI 0)).2.1)) (fX5_digit (T) (P + 0) mt (nI 0)).2.2]) rfl (fun H locs hP hD hS => ?_)
    have hfr_2 : (P + 0) ≤ (fX5_digit (T) (P + 0) mt (nI 0)).2.1 ∧ (fX5_digit (T) (P + 0) mt (nI 0)).2.1 ≤ T ∧ ((fX5_digit (T) (P + 0) mt (nI 0)).2.2 = nI 0 ∨ (fX5_digit (T) (P + 0) mt (nI 0)).2.2 = nI 1) := digit_fx hT (by first | omega | (have hq9 := ltN (a := P) (b := T) (by omega) (by omega) (by assumption); omega))
    generalize hr_2 : (fX5_digit (T) (P + 0) mt (nI 0)) = r_2 at hfr_2 hP hD hq ⊢
    replace hq : (fX5_reads T O P mt md m5) = (let r_3 := (fX5_takes (T) ((r_2.2.1)) mt r_2.2.2 (nI 62)); (let r_4 := (fX5_digit (T) ((r_3.1)) mt r_3.2); (if r_4.2.2 = 0 then (md, O, (r_4.2.1), r_4.2.2) else ((upd (upd (upd md (3 * O) (nI 0)) (3 * O + 1) r_2.1) (3 * O + 2) r_4.1), O + 1, (r_4.2.1), r_4.2.2)))) := hq
    refine lv_istore_n (lv' := [(2, .int r_2.1), (3, .int (nI 0)), (1, .int (nI 0)), (0, .ref (a 0))]) hx hb dX5_reads_127 rfl hl (by decide) rfl (fun ls hl => ?_)
    refine lv_iload_n hx hb dX5_reads_128 rfl (lv_at hl 2 rfl) ?_
    refine lv_bipush (v := (nI 100)) hx hb dX5_reads_129 (by decide) ?_
    refine lv_icmp_eq (tgt := 156) hx hb dX5_reads_131 (by decide) (fun c_131 => absurd c_131 (by decide)) (fun c_131 => ?_)
    refine lv_aload_n hx hb dX5_reads_134 rfl (lv_at hl 3 rfl) ?_
    refine lv_iload_n hx hb dX5_reads_135 rfl (lv_at hl 2 rfl) ?_
    refine lv_bipush (v := (nI 113)) hx hb dX5_reads_136 (by decide) ?_
    refine lv_icmp_ne (tgt := 146) hx hb dX5_reads_138 (by decide) (fun c_138 => ?_) (fun c_138 => absurd c_138 (by decide))
    refine lv_bipush (v := (nI 62)) hx hb dX5_reads_146 (by decide) ?_
    refine cMV (bc' := [moB Γ a ms mt mc md m0 m1 (nI T) (nI O) (nI ((fX5_takes (T) ((r_2.2.1)) mt r_2.2.2 (nI 62)).1)) (fX5_takes (T) ((r_2.2.1)) mt r_2.2.2 (nI 62)).2]) (va_runV (As := [.int (nI 62)]) (rest := []) ⟨hx, hb, hml, hown, hts⟩ ((kX5_takes l Γ a (T) ((r_2.2.1)) ms mt mc md m0 m1 (nI O) r_2.2.2 (nI 62) (by first | assumption | omega) ((by first | omega | (have hq9 := ltN (a := P) (b := T) (by omega) (by omega) (by assumption); omega)))) _) (cwV 1 hts gX5_reads_X5_takes rfl rfl rfl (by decide +kernel) ⟨Nat.le_of_ble_eq_true rfl, Nat.le_of_ble_eq_true rfl⟩) ⟨wPre_blind, va_recv hK hP (ci := 5) (q0 := 0) rfl rfl, wPre_mk hP hD hK hS hA hAB hAm [0] rfl rfl⟩ rfl rfl hl.1 rfl (lv_room (Nat.le_of_ble_eq_true rfl)) dX5_reads_148 ⟨Nat.zero_le _, Nat.zero_le _⟩) hP hD hS hA [0] rfl rfl (bs' := [moB Γ a ms mt mc md m0 m1 (nI T) (nI O) (nI ((fX5_takes (T) ((r_2.2.1)) mt r_2.2.2 (nI 62)).1)) (fX5_takes (T) ((r_2.2.1)) mt r_2.2.2 (nI 62)).2]) rfl (fun H locs hP hD hS => ?_)
    have hfr_3 : ((r_2.2.1)) ≤ (fX5_takes (T) ((r_2.2.1)) mt r_2.2.2 (nI 62)).1 ∧ (fX5_takes (T) ((r_2.2.1)) mt r_2.2.2 (nI 62)).1 ≤ T ∧ ((fX5_takes (T) ((r_2.2.1)) mt r_2.2.2 (nI 62)).2 = nI 0 ∨ (fX5_takes (T) ((r_2.2.1)) mt r_2.2.2 (nI 62)).2 = nI 1) ∧ (¬ (fX5_takes (T) ((r_2.2.1)) mt r_2.2.2 (nI 62)).2 = 0 → ((r_2.2.1)) + 1 ≤ (fX5_takes (T) ((r_2.2.1)) mt r_2.2.2 (nI 62)).1) := takes_fx hT (by first | omega | (have hq9 := ltN (a := P) (b := T) (by omega) (by omega) (by assumption); omega))
    generalize hr_3 : (fX5_takes (T) ((r_2.2.1)) mt r_2.2.2 (nI 62)) = r_3 at hfr_3 hP hD hq
    replace hq : (fX5_reads T O P mt md m5) = (let r_4 := (fX5_digit (T) ((r_3.1)) mt r_3.2); (if r_4.2.2 = 0 then (md, O, (r_4.2.1), r_4.2.2) else ((upd (upd (upd md (3 * O) (nI 0)) (3 * O + 1) r_2.1) (3 * O + 2) r_4.1), O + 1, (r_4.2.1), r_4.2.2))) := hq
    refine lv_aload_n hx hb dX5_reads_151 rfl (lv_at hl 3 rfl) ?_
    refine cMI (bc' := [moB Γ a ms mt mc md m0 m1 (nI T) (nI O) (nI ((fX5_digit (T) ((r_3.1)) mt r_3.2).2.1)) (fX5_digit (T) ((r_3.1)) mt r_3.2).2.2]) (va_runV (As := []) (rest := []) ⟨hx, hb, hml, hown, hts⟩ ((kX5_digit l Γ a (T) ((r_3.1)) ms mt mc md m0 m1 (nI O) r_3.2 (by first | assumption | omega) ((by first | omega | (have hq9 := ltN (a := P) (b := T) (by omega) (by omega) (by assumption); omega)))) _) (cwV 0 hts gX5_reads_X5_digit rfl rfl rfl (by decide +kernel) ⟨Nat.le_of_ble_eq_true rfl, Nat.le_of_ble_eq_true rfl⟩) ⟨wPre_blind, va_recv hK hP (ci := 5) (q0 := 0) rfl rfl, wPre_mk hP hD hK hS hA hAB hAm [0] rfl rfl⟩ rfl rfl hl.1 rfl (lv_room (Nat.le_of_ble_eq_true rfl)) dX5_reads_152 ⟨Nat.zero_le _, Nat.zero_le _⟩) hP hD hS hA [0] rfl rfl (bs' := [moB Γ a ms mt mc md m0 m1 (nI T) (nI O) (nI ((fX5_digit (T) ((r_3.1)) mt r_3.2).2.1)) (fX5_digit (T) ((r_3.1)) mt r_3.2).2.2]) rfl (fun H locs hP hD hS => ?_)
    have hfr_4 : ((r_3.1)) ≤ (fX5_digit (T) ((r_3.1)) mt r_3.2).2.1 ∧ (fX5_digit (T) ((r_3.1)) mt r_3.2).2.1 ≤ T ∧ ((fX5_digit (T) ((r_3.1)) mt r_3.2).2.2 = nI 0 ∨ (fX5_digit (T) ((r_3.1)) mt r_3.2).2.2 = nI 1) := digit_fx hT (by first | omega | (have hq9 := ltN (a := P) (b := T) (by omega) (by omega) (by assumption); omega))
    generalize hr_4 : (fX5_digit (T) ((r_3.1)) mt r_3.2) = r_4 at hfr_4 hP hD hq ⊢
    replace hq : (fX5_reads T O P mt md m5) = (if r_4.2.2 = 0 then (md, O, (r_4.2.1), r_4.2.2) else ((upd (upd (upd md (3 * O) (nI 0)) (3 * O + 1) r_2.1) (3 * O + 2) r_4.1), O + 1, (r_4.2.1), r_4.2.2)) := hq
    refine lv_istore_n (lv' := [(3, .int r_4.1), (2, .int r_2.1), (1, .int (nI 0)), (0, .ref (a 0))]) hx hb dX5_reads_155 rfl hl (by decide) rfl (fun ls hl => ?_)
    refine lv_aload_n hx hb dX5_reads_156 rfl (lv_at hl 3 rfl) ?_
    refine va_get (D := Γ.1) (ci := 5) (v := .int r_4.2.2) (C := RX5) (T := TX5) (N := 10) hx hb hts hi5 hown hK hP 0 rfl rfl 9 (by decide) kf104 (fun _ h9 => h9) rfl dX5_reads_157 ?_
    refine lv_if_eq (tgt := 213) hx hb dX5_reads_160 (by decide) (fun c_5 => ?_) (fun c_5 => ?_)
    · have hq := hq.trans (if_pos c_5)
      exact W.vret hx hb hr (fun t ht hW => eMV (by rw [hq]; exact hP) hS ht) hS.2.2 dX5_reads_213
    · have hq := hq.trans (if_neg c_5)
      refine lv_aload_n hx hb dX5_reads_163 rfl (lv_at hl 3 rfl) ?_
      refine va_get (D := Γ.1) (ci := 5) (v := .ref (a 4)) (C := RX5) (T := TX5) (N := 10) hx hb hts hi5 hown hK hP 0 rfl rfl 6 (by decide) kf20 (fun _ h9 => h9) rfl dX5_reads_164 ?_
      refine lv_iconst (v := (nI 3)) hx hb dX5_reads_167 (by decide) ?_
      refine lv_aload_n hx hb dX5_reads_168 rfl (lv_at hl 3 rfl) ?_
      refine va_get (D := Γ.1) (ci := 5) (v := .int (nI O)) (C := RX5) (T := TX5) (N := 10) hx hb hts hi5 hown hK hP 0 rfl rfl 7 (by decide) kf125 (fun _ h9 => h9) rfl dX5_reads_169 ?_
      refine lv_imul hx hb dX5_reads_172 ?_
      refine lv_eqi (y := (nI (3 * O))) (pk_mul _ _) ?_
      refine lv_iload_n hx hb dX5_reads_173 rfl (lv_at hl 2 rfl) ?_
      refine va_iast_n (f := md) hx hb hK hP hD hS 4 0 rfl rfl (by omega) (Nat.le_of_ble_eq_true rfl) dX5_reads_174 (fun H locs hP hD hS => ?_)
      have hP : va_P Γ.1 vwCl (wcat [moB Γ a ms mt mc (upd md (3 * O) (nI 0)) m0 m1 (nI T) (nI O) (nI (r_4.2.1)) r_4.2.2]) H := hP
      have hD : va_D A (wcat [moB Γ a ms mt mc (upd md (3 * O) (nI 0)) m0 m1 (nI T) (nI O) (nI (r_4.2.1)) r_4.2.2]) := hD
      refine lv_aload_n hx hb dX5_reads_175 rfl (lv_at hl 3 rfl) ?_
      refine va_get (D := Γ.1) (ci := 5) (v := .ref (a 4)) (C := RX5) (T := TX5) (N := 10) hx hb hts hi5 hown hK hP 0 rfl rfl 6 (by decide) kf20 (fun _ h9 => h9) rfl dX5_reads_176 ?_
      refine lv_iconst (v := (nI 3)) hx hb dX5_reads_179 (by decide) ?_
      refine lv_aload_n hx hb dX5_reads_180 rfl (lv_at hl 3 rfl) ?_
      refine va_get (D := Γ.1) (ci := 5) (v := .int (nI O)) (C := RX5) (T := TX5) (N := 10) hx hb hts hi5 hown hK hP 0 rfl rfl 7 (by decide) kf125 (fun _ h9 => h9) rfl dX5_reads_181 ?_
      refine lv_imul hx hb dX5_reads_184 ?_
      refine lv_eqi (y := (nI (3 * O))) (pk_mul _ _) ?_
      refine lv_iconst (v := (nI 1)) hx hb dX5_reads_185 (by decide) ?_
      refine lv_iadd hx hb dX5_reads_186 ?_
      refine lv_eqi (y := (nI (3 * O + 1))) (nI_add _ _) ?_
      refine lv_iload_n hx hb dX5_reads_187 rfl (lv_at hl 1 rfl) ?_
      refine va_iast_n (f := (upd md (3 * O) (nI 0))) hx hb hK hP hD hS 4 0 rfl rfl (by omega) (Nat.le_of_ble_eq_true rfl) dX5_reads_188 (fun H locs hP hD hS => ?_)
      have hP : va_P Γ.1 vwCl (wcat [moB Γ a ms mt mc (upd (upd md (3 * O) (nI 0)) (3 * O + 1) r_2.1) m0 m1 (nI T) (nI O) (nI (r_4.2.1)) r_4.2.2]) H := hP
      have hD : va_D A (wcat [moB Γ a ms mt mc (upd (upd md (3 * O) (nI 0)) (3 * O + 1) r_2.1) m0 m1 (nI T) (nI O) (nI (r_4.2.1)) r_4.2.2]) := hD
      refine lv_aload_n hx hb dX5_reads_189 rfl (lv_at hl 3 rfl) ?_
      refine va_get (D := Γ.1) (ci := 5) (v := .ref (a 4)) (C := RX5) (T := TX5) (N := 10) hx hb hts hi5 hown hK hP 0 rfl rfl 6 (by decide) kf20 (fun _ h9 => h9) rfl dX5_reads_190 ?_
      refine lv_iconst (v := (nI 3)) hx hb dX5_reads_193 (by decide) ?_
      refine lv_aload_n hx hb dX5_reads_194 rfl (lv_at hl 3 rfl) ?_
      refine va_get (D := Γ.1) (ci := 5) (v := .int (nI O)) (C := RX5) (T := TX5) (N := 10) hx hb hts hi5 hown hK hP 0 rfl rfl 7 (by decide) kf125 (fun _ h9 => h9) rfl dX5_reads_195 ?_
      refine lv_imul hx hb dX5_reads_198 ?_
      refine lv_eqi (y := (nI (3 * O))) (pk_mul _ _) ?_
      refine lv_iconst (v := (nI 2)) hx hb dX5_reads_199 (by decide) ?_
      refine lv_iadd hx hb dX5_reads_200 ?_
      refine lv_eqi (y := (nI (3 * O + 2))) (nI_add _ _) ?_
      refine lv_iload_n hx hb dX5_reads_201 rfl (lv_at hl 0 rfl) ?_
      refine va_iast_n (f := (upd (upd md (3 * O) (nI 0)) (3 * O + 1) r_2.1)) hx hb hK hP hD hS 4 0 rfl rfl (by omega) (Nat.le_of_ble_eq_true rfl) dX5_reads_202 (fun H locs hP hD hS => ?_)
      have hP : va_P Γ.1 vwCl (wcat [moB Γ a ms mt mc (upd (upd (upd md (3 * O) (nI 0)) (3 * O + 1) r_2.1) (3 * O + 2) r_4.1) m0 m1 (nI T) (nI O) (nI (r_4.2.1)) r_4.2.2]) H := hP
      have hD : va_D A (wcat [moB Γ a ms mt mc (upd (upd (upd md (3 * O) (nI 0)) (3 * O + 1) r_2.1) (3 * O + 2) r_4.1) m0 m1 (nI T) (nI O) (nI (r_4.2.1)) r_4.2.2]) := hD
      refine lv_aload_n hx hb dX5_reads_203 rfl (lv_at hl 3 rfl) ?_
      refine lv_dup hx hb dX5_reads_204 rfl ?_
      refine va_get (D := Γ.1) (ci := 5) (v := .int (nI O)) (C := RX5) (T := TX5) (N := 10) hx hb hts hi5 hown hK hP 0 rfl rfl 7 (by decide) kf125 (fun _ h9 => h9) rfl dX5_reads_205 ?_
      refine lv_iconst (v := (nI 1)) hx hb dX5_reads_208 (by decide) ?_
      refine lv_iadd hx hb dX5_reads_209 ?_
      refine lv_eqi (y := (nI (O + 1))) (nI_add _ _) ?_
      refine va_put (D := Γ.1) (ci := 5) (v := .int (nI (O + 1))) (ty := .int) (C := RX5) (T := TX5) (N := 10) hx hb hts hi5 tyX5 tyX5_ok nmX5 hown hK hP hD hS 0 rfl rfl 7 (by decide) kf125 (fun _ h9 => h9) rfl (by decide +kernel) rfl rfl (Nat.le_of_ble_eq_true rfl) dX5_reads_210 (fun H locs hP hD hS => ?_)
      have hP : va_P Γ.1 vwCl (wcat [moB Γ a ms mt mc (upd (upd (upd md (3 * O) (nI 0)) (3 * O + 1) r_2.1) (3 * O + 2) r_4.1) m0 m1 (nI T) (nI (O + 1)) (nI (r_4.2.1)) r_4.2.2]) H := hP
      have hD : va_D A (wcat [moB Γ a ms mt mc (upd (upd (upd md (3 * O) (nI 0)) (3 * O + 1) r_2.1) (3 * O + 2) r_4.1) m0 m1 (nI T) (nI (O + 1)) (nI (r_4.2.1)) r_4.2.2]) := hD
      exact W.vret hx hb hr (fun t ht hW => eMV (by rw [hq]; exact hP) hS ht) hS.2.2 dX5_reads_213
  · have hq := hq.trans (if_neg c_1)
    refine lv_aload_n hx hb dX5_reads_7 rfl (lv_at hl 0 rfl) ?_
    refine va_get (D := Γ.1) (ci := 5) (v := .int (nI P)) (C := RX5) (T := TX5) (N := 10) hx hb hts hi5 hown hK hP 0 rfl rfl 8 (by decide) kf108 (fun _ h9 => h9) rfl dX5_reads_8 ?_
    refine lv_aload_n hx hb dX5_reads_11 rfl (lv_at hl 0 rfl) ?_
    refine va_get (D := Γ.1) (ci := 5) (v := .int (nI T)) (C := RX5) (T := TX5) (N := 10) hx hb hts hi5 hown hK hP 0 rfl rfl 4 (by decide) kf101 (fun _ h9 => h9) rfl dX5_reads_12 ?_
    refine lv_icmp_ge (tgt := 30) hx hb dX5_reads_15 (by decide) (fun c_6 => ?_) (fun c_6 => ?_)
    · have hq := hq.trans (if_pos c_6)
      refine lv_iconst (v := (nI 0)) hx hb dX5_reads_30 (by decide) ?_
      refine lv_istore_n (lv' := [(1, .int (nI 0)), (0, .ref (a 0))]) hx hb dX5_reads_31 rfl hl (by decide) rfl (fun ls hl => ?_)
      refine lv_aload_n hx hb dX5_reads_32 rfl (lv_at hl 1 rfl) ?_
      refine lv_aload_n hx hb dX5_reads_33 rfl (lv_at hl 1 rfl) ?_
      refine va_get (D := Γ.1) (ci := 5) (v := .int m5) (C := RX5) (T := TX5) (N := 10) hx hb hts hi5 hown hK hP 0 rfl rfl 9 (by decide) kf104 (fun _ h9 => h9) rfl dX5_reads_34 ?_
      refine lv_if_eq (tgt := 74) hx hb dX5_reads_37 (by decide) (fun c_37 => absurd c_37 c_1) (fun c_37 => ?_)
      refine lv_iload_n hx hb dX5_reads_40 rfl (lv_at hl 0 rfl) ?_
      refine lv_bipush (v := (nI 100)) hx hb dX5_reads_41 (by decide) ?_
      refine lv_icmp_eq (tgt := 70) hx hb dX5_reads_43 (by decide) (fun c_43 => absurd c_43 (by decide)) (fun c_43 => ?_)
      refine lv_iload_n hx hb dX5_reads_46 rfl (lv_at hl 0 rfl) ?_
      refine lv_bipush (v := (nI 113)) hx hb dX5_reads_47 (by decide) ?_
      refine lv_icmp_eq (tgt := 70) hx hb dX5_reads_49 (by decide) (fun c_49 => absurd c_49 (by decide)) (fun c_49 => ?_)
      refine lv_iload_n hx hb dX5_reads_52 rfl (lv_at hl 0 rfl) ?_
      refine lv_bipush (v := (nI 104)) hx hb dX5_reads_53 (by decide) ?_
      refine lv_icmp_eq (tgt := 70) hx hb dX5_reads_55 (by decide) (fun c_55 => absurd c_55 (by decide)) (fun c_55 => ?_)
      refine lv_iload_n hx hb dX5_reads_58 rfl (lv_at hl 0 rfl) ?_
      refine lv_bipush (v := (nI 116)) hx hb dX5_reads_59 (by decide) ?_
      refine lv_icmp_eq (tgt := 70) hx hb dX5_reads_61 (by decide) (fun c_61 => absurd c_61 (by decide)) (fun c_61 => ?_)
      refine lv_iload_n hx hb dX5_reads_64 rfl (lv_at hl 0 rfl) ?_
      refine lv_bipush (v := (nI 114)) hx hb dX5_reads_65 (by decide) ?_
      refine lv_icmp_ne (tgt := 74) hx hb dX5_reads_67 (by decide) (fun c_67 => ?_) (fun c_67 => absurd c_67 (by decide))
      refine lv_iconst (v := (nI 0)) hx hb dX5_reads_74 (by decide) ?_
      refine va_put (D := Γ.1) (ci := 5) (v := .int (nI 0)) (ty := .boolean) (C := RX5) (T := TX5) (N := 10) hx hb hts hi5 tyX5 tyX5_ok nmX5 hown hK hP hD hS 0 rfl rfl 9 (by decide) kf104 (fun _ h9 => h9) rfl (by decide +kernel) rfl rfl (Nat.le_of_ble_eq_true rfl) dX5_reads_75 (fun H locs hP hD hS => ?_)
      have hP : va_P Γ.1 vwCl (wcat [moB Γ a ms mt mc md m0 m1 (nI T) (nI O) (nI P) (nI 0)]) H := hP
      have hD : va_D A (wcat [moB Γ a ms mt mc md m0 m1 (nI T) (nI O) (nI P) (nI 0)]) := hD
      refine lv_aload_n hx hb dX5_reads_78 rfl (lv_at hl 1 rfl) ?_
      refine lv_dup hx hb dX5_reads_79 rfl ?_
      refine va_get (D := Γ.1) (ci := 5) (v := .int (nI P)) (C := RX5) (T := TX5) (N := 10) hx hb hts hi5 hown hK hP 0 rfl rfl 8 (by decide) kf108 (fun _ h9 => h9) rfl dX5_reads_80 ?_
      refine lv_aload_n hx hb dX5_reads_83 rfl (lv_at hl 1 rfl) ?_
      refine va_get (D := Γ.1) (ci := 5) (v := .int (nI 0)) (C := RX5) (T := TX5) (N := 10) hx hb hts hi5 hown hK hP 0 rfl rfl 9 (by decide) kf104 (fun _ h9 => h9) rfl dX5_reads_84 ?_
      refine lv_if_eq (tgt := 94) hx hb dX5_reads_87 (by decide) (fun c_87 => ?_) (fun c_87 => absurd c_87 (by decide))
      refine lv_iconst (v := (nI 0)) hx hb dX5_reads_94 (by decide) ?_
      refine lv_iadd hx hb dX5_reads_95 ?_
      refine lv_eqi (y := (nI (P + 0))) (nI_add _ _) ?_
      refine va_put (D := Γ.1) (ci := 5) (v := .int (nI (P + 0))) (ty := .int) (C := RX5) (T := TX5) (N := 10) hx hb hts hi5 tyX5 tyX5_ok nmX5 hown hK hP hD hS 0 rfl rfl 8 (by decide) kf108 (fun _ h9 => h9) rfl (by decide +kernel) rfl rfl (Nat.le_of_ble_eq_true rfl) dX5_reads_96 (fun H locs hP hD hS => ?_)
      have hP : va_P Γ.1 vwCl (wcat [moB Γ a ms mt mc md m0 m1 (nI T) (nI O) (nI (P + 0)) (nI 0)]) H := hP
      have hD : va_D A (wcat [moB Γ a ms mt mc md m0 m1 (nI T) (nI O) (nI (P + 0)) (nI 0)]) := hD
      refine lv_iconst (v := (nI 0)) hx hb dX5_reads_99 (by decide) ?_
      refine lv_istore_n (lv' := [(2, .int (nI 0)), (1, .int (nI 0)), (0, .ref (a 0))]) hx hb dX5_reads_100 rfl hl (by decide) rfl (fun ls hl => ?_)
      refine lv_iconst (v := (nI 0)) hx hb dX5_reads_101 (by decide) ?_
      refine lv_istore_n (lv' := [(3, .int (nI 0)), (2, .int (nI 0)), (1, .int (nI 0)), (0, .ref (a 0))]) hx hb dX5_reads_102 rfl hl (by decide) rfl (fun ls hl => ?_)
      refine lv_iload_n hx hb dX5_reads_103 rfl (lv_at hl 2 rfl) ?_
      refine lv_bipush (v := (nI 116)) hx hb dX5_reads_104 (by decide) ?_
      refine lv_icmp_ne (tgt := 117) hx hb dX5_reads_106 (by decide) (fun c_106 => ?_) (fun c_106 => absurd c_106 (by decide))
      refine lv_iload_n hx hb dX5_reads_117 rfl (lv_at hl 2 rfl) ?_
      refine lv_bipush (v := (nI 114)) hx hb dX5_reads_118 (by decide) ?_
      refine lv_icmp_eq (tgt := 156) hx hb dX5_reads_120 (by decide) (fun c_120 => absurd c_120 (by decide)) (fun c_120 => ?_)
      refine lv_aload_n hx hb dX5_reads_123 rfl (lv_at hl 3 rfl) ?_
      refine cMI (bc' := [moB Γ a ms mt mc md m0 m1 (nI T) (nI O) (nI ((fX5_digit (T) (P + 0) mt (nI 0)).2.1)) (fX5_digit (T) (P + 0) mt (nI 0)).2.2]) (va_runV (As := []) (rest := []) ⟨hx, hb, hml, hown, hts⟩ ((kX5_digit l Γ a (T) (P + 0) ms mt mc md m0 m1 (nI O) (nI 0) (by first | assumption | omega) ((by first | omega | (have hq9 := ltN (a := P) (b := T) (by omega) (by omega) (by assumption); omega)))) _) (cwV 0 hts gX5_reads_X5_digit rfl rfl rfl (by decide +kernel) ⟨Nat.le_of_ble_eq_true rfl, Nat.le_of_ble_eq_true rfl⟩) ⟨wPre_blind, va_recv hK hP (ci := 5) (q0 := 0) rfl rfl, wPre_mk hP hD hK hS hA hAB hAm [0] rfl rfl⟩ rfl rfl hl.1 rfl (lv_room (Nat.le_of_ble_eq_true rfl)) dX5_reads_124 ⟨Nat.zero_le _, Nat.zero_le _⟩) hP hD hS hA [0] rfl rfl (bs' := [moB Γ a ms mt mc md m0 m1 (nI T) (nI O) (nI ((fX5_digit (T) (P + 0) mt (nI 0)).2.1)) (fX5_digit (T) (P + 0) mt (nI 0)).2.2]) rfl (fun H locs hP hD hS => ?_)
      have hfr_7 : (P + 0) ≤ (fX5_digit (T) (P + 0) mt (nI 0)).2.1 ∧ (fX5_digit (T) (P + 0) mt (nI 0)).2.1 ≤ T ∧ ((fX5_digit (T) (P + 0) mt (nI 0)).2.2 = nI 0 ∨ (fX5_digit (T) (P + 0) mt (nI 0)).2.2 = nI 1) := digit_fx hT (by first | omega | (have hq9 := ltN (a := P) (b := T) (by omega) (by omega) (by assumption); omega))
      generalize hr_7 : (fX5_digit (T) (P + 0) mt (nI 0)) = r_7 at hfr_7 hP hD hq ⊢
      replace hq : (fX5_reads T O P mt md m5) = (let r_8 := (fX5_takes (T) ((r_7.2.1)) mt r_7.2.2 (nI 62)); (let r_9 := (fX5_digit (T) ((r_8.1)) mt r_8.2); (if r_9.2.2 = 0 then (md, O, (r_9.2.1), r_9.2.2) else ((upd (upd (upd md (3 * O) (nI 0)) (3 * O + 1) r_7.1) (3 * O + 2) r_9.1), O + 1, (r_9.2.1), r_9.2.2)))) := hq
      refine lv_istore_n (lv' := [(2, .int r_7.1), (3, .int (nI 0)), (1, .int (nI 0)), (0, .ref (a 0))]) hx hb dX5_reads_127 rfl hl (by decide) rfl (fun ls hl => ?_)
      refine lv_iload_n hx hb dX5_reads_128 rfl (lv_at hl 2 rfl) ?_
      refine lv_bipush (v := (nI 100)) hx hb dX5_reads_129 (by decide) ?_
      refine lv_icmp_eq (tgt := 156) hx hb dX5_reads_131 (by decide) (fun c_131 => absurd c_131 (by decide)) (fun c_131 => ?_)
      refine lv_aload_n hx hb dX5_reads_134 rfl (lv_at hl 3 rfl) ?_
      refine lv_iload_n hx hb dX5_reads_135 rfl (lv_at hl 2 rfl) ?_
      refine lv_bipush (v := (nI 113)) hx hb dX5_reads_136 (by decide) ?_
      refine lv_icmp_ne (tgt := 146) hx hb dX5_reads_138 (by decide) (fun c_138 => ?_) (fun c_138 => absurd c_138 (by decide))
      refine lv_bipush (v := (nI 62)) hx hb dX5_reads_146 (by decide) ?_
      refine cMV (bc' := [moB Γ a ms mt mc md m0 m1 (nI T) (nI O) (nI ((fX5_takes (T) ((r_7.2.1)) mt r_7.2.2 (nI 62)).1)) (fX5_takes (T) ((r_7.2.1)) mt r_7.2.2 (nI 62)).2]) (va_runV (As := [.int (nI 62)]) (rest := []) ⟨hx, hb, hml, hown, hts⟩ ((kX5_takes l Γ a (T) ((r_7.2.1)) ms mt mc md m0 m1 (nI O) r_7.2.2 (nI 62) (by first | assumption | omega) ((by first | omega | (have hq9 := ltN (a := P) (b := T) (by omega) (by omega) (by assumption); omega)))) _) (cwV 1 hts gX5_reads_X5_takes rfl rfl rfl (by decide +kernel) ⟨Nat.le_of_ble_eq_true rfl, Nat.le_of_ble_eq_true rfl⟩) ⟨wPre_blind, va_recv hK hP (ci := 5) (q0 := 0) rfl rfl, wPre_mk hP hD hK hS hA hAB hAm [0] rfl rfl⟩ rfl rfl hl.1 rfl (lv_room (Nat.le_of_ble_eq_true rfl)) dX5_reads_148 ⟨Nat.zero_le _, Nat.zero_le _⟩) hP hD hS hA [0] rfl rfl (bs' := [moB Γ a ms mt mc md m0 m1 (nI T) (nI O) (nI ((fX5_takes (T) ((r_7.2.1)) mt r_7.2.2 (nI 62)).1)) (fX5_takes (T) ((r_7.2.1)) mt r_7.2.2 (nI 62)).2]) rfl (fun H locs hP hD hS => ?_)
      have hfr_8 : ((r_7.2.1)) ≤ (fX5_takes (T) ((r_7.2.1)) mt r_7.2.2 (nI 62)).1 ∧ (fX5_takes (T) ((r_7.2.1)) mt r_7.2.2 (nI 62)).1 ≤ T ∧ ((fX5_takes (T) ((r_7.2.1)) mt r_7.2.2 (nI 62)).2 = nI 0 ∨ (fX5_takes (T) ((r_7.2.1)) mt r_7.2.2 (nI 62)).2 = nI 1) ∧ (¬ (fX5_takes (T) ((r_7.2.1)) mt r_7.2.2 (nI 62)).2 = 0 → ((r_7.2.1)) + 1 ≤ (fX5_takes (T) ((r_7.2.1)) mt r_7.2.2 (nI 62)).1) := takes_fx hT (by first | omega | (have hq9 := ltN (a := P) (b := T) (by omega) (by omega) (by assumption); omega))
      generalize hr_8 : (fX5_takes (T) ((r_7.2.1)) mt r_7.2.2 (nI 62)) = r_8 at hfr_8 hP hD hq
      replace hq : (fX5_reads T O P mt md m5) = (let r_9 := (fX5_digit (T) ((r_8.1)) mt r_8.2); (if r_9.2.2 = 0 then (md, O, (r_9.2.1), r_9.2.2) else ((upd (upd (upd md (3 * O) (nI 0)) (3 * O + 1) r_7.1) (3 * O + 2) r_9.1), O + 1, (r_9.2.1), r_9.2.2))) := hq
      refine lv_aload_n hx hb dX5_reads_151 rfl (lv_at hl 3 rfl) ?_
      refine cMI (bc' := [moB Γ a ms mt mc md m0 m1 (nI T) (nI O) (nI ((fX5_digit (T) ((r_8.1)) mt r_8.2).2.1)) (fX5_digit (T) ((r_8.1)) mt r_8.2).2.2]) (va_runV (As := []) (rest := []) ⟨hx, hb, hml, hown, hts⟩ ((kX5_digit l Γ a (T) ((r_8.1)) ms mt mc md m0 m1 (nI O) r_8.2 (by first | assumption | omega) ((by first | omega | (have hq9 := ltN (a := P) (b := T) (by omega) (by omega) (by assumption); omega)))) _) (cwV 0 hts gX5_reads_X5_digit rfl rfl rfl (by decide +kernel) ⟨Nat.le_of_ble_eq_true rfl, Nat.le_of_ble_eq_true rfl⟩) ⟨wPre_blind, va_recv hK hP (ci := 5) (q0 := 0) rfl rfl, wPre_mk hP hD hK hS hA hAB hAm [0] rfl rfl⟩ rfl rfl hl.1 rfl (lv_room (Nat.le_of_ble_eq_true rfl)) dX5_reads_152 ⟨Nat.zero_le _, Nat.zero_le _⟩) hP hD hS hA [0] rfl rfl (bs' := [moB Γ a ms mt mc md m0 m1 (nI T) (nI O) (nI ((fX5_digit (T) ((r_8.1)) mt r_8.2).2.1)) (fX5_digit (T) ((r_8.1)) mt r_8.2).2.2]) rfl (fun H locs hP hD hS => ?_)
      have hfr_9 : ((r_8.1)) ≤ (fX5_digit (T) ((r_8.1)) mt r_8.2).2.1 ∧ (fX5_digit (T) ((r_8.1)) mt r_8.2).2.1 ≤ T ∧ ((fX5_digit (T) ((r_8.1)) mt r_8.2).2.2 = nI 0 ∨ (fX5_digit (T) ((r_8.1)) mt r_8.2).2.2 = nI 1) := digit_fx hT (by first | omega | (have hq9 := ltN (a := P) (b := T) (by omega) (by omega) (by assumption); omega))
      generalize hr_9 : (fX5_digit (T) ((r_8.1)) mt r_8.2) = r_9 at hfr_9 hP hD hq ⊢
      replace hq : (fX5_reads T O P mt md m5) = (if r_9.2.2 = 0 then (md, O, (r_9.2.1), r_9.2.2) else ((upd (upd (upd md (3 * O) (nI 0)) (3 * O + 1) r_7.1) (3 * O + 2) r_9.1), O + 1, (r_9.2.1), r_9.2.2)) := hq
      refine lv_istore_n (lv' := [(3, .int r_9.1), (2, .int r_7.1), (1, .int (nI 0)), (0, .ref (a 0))]) hx hb dX5_reads_155 rfl hl (by decide) rfl (fun ls hl => ?_)
      refine lv_aload_n hx hb dX5_reads_156 rfl (lv_at hl 3 rfl) ?_
      refine va_get (D := Γ.1) (ci := 5) (v := .int r_9.2.2) (C := RX5) (T := TX5) (N := 10) hx hb hts hi5 hown hK hP 0 rfl rfl 9 (by decide) kf104 (fun _ h9 => h9) rfl dX5_reads_157 ?_
      refine lv_if_eq (tgt := 213) hx hb dX5_reads_160 (by decide) (fun c_10 => ?_) (fun c_10 => ?_)
      · have hq := hq.trans (if_pos c_10)
        exact W.vret hx hb hr (fun t ht hW => eMV (by rw [hq]; exact hP) hS ht) hS.2.2 dX5_reads_213
      · have hq := hq.trans (if_neg c_10)
        refine lv_aload_n hx hb dX5_reads_163 rfl (lv_at hl 3 rfl) ?_
        refine va_get (D := Γ.1) (ci := 5) (v := .ref (a 4)) (C := RX5) (T := TX5) (N := 10) hx hb hts hi5 hown hK hP 0 rfl rfl 6 (by decide) kf20 (fun _ h9 => h9) rfl dX5_reads_164 ?_
        refine lv_iconst (v := (nI 3)) hx hb dX5_reads_167 (by decide) ?_
        refine lv_aload_n hx hb dX5_reads_168 rfl (lv_at hl 3 rfl) ?_
        refine va_get (D := Γ.1) (ci := 5) (v := .int (nI O)) (C := RX5) (T := TX5) (N := 10) hx hb hts hi5 hown hK hP 0 rfl rfl 7 (by decide) kf125 (fun _ h9 => h9) rfl dX5_reads_169 ?_
        refine lv_imul hx hb dX5_reads_172 ?_
        refine lv_eqi (y := (nI (3 * O))) (pk_mul _ _) ?_
        refine lv_iload_n hx hb dX5_reads_173 rfl (lv_at hl 2 rfl) ?_
        refine va_iast_n (f := md) hx hb hK hP hD hS 4 0 rfl rfl (by omega) (Nat.le_of_ble_eq_true rfl) dX5_reads_174 (fun H locs hP hD hS => ?_)
        have hP : va_P Γ.1 vwCl (wcat [moB Γ a ms mt mc (upd md (3 * O) (nI 0)) m0 m1 (nI T) (nI O) (nI (r_9.2.1)) r_9.2.2]) H := hP
        have hD : va_D A (wcat [moB Γ a ms mt mc (upd md (3 * O) (nI 0)) m0 m1 (nI T) (nI O) (nI (r_9.2.1)) r_9.2.2]) := hD
        refine lv_aload_n hx hb dX5_reads_175 rfl (lv_at hl 3 rfl) ?_
        refine va_get (D := Γ.1) (ci := 5) (v := .ref (a 4)) (C := RX5) (T := TX5) (N := 10) hx hb hts hi5 hown hK hP 0 rfl rfl 6 (by decide) kf20 (fun _ h9 => h9) rfl dX5_reads_176 ?_
        refine lv_iconst (v := (nI 3)) hx hb dX5_reads_179 (by decide) ?_
        refine lv_aload_n hx hb dX5_reads_180 rfl (lv_at hl 3 rfl) ?_
        refine va_get (D := Γ.1) (ci := 5) (v := .int (nI O)) (C := RX5) (T := TX5) (N := 10) hx hb hts hi5 hown hK hP 0 rfl rfl 7 (by decide) kf125 (fun _ h9 => h9) rfl dX5_reads_181 ?_
        refine lv_imul hx hb dX5_reads_184 ?_
        refine lv_eqi (y := (nI (3 * O))) (pk_mul _ _) ?_
        refine lv_iconst (v := (nI 1)) hx hb dX5_reads_185 (by decide) ?_
        refine lv_iadd hx hb dX5_reads_186 ?_
        refine lv_eqi (y := (nI (3 * O + 1))) (nI_add _ _) ?_
        refine lv_iload_n hx hb dX5_reads_187 rfl (lv_at hl 1 rfl) ?_
        refine va_iast_n (f := (upd md (3 * O) (nI 0))) hx hb hK hP hD hS 4 0 rfl rfl (by omega) (Nat.le_of_ble_eq_true rfl) dX5_reads_188 (fun H locs hP hD hS => ?_)
        have hP : va_P Γ.1 vwCl (wcat [moB Γ a ms mt mc (upd (upd md (3 * O) (nI 0)) (3 * O + 1) r_7.1) m0 m1 (nI T) (nI O) (nI (r_9.2.1)) r_9.2.2]) H := hP
        have hD : va_D A (wcat [moB Γ a ms mt mc (upd (upd md (3 * O) (nI 0)) (3 * O + 1) r_7.1) m0 m1 (nI T) (nI O) (nI (r_9.2.1)) r_9.2.2]) := hD
        refine lv_aload_n hx hb dX5_reads_189 rfl (lv_at hl 3 rfl) ?_
        refine va_get (D := Γ.1) (ci := 5) (v := .ref (a 4)) (C := RX5) (T := TX5) (N := 10) hx hb hts hi5 hown hK hP 0 rfl rfl 6 (by decide) kf20 (fun _ h9 => h9) rfl dX5_reads_190 ?_
        refine lv_iconst (v := (nI 3)) hx hb dX5_reads_193 (by decide) ?_
        refine lv_aload_n hx hb dX5_reads_194 rfl (lv_at hl 3 rfl) ?_
        refine va_get (D := Γ.1) (ci := 5) (v := .int (nI O)) (C := RX5) (T := TX5) (N := 10) hx hb hts hi5 hown hK hP 0 rfl rfl 7 (by decide) kf125 (fun _ h9 => h9) rfl dX5_reads_195 ?_
        refine lv_imul hx hb dX5_reads_198 ?_
        refine lv_eqi (y := (nI (3 * O))) (pk_mul _ _) ?_
        refine lv_iconst (v := (nI 2)) hx hb dX5_reads_199 (by decide) ?_
        refine lv_iadd hx hb dX5_reads_200 ?_
        refine lv_eqi (y := (nI (3 * O + 2))) (nI_add _ _) ?_
        refine lv_iload_n hx hb dX5_reads_201 rfl (lv_at hl 0 rfl) ?_
        refine va_iast_n (f := (upd (upd md (3 * O) (nI 0)) (3 * O + 1) r_7.1)) hx hb hK hP hD hS 4 0 rfl rfl (by omega) (Nat.le_of_ble_eq_true rfl) dX5_reads_202 (fun H locs hP hD hS => ?_)
        have hP : va_P Γ.1 vwCl (wcat [moB Γ a ms mt mc (upd (upd (upd md (3 * O) (nI 0)) (3 * O + 1) r_7.1) (3 * O + 2) r_9.1) m0 m1 (nI T) (nI O) (nI (r_9.2.1)) r_9.2.2]) H := hP
        have hD : va_D A (wcat [moB Γ a ms mt mc (upd (upd (upd md (3 * O) (nI 0)) (3 * O + 1) r_7.1) (3 * O + 2) r_9.1) m0 m1 (nI T) (nI O) (nI (r_9.2.1)) r_9.2.2]) := hD
        refine lv_aload_n hx hb dX5_reads_203 rfl (lv_at hl 3 rfl) ?_
        refine lv_dup hx hb dX5_reads_204 rfl ?_
        refine va_get (D := Γ.1) (ci := 5) (v := .int (nI O)) (C := RX5) (T := TX5) (N := 10) hx hb hts hi5 hown hK hP 0 rfl rfl 7 (by decide) kf125 (fun _ h9 => h9) rfl dX5_reads_205 ?_
        refine lv_iconst (v := (nI 1)) hx hb dX5_reads_208 (by decide) ?_
        refine lv_iadd hx hb dX5_reads_209 ?_
        refine lv_eqi (y := (nI (O + 1))) (nI_add _ _) ?_
        refine va_put (D := Γ.1) (ci := 5) (v := .int (nI (O + 1))) (ty := .int) (C := RX5) (T := TX5) (N := 10) hx hb hts hi5 tyX5 tyX5_ok nmX5 hown hK hP hD hS 0 rfl rfl 7 (by decide) kf125 (fun _ h9 => h9) rfl (by decide +kernel) rfl rfl (Nat.le_of_ble_eq_true rfl) dX5_reads_210 (fun H locs hP hD hS => ?_)
        have hP : va_P Γ.1 vwCl (wcat [moB Γ a ms mt mc (upd (upd (upd md (3 * O) (nI 0)) (3 * O + 1) r_7.1) (3 * O + 2) r_9.1) m0 m1 (nI T) (nI (O + 1)) (nI (r_9.2.1)) r_9.2.2]) H := hP
        have hD : va_D A (wcat [moB Γ a ms mt mc (upd (upd (upd md (3 * O) (nI 0)) (3 * O + 1) r_7.1) (3 * O + 2) r_9.1) m0 m1 (nI T) (nI (O + 1)) (nI (r_9.2.1)) r_9.2.2]) := hD
        exact W.vret hx hb hr (fun t ht hW => eMV (by rw [hq]; exact hP) hS ht) hS.2.2 dX5_reads_213
    · have hq := hq.trans (if_neg c_6)
      refine lv_aload_n hx hb dX5_reads_18 rfl (lv_at hl 0 rfl) ?_
      refine va_get (D := Γ.1) (ci := 5) (v := .ref (a 2)) (C := RX5) (T := TX5) (N := 10) hx hb hts hi5 hown hK hP 0 rfl rfl 3 (by decide) kf13 (fun _ h9 => h9) rfl dX5_reads_19 ?_
      refine lv_aload_n hx hb dX5_reads_22 rfl (lv_at hl 0 rfl) ?_
      refine va_get (D := Γ.1) (ci := 5) (v := .int (nI P)) (C := RX5) (T := TX5) (N := 10) hx hb hts hi5 hown hK hP 0 rfl rfl 8 (by decide) kf108 (fun _ h9 => h9) rfl dX5_reads_23 ?_
      refine va_cald_n (f := mt) hx hb hK hP 2 1 rfl rfl (by have := ltN (a := P) (b := T) (by omega) (by omega) (by assumption); omega) (Nat.le_of_ble_eq_true rfl) dX5_reads_26 ?_
      refine lv_goto (tgt := 31) hx hb dX5_reads_27 (by decide) ?_
      refine lv_istore_n (lv' := [(1, .int (mt P)), (0, .ref (a 0))]) hx hb dX5_reads_31 rfl hl (by decide) rfl (fun ls hl => ?_)
      refine lv_aload_n hx hb dX5_reads_32 rfl (lv_at hl 1 rfl) ?_
      refine lv_aload_n hx hb dX5_reads_33 rfl (lv_at hl 1 rfl) ?_
      refine va_get (D := Γ.1) (ci := 5) (v := .int m5) (C := RX5) (T := TX5) (N := 10) hx hb hts hi5 hown hK hP 0 rfl rfl 9 (by decide) kf104 (fun _ h9 => h9) rfl dX5_reads_34 ?_
      refine lv_if_eq (tgt := 74) hx hb dX5_reads_37 (by decide) (fun c_37 => absurd c_37 c_1) (fun c_37 => ?_)
      refine lv_iload_n hx hb dX5_reads_40 rfl (lv_at hl 0 rfl) ?_
      refine lv_bipush (v := (nI 100)) hx hb dX5_reads_41 (by decide) ?_
      refine lv_icmp_eq (tgt := 70) hx hb dX5_reads_43 (by decide) (fun c_11 => ?_) (fun c_11 => ?_)
      · have hq := hq.trans (if_pos c_11)
        refine lv_iconst (v := (nI 1)) hx hb dX5_reads_70 (by decide) ?_
        refine lv_goto (tgt := 75) hx hb dX5_reads_71 (by decide) ?_
        refine va_put (D := Γ.1) (ci := 5) (v := .int (nI 1)) (ty := .boolean) (C := RX5) (T := TX5) (N := 10) hx hb hts hi5 tyX5 tyX5_ok nmX5 hown hK hP hD hS 0 rfl rfl 9 (by decide) kf104 (fun _ h9 => h9) rfl (by decide +kernel) rfl rfl (Nat.le_of_ble_eq_true rfl) dX5_reads_75 (fun H locs hP hD hS => ?_)
        have hP : va_P Γ.1 vwCl (wcat [moB Γ a ms mt mc md m0 m1 (nI T) (nI O) (nI P) (nI 1)]) H := hP
        have hD : va_D A (wcat [moB Γ a ms mt mc md m0 m1 (nI T) (nI O) (nI P) (nI 1)]) := hD
        refine lv_aload_n hx hb dX5_reads_78 rfl (lv_at hl 1 rfl) ?_
        refine lv_dup hx hb dX5_reads_79 rfl ?_
        refine va_get (D := Γ.1) (ci := 5) (v := .int (nI P)) (C := RX5) (T := TX5) (N := 10) hx hb hts hi5 hown hK hP 0 rfl rfl 8 (by decide) kf108 (fun _ h9 => h9) rfl dX5_reads_80 ?_
        refine lv_aload_n hx hb dX5_reads_83 rfl (lv_at hl 1 rfl) ?_
        refine va_get (D := Γ.1) (ci := 5) (v := .int (nI 1)) (C := RX5) (T := TX5) (N := 10) hx hb hts hi5 hown hK hP 0 rfl rfl 9 (by decide) kf104 (fun _ h9 => h9) rfl dX5_reads_84 ?_
        refine lv_if_eq (tgt := 94) hx hb dX5_reads_87 (by decide) (fun c_87 => absurd c_87 (by decide)) (fun c_87 => ?_)
        refine lv_iconst (v := (nI 1)) hx hb dX5_reads_90 (by decide) ?_
        refine lv_goto (tgt := 95) hx hb dX5_reads_91 (by decide) ?_
        refine lv_iadd hx hb dX5_reads_95 ?_
        refine lv_eqi (y := (nI (P + 1))) (nI_add _ _) ?_
        refine va_put (D := Γ.1) (ci := 5) (v := .int (nI (P + 1))) (ty := .int) (C := RX5) (T := TX5) (N := 10) hx hb hts hi5 tyX5 tyX5_ok nmX5 hown hK hP hD hS 0 rfl rfl 8 (by decide) kf108 (fun _ h9 => h9) rfl (by decide +kernel) rfl rfl (Nat.le_of_ble_eq_true rfl) dX5_reads_96 (fun H locs hP hD hS => ?_)
        have hP : va_P Γ.1 vwCl (wcat [moB Γ a ms mt mc md m0 m1 (nI T) (nI O) (nI (P + 1)) (nI 1)]) H := hP
        have hD : va_D A (wcat [moB Γ a ms mt mc md m0 m1 (nI T) (nI O) (nI (P + 1)) (nI 1)]) := hD
        refine lv_iconst (v := (nI 0)) hx hb dX5_reads_99 (by decide) ?_
        refine lv_istore_n (lv' := [(2, .int (nI 0)), (1, .int (mt P)), (0, .ref (a 0))]) hx hb dX5_reads_100 rfl hl (by decide) rfl (fun ls hl => ?_)
        refine lv_iconst (v := (nI 0)) hx hb dX5_reads_101 (by decide) ?_
        refine lv_istore_n (lv' := [(3, .int (nI 0)), (2, .int (nI 0)), (1, .int (mt P)), (0, .ref (a 0))]) hx hb dX5_reads_102 rfl hl (by decide) rfl (fun ls hl => ?_)
        refine lv_iload_n hx hb dX5_reads_103 rfl (lv_at hl 2 rfl) ?_
        refine lv_bipush (v := (nI 116)) hx hb dX5_reads_104 (by decide) ?_
        refine lv_icmp_ne (tgt := 117) hx hb dX5_reads_106 (by decide) (fun c_12 => ?_) (fun c_12 => ?_)
        · have hq := hq.trans (if_neg c_12)
          refine lv_iload_n hx hb dX5_reads_117 rfl (lv_at hl 2 rfl) ?_
          refine lv_bipush (v := (nI 114)) hx hb dX5_reads_118 (by decide) ?_
          refine lv_icmp_eq (tgt := 156) hx hb dX5_reads_120 (by decide) (fun c_13 => ?_) (fun c_13 => ?_)
          · have hq := hq.trans (if_pos c_13)
            refine lv_aload_n hx hb dX5_reads_156 rfl (lv_at hl 3 rfl) ?_
            refine va_get (D := Γ.1) (ci := 5) (v := .int (nI 1)) (C := RX5) (T := TX5) (N := 10) hx hb hts hi5 hown hK hP 0 rfl rfl 9 (by decide) kf104 (fun _ h9 => h9) rfl dX5_reads_157 ?_
            refine lv_if_eq (tgt := 213) hx hb dX5_reads_160 (by decide) (fun c_160 => absurd c_160 (by decide)) (fun c_160 => ?_)
            refine lv_aload_n hx hb dX5_reads_163 rfl (lv_at hl 3 rfl) ?_
            refine va_get (D := Γ.1) (ci := 5) (v := .ref (a 4)) (C := RX5) (T := TX5) (N := 10) hx hb hts hi5 hown hK hP 0 rfl rfl 6 (by decide) kf20 (fun _ h9 => h9) rfl dX5_reads_164 ?_
            refine lv_iconst (v := (nI 3)) hx hb dX5_reads_167 (by decide) ?_
            refine lv_aload_n hx hb dX5_reads_168 rfl (lv_at hl 3 rfl) ?_
            refine va_get (D := Γ.1) (ci := 5) (v := .int (nI O)) (C := RX5) (T := TX5) (N := 10) hx hb hts hi5 hown hK hP 0 rfl rfl 7 (by decide) kf125 (fun _ h9 => h9) rfl dX5_reads_169 ?_
            refine lv_imul hx hb dX5_reads_172 ?_
            refine lv_eqi (y := (nI (3 * O))) (pk_mul _ _) ?_
            refine lv_iload_n hx hb dX5_reads_173 rfl (lv_at hl 2 rfl) ?_
            refine va_iast_n (f := md) hx hb hK hP hD hS 4 0 rfl rfl (by omega) (Nat.le_of_ble_eq_true rfl) dX5_reads_174 (fun H locs hP hD hS => ?_)
            have hP : va_P Γ.1 vwCl (wcat [moB Γ a ms mt mc (upd md (3 * O) (mt P)) m0 m1 (nI T) (nI O) (nI (P + 1)) (nI 1)]) H := hP
            have hD : va_D A (wcat [moB Γ a ms mt mc (upd md (3 * O) (mt P)) m0 m1 (nI T) (nI O) (nI (P + 1)) (nI 1)]) := hD
            refine lv_aload_n hx hb dX5_reads_175 rfl (lv_at hl 3 rfl) ?_
            refine va_get (D := Γ.1) (ci := 5) (v := .ref (a 4)) (C := RX5) (T := TX5) (N := 10) hx hb hts hi5 hown hK hP 0 rfl rfl 6 (by decide) kf20 (fun _ h9 => h9) rfl dX5_reads_176 ?_
            refine lv_iconst (v := (nI 3)) hx hb dX5_reads_179 (by decide) ?_
            refine lv_aload_n hx hb dX5_reads_180 rfl (lv_at hl 3 rfl) ?_
            refine va_get (D := Γ.1) (ci := 5) (v := .int (nI O)) (C := RX5) (T := TX5) (N := 10) hx hb hts hi5 hown hK hP 0 rfl rfl 7 (by decide) kf125 (fun _ h9 => h9) rfl dX5_reads_181 ?_
            refine lv_imul hx hb dX5_reads_184 ?_
            refine lv_eqi (y := (nI (3 * O))) (pk_mul _ _) ?_
            refine lv_iconst (v := (nI 1)) hx hb dX5_reads_185 (by decide) ?_
            refine lv_iadd hx hb dX5_reads_186 ?_
            refine lv_eqi (y := (nI (3 * O + 1))) (nI_add _ _) ?_
            refine lv_iload_n hx hb dX5_reads_187 rfl (lv_at hl 1 rfl) ?_
            refine va_iast_n (f := (upd md (3 * O) (mt P))) hx hb hK hP hD hS 4 0 rfl rfl (by omega) (Nat.le_of_ble_eq_true rfl) dX5_reads_188 (fun H locs hP hD hS => ?_)
            have hP : va_P Γ.1 vwCl (wcat [moB Γ a ms mt mc (upd (upd md (3 * O) (mt P)) (3 * O + 1) (nI 0)) m0 m1 (nI T) (nI O) (nI (P + 1)) (nI 1)]) H := hP
            have hD : va_D A (wcat [moB Γ a ms mt mc (upd (upd md (3 * O) (mt P)) (3 * O + 1) (nI 0)) m0 m1 (nI T) (nI O) (nI (P + 1)) (nI 1)]) := hD
            refine lv_aload_n hx hb dX5_reads_189 rfl (lv_at hl 3 rfl) ?_
            refine va_get (D := Γ.1) (ci := 5) (v := .ref (a 4)) (C := RX5) (T := TX5) (N := 10) hx hb hts hi5 hown hK hP 0 rfl rfl 6 (by decide) kf20 (fun _ h9 => h9) rfl dX5_reads_190 ?_
            refine lv_iconst (v := (nI 3)) hx hb dX5_reads_193 (by decide) ?_
            refine lv_aload_n hx hb dX5_reads_194 rfl (lv_at hl 3 rfl) ?_
            refine va_get (D := Γ.1) (ci := 5) (v := .int (nI O)) (C := RX5) (T := TX5) (N := 10) hx hb hts hi5 hown hK hP 0 rfl rfl 7 (by decide) kf125 (fun _ h9 => h9) rfl dX5_reads_195 ?_
            refine lv_imul hx hb dX5_reads_198 ?_
            refine lv_eqi (y := (nI (3 * O))) (pk_mul _ _) ?_
            refine lv_iconst (v := (nI 2)) hx hb dX5_reads_199 (by decide) ?_
            refine lv_iadd hx hb dX5_reads_200 ?_
            refine lv_eqi (y := (nI (3 * O + 2))) (nI_add _ _) ?_
            refine lv_iload_n hx hb dX5_reads_201 rfl (lv_at hl 0 rfl) ?_
            refine va_iast_n (f := (upd (upd md (3 * O) (mt P)) (3 * O + 1) (nI 0))) hx hb hK hP hD hS 4 0 rfl rfl (by omega) (Nat.le_of_ble_eq_true rfl) dX5_reads_202 (fun H locs hP hD hS => ?_)
            have hP : va_P Γ.1 vwCl (wcat [moB Γ a ms mt mc (upd (upd (upd md (3 * O) (mt P)) (3 * O + 1) (nI 0)) (3 * O + 2) (nI 0)) m0 m1 (nI T) (nI O) (nI (P + 1)) (nI 1)]) H := hP
            have hD : va_D A (wcat [moB Γ a ms mt mc (upd (upd (upd md (3 * O) (mt P)) (3 * O + 1) (nI 0)) (3 * O + 2) (nI 0)) m0 m1 (nI T) (nI O) (nI (P + 1)) (nI 1)]) := hD
            refine lv_aload_n hx hb dX5_reads_203 rfl (lv_at hl 3 rfl) ?_
            refine lv_dup hx hb dX5_reads_204 rfl ?_
            refine va_get (D := Γ.1) (ci := 5) (v := .int (nI O)) (C := RX5) (T := TX5) (N := 10) hx hb hts hi5 hown hK hP 0 rfl rfl 7 (by decide) kf125 (fun _ h9 => h9) rfl dX5_reads_205 ?_
            refine lv_iconst (v := (nI 1)) hx hb dX5_reads_208 (by decide) ?_
            refine lv_iadd hx hb dX5_reads_209 ?_
            refine lv_eqi (y := (nI (O + 1))) (nI_add _ _) ?_
            refine va_put (D := Γ.1) (ci := 5) (v := .int (nI (O + 1))) (ty := .int) (C := RX5) (T := TX5) (N := 10) hx hb hts hi5 tyX5 tyX5_ok nmX5 hown hK hP hD hS 0 rfl rfl 7 (by decide) kf125 (fun _ h9 => h9) rfl (by decide +kernel) rfl rfl (Nat.le_of_ble_eq_true rfl) dX5_reads_210 (fun H locs hP hD hS => ?_)
            have hP : va_P Γ.1 vwCl (wcat [moB Γ a ms mt mc (upd (upd (upd md (3 * O) (mt P)) (3 * O + 1) (nI 0)) (3 * O + 2) (nI 0)) m0 m1 (nI T) (nI (O + 1)) (nI (P + 1)) (nI 1)]) H := hP
            have hD : va_D A (wcat [moB Γ a ms mt mc (upd (upd (upd md (3 * O) (mt P)) (3 * O + 1) (nI 0)) (3 * O + 2) (nI 0)) m0 m1 (nI T) (nI (O + 1)) (nI (P + 1)) (nI 1)]) := hD
            exact W.vret hx hb hr (fun t ht hW => eMV (by rw [hq]; exact hP) hS ht) hS.2.2 dX5_reads_213
          · have hq := hq.trans (if_neg c_13)
            refine lv_aload_n hx hb dX5_reads_123 rfl (lv_at hl 3 rfl) ?_
            refine cMI (bc' := [moB Γ a ms mt mc md m0 m1 (nI T) (nI O) (nI ((fX5_digit (T) (P + 1) mt (nI 1)).2.1)) (fX5_digit (T) (P + 1) mt (nI 1)).2.2]) (va_runV (As := []) (rest := []) ⟨hx, hb, hml, hown, hts⟩ ((kX5_digit l Γ a (T) (P + 1) ms mt mc md m0 m1 (nI O) (nI 1) (by first | assumption | omega) ((by first | omega | (have hq9 := ltN (a := P) (b := T) (by omega) (by omega) (by assumption); omega)))) _) (cwV 0 hts gX5_reads_X5_digit rfl rfl rfl (by decide +kernel) ⟨Nat.le_of_ble_eq_true rfl, Nat.le_of_ble_eq_true rfl⟩) ⟨wPre_blind, va_recv hK hP (ci := 5) (q0 := 0) rfl rfl, wPre_mk hP hD hK hS hA hAB hAm [0] rfl rfl⟩ rfl rfl hl.1 rfl (lv_room (Nat.le_of_ble_eq_true rfl)) dX5_reads_124 ⟨Nat.zero_le _, Nat.zero_le _⟩) hP hD hS hA [0] rfl rfl (bs' := [moB Γ a ms mt mc md m0 m1 (nI T) (nI O) (nI ((fX5_digit (T) (P + 1) mt (nI 1)).2.1)) (fX5_digit (T) (P + 1) mt (nI 1)).2.2]) rfl (fun H locs hP hD hS => ?_)
            have hfr_14 : (P + 1) ≤ (fX5_digit (T) (P + 1) mt (nI 1)).2.1 ∧ (fX5_digit (T) (P + 1) mt (nI 1)).2.1 ≤ T ∧ ((fX5_digit (T) (P + 1) mt (nI 1)).2.2 = nI 0 ∨ (fX5_digit (T) (P + 1) mt (nI 1)).2.2 = nI 1) := digit_fx hT (by first | omega | (have hq9 := ltN (a := P) (b := T) (by omega) (by omega) (by assumption); omega))
            generalize hr_14 : (fX5_digit (T) (P + 1) mt (nI 1)) = r_14 at hfr_14 hP hD hq ⊢
            replace hq : (fX5_reads T O P mt md m5) = (if r_14.2.2 = 0 then (md, O, (r_14.2.1), r_14.2.2) else ((upd (upd (upd md (3 * O) (mt P)) (3 * O + 1) r_14.1) (3 * O + 2) (nI 0)), O + 1, (r_14.2.1), r_14.2.2)) := hq
            refine lv_istore_n (lv' := [(2, .int r_14.1), (3, .int (nI 0)), (1, .int (mt P)), (0, .ref (a 0))]) hx hb dX5_reads_127 rfl hl (by decide) rfl (fun ls hl => ?_)
            refine lv_iload_n hx hb dX5_reads_128 rfl (lv_at hl 2 rfl) ?_
            refine lv_bipush (v := (nI 100)) hx hb dX5_reads_129 (by decide) ?_
            refine lv_icmp_eq (tgt := 156) hx hb dX5_reads_131 (by decide) (fun c_131 => ?_) (fun c_131 => absurd c_11 c_131)
            refine lv_aload_n hx hb dX5_reads_156 rfl (lv_at hl 3 rfl) ?_
            refine va_get (D := Γ.1) (ci := 5) (v := .int r_14.2.2) (C := RX5) (T := TX5) (N := 10) hx hb hts hi5 hown hK hP 0 rfl rfl 9 (by decide) kf104 (fun _ h9 => h9) rfl dX5_reads_157 ?_
            refine lv_if_eq (tgt := 213) hx hb dX5_reads_160 (by decide) (fun c_15 => ?_) (fun c_15 => ?_)
            · have hq := hq.trans (if_pos c_15)
              exact W.vret hx hb hr (fun t ht hW => eMV (by rw [hq]; exact hP) hS ht) hS.2.2 dX5_reads_213
            · have hq := hq.trans (if_neg c_15)
              refine lv_aload_n hx hb dX5_reads_163 rfl (lv_at hl 3 rfl) ?_
              refine va_get (D := Γ.1) (ci := 5) (v := .ref (a 4)) (C := RX5) (T := TX5) (N := 10) hx hb hts hi5 hown hK hP 0 rfl rfl 6 (by decide) kf20 (fun _ h9 => h9) rfl dX5_reads_164 ?_
              refine lv_iconst (v := (nI 3)) hx hb dX5_reads_167 (by decide) ?_
              refine lv_aload_n hx hb dX5_reads_168 rfl (lv_at hl 3 rfl) ?_
              refine va_get (D := Γ.1) (ci := 5) (v := .int (nI O)) (C := RX5) (T := TX5) (N := 10) hx hb hts hi5 hown hK hP 0 rfl rfl 7 (by decide) kf125 (fun _ h9 => h9) rfl dX5_reads_169 ?_
              refine lv_imul hx hb dX5_reads_172 ?_
              refine lv_eqi (y := (nI (3 * O))) (pk_mul _ _) ?_
              refine lv_iload_n hx hb dX5_reads_173 rfl (lv_at hl 2 rfl) ?_
              refine va_iast_n (f := md) hx hb hK hP hD hS 4 0 rfl rfl (by omega) (Nat.le_of_ble_eq_true rfl) dX5_reads_174 (fun H locs hP hD hS => ?_)
              have hP : va_P Γ.1 vwCl (wcat [moB Γ a ms mt mc (upd md (3 * O) (mt P)) m0 m1 (nI T) (nI O) (nI (r_14.2.1)) r_14.2.2]) H := hP
              have hD : va_D A (wcat [moB Γ a ms mt mc (upd md (3 * O) (mt P)) m0 m1 (nI T) (nI O) (nI (r_14.2.1)) r_14.2.2]) := hD
              refine lv_aload_n hx hb dX5_reads_175 rfl (lv_at hl 3 rfl) ?_
              refine va_get (D := Γ.1) (ci := 5) (v := .ref (a 4)) (C := RX5) (T := TX5) (N := 10) hx hb hts hi5 hown hK hP 0 rfl rfl 6 (by decide) kf20 (fun _ h9 => h9) rfl dX5_reads_176 ?_
              refine lv_iconst (v := (nI 3)) hx hb dX5_reads_179 (by decide) ?_
              refine lv_aload_n hx hb dX5_reads_180 rfl (lv_at hl 3 rfl) ?_
              refine va_get (D := Γ.1) (ci := 5) (v := .int (nI O)) (C := RX5) (T := TX5) (N := 10) hx hb hts hi5 hown hK hP 0 rfl rfl 7 (by decide) kf125 (fun _ h9 => h9) rfl dX5_reads_181 ?_
              refine lv_imul hx hb dX5_reads_184 ?_
              refine lv_eqi (y := (nI (3 * O))) (pk_mul _ _) ?_
              refine lv_iconst (v := (nI 1)) hx hb dX5_reads_185 (by decide) ?_
              refine lv_iadd hx hb dX5_reads_186 ?_
              refine lv_eqi (y := (nI (3 * O + 1))) (nI_add _ _) ?_
              refine lv_iload_n hx hb dX5_reads_187 rfl (lv_at hl 0 rfl) ?_
              refine va_iast_n (f := (upd md (3 * O) (mt P))) hx hb hK hP hD hS 4 0 rfl rfl (by omega) (Nat.le_of_ble_eq_true rfl) dX5_reads_188 (fun H locs hP hD hS => ?_)
              have hP : va_P Γ.1 vwCl (wcat [moB Γ a ms mt mc (upd (upd md (3 * O) (mt P)) (3 * O + 1) r_14.1) m0 m1 (nI T) (nI O) (nI (r_14.2.1)) r_14.2.2]) H := hP
              have hD : va_D A (wcat [moB Γ a ms mt mc (upd (upd md (3 * O) (mt P)) (3 * O + 1) r_14.1) m0 m1 (nI T) (nI O) (nI (r_14.2.1)) r_14.2.2]) := hD
              refine lv_aload_n hx hb dX5_reads_189 rfl (lv_at hl 3 rfl) ?_
              refine va_get (D := Γ.1) (ci := 5) (v := .ref (a 4)) (C := RX5) (T := TX5) (N := 10) hx hb hts hi5 hown hK hP 0 rfl rfl 6 (by decide) kf20 (fun _ h9 => h9) rfl dX5_reads_190 ?_
              refine lv_iconst (v := (nI 3)) hx hb dX5_reads_193 (by decide) ?_
              refine lv_aload_n hx hb dX5_reads_194 rfl (lv_at hl 3 rfl) ?_
              refine va_get (D := Γ.1) (ci := 5) (v := .int (nI O)) (C := RX5) (T := TX5) (N := 10) hx hb hts hi5 hown hK hP 0 rfl rfl 7 (by decide) kf125 (fun _ h9 => h9) rfl dX5_reads_195 ?_
              refine lv_imul hx hb dX5_reads_198 ?_
              refine lv_eqi (y := (nI (3 * O))) (pk_mul _ _) ?_
              refine lv_iconst (v := (nI 2)) hx hb dX5_reads_199 (by decide) ?_
              refine lv_iadd hx hb dX5_reads_200 ?_
              refine lv_eqi (y := (nI (3 * O + 2))) (nI_add _ _) ?_
              refine lv_iload_n hx hb dX5_reads_201 rfl (lv_at hl 1 rfl) ?_
              refine va_iast_n (f := (upd (upd md (3 * O) (mt P)) (3 * O + 1) r_14.1)) hx hb hK hP hD hS 4 0 rfl rfl (by omega) (Nat.le_of_ble_eq_true rfl) dX5_reads_202 (fun H locs hP hD hS => ?_)
              have hP : va_P Γ.1 vwCl (wcat [moB Γ a ms mt mc (upd (upd (upd md (3 * O) (mt P)) (3 * O + 1) r_14.1) (3 * O + 2) (nI 0)) m0 m1 (nI T) (nI O) (nI (r_14.2.1)) r_14.2.2]) H := hP
              have hD : va_D A (wcat [moB Γ a ms mt mc (upd (upd (upd md (3 * O) (mt P)) (3 * O + 1) r_14.1) (3 * O + 2) (nI 0)) m0 m1 (nI T) (nI O) (nI (r_14.2.1)) r_14.2.2]) := hD
              refine lv_aload_n hx hb dX5_reads_203 rfl (lv_at hl 3 rfl) ?_
              refine lv_dup hx hb dX5_reads_204 rfl ?_
              refine va_get (D := Γ.1) (ci := 5) (v := .int (nI O)) (C := RX5) (T := TX5) (N := 10) hx hb hts hi5 hown hK hP 0 rfl rfl 7 (by decide) kf125 (fun _ h9 => h9) rfl dX5_reads_205 ?_
              refine lv_iconst (v := (nI 1)) hx hb dX5_reads_208 (by decide) ?_
              refine lv_iadd hx hb dX5_reads_209 ?_
              refine lv_eqi (y := (nI (O + 1))) (nI_add _ _) ?_
              refine va_put (D := Γ.1) (ci := 5) (v := .int (nI (O + 1))) (ty := .int) (C := RX5) (T := TX5) (N := 10) hx hb hts hi5 tyX5 tyX5_ok nmX5 hown hK hP hD hS 0 rfl rfl 7 (by decide) kf125 (fun _ h9 => h9) rfl (by decide +kernel) rfl rfl (Nat.le_of_ble_eq_true rfl) dX5_reads_210 (fun H locs hP hD hS => ?_)
              have hP : va_P Γ.1 vwCl (wcat [moB Γ a ms mt mc (upd (upd (upd md (3 * O) (mt P)) (3 * O + 1) r_14.1) (3 * O + 2) (nI 0)) m0 m1 (nI T) (nI (O + 1)) (nI (r_14.2.1)) r_14.2.2]) H := hP
              have hD : va_D A (wcat [moB Γ a ms mt mc (upd (upd (upd md (3 * O) (mt P)) (3 * O + 1) r_14.1) (3 * O + 2) (nI 0)) m0 m1 (nI T) (nI (O + 1)) (nI (r_14.2.1)) r_14.2.2]) := hD
              exact W.vret hx hb hr (fun t ht hW => eMV (by rw [hq]; exact hP) hS ht) hS.2.2 dX5_reads_213
        · have hq := hq.trans (if_pos c_12)
          refine lv_aload_n hx hb dX5_reads_109 rfl (lv_at hl 3 rfl) ?_
          refine cMI (bc' := [moB Γ a ms mt mc md m0 m1 (nI T) (nI O) (nI ((fX5_days (T) (P + 1) mt (nI 1)).2.1)) (fX5_days (T) (P + 1) mt (nI 1)).2.2]) (va_runV (As := []) (rest := []) ⟨hx, hb, hml, hown, hts⟩ ((kX5_days l Γ a (T) (P + 1) ms mt mc md m0 m1 (nI O) (nI 1) (by first | assumption | omega) ((by first | omega | (have hq9 := ltN (a := P) (b := T) (by omega) (by omega) (by assumption); omega)))) _) (cwV 0 hts gX5_reads_X5_days rfl rfl rfl (by decide +kernel) ⟨Nat.le_of_ble_eq_true rfl, Nat.le_of_ble_eq_true rfl⟩) ⟨wPre_blind, va_recv hK hP (ci := 5) (q0 := 0) rfl rfl, wPre_mk hP hD hK hS hA hAB hAm [0] rfl rfl⟩ rfl rfl hl.1 rfl (lv_room (Nat.le_of_ble_eq_true rfl)) dX5_reads_110 ⟨Nat.zero_le _, Nat.zero_le _⟩) hP hD hS hA [0] rfl rfl (bs' := [moB Γ a ms mt mc md m0 m1 (nI T) (nI O) (nI ((fX5_days (T) (P + 1) mt (nI 1)).2.1)) (fX5_days (T) (P + 1) mt (nI 1)).2.2]) rfl (fun H locs hP hD hS => ?_)
          have hfr_16 : (P + 1) ≤ (fX5_days (T) (P + 1) mt (nI 1)).2.1 ∧ (fX5_days (T) (P + 1) mt (nI 1)).2.1 ≤ T ∧ ((fX5_days (T) (P + 1) mt (nI 1)).2.2 = nI 0 ∨ (fX5_days (T) (P + 1) mt (nI 1)).2.2 = nI 1) := days_fx hT (by first | omega | (have hq9 := ltN (a := P) (b := T) (by omega) (by omega) (by assumption); omega))
          generalize hr_16 : (fX5_days (T) (P + 1) mt (nI 1)) = r_16 at hfr_16 hP hD hq ⊢
          replace hq : (fX5_reads T O P mt md m5) = (if r_16.2.2 = 0 then (md, O, (r_16.2.1), r_16.2.2) else ((upd (upd (upd md (3 * O) (mt P)) (3 * O + 1) r_16.1) (3 * O + 2) (nI 0)), O + 1, (r_16.2.1), r_16.2.2)) := hq
          refine lv_istore_n (lv' := [(2, .int r_16.1), (3, .int (nI 0)), (1, .int (mt P)), (0, .ref (a 0))]) hx hb dX5_reads_113 rfl hl (by decide) rfl (fun ls hl => ?_)
          refine lv_goto (tgt := 156) hx hb dX5_reads_114 (by decide) ?_
          refine lv_aload_n hx hb dX5_reads_156 rfl (lv_at hl 3 rfl) ?_
          refine va_get (D := Γ.1) (ci := 5) (v := .int r_16.2.2) (C := RX5) (T := TX5) (N := 10) hx hb hts hi5 hown hK hP 0 rfl rfl 9 (by decide) kf104 (fun _ h9 => h9) rfl dX5_reads_157 ?_
          refine lv_if_eq (tgt := 213) hx hb dX5_reads_160 (by decide) (fun c_17 => ?_) (fun c_17 => ?_)
          · have hq := hq.trans (if_pos c_17)
            exact W.vret hx hb hr (fun t ht hW => eMV (by rw [hq]; exact hP) hS ht) hS.2.2 dX5_reads_213
          · have hq := hq.trans (if_neg c_17)
            refine lv_aload_n hx hb dX5_reads_163 rfl (lv_at hl 3 rfl) ?_
            refine va_get (D := Γ.1) (ci := 5) (v := .ref (a 4)) (C := RX5) (T := TX5) (N := 10) hx hb hts hi5 hown hK hP 0 rfl rfl 6 (by decide) kf20 (fun _ h9 => h9) rfl dX5_reads_164 ?_
            refine lv_iconst (v := (nI 3)) hx hb dX5_reads_167 (by decide) ?_
            refine lv_aload_n hx hb dX5_reads_168 rfl (lv_at hl 3 rfl) ?_
            refine va_get (D := Γ.1) (ci := 5) (v := .int (nI O)) (C := RX5) (T := TX5) (N := 10) hx hb hts hi5 hown hK hP 0 rfl rfl 7 (by decide) kf125 (fun _ h9 => h9) rfl dX5_reads_169 ?_
            refine lv_imul hx hb dX5_reads_172 ?_
            refine lv_eqi (y := (nI (3 * O))) (pk_mul _ _) ?_
            refine lv_iload_n hx hb dX5_reads_173 rfl (lv_at hl 2 rfl) ?_
            refine va_iast_n (f := md) hx hb hK hP hD hS 4 0 rfl rfl (by omega) (Nat.le_of_ble_eq_true rfl) dX5_reads_174 (fun H locs hP hD hS => ?_)
            have hP : va_P Γ.1 vwCl (wcat [moB Γ a ms mt mc (upd md (3 * O) (mt P)) m0 m1 (nI T) (nI O) (nI (r_16.2.1)) r_16.2.2]) H := hP
            have hD : va_D A (wcat [moB Γ a ms mt mc (upd md (3 * O) (mt P)) m0 m1 (nI T) (nI O) (nI (r_16.2.1)) r_16.2.2]) := hD
            refine lv_aload_n hx hb dX5_reads_175 rfl (lv_at hl 3 rfl) ?_
            refine va_get (D := Γ.1) (ci := 5) (v := .ref (a 4)) (C := RX5) (T := TX5) (N := 10) hx hb hts hi5 hown hK hP 0 rfl rfl 6 (by decide) kf20 (fun _ h9 => h9) rfl dX5_reads_176 ?_
            refine lv_iconst (v := (nI 3)) hx hb dX5_reads_179 (by decide) ?_
            refine lv_aload_n hx hb dX5_reads_180 rfl (lv_at hl 3 rfl) ?_
            refine va_get (D := Γ.1) (ci := 5) (v := .int (nI O)) (C := RX5) (T := TX5) (N := 10) hx hb hts hi5 hown hK hP 0 rfl rfl 7 (by decide) kf125 (fun _ h9 => h9) rfl dX5_reads_181 ?_
            refine lv_imul hx hb dX5_reads_184 ?_
            refine lv_eqi (y := (nI (3 * O))) (pk_mul _ _) ?_
            refine lv_iconst (v := (nI 1)) hx hb dX5_reads_185 (by decide) ?_
            refine lv_iadd hx hb dX5_reads_186 ?_
            refine lv_eqi (y := (nI (3 * O + 1))) (nI_add _ _) ?_
            refine lv_iload_n hx hb dX5_reads_187 rfl (lv_at hl 0 rfl) ?_
            refine va_iast_n (f := (upd md (3 * O) (mt P))) hx hb hK hP hD hS 4 0 rfl rfl (by omega) (Nat.le_of_ble_eq_true rfl) dX5_reads_188 (fun H locs hP hD hS => ?_)
            have hP : va_P Γ.1 vwCl (wcat [moB Γ a ms mt mc (upd (upd md (3 * O) (mt P)) (3 * O + 1) r_16.1) m0 m1 (nI T) (nI O) (nI (r_16.2.1)) r_16.2.2]) H := hP
            have hD : va_D A (wcat [moB Γ a ms mt mc (upd (upd md (3 * O) (mt P)) (3 * O + 1) r_16.1) m0 m1 (nI T) (nI O) (nI (r_16.2.1)) r_16.2.2]) := hD
            refine lv_aload_n hx hb dX5_reads_189 rfl (lv_at hl 3 rfl) ?_
            refine va_get (D := Γ.1) (ci := 5) (v := .ref (a 4)) (C := RX5) (T := TX5) (N := 10) hx hb hts hi5 hown hK hP 0 rfl rfl 6 (by decide) kf20 (fun _ h9 => h9) rfl dX5_reads_190 ?_
            refine lv_iconst (v := (nI 3)) hx hb dX5_reads_193 (by decide) ?_
            refine lv_aload_n hx hb dX5_reads_194 rfl (lv_at hl 3 rfl) ?_
            refine va_get (D := Γ.1) (ci := 5) (v := .int (nI O)) (C := RX5) (T := TX5) (N := 10) hx hb hts hi5 hown hK hP 0 rfl rfl 7 (by decide) kf125 (fun _ h9 => h9) rfl dX5_reads_195 ?_
            refine lv_imul hx hb dX5_reads_198 ?_
            refine lv_eqi (y := (nI (3 * O))) (pk_mul _ _) ?_
            refine lv_iconst (v := (nI 2)) hx hb dX5_reads_199 (by decide) ?_
            refine lv_iadd hx hb dX5_reads_200 ?_
            refine lv_eqi (y := (nI (3 * O + 2))) (nI_add _ _) ?_
            refine lv_iload_n hx hb dX5_reads_201 rfl (lv_at hl 1 rfl) ?_
            refine va_iast_n (f := (upd (upd md (3 * O) (mt P)) (3 * O + 1) r_16.1)) hx hb hK hP hD hS 4 0 rfl rfl (by omega) (Nat.le_of_ble_eq_true rfl) dX5_reads_202 (fun H locs hP hD hS => ?_)
            have hP : va_P Γ.1 vwCl (wcat [moB Γ a ms mt mc (upd (upd (upd md (3 * O) (mt P)) (3 * O + 1) r_16.1) (3 * O + 2) (nI 0)) m0 m1 (nI T) (nI O) (nI (r_16.2.1)) r_16.2.2]) H := hP
            have hD : va_D A (wcat [moB Γ a ms mt mc (upd (upd (upd md (3 * O) (mt P)) (3 * O + 1) r_16.1) (3 * O + 2) (nI 0)) m0 m1 (nI T) (nI O) (nI (r_16.2.1)) r_16.2.2]) := hD
            refine lv_aload_n hx hb dX5_reads_203 rfl (lv_at hl 3 rfl) ?_
            refine lv_dup hx hb dX5_reads_204 rfl ?_
            refine va_get (D := Γ.1) (ci := 5) (v := .int (nI O)) (C := RX5) (T := TX5) (N := 10) hx hb hts hi5 hown hK hP 0 rfl rfl 7 (by decide) kf125 (fun _ h9 => h9) rfl dX5_reads_205 ?_
            refine lv_iconst (v := (nI 1)) hx hb dX5_reads_208 (by decide) ?_
            refine lv_iadd hx hb dX5_reads_209 ?_
            refine lv_eqi (y := (nI (O + 1))) (nI_add _ _) ?_
            refine va_put (D := Γ.1) (ci := 5) (v := .int (nI (O + 1))) (ty := .int) (C := RX5) (T := TX5) (N := 10) hx hb hts hi5 tyX5 tyX5_ok nmX5 hown hK hP hD hS 0 rfl rfl 7 (by decide) kf125 (fun _ h9 => h9) rfl (by decide +kernel) rfl rfl (Nat.le_of_ble_eq_true rfl) dX5_reads_210 (fun H locs hP hD hS => ?_)
            have hP : va_P Γ.1 vwCl (wcat [moB Γ a ms mt mc (upd (upd (upd md (3 * O) (mt P)) (3 * O + 1) r_16.1) (3 * O + 2) (nI 0)) m0 m1 (nI T) (nI (O + 1)) (nI (r_16.2.1)) r_16.2.2]) H := hP
            have hD : va_D A (wcat [moB Γ a ms mt mc (upd (upd (upd md (3 * O) (mt P)) (3 * O + 1) r_16.1) (3 * O + 2) (nI 0)) m0 m1 (nI T) (nI (O + 1)) (nI (r_16.2.1)) r_16.2.2]) := hD
            exact W.vret hx hb hr (fun t ht hW => eMV (by rw [hq]; exact hP) hS ht) hS.2.2 dX5_reads_213
      · have hq := hq.trans (if_neg c_11)
        refine lv_iload_n hx hb dX5_reads_46 rfl (lv_at hl 0 rfl) ?_
        refine lv_bipush (v := (nI 113)) hx hb dX5_reads_47 (by decide) ?_
        refine lv_icmp_eq (tgt := 70) hx hb dX5_reads_49 (by decide) (fun c_18 => ?_) (fun c_18 => ?_)
        · have hq := hq.trans (if_pos c_18)
          refine lv_iconst (v := (nI 1)) hx hb dX5_reads_70 (by decide) ?_
          refine lv_goto (tgt := 75) hx hb dX5_reads_71 (by decide) ?_
          refine va_put (D := Γ.1) (ci := 5) (v := .int (nI 1)) (ty := .boolean) (C := RX5) (T := TX5) (N := 10) hx hb hts hi5 tyX5 tyX5_ok nmX5 hown hK hP hD hS 0 rfl rfl 9 (by decide) kf104 (fun _ h9 => h9) rfl (by decide +kernel) rfl rfl (Nat.le_of_ble_eq_true rfl) dX5_reads_75 (fun H locs hP hD hS => ?_)
          have hP : va_P Γ.1 vwCl (wcat [moB Γ a ms mt mc md m0 m1 (nI T) (nI O) (nI P) (nI 1)]) H := hP
          have hD : va_D A (wcat [moB Γ a ms mt mc md m0 m1 (nI T) (nI O) (nI P) (nI 1)]) := hD
          refine lv_aload_n hx hb dX5_reads_78 rfl (lv_at hl 1 rfl) ?_
          refine lv_dup hx hb dX5_reads_79 rfl ?_
          refine va_get (D := Γ.1) (ci := 5) (v := .int (nI P)) (C := RX5) (T := TX5) (N := 10) hx hb hts hi5 hown hK hP 0 rfl rfl 8 (by decide) kf108 (fun _ h9 => h9) rfl dX5_reads_80 ?_
          refine lv_aload_n hx hb dX5_reads_83 rfl (lv_at hl 1 rfl) ?_
          refine va_get (D := Γ.1) (ci := 5) (v := .int (nI 1)) (C := RX5) (T := TX5) (N := 10) hx hb hts hi5 hown hK hP 0 rfl rfl 9 (by decide) kf104 (fun _ h9 => h9) rfl dX5_reads_84 ?_
          refine lv_if_eq (tgt := 94) hx hb dX5_reads_87 (by decide) (fun c_87 => absurd c_87 (by decide)) (fun c_87 => ?_)
          refine lv_iconst (v := (nI 1)) hx hb dX5_reads_90 (by decide) ?_
          refine lv_goto (tgt := 95) hx hb dX5_reads_91 (by decide) ?_
          refine lv_iadd hx hb dX5_reads_95 ?_
          refine lv_eqi (y := (nI (P + 1))) (nI_add _ _) ?_
          refine va_put (D := Γ.1) (ci := 5) (v := .int (nI (P + 1))) (ty := .int) (C := RX5) (T := TX5) (N := 10) hx hb hts hi5 tyX5 tyX5_ok nmX5 hown hK hP hD hS 0 rfl rfl 8 (by decide) kf108 (fun _ h9 => h9) rfl (by decide +kernel) rfl rfl (Nat.le_of_ble_eq_true rfl) dX5_reads_96 (fun H locs hP hD hS => ?_)
          have hP : va_P Γ.1 vwCl (wcat [moB Γ a ms mt mc md m0 m1 (nI T) (nI O) (nI (P + 1)) (nI 1)]) H := hP
          have hD : va_D A (wcat [moB Γ a ms mt mc md m0 m1 (nI T) (nI O) (nI (P + 1)) (nI 1)]) := hD
          refine lv_iconst (v := (nI 0)) hx hb dX5_reads_99 (by decide) ?_
          refine lv_istore_n (lv' := [(2, .int (nI 0)), (1, .int (mt P)), (0, .ref (a 0))]) hx hb dX5_reads_100 rfl hl (by decide) rfl (fun ls hl => ?_)
          refine lv_iconst (v := (nI 0)) hx hb dX5_reads_101 (by decide) ?_
          refine lv_istore_n (lv' := [(3, .int (nI 0)), (2, .int (nI 0)), (1, .int (mt P)), (0, .ref (a 0))]) hx hb dX5_reads_102 rfl hl (by decide) rfl (fun ls hl => ?_)
          refine lv_iload_n hx hb dX5_reads_103 rfl (lv_at hl 2 rfl) ?_
          refine lv_bipush (v := (nI 116)) hx hb dX5_reads_104 (by decide) ?_
          refine lv_icmp_ne (tgt := 117) hx hb dX5_reads_106 (by decide) (fun c_19 => ?_) (fun c_19 => ?_)
          · have hq := hq.trans (if_neg c_19)
            refine lv_iload_n hx hb dX5_reads_117 rfl (lv_at hl 2 rfl) ?_
            refine lv_bipush (v := (nI 114)) hx hb dX5_reads_118 (by decide) ?_
            refine lv_icmp_eq (tgt := 156) hx hb dX5_reads_120 (by decide) (fun c_20 => ?_) (fun c_20 => ?_)
            · have hq := hq.trans (if_pos c_20)
              refine lv_aload_n hx hb dX5_reads_156 rfl (lv_at hl 3 rfl) ?_
              refine va_get (D := Γ.1) (ci := 5) (v := .int (nI 1)) (C := RX5) (T := TX5) (N := 10) hx hb hts hi5 hown hK hP 0 rfl rfl 9 (by decide) kf104 (fun _ h9 => h9) rfl dX5_reads_157 ?_
              refine lv_if_eq (tgt := 213) hx hb dX5_reads_160 (by decide) (fun c_160 => absurd c_160 (by decide)) (fun c_160 => ?_)
              refine lv_aload_n hx hb dX5_reads_163 rfl (lv_at hl 3 rfl) ?_
              refine va_get (D := Γ.1) (ci := 5) (v := .ref (a 4)) (C := RX5) (T := TX5) (N := 10) hx hb hts hi5 hown hK hP 0 rfl rfl 6 (by decide) kf20 (fun _ h9 => h9) rfl dX5_reads_164 ?_
              refine lv_iconst (v := (nI 3)) hx hb dX5_reads_167 (by decide) ?_
              refine lv_aload_n hx hb dX5_reads_168 rfl (lv_at hl 3 rfl) ?_
              refine va_get (D := Γ.1) (ci := 5) (v := .int (nI O)) (C := RX5) (T := TX5) (N := 10) hx hb hts hi5 hown hK hP 0 rfl rfl 7 (by decide) kf125 (fun _ h9 => h9) rfl dX5_reads_169 ?_
              refine lv_imul hx hb dX5_reads_172 ?_
              refine lv_eqi (y := (nI (3 * O))) (pk_mul _ _) ?_
              refine lv_iload_n hx hb dX5_reads_173 rfl (lv_at hl 2 rfl) ?_
              refine va_iast_n (f := md) hx hb hK hP hD hS 4 0 rfl rfl (by omega) (Nat.le_of_ble_eq_true rfl) dX5_reads_174 (fun H locs hP hD hS => ?_)
              have hP : va_P Γ.1 vwCl (wcat [moB Γ a ms mt mc (upd md (3 * O) (mt P)) m0 m1 (nI T) (nI O) (nI (P + 1)) (nI 1)]) H := hP
              have hD : va_D A (wcat [moB Γ a ms mt mc (upd md (3 * O) (mt P)) m0 m1 (nI T) (nI O) (nI (P + 1)) (nI 1)]) := hD
              refine lv_aload_n hx hb dX5_reads_175 rfl (lv_at hl 3 rfl) ?_
              refine va_get (D := Γ.1) (ci := 5) (v := .ref (a 4)) (C := RX5) (T := TX5) (N := 10) hx hb hts hi5 hown hK hP 0 rfl rfl 6 (by decide) kf20 (fun _ h9 => h9) rfl dX5_reads_176 ?_
              refine lv_iconst (v := (nI 3)) hx hb dX5_reads_179 (by decide) ?_
              refine lv_aload_n hx hb dX5_reads_180 rfl (lv_at hl 3 rfl) ?_
              refine va_get (D := Γ.1) (ci := 5) (v := .int (nI O)) (C := RX5) (T := TX5) (N := 10) hx hb hts hi5 hown hK hP 0 rfl rfl 7 (by decide) kf125 (fun _ h9 => h9) rfl dX5_reads_181 ?_
              refine lv_imul hx hb dX5_reads_184 ?_
              refine lv_eqi (y := (nI (3 * O))) (pk_mul _ _) ?_
              refine lv_iconst (v := (nI 1)) hx hb dX5_reads_185 (by decide) ?_
              refine lv_iadd hx hb dX5_reads_186 ?_
              refine lv_eqi (y := (nI (3 * O + 1))) (nI_add _ _) ?_
              refine lv_iload_n hx hb dX5_reads_187 rfl (lv_at hl 1 rfl) ?_
              refine va_iast_n (f := (upd md (3 * O) (mt P))) hx hb hK hP hD hS 4 0 rfl rfl (by omega) (Nat.le_of_ble_eq_true rfl) dX5_reads_188 (fun H locs hP hD hS => ?_)
              have hP : va_P Γ.1 vwCl (wcat [moB Γ a ms mt mc (upd (upd md (3 * O) (mt P)) (3 * O + 1) (nI 0)) m0 m1 (nI T) (nI O) (nI (P + 1)) (nI 1)]) H := hP
              have hD : va_D A (wcat [moB Γ a ms mt mc (upd (upd md (3 * O) (mt P)) (3 * O + 1) (nI 0)) m0 m1 (nI T) (nI O) (nI (P + 1)) (nI 1)]) := hD
              refine lv_aload_n hx hb dX5_reads_189 rfl (lv_at hl 3 rfl) ?_
              refine va_get (D := Γ.1) (ci := 5) (v := .ref (a 4)) (C := RX5) (T := TX5) (N := 10) hx hb hts hi5 hown hK hP 0 rfl rfl 6 (by decide) kf20 (fun _ h9 => h9) rfl dX5_reads_190 ?_
              refine lv_iconst (v := (nI 3)) hx hb dX5_reads_193 (by decide) ?_
              refine lv_aload_n hx hb dX5_reads_194 rfl (lv_at hl 3 rfl) ?_
              refine va_get (D := Γ.1) (ci := 5) (v := .int (nI O)) (C := RX5) (T := TX5) (N := 10) hx hb hts hi5 hown hK hP 0 rfl rfl 7 (by decide) kf125 (fun _ h9 => h9) rfl dX5_reads_195 ?_
              refine lv_imul hx hb dX5_reads_198 ?_
              refine lv_eqi (y := (nI (3 * O))) (pk_mul _ _) ?_
              refine lv_iconst (v := (nI 2)) hx hb dX5_reads_199 (by decide) ?_
              refine lv_iadd hx hb dX5_reads_200 ?_
              refine lv_eqi (y := (nI (3 * O + 2))) (nI_add _ _) ?_
              refine lv_iload_n hx hb dX5_reads_201 rfl (lv_at hl 0 rfl) ?_
              refine va_iast_n (f := (upd (upd md (3 * O) (mt P)) (3 * O + 1) (nI 0))) hx hb hK hP hD hS 4 0 rfl rfl (by omega) (Nat.le_of_ble_eq_true rfl) dX5_reads_202 (fun H locs hP hD hS => ?_)
              have hP : va_P Γ.1 vwCl (wcat [moB Γ a ms mt mc (upd (upd (upd md (3 * O) (mt P)) (3 * O + 1) (nI 0)) (3 * O + 2) (nI 0)) m0 m1 (nI T) (nI O) (nI (P + 1)) (nI 1)]) H := hP
              have hD : va_D A (wcat [moB Γ a ms mt mc (upd (upd (upd md (3 * O) (mt P)) (3 * O + 1) (nI 0)) (3 * O + 2) (nI 0)) m0 m1 (nI T) (nI O) (nI (P + 1)) (nI 1)]) := hD
              refine lv_aload_n hx hb dX5_reads_203 rfl (lv_at hl 3 rfl) ?_
              refine lv_dup hx hb dX5_reads_204 rfl ?_
              refine va_get (D := Γ.1) (ci := 5) (v := .int (nI O)) (C := RX5) (T := TX5) (N := 10) hx hb hts hi5 hown hK hP 0 rfl rfl 7 (by decide) kf125 (fun _ h9 => h9) rfl dX5_reads_205 ?_
              refine lv_iconst (v := (nI 1)) hx hb dX5_reads_208 (by decide) ?_
              refine lv_iadd hx hb dX5_reads_209 ?_
              refine lv_eqi (y := (nI (O + 1))) (nI_add _ _) ?_
              refine va_put (D := Γ.1) (ci := 5) (v := .int (nI (O + 1))) (ty := .int) (C := RX5) (T := TX5) (N := 10) hx hb hts hi5 tyX5 tyX5_ok nmX5 hown hK hP hD hS 0 rfl rfl 7 (by decide) kf125 (fun _ h9 => h9) rfl (by decide +kernel) rfl rfl (Nat.le_of_ble_eq_true rfl) dX5_reads_210 (fun H locs hP hD hS => ?_)
              have hP : va_P Γ.1 vwCl (wcat [moB Γ a ms mt mc (upd (upd (upd md (3 * O) (mt P)) (3 * O + 1) (nI 0)) (3 * O + 2) (nI 0)) m0 m1 (nI T) (nI (O + 1)) (nI (P + 1)) (nI 1)]) H := hP
              have hD : va_D A (wcat [moB Γ a ms mt mc (upd (upd (upd md (3 * O) (mt P)) (3 * O + 1) (nI 0)) (3 * O + 2) (nI 0)) m0 m1 (nI T) (nI (O + 1)) (nI (P + 1)) (nI 1)]) := hD
              exact W.vret hx hb hr (fun t ht hW => eMV (by rw [hq]; exact hP) hS ht) hS.2.2 dX5_reads_213
            · have hq := hq.trans (if_neg c_20)
              refine lv_aload_n hx hb dX5_reads_123 rfl (lv_at hl 3 rfl) ?_
              refine cMI (bc' := [moB Γ a ms mt mc md m0 m1 (nI T) (nI O) (nI ((fX5_digit (T) (P + 1) mt (nI 1)).2.1)) (fX5_digit (T) (P + 1) mt (nI 1)).2.2]) (va_runV (As := []) (rest := []) ⟨hx, hb, hml, hown, hts⟩ ((kX5_digit l Γ a (T) (P + 1) ms mt mc md m0 m1 (nI O) (nI 1) (by first | assumption | omega) ((by first | omega | (have hq9 := ltN (a := P) (b := T) (by omega) (by omega) (by assumption); omega)))) _) (cwV 0 hts gX5_reads_X5_digit rfl rfl rfl (by decide +kernel) ⟨Nat.le_of_ble_eq_true rfl, Nat.le_of_ble_eq_true rfl⟩) ⟨wPre_blind, va_recv hK hP (ci := 5) (q0 := 0) rfl rfl, wPre_mk hP hD hK hS hA hAB hAm [0] rfl rfl⟩ rfl rfl hl.1 rfl (lv_room (Nat.le_of_ble_eq_true rfl)) dX5_reads_124 ⟨Nat.zero_le _, Nat.zero_le _⟩) hP hD hS hA [0] rfl rfl (bs' := [moB Γ a ms mt mc md m0 m1 (nI T) (nI O) (nI ((fX5_digit (T) (P + 1) mt (nI 1)).2.1)) (fX5_digit (T) (P + 1) mt (nI 1)).2.2]) rfl (fun H locs hP hD hS => ?_)
              have hfr_21 : (P + 1) ≤ (fX5_digit (T) (P + 1) mt (nI 1)).2.1 ∧ (fX5_digit (T) (P + 1) mt (nI 1)).2.1 ≤ T ∧ ((fX5_digit (T) (P + 1) mt (nI 1)).2.2 = nI 0 ∨ (fX5_digit (T) (P + 1) mt (nI 1)).2.2 = nI 1) := digit_fx hT (by first | omega | (have hq9 := ltN (a := P) (b := T) (by omega) (by omega) (by assumption); omega))
              generalize hr_21 : (fX5_digit (T) (P + 1) mt (nI 1)) = r_21 at hfr_21 hP hD hq ⊢
              replace hq : (fX5_reads T O P mt md m5) = (let r_22 := (fX5_takes (T) ((r_21.2.1)) mt r_21.2.2 (nI 45)); (let r_23 := (fX5_digit (T) ((r_22.1)) mt r_22.2); (if r_23.2.2 = 0 then (md, O, (r_23.2.1), r_23.2.2) else ((upd (upd (upd md (3 * O) (mt P)) (3 * O + 1) r_21.1) (3 * O + 2) r_23.1), O + 1, (r_23.2.1), r_23.2.2)))) := hq
              refine lv_istore_n (lv' := [(2, .int r_21.1), (3, .int (nI 0)), (1, .int (mt P)), (0, .ref (a 0))]) hx hb dX5_reads_127 rfl hl (by decide) rfl (fun ls hl => ?_)
              refine lv_iload_n hx hb dX5_reads_128 rfl (lv_at hl 2 rfl) ?_
              refine lv_bipush (v := (nI 100)) hx hb dX5_reads_129 (by decide) ?_
              refine lv_icmp_eq (tgt := 156) hx hb dX5_reads_131 (by decide) (fun c_131 => absurd c_131 c_11) (fun c_131 => ?_)
              refine lv_aload_n hx hb dX5_reads_134 rfl (lv_at hl 3 rfl) ?_
              refine lv_iload_n hx hb dX5_reads_135 rfl (lv_at hl 2 rfl) ?_
              refine lv_bipush (v := (nI 113)) hx hb dX5_reads_136 (by decide) ?_
              refine lv_icmp_ne (tgt := 146) hx hb dX5_reads_138 (by decide) (fun c_138 => absurd c_18 c_138) (fun c_138 => ?_)
              refine lv_bipush (v := (nI 45)) hx hb dX5_reads_141 (by decide) ?_
              refine lv_goto (tgt := 148) hx hb dX5_reads_143 (by decide) ?_
              refine cMV (bc' := [moB Γ a ms mt mc md m0 m1 (nI T) (nI O) (nI ((fX5_takes (T) ((r_21.2.1)) mt r_21.2.2 (nI 45)).1)) (fX5_takes (T) ((r_21.2.1)) mt r_21.2.2 (nI 45)).2]) (va_runV (As := [.int (nI 45)]) (rest := []) ⟨hx, hb, hml, hown, hts⟩ ((kX5_takes l Γ a (T) ((r_21.2.1)) ms mt mc md m0 m1 (nI O) r_21.2.2 (nI 45) (by first | assumption | omega) ((by first | omega | (have hq9 := ltN (a := P) (b := T) (by omega) (by omega) (by assumption); omega)))) _) (cwV 1 hts gX5_reads_X5_takes rfl rfl rfl (by decide +kernel) ⟨Nat.le_of_ble_eq_true rfl, Nat.le_of_ble_eq_true rfl⟩) ⟨wPre_blind, va_recv hK hP (ci := 5) (q0 := 0) rfl rfl, wPre_mk hP hD hK hS hA hAB hAm [0] rfl rfl⟩ rfl rfl hl.1 rfl (lv_room (Nat.le_of_ble_eq_true rfl)) dX5_reads_148 ⟨Nat.zero_le _, Nat.zero_le _⟩) hP hD hS hA [0] rfl rfl (bs' := [moB Γ a ms mt mc md m0 m1 (nI T) (nI O) (nI ((fX5_takes (T) ((r_21.2.1)) mt r_21.2.2 (nI 45)).1)) (fX5_takes (T) ((r_21.2.1)) mt r_21.2.2 (nI 45)).2]) rfl (fun H locs hP hD hS => ?_)
              have hfr_22 : ((r_21.2.1)) ≤ (fX5_takes (T) ((r_21.2.1)) mt r_21.2.2 (nI 45)).1 ∧ (fX5_takes (T) ((r_21.2.1)) mt r_21.2.2 (nI 45)).1 ≤ T ∧ ((fX5_takes (T) ((r_21.2.1)) mt r_21.2.2 (nI 45)).2 = nI 0 ∨ (fX5_takes (T) ((r_21.2.1)) mt r_21.2.2 (nI 45)).2 = nI 1) ∧ (¬ (fX5_takes (T) ((r_21.2.1)) mt r_21.2.2 (nI 45)).2 = 0 → ((r_21.2.1)) + 1 ≤ (fX5_takes (T) ((r_21.2.1)) mt r_21.2.2 (nI 45)).1) := takes_fx hT (by first | omega | (have hq9 := ltN (a := P) (b := T) (by omega) (by omega) (by assumption); omega))
              generalize hr_22 : (fX5_takes (T) ((r_21.2.1)) mt r_21.2.2 (nI 45)) = r_22 at hfr_22 hP hD hq
              replace hq : (fX5_reads T O P mt md m5) = (let r_23 := (fX5_digit (T) ((r_22.1)) mt r_22.2); (if r_23.2.2 = 0 then (md, O, (r_23.2.1), r_23.2.2) else ((upd (upd (upd md (3 * O) (mt P)) (3 * O + 1) r_21.1) (3 * O + 2) r_23.1), O + 1, (r_23.2.1), r_23.2.2))) := hq
              refine lv_aload_n hx hb dX5_reads_151 rfl (lv_at hl 3 rfl) ?_
              refine cMI (bc' := [moB Γ a ms mt mc md m0 m1 (nI T) (nI O) (nI ((fX5_digit (T) ((r_22.1)) mt r_22.2).2.1)) (fX5_digit (T) ((r_22.1)) mt r_22.2).2.2]) (va_runV (As := []) (rest := []) ⟨hx, hb, hml, hown, hts⟩ ((kX5_digit l Γ a (T) ((r_22.1)) ms mt mc md m0 m1 (nI O) r_22.2 (by first | assumption | omega) ((by first | omega | (have hq9 := ltN (a := P) (b := T) (by omega) (by omega) (by assumption); omega)))) _) (cwV 0 hts gX5_reads_X5_digit rfl rfl rfl (by decide +kernel) ⟨Nat.le_of_ble_eq_true rfl, Nat.le_of_ble_eq_true rfl⟩) ⟨wPre_blind, va_recv hK hP (ci := 5) (q0 := 0) rfl rfl, wPre_mk hP hD hK hS hA hAB hAm [0] rfl rfl⟩ rfl rfl hl.1 rfl (lv_room (Nat.le_of_ble_eq_true rfl)) dX5_reads_152 ⟨Nat.zero_le _, Nat.zero_le _⟩) hP hD hS hA [0] rfl rfl (bs' := [moB Γ a ms mt mc md m0 m1 (nI T) (nI O) (nI ((fX5_digit (T) ((r_22.1)) mt r_22.2).2.1)) (fX5_digit (T) ((r_22.1)) mt r_22.2).2.2]) rfl (fun H locs hP hD hS => ?_)
              have hfr_23 : ((r_22.1)) ≤ (fX5_digit (T) ((r_22.1)) mt r_22.2).2.1 ∧ (fX5_digit (T) ((r_22.1)) mt r_22.2).2.1 ≤ T ∧ ((fX5_digit (T) ((r_22.1)) mt r_22.2).2.2 = nI 0 ∨ (fX5_digit (T) ((r_22.1)) mt r_22.2).2.2 = nI 1) := digit_fx hT (by first | omega | (have hq9 := ltN (a := P) (b := T) (by omega) (by omega) (by assumption); omega))
              generalize hr_23 : (fX5_digit (T) ((r_22.1)) mt r_22.2) = r_23 at hfr_23 hP hD hq ⊢
              replace hq : (fX5_reads T O P mt md m5) = (if r_23.2.2 = 0 then (md, O, (r_23.2.1), r_23.2.2) else ((upd (upd (upd md (3 * O) (mt P)) (3 * O + 1) r_21.1) (3 * O + 2) r_23.1), O + 1, (r_23.2.1), r_23.2.2)) := hq
              refine lv_istore_n (lv' := [(3, .int r_23.1), (2, .int r_21.1), (1, .int (mt P)), (0, .ref (a 0))]) hx hb dX5_reads_155 rfl hl (by decide) rfl (fun ls hl => ?_)
              refine lv_aload_n hx hb dX5_reads_156 rfl (lv_at hl 3 rfl) ?_
              refine va_get (D := Γ.1) (ci := 5) (v := .int r_23.2.2) (C := RX5) (T := TX5) (N := 10) hx hb hts hi5 hown hK hP 0 rfl rfl 9 (by decide) kf104 (fun _ h9 => h9) rfl dX5_reads_157 ?_
              refine lv_if_eq (tgt := 213) hx hb dX5_reads_160 (by decide) (fun c_24 => ?_) (fun c_24 => ?_)
              · have hq := hq.trans (if_pos c_24)
                exact W.vret hx hb hr (fun t ht hW => eMV (by rw [hq]; exact hP) hS ht) hS.2.2 dX5_reads_213
              · have hq := hq.trans (if_neg c_24)
                refine lv_aload_n hx hb dX5_reads_163 rfl (lv_at hl 3 rfl) ?_
                refine va_get (D := Γ.1) (ci := 5) (v := .ref (a 4)) (C := RX5) (T := TX5) (N := 10) hx hb hts hi5 hown hK hP 0 rfl rfl 6 (by decide) kf20 (fun _ h9 => h9) rfl dX5_reads_164 ?_
                refine lv_iconst (v := (nI 3)) hx hb dX5_reads_167 (by decide) ?_
                refine lv_aload_n hx hb dX5_reads_168 rfl (lv_at hl 3 rfl) ?_
                refine va_get (D := Γ.1) (ci := 5) (v := .int (nI O)) (C := RX5) (T := TX5) (N := 10) hx hb hts hi5 hown hK hP 0 rfl rfl 7 (by decide) kf125 (fun _ h9 => h9) rfl dX5_reads_169 ?_
                refine lv_imul hx hb dX5_reads_172 ?_
                refine lv_eqi (y := (nI (3 * O))) (pk_mul _ _) ?_
                refine lv_iload_n hx hb dX5_reads_173 rfl (lv_at hl 2 rfl) ?_
                refine va_iast_n (f := md) hx hb hK hP hD hS 4 0 rfl rfl (by omega) (Nat.le_of_ble_eq_true rfl) dX5_reads_174 (fun H locs hP hD hS => ?_)
                have hP : va_P Γ.1 vwCl (wcat [moB Γ a ms mt mc (upd md (3 * O) (mt P)) m0 m1 (nI T) (nI O) (nI (r_23.2.1)) r_23.2.2]) H := hP
                have hD : va_D A (wcat [moB Γ a ms mt mc (upd md (3 * O) (mt P)) m0 m1 (nI T) (nI O) (nI (r_23.2.1)) r_23.2.2]) := hD
                refine lv_aload_n hx hb dX5_reads_175 rfl (lv_at hl 3 rfl) ?_
                refine va_get (D := Γ.1) (ci := 5) (v := .ref (a 4)) (C := RX5) (T := TX5) (N := 10) hx hb hts hi5 hown hK hP 0 rfl rfl 6 (by decide) kf20 (fun _ h9 => h9) rfl dX5_reads_176 ?_
                refine lv_iconst (v := (nI 3)) hx hb dX5_reads_179 (by decide) ?_
                refine lv_aload_n hx hb dX5_reads_180 rfl (lv_at hl 3 rfl) ?_
                refine va_get (D := Γ.1) (ci := 5) (v := .int (nI O)) (C := RX5) (T := TX5) (N := 10) hx hb hts hi5 hown hK hP 0 rfl rfl 7 (by decide) kf125 (fun _ h9 => h9) rfl dX5_reads_181 ?_
                refine lv_imul hx hb dX5_reads_184 ?_
                refine lv_eqi (y := (nI (3 * O))) (pk_mul _ _) ?_
                refine lv_iconst (v := (nI 1)) hx hb dX5_reads_185 (by decide) ?_
                refine lv_iadd hx hb dX5_reads_186 ?_
                refine lv_eqi (y := (nI (3 * O + 1))) (nI_add _ _) ?_
                refine lv_iload_n hx hb dX5_reads_187 rfl (lv_at hl 1 rfl) ?_
                refine va_iast_n (f := (upd md (3 * O) (mt P))) hx hb hK hP hD hS 4 0 rfl rfl (by omega) (Nat.le_of_ble_eq_true rfl) dX5_reads_188 (fun H locs hP hD hS => ?_)
                have hP : va_P Γ.1 vwCl (wcat [moB Γ a ms mt mc (upd (upd md (3 * O) (mt P)) (3 * O + 1) r_21.1) m0 m1 (nI T) (nI O) (nI (r_23.2.1)) r_23.2.2]) H := hP
                have hD : va_D A (wcat [moB Γ a ms mt mc (upd (upd md (3 * O) (mt P)) (3 * O + 1) r_21.1) m0 m1 (nI T) (nI O) (nI (r_23.2.1)) r_23.2.2]) := hD
                refine lv_aload_n hx hb dX5_reads_189 rfl (lv_at hl 3 rfl) ?_
                refine va_get (D := Γ.1) (ci := 5) (v := .ref (a 4)) (C := RX5) (T := TX5) (N := 10) hx hb hts hi5 hown hK hP 0 rfl rfl 6 (by decide) kf20 (fun _ h9 => h9) rfl dX5_reads_190 ?_
                refine lv_iconst (v := (nI 3)) hx hb dX5_reads_193 (by decide) ?_
                refine lv_aload_n hx hb dX5_reads_194 rfl (lv_at hl 3 rfl) ?_
                refine va_get (D := Γ.1) (ci := 5) (v := .int (nI O)) (C := RX5) (T := TX5) (N := 10) hx hb hts hi5 hown hK hP 0 rfl rfl 7 (by decide) kf125 (fun _ h9 => h9) rfl dX5_reads_195 ?_
                refine lv_imul hx hb dX5_reads_198 ?_
                refine lv_eqi (y := (nI (3 * O))) (pk_mul _ _) ?_
                refine lv_iconst (v := (nI 2)) hx hb dX5_reads_199 (by decide) ?_
                refine lv_iadd hx hb dX5_reads_200 ?_
                refine lv_eqi (y := (nI (3 * O + 2))) (nI_add _ _) ?_
                refine lv_iload_n hx hb dX5_reads_201 rfl (lv_at hl 0 rfl) ?_
                refine va_iast_n (f := (upd (upd md (3 * O) (mt P)) (3 * O + 1) r_21.1)) hx hb hK hP hD hS 4 0 rfl rfl (by omega) (Nat.le_of_ble_eq_true rfl) dX5_reads_202 (fun H locs hP hD hS => ?_)
                have hP : va_P Γ.1 vwCl (wcat [moB Γ a ms mt mc (upd (upd (upd md (3 * O) (mt P)) (3 * O + 1) r_21.1) (3 * O + 2) r_23.1) m0 m1 (nI T) (nI O) (nI (r_23.2.1)) r_23.2.2]) H := hP
                have hD : va_D A (wcat [moB Γ a ms mt mc (upd (upd (upd md (3 * O) (mt P)) (3 * O + 1) r_21.1) (3 * O + 2) r_23.1) m0 m1 (nI T) (nI O) (nI (r_23.2.1)) r_23.2.2]) := hD
                refine lv_aload_n hx hb dX5_reads_203 rfl (lv_at hl 3 rfl) ?_
                refine lv_dup hx hb dX5_reads_204 rfl ?_
                refine va_get (D := Γ.1) (ci := 5) (v := .int (nI O)) (C := RX5) (T := TX5) (N := 10) hx hb hts hi5 hown hK hP 0 rfl rfl 7 (by decide) kf125 (fun _ h9 => h9) rfl dX5_reads_205 ?_
                refine lv_iconst (v := (nI 1)) hx hb dX5_reads_208 (by decide) ?_
                refine lv_iadd hx hb dX5_reads_209 ?_
                refine lv_eqi (y := (nI (O + 1))) (nI_add _ _) ?_
                refine va_put (D := Γ.1) (ci := 5) (v := .int (nI (O + 1))) (ty := .int) (C := RX5) (T := TX5) (N := 10) hx hb hts hi5 tyX5 tyX5_ok nmX5 hown hK hP hD hS 0 rfl rfl 7 (by decide) kf125 (fun _ h9 => h9) rfl (by decide +kernel) rfl rfl (Nat.le_of_ble_eq_true rfl) dX5_reads_210 (fun H locs hP hD hS => ?_)
                have hP : va_P Γ.1 vwCl (wcat [moB Γ a ms mt mc (upd (upd (upd md (3 * O) (mt P)) (3 * O + 1) r_21.1) (3 * O + 2) r_23.1) m0 m1 (nI T) (nI (O + 1)) (nI (r_23.2.1)) r_23.2.2]) H := hP
                have hD : va_D A (wcat [moB Γ a ms mt mc (upd (upd (upd md (3 * O) (mt P)) (3 * O + 1) r_21.1) (3 * O + 2) r_23.1) m0 m1 (nI T) (nI (O + 1)) (nI (r_23.2.1)) r_23.2.2]) := hD
                exact W.vret hx hb hr (fun t ht hW => eMV (by rw [hq]; exact hP) hS ht) hS.2.2 dX5_reads_213
          · have hq := hq.trans (if_pos c_19)
            refine lv_aload_n hx hb dX5_reads_109 rfl (lv_at hl 3 rfl) ?_
            refine cMI (bc' := [moB Γ a ms mt mc md m0 m1 (nI T) (nI O) (nI ((fX5_days (T) (P + 1) mt (nI 1)).2.1)) (fX5_days (T) (P + 1) mt (nI 1)).2.2]) (va_runV (As := []) (rest := []) ⟨hx, hb, hml, hown, hts⟩ ((kX5_days l Γ a (T) (P + 1) ms mt mc md m0 m1 (nI O) (nI 1) (by first | assumption | omega) ((by first | omega | (have hq9 := ltN (a := P) (b := T) (by omega) (by omega) (by assumption); omega)))) _) (cwV 0 hts gX5_reads_X5_days rfl rfl rfl (by decide +kernel) ⟨Nat.le_of_ble_eq_true rfl, Nat.le_of_ble_eq_true rfl⟩) ⟨wPre_blind, va_recv hK hP (ci := 5) (q0 := 0) rfl rfl, wPre_mk hP hD hK hS hA hAB hAm [0] rfl rfl⟩ rfl rfl hl.1 rfl (lv_room (Nat.le_of_ble_eq_true rfl)) dX5_reads_110 ⟨Nat.zero_le _, Nat.zero_le _⟩) hP hD hS hA [0] rfl rfl (bs' := [moB Γ a ms mt mc md m0 m1 (nI T) (nI O) (nI ((fX5_days (T) (P + 1) mt (nI 1)).2.1)) (fX5_days (T) (P + 1) mt (nI 1)).2.2]) rfl (fun H locs hP hD hS => ?_)
            have hfr_25 : (P + 1) ≤ (fX5_days (T) (P + 1) mt (nI 1)).2.1 ∧ (fX5_days (T) (P + 1) mt (nI 1)).2.1 ≤ T ∧ ((fX5_days (T) (P + 1) mt (nI 1)).2.2 = nI 0 ∨ (fX5_days (T) (P + 1) mt (nI 1)).2.2 = nI 1) := days_fx hT (by first | omega | (have hq9 := ltN (a := P) (b := T) (by omega) (by omega) (by assumption); omega))
            generalize hr_25 : (fX5_days (T) (P + 1) mt (nI 1)) = r_25 at hfr_25 hP hD hq ⊢
            replace hq : (fX5_reads T O P mt md m5) = (if r_25.2.2 = 0 then (md, O, (r_25.2.1), r_25.2.2) else ((upd (upd (upd md (3 * O) (mt P)) (3 * O + 1) r_25.1) (3 * O + 2) (nI 0)), O + 1, (r_25.2.1), r_25.2.2)) := hq
            refine lv_istore_n (lv' := [(2, .int r_25.1), (3, .int (nI 0)), (1, .int (mt P)), (0, .ref (a 0))]) hx hb dX5_reads_113 rfl hl (by decide) rfl (fun ls hl => ?_)
            refine lv_goto (tgt := 156) hx hb dX5_reads_114 (by decide) ?_
            refine lv_aload_n hx hb dX5_reads_156 rfl (lv_at hl 3 rfl) ?_
            refine va_get (D := Γ.1) (ci := 5) (v := .int r_25.2.2) (C := RX5) (T := TX5) (N := 10) hx hb hts hi5 hown hK hP 0 rfl rfl 9 (by decide) kf104 (fun _ h9 => h9) rfl dX5_reads_157 ?_
            refine lv_if_eq (tgt := 213) hx hb dX5_reads_160 (by decide) (fun c_26 => ?_) (fun c_26 => ?_)
            · have hq := hq.trans (if_pos c_26)
              exact W.vret hx hb hr (fun t ht hW => eMV (by rw [hq]; exact hP) hS ht) hS.2.2 dX5_reads_213
            · have hq := hq.trans (if_neg c_26)
              refine lv_aload_n hx hb dX5_reads_163 rfl (lv_at hl 3 rfl) ?_
              refine va_get (D := Γ.1) (ci := 5) (v := .ref (a 4)) (C := RX5) (T := TX5) (N := 10) hx hb hts hi5 hown hK hP 0 rfl rfl 6 (by decide) kf20 (fun _ h9 => h9) rfl dX5_reads_164 ?_
              refine lv_iconst (v := (nI 3)) hx hb dX5_reads_167 (by decide) ?_
              refine lv_aload_n hx hb dX5_reads_168 rfl (lv_at hl 3 rfl) ?_
              refine va_get (D := Γ.1) (ci := 5) (v := .int (nI O)) (C := RX5) (T := TX5) (N := 10) hx hb hts hi5 hown hK hP 0 rfl rfl 7 (by decide) kf125 (fun _ h9 => h9) rfl dX5_reads_169 ?_
              refine lv_imul hx hb dX5_reads_172 ?_
              refine lv_eqi (y := (nI (3 * O))) (pk_mul _ _) ?_
              refine lv_iload_n hx hb dX5_reads_173 rfl (lv_at hl 2 rfl) ?_
              refine va_iast_n (f := md) hx hb hK hP hD hS 4 0 rfl rfl (by omega) (Nat.le_of_ble_eq_true rfl) dX5_reads_174 (fun H locs hP hD hS => ?_)
              have hP : va_P Γ.1 vwCl (wcat [moB Γ a ms mt mc (upd md (3 * O) (mt P)) m0 m1 (nI T) (nI O) (nI (r_25.2.1)) r_25.2.2]) H := hP
              have hD : va_D A (wcat [moB Γ a ms mt mc (upd md (3 * O) (mt P)) m0 m1 (nI T) (nI O) (nI (r_25.2.1)) r_25.2.2]) := hD
              refine lv_aload_n hx hb dX5_reads_175 rfl (lv_at hl 3 rfl) ?_
              refine va_get (D := Γ.1) (ci := 5) (v := .ref (a 4)) (C := RX5) (T := TX5) (N := 10) hx hb hts hi5 hown hK hP 0 rfl rfl 6 (by decide) kf20 (fun _ h9 => h9) rfl dX5_reads_176 ?_
              refine lv_iconst (v := (nI 3)) hx hb dX5_reads_179 (by decide) ?_
              refine lv_aload_n hx hb dX5_reads_180 rfl (lv_at hl 3 rfl) ?_
              refine va_get (D := Γ.1) (ci := 5) (v := .int (nI O)) (C := RX5) (T := TX5) (N := 10) hx hb hts hi5 hown hK hP 0 rfl rfl 7 (by decide) kf125 (fun _ h9 => h9) rfl dX5_reads_181 ?_
              refine lv_imul hx hb dX5_reads_184 ?_
              refine lv_eqi (y := (nI (3 * O))) (pk_mul _ _) ?_
              refine lv_iconst (v := (nI 1)) hx hb dX5_reads_185 (by decide) ?_
              refine lv_iadd hx hb dX5_reads_186 ?_
              refine lv_eqi (y := (nI (3 * O + 1))) (nI_add _ _) ?_
              refine lv_iload_n hx hb dX5_reads_187 rfl (lv_at hl 0 rfl) ?_
              refine va_iast_n (f := (upd md (3 * O) (mt P))) hx hb hK hP hD hS 4 0 rfl rfl (by omega) (Nat.le_of_ble_eq_true rfl) dX5_reads_188 (fun H locs hP hD hS => ?_)
              have hP : va_P Γ.1 vwCl (wcat [moB Γ a ms mt mc (upd (upd md (3 * O) (mt P)) (3 * O + 1) r_25.1) m0 m1 (nI T) (nI O) (nI (r_25.2.1)) r_25.2.2]) H := hP
              have hD : va_D A (wcat [moB Γ a ms mt mc (upd (upd md (3 * O) (mt P)) (3 * O + 1) r_25.1) m0 m1 (nI T) (nI O) (nI (r_25.2.1)) r_25.2.2]) := hD
              refine lv_aload_n hx hb dX5_reads_189 rfl (lv_at hl 3 rfl) ?_
              refine va_get (D := Γ.1) (ci := 5) (v := .ref (a 4)) (C := RX5) (T := TX5) (N := 10) hx hb hts hi5 hown hK hP 0 rfl rfl 6 (by decide) kf20 (fun _ h9 => h9) rfl dX5_reads_190 ?_
              refine lv_iconst (v := (nI 3)) hx hb dX5_reads_193 (by decide) ?_
              refine lv_aload_n hx hb dX5_reads_194 rfl (lv_at hl 3 rfl) ?_
              refine va_get (D := Γ.1) (ci := 5) (v := .int (nI O)) (C := RX5) (T := TX5) (N := 10) hx hb hts hi5 hown hK hP 0 rfl rfl 7 (by decide) kf125 (fun _ h9 => h9) rfl dX5_reads_195 ?_
              refine lv_imul hx hb dX5_reads_198 ?_
              refine lv_eqi (y := (nI (3 * O))) (pk_mul _ _) ?_
              refine lv_iconst (v := (nI 2)) hx hb dX5_reads_199 (by decide) ?_
              refine lv_iadd hx hb dX5_reads_200 ?_
              refine lv_eqi (y := (nI (3 * O + 2))) (nI_add _ _) ?_
              refine lv_iload_n hx hb dX5_reads_201 rfl (lv_at hl 1 rfl) ?_
              refine va_iast_n (f := (upd (upd md (3 * O) (mt P)) (3 * O + 1) r_25.1)) hx hb hK hP hD hS 4 0 rfl rfl (by omega) (Nat.le_of_ble_eq_true rfl) dX5_reads_202 (fun H locs hP hD hS => ?_)
              have hP : va_P Γ.1 vwCl (wcat [moB Γ a ms mt mc (upd (upd (upd md (3 * O) (mt P)) (3 * O + 1) r_25.1) (3 * O + 2) (nI 0)) m0 m1 (nI T) (nI O) (nI (r_25.2.1)) r_25.2.2]) H := hP
              have hD : va_D A (wcat [moB Γ a ms mt mc (upd (upd (upd md (3 * O) (mt P)) (3 * O + 1) r_25.1) (3 * O + 2) (nI 0)) m0 m1 (nI T) (nI O) (nI (r_25.2.1)) r_25.2.2]) := hD
              refine lv_aload_n hx hb dX5_reads_203 rfl (lv_at hl 3 rfl) ?_
              refine lv_dup hx hb dX5_reads_204 rfl ?_
              refine va_get (D := Γ.1) (ci := 5) (v := .int (nI O)) (C := RX5) (T := TX5) (N := 10) hx hb hts hi5 hown hK hP 0 rfl rfl 7 (by decide) kf125 (fun _ h9 => h9) rfl dX5_reads_205 ?_
              refine lv_iconst (v := (nI 1)) hx hb dX5_reads_208 (by decide) ?_
              refine lv_iadd hx hb dX5_reads_209 ?_
              refine lv_eqi (y := (nI (O + 1))) (nI_add _ _) ?_
              refine va_put (D := Γ.1) (ci := 5) (v := .int (nI (O + 1))) (ty := .int) (C := RX5) (T := TX5) (N := 10) hx hb hts hi5 tyX5 tyX5_ok nmX5 hown hK hP hD hS 0 rfl rfl 7 (by decide) kf125 (fun _ h9 => h9) rfl (by decide +kernel) rfl rfl (Nat.le_of_ble_eq_true rfl) dX5_reads_210 (fun H locs hP hD hS => ?_)
              have hP : va_P Γ.1 vwCl (wcat [moB Γ a ms mt mc (upd (upd (upd md (3 * O) (mt P)) (3 * O + 1) r_25.1) (3 * O + 2) (nI 0)) m0 m1 (nI T) (nI (O + 1)) (nI (r_25.2.1)) r_25.2.2]) H := hP
              have hD : va_D A (wcat [moB Γ a ms mt mc (upd (upd (upd md (3 * O) (mt P)) (3 * O + 1) r_25.1) (3 * O + 2) (nI 0)) m0 m1 (nI T) (nI (O + 1)) (nI (r_25.2.1)) r_25.2.2]) := hD
              exact W.vret hx hb hr (fun t ht hW => eMV (by rw [hq]; exact hP) hS ht) hS.2.2 dX5_reads_213
        · have hq := hq.trans (if_neg c_18)
          refine lv_iload_n hx hb dX5_reads_52 rfl (lv_at hl 0 rfl) ?_
          refine lv_bipush (v := (nI 104)) hx hb dX5_reads_53 (by decide) ?_
          refine lv_icmp_eq (tgt := 70) hx hb dX5_reads_55 (by decide) (fun c_27 => ?_) (fun c_27 => ?_)
          · have hq := hq.trans (if_pos c_27)
            refine lv_iconst (v := (nI 1)) hx hb dX5_reads_70 (by decide) ?_
            refine lv_goto (tgt := 75) hx hb dX5_reads_71 (by decide) ?_
            refine va_put (D := Γ.1) (ci := 5) (v := .int (nI 1)) (ty := .boolean) (C := RX5) (T := TX5) (N := 10) hx hb hts hi5 tyX5 tyX5_ok nmX5 hown hK hP hD hS 0 rfl rfl 9 (by decide) kf104 (fun _ h9 => h9) rfl (by decide +kernel) rfl rfl (Nat.le_of_ble_eq_true rfl) dX5_reads_75 (fun H locs hP hD hS => ?_)
            have hP : va_P Γ.1 vwCl (wcat [moB Γ a ms mt mc md m0 m1 (nI T) (nI O) (nI P) (nI 1)]) H := hP
            have hD : va_D A (wcat [moB Γ a ms mt mc md m0 m1 (nI T) (nI O) (nI P) (nI 1)]) := hD
            refine lv_aload_n hx hb dX5_reads_78 rfl (lv_at hl 1 rfl) ?_
            refine lv_dup hx hb dX5_reads_79 rfl ?_
            refine va_get (D := Γ.1) (ci := 5) (v := .int (nI P)) (C := RX5) (T := TX5) (N := 10) hx hb hts hi5 hown hK hP 0 rfl rfl 8 (by decide) kf108 (fun _ h9 => h9) rfl dX5_reads_80 ?_
            refine lv_aload_n hx hb dX5_reads_83 rfl (lv_at hl 1 rfl) ?_
            refine va_get (D := Γ.1) (ci := 5) (v := .int (nI 1)) (C := RX5) (T := TX5) (N := 10) hx hb hts hi5 hown hK hP 0 rfl rfl 9 (by decide) kf104 (fun _ h9 => h9) rfl dX5_reads_84 ?_
            refine lv_if_eq (tgt := 94) hx hb dX5_reads_87 (by decide) (fun c_87 => absurd c_87 (by decide)) (fun c_87 => ?_)
            refine lv_iconst (v := (nI 1)) hx hb dX5_reads_90 (by decide) ?_
            refine lv_goto (tgt := 95) hx hb dX5_reads_91 (by decide) ?_
            refine lv_iadd hx hb dX5_reads_95 ?_
            refine lv_eqi (y := (nI (P + 1))) (nI_add _ _) ?_
            refine va_put (D := Γ.1) (ci := 5) (v := .int (nI (P + 1))) (ty := .int) (C := RX5) (T := TX5) (N := 10) hx hb hts hi5 tyX5 tyX5_ok nmX5 hown hK hP hD hS 0 rfl rfl 8 (by decide) kf108 (fun _ h9 => h9) rfl (by decide +kernel) rfl rfl (Nat.le_of_ble_eq_true rfl) dX5_reads_96 (fun H locs hP hD hS => ?_)
            have hP : va_P Γ.1 vwCl (wcat [moB Γ a ms mt mc md m0 m1 (nI T) (nI O) (nI (P + 1)) (nI 1)]) H := hP
            have hD : va_D A (wcat [moB Γ a ms mt mc md m0 m1 (nI T) (nI O) (nI (P + 1)) (nI 1)]) := hD
            refine lv_iconst (v := (nI 0)) hx hb dX5_reads_99 (by decide) ?_
            refine lv_istore_n (lv' := [(2, .int (nI 0)), (1, .int (mt P)), (0, .ref (a 0))]) hx hb dX5_reads_100 rfl hl (by decide) rfl (fun ls hl => ?_)
            refine lv_iconst (v := (nI 0)) hx hb dX5_reads_101 (by decide) ?_
            refine lv_istore_n (lv' := [(3, .int (nI 0)), (2, .int (nI 0)), (1, .int (mt P)), (0, .ref (a 0))]) hx hb dX5_reads_102 rfl hl (by decide) rfl (fun ls hl => ?_)
            refine lv_iload_n hx hb dX5_reads_103 rfl (lv_at hl 2 rfl) ?_
            refine lv_bipush (v := (nI 116)) hx hb dX5_reads_104 (by decide) ?_
            refine lv_icmp_ne (tgt := 117) hx hb dX5_reads_106 (by decide) (fun c_28 => ?_) (fun c_28 => ?_)
            · have hq := hq.trans (if_neg c_28)
              refine lv_iload_n hx hb dX5_reads_117 rfl (lv_at hl 2 rfl) ?_
              refine lv_bipush (v := (nI 114)) hx hb dX5_reads_118 (by decide) ?_
              refine lv_icmp_eq (tgt := 156) hx hb dX5_reads_120 (by decide) (fun c_29 => ?_) (fun c_29 => ?_)
              · have hq := hq.trans (if_pos c_29)
                refine lv_aload_n hx hb dX5_reads_156 rfl (lv_at hl 3 rfl) ?_
                refine va_get (D := Γ.1) (ci := 5) (v := .int (nI 1)) (C := RX5) (T := TX5) (N := 10) hx hb hts hi5 hown hK hP 0 rfl rfl 9 (by decide) kf104 (fun _ h9 => h9) rfl dX5_reads_157 ?_
                refine lv_if_eq (tgt := 213) hx hb dX5_reads_160 (by decide) (fun c_160 => absurd c_160 (by decide)) (fun c_160 => ?_)
                refine lv_aload_n hx hb dX5_reads_163 rfl (lv_at hl 3 rfl) ?_
                refine va_get (D := Γ.1) (ci := 5) (v := .ref (a 4)) (C := RX5) (T := TX5) (N := 10) hx hb hts hi5 hown hK hP 0 rfl rfl 6 (by decide) kf20 (fun _ h9 => h9) rfl dX5_reads_164 ?_
                refine lv_iconst (v := (nI 3)) hx hb dX5_reads_167 (by decide) ?_
                refine lv_aload_n hx hb dX5_reads_168 rfl (lv_at hl 3 rfl) ?_
                refine va_get (D := Γ.1) (ci := 5) (v := .int (nI O)) (C := RX5) (T := TX5) (N := 10) hx hb hts hi5 hown hK hP 0 rfl rfl 7 (by decide) kf125 (fun _ h9 => h9) rfl dX5_reads_169 ?_
                refine lv_imul hx hb dX5_reads_172 ?_
                refine lv_eqi (y := (nI (3 * O))) (pk_mul _ _) ?_
                refine lv_iload_n hx hb dX5_reads_173 rfl (lv_at hl 2 rfl) ?_
                refine va_iast_n (f := md) hx hb hK hP hD hS 4 0 rfl rfl (by omega) (Nat.le_of_ble_eq_true rfl) dX5_reads_174 (fun H locs hP hD hS => ?_)
                have hP : va_P Γ.1 vwCl (wcat [moB Γ a ms mt mc (upd md (3 * O) (mt P)) m0 m1 (nI T) (nI O) (nI (P + 1)) (nI 1)]) H := hP
                have hD : va_D A (wcat [moB Γ a ms mt mc (upd md (3 * O) (mt P)) m0 m1 (nI T) (nI O) (nI (P + 1)) (nI 1)]) := hD
                refine lv_aload_n hx hb dX5_reads_175 rfl (lv_at hl 3 rfl) ?_
                refine va_get (D := Γ.1) (ci := 5) (v := .ref (a 4)) (C := RX5) (T := TX5) (N := 10) hx hb hts hi5 hown hK hP 0 rfl rfl 6 (by decide) kf20 (fun _ h9 => h9) rfl dX5_reads_176 ?_
                refine lv_iconst (v := (nI 3)) hx hb dX5_reads_179 (by decide) ?_
                refine lv_aload_n hx hb dX5_reads_180 rfl (lv_at hl 3 rfl) ?_
                refine va_get (D := Γ.1) (ci := 5) (v := .int (nI O)) (C := RX5) (T := TX5) (N := 10) hx hb hts hi5 hown hK hP 0 rfl rfl 7 (by decide) kf125 (fun _ h9 => h9) rfl dX5_reads_181 ?_
                refine lv_imul hx hb dX5_reads_184 ?_
                refine lv_eqi (y := (nI (3 * O))) (pk_mul _ _) ?_
                refine lv_iconst (v := (nI 1)) hx hb dX5_reads_185 (by decide) ?_
                refine lv_iadd hx hb dX5_reads_186 ?_
                refine lv_eqi (y := (nI (3 * O + 1))) (nI_add _ _) ?_
                refine lv_iload_n hx hb dX5_reads_187 rfl (lv_at hl 1 rfl) ?_
                refine va_iast_n (f := (upd md (3 * O) (mt P))) hx hb hK hP hD hS 4 0 rfl rfl (by omega) (Nat.le_of_ble_eq_true rfl) dX5_reads_188 (fun H locs hP hD hS => ?_)
                have hP : va_P Γ.1 vwCl (wcat [moB Γ a ms mt mc (upd (upd md (3 * O) (mt P)) (3 * O + 1) (nI 0)) m0 m1 (nI T) (nI O) (nI (P + 1)) (nI 1)]) H := hP
                have hD : va_D A (wcat [moB Γ a ms mt mc (upd (upd md (3 * O) (mt P)) (3 * O + 1) (nI 0)) m0 m1 (nI T) (nI O) (nI (P + 1)) (nI 1)]) := hD
                refine lv_aload_n hx hb dX5_reads_189 rfl (lv_at hl 3 rfl) ?_
                refine va_get (D := Γ.1) (ci := 5) (v := .ref (a 4)) (C := RX5) (T := TX5) (N := 10) hx hb hts hi5 hown hK hP 0 rfl rfl 6 (by decide) kf20 (fun _ h9 => h9) rfl dX5_reads_190 ?_
                refine lv_iconst (v := (nI 3)) hx hb dX5_reads_193 (by decide) ?_
                refine lv_aload_n hx hb dX5_reads_194 rfl (lv_at hl 3 rfl) ?_
                refine va_get (D := Γ.1) (ci := 5) (v := .int (nI O)) (C := RX5) (T := TX5) (N := 10) hx hb hts hi5 hown hK hP 0 rfl rfl 7 (by decide) kf125 (fun _ h9 => h9) rfl dX5_reads_195 ?_
                refine lv_imul hx hb dX5_reads_198 ?_
                refine lv_eqi (y := (nI (3 * O))) (pk_mul _ _) ?_
                refine lv_iconst (v := (nI 2)) hx hb dX5_reads_199 (by decide) ?_
                refine lv_iadd hx hb dX5_reads_200 ?_
                refine lv_eqi (y := (nI (3 * O + 2))) (nI_add _ _) ?_
                refine lv_iload_n hx hb dX5_reads_201 rfl (lv_at hl 0 rfl) ?_
                refine va_iast_n (f := (upd (upd md (3 * O) (mt P)) (3 * O + 1) (nI 0))) hx hb hK hP hD hS 4 0 rfl rfl (by omega) (Nat.le_of_ble_eq_true rfl) dX5_reads_202 (fun H locs hP hD hS => ?_)
                have hP : va_P Γ.1 vwCl (wcat [moB Γ a ms mt mc (upd (upd (upd md (3 * O) (mt P)) (3 * O + 1) (nI 0)) (3 * O + 2) (nI 0)) m0 m1 (nI T) (nI O) (nI (P + 1)) (nI 1)]) H := hP
                have hD : va_D A (wcat [moB Γ a ms mt mc (upd (upd (upd md (3 * O) (mt P)) (3 * O + 1) (nI 0)) (3 * O + 2) (nI 0)) m0 m1 (nI T) (nI O) (nI (P + 1)) (nI 1)]) := hD
                refine lv_aload_n hx hb dX5_reads_203 rfl (lv_at hl 3 rfl) ?_
                refine lv_dup hx hb dX5_reads_204 rfl ?_
                refine va_get (D := Γ.1) (ci := 5) (v := .int (nI O)) (C := RX5) (T := TX5) (N := 10) hx hb hts hi5 hown hK hP 0 rfl rfl 7 (by decide) kf125 (fun _ h9 => h9) rfl dX5_reads_205 ?_
                refine lv_iconst (v := (nI 1)) hx hb dX5_reads_208 (by decide) ?_
                refine lv_iadd hx hb dX5_reads_209 ?_
                refine lv_eqi (y := (nI (O + 1))) (nI_add _ _) ?_
                refine va_put (D := Γ.1) (ci := 5) (v := .int (nI (O + 1))) (ty := .int) (C := RX5) (T := TX5) (N := 10) hx hb hts hi5 tyX5 tyX5_ok nmX5 hown hK hP hD hS 0 rfl rfl 7 (by decide) kf125 (fun _ h9 => h9) rfl (by decide +kernel) rfl rfl (Nat.le_of_ble_eq_true rfl) dX5_reads_210 (fun H locs hP hD hS => ?_)
                have hP : va_P Γ.1 vwCl (wcat [moB Γ a ms mt mc (upd (upd (upd md (3 * O) (mt P)) (3 * O + 1) (nI 0)) (3 * O + 2) (nI 0)) m0 m1 (nI T) (nI (O + 1)) (nI (P + 1)) (nI 1)]) H := hP
                have hD : va_D A (wcat [moB Γ a ms mt mc (upd (upd (upd md (3 * O) (mt P)) (3 * O + 1) (nI 0)) (3 * O + 2) (nI 0)) m0 m1 (nI T) (nI (O + 1)) (nI (P + 1)) (nI 1)]) := hD
                exact W.vret hx hb hr (fun t ht hW => eMV (by rw [hq]; exact hP) hS ht) hS.2.2 dX5_reads_213
              · have hq := hq.trans (if_neg c_29)
                refine lv_aload_n hx hb dX5_reads_123 rfl (lv_at hl 3 rfl) ?_
                refine cMI (bc' := [moB Γ a ms mt mc md m0 m1 (nI T) (nI O) (nI ((fX5_digit (T) (P + 1) mt (nI 1)).2.1)) (fX5_digit (T) (P + 1) mt (nI 1)).2.2]) (va_runV (As := []) (rest := []) ⟨hx, hb, hml, hown, hts⟩ ((kX5_digit l Γ a (T) (P + 1) ms mt mc md m0 m1 (nI O) (nI 1) (by first | assumption | omega) ((by first | omega | (have hq9 := ltN (a := P) (b := T) (by omega) (by omega) (by assumption); omega)))) _) (cwV 0 hts gX5_reads_X5_digit rfl rfl rfl (by decide +kernel) ⟨Nat.le_of_ble_eq_true rfl, Nat.le_of_ble_eq_true rfl⟩) ⟨wPre_blind, va_recv hK hP (ci := 5) (q0 := 0) rfl rfl, wPre_mk hP hD hK hS hA hAB hAm [0] rfl rfl⟩ rfl rfl hl.1 rfl (lv_room (Nat.le_of_ble_eq_true rfl)) dX5_reads_124 ⟨Nat.zero_le _, Nat.zero_le _⟩) hP hD hS hA [0] rfl rfl (bs' := [moB Γ a ms mt mc md m0 m1 (nI T) (nI O) (nI ((fX5_digit (T) (P + 1) mt (nI 1)).2.1)) (fX5_digit (T) (P + 1) mt (nI 1)).2.2]) rfl (fun H locs hP hD hS => ?_)
                have hfr_30 : (P + 1) ≤ (fX5_digit (T) (P + 1) mt (nI 1)).2.1 ∧ (fX5_digit (T) (P + 1) mt (nI 1)).2.1 ≤ T ∧ ((fX5_digit (T) (P + 1) mt (nI 1)).2.2 = nI 0 ∨ (fX5_digit (T) (P + 1) mt (nI 1)).2.2 = nI 1) := digit_fx hT (by first | omega | (have hq9 := ltN (a := P) (b := T) (by omega) (by omega) (by assumption); omega))
                generalize hr_30 : (fX5_digit (T) (P + 1) mt (nI 1)) = r_30 at hfr_30 hP hD hq ⊢
                replace hq : (fX5_reads T O P mt md m5) = (let r_31 := (fX5_takes (T) ((r_30.2.1)) mt r_30.2.2 (nI 62)); (let r_32 := (fX5_digit (T) ((r_31.1)) mt r_31.2); (if r_32.2.2 = 0 then (md, O, (r_32.2.1), r_32.2.2) else ((upd (upd (upd md (3 * O) (mt P)) (3 * O + 1) r_30.1) (3 * O + 2) r_32.1), O + 1, (r_32.2.1), r_32.2.2)))) := hq
                refine lv_istore_n (lv' := [(2, .int r_30.1), (3, .int (nI 0)), (1, .int (mt P)), (0, .ref (a 0))]) hx hb dX5_reads_127 rfl hl (by decide) rfl (fun ls hl => ?_)
                refine lv_iload_n hx hb dX5_reads_128 rfl (lv_at hl 2 rfl) ?_
                refine lv_bipush (v := (nI 100)) hx hb dX5_reads_129 (by decide) ?_
                refine lv_icmp_eq (tgt := 156) hx hb dX5_reads_131 (by decide) (fun c_131 => absurd c_131 c_11) (fun c_131 => ?_)
                refine lv_aload_n hx hb dX5_reads_134 rfl (lv_at hl 3 rfl) ?_
                refine lv_iload_n hx hb dX5_reads_135 rfl (lv_at hl 2 rfl) ?_
                refine lv_bipush (v := (nI 113)) hx hb dX5_reads_136 (by decide) ?_
                refine lv_icmp_ne (tgt := 146) hx hb dX5_reads_138 (by decide) (fun c_138 => ?_) (fun c_138 => absurd c_138 c_18)
                refine lv_bipush (v := (nI 62)) hx hb dX5_reads_146 (by decide) ?_
                refine cMV (bc' := [moB Γ a ms mt mc md m0 m1 (nI T) (nI O) (nI ((fX5_takes (T) ((r_30.2.1)) mt r_30.2.2 (nI 62)).1)) (fX5_takes (T) ((r_30.2.1)) mt r_30.2.2 (nI 62)).2]) (va_runV (As := [.int (nI 62)]) (rest := []) ⟨hx, hb, hml, hown, hts⟩ ((kX5_takes l Γ a (T) ((r_30.2.1)) ms mt mc md m0 m1 (nI O) r_30.2.2 (nI 62) (by first | assumption | omega) ((by first | omega | (have hq9 := ltN (a := P) (b := T) (by omega) (by omega) (by assumption); omega)))) _) (cwV 1 hts gX5_reads_X5_takes rfl rfl rfl (by decide +kernel) ⟨Nat.le_of_ble_eq_true rfl, Nat.le_of_ble_eq_true rfl⟩) ⟨wPre_blind, va_recv hK hP (ci := 5) (q0 := 0) rfl rfl, wPre_mk hP hD hK hS hA hAB hAm [0] rfl rfl⟩ rfl rfl hl.1 rfl (lv_room (Nat.le_of_ble_eq_true rfl)) dX5_reads_148 ⟨Nat.zero_le _, Nat.zero_le _⟩) hP hD hS hA [0] rfl rfl (bs' := [moB Γ a ms mt mc md m0 m1 (nI T) (nI O) (nI ((fX5_takes (T) ((r_30.2.1)) mt r_30.2.2 (nI 62)).1)) (fX5_takes (T) ((r_30.2.1)) mt r_30.2.2 (nI 62)).2]) rfl (fun H locs hP hD hS => ?_)
                have hfr_31 : ((r_30.2.1)) ≤ (fX5_takes (T) ((r_30.2.1)) mt r_30.2.2 (nI 62)).1 ∧ (fX5_takes (T) ((r_30.2.1)) mt r_30.2.2 (nI 62)).1 ≤ T ∧ ((fX5_takes (T) ((r_30.2.1)) mt r_30.2.2 (nI 62)).2 = nI 0 ∨ (fX5_takes (T) ((r_30.2.1)) mt r_30.2.2 (nI 62)).2 = nI 1) ∧ (¬ (fX5_takes (T) ((r_30.2.1)) mt r_30.2.2 (nI 62)).2 = 0 → ((r_30.2.1)) + 1 ≤ (fX5_takes (T) ((r_30.2.1)) mt r_30.2.2 (nI 62)).1) := takes_fx hT (by first | omega | (have hq9 := ltN (a := P) (b := T) (by omega) (by omega) (by assumption); omega))
                generalize hr_31 : (fX5_takes (T) ((r_30.2.1)) mt r_30.2.2 (nI 62)) = r_31 at hfr_31 hP hD hq
                replace hq : (fX5_reads T O P mt md m5) = (let r_32 := (fX5_digit (T) ((r_31.1)) mt r_31.2); (if r_32.2.2 = 0 then (md, O, (r_32.2.1), r_32.2.2) else ((upd (upd (upd md (3 * O) (mt P)) (3 * O + 1) r_30.1) (3 * O + 2) r_32.1), O + 1, (r_32.2.1), r_32.2.2))) := hq
                refine lv_aload_n hx hb dX5_reads_151 rfl (lv_at hl 3 rfl) ?_
                refine cMI (bc' := [moB Γ a ms mt mc md m0 m1 (nI T) (nI O) (nI ((fX5_digit (T) ((r_31.1)) mt r_31.2).2.1)) (fX5_digit (T) ((r_31.1)) mt r_31.2).2.2]) (va_runV (As := []) (rest := []) ⟨hx, hb, hml, hown, hts⟩ ((kX5_digit l Γ a (T) ((r_31.1)) ms mt mc md m0 m1 (nI O) r_31.2 (by first | assumption | omega) ((by first | omega | (have hq9 := ltN (a := P) (b := T) (by omega) (by omega) (by assumption); omega)))) _) (cwV 0 hts gX5_reads_X5_digit rfl rfl rfl (by decide +kernel) ⟨Nat.le_of_ble_eq_true rfl, Nat.le_of_ble_eq_true rfl⟩) ⟨wPre_blind, va_recv hK hP (ci := 5) (q0 := 0) rfl rfl, wPre_mk hP hD hK hS hA hAB hAm [0] rfl rfl⟩ rfl rfl hl.1 rfl (lv_room (Nat.le_of_ble_eq_true rfl)) dX5_reads_152 ⟨Nat.zero_le _, Nat.zero_le _⟩) hP hD hS hA [0] rfl rfl (bs' := [moB Γ a ms mt mc md m0 m1 (nI T) (nI O) (nI ((fX5_digit (T) ((r_31.1)) mt r_31.2).2.1)) (fX5_digit (T) ((r_31.1)) mt r_31.2).2.2]) rfl (fun H locs hP hD hS => ?_)
                have hfr_32 : ((r_31.1)) ≤ (fX5_digit (T) ((r_31.1)) mt r_31.2).2.1 ∧ (fX5_digit (T) ((r_31.1)) mt r_31.2).2.1 ≤ T ∧ ((fX5_digit (T) ((r_31.1)) mt r_31.2).2.2 = nI 0 ∨ (fX5_digit (T) ((r_31.1)) mt r_31.2).2.2 = nI 1) := digit_fx hT (by first | omega | (have hq9 := ltN (a := P) (b := T) (by omega) (by omega) (by assumption); omega))
                generalize hr_32 : (fX5_digit (T) ((r_31.1)) mt r_31.2) = r_32 at hfr_32 hP hD hq ⊢
                replace hq : (fX5_reads T O P mt md m5) = (if r_32.2.2 = 0 then (md, O, (r_32.2.1), r_32.2.2) else ((upd (upd (upd md (3 * O) (mt P)) (3 * O + 1) r_30.1) (3 * O + 2) r_32.1), O + 1, (r_32.2.1), r_32.2.2)) := hq
                refine lv_istore_n (lv' := [(3, .int r_32.1), (2, .int r_30.1), (1, .int (mt P)), (0, .ref (a 0))]) hx hb dX5_reads_155 rfl hl (by decide) rfl (fun ls hl => ?_)
                refine lv_aload_n hx hb dX5_reads_156 rfl (lv_at hl 3 rfl) ?_
                refine va_get (D := Γ.1) (ci := 5) (v := .int r_32.2.2) (C := RX5) (T := TX5) (N := 10) hx hb hts hi5 hown hK hP 0 rfl rfl 9 (by decide) kf104 (fun _ h9 => h9) rfl dX5_reads_157 ?_
                refine lv_if_eq (tgt := 213) hx hb dX5_reads_160 (by decide) (fun c_33 => ?_) (fun c_33 => ?_)
                · have hq := hq.trans (if_pos c_33)
                  exact W.vret hx hb hr (fun t ht hW => eMV (by rw [hq]; exact hP) hS ht) hS.2.2 dX5_reads_213
                · have hq := hq.trans (if_neg c_33)
                  refine lv_aload_n hx hb dX5_reads_163 rfl (lv_at hl 3 rfl) ?_
                  refine va_get (D := Γ.1) (ci := 5) (v := .ref (a 4)) (C := RX5) (T := TX5) (N := 10) hx hb hts hi5 hown hK hP 0 rfl rfl 6 (by decide) kf20 (fun _ h9 => h9) rfl dX5_reads_164 ?_
                  refine lv_iconst (v := (nI 3)) hx hb dX5_reads_167 (by decide) ?_
                  refine lv_aload_n hx hb dX5_reads_168 rfl (lv_at hl 3 rfl) ?_
                  refine va_get (D := Γ.1) (ci := 5) (v := .int (nI O)) (C := RX5) (T := TX5) (N := 10) hx hb hts hi5 hown hK hP 0 rfl rfl 7 (by decide) kf125 (fun _ h9 => h9) rfl dX5_reads_169 ?_
                  refine lv_imul hx hb dX5_reads_172 ?_
                  refine lv_eqi (y := (nI (3 * O))) (pk_mul _ _) ?_
                  refine lv_iload_n hx hb dX5_reads_173 rfl (lv_at hl 2 rfl) ?_
                  refine va_iast_n (f := md) hx hb hK hP hD hS 4 0 rfl rfl (by omega) (Nat.le_of_ble_eq_true rfl) dX5_reads_174 (fun H locs hP hD hS => ?_)
                  have hP : va_P Γ.1 vwCl (wcat [moB Γ a ms mt mc (upd md (3 * O) (mt P)) m0 m1 (nI T) (nI O) (nI (r_32.2.1)) r_32.2.2]) H := hP
                  have hD : va_D A (wcat [moB Γ a ms mt mc (upd md (3 * O) (mt P)) m0 m1 (nI T) (nI O) (nI (r_32.2.1)) r_32.2.2]) := hD
                  refine lv_aload_n hx hb dX5_reads_175 rfl (lv_at hl 3 rfl) ?_
                  refine va_get (D := Γ.1) (ci := 5) (v := .ref (a 4)) (C := RX5) (T := TX5) (N := 10) hx hb hts hi5 hown hK hP 0 rfl rfl 6 (by decide) kf20 (fun _ h9 => h9) rfl dX5_reads_176 ?_
                  refine lv_iconst (v := (nI 3)) hx hb dX5_reads_179 (by decide) ?_
                  refine lv_aload_n hx hb dX5_reads_180 rfl (lv_at hl 3 rfl) ?_
                  refine va_get (D := Γ.1) (ci := 5) (v := .int (nI O)) (C := RX5) (T := TX5) (N := 10) hx hb hts hi5 hown hK hP 0 rfl rfl 7 (by decide) kf125 (fun _ h9 => h9) rfl dX5_reads_181 ?_
                  refine lv_imul hx hb dX5_reads_184 ?_
                  refine lv_eqi (y := (nI (3 * O))) (pk_mul _ _) ?_
                  refine lv_iconst (v := (nI 1)) hx hb dX5_reads_185 (by decide) ?_
                  refine lv_iadd hx hb dX5_reads_186 ?_
                  refine lv_eqi (y := (nI (3 * O + 1))) (nI_add _ _) ?_
                  refine lv_iload_n hx hb dX5_reads_187 rfl (lv_at hl 1 rfl) ?_
                  refine va_iast_n (f := (upd md (3 * O) (mt P))) hx hb hK hP hD hS 4 0 rfl rfl (by omega) (Nat.le_of_ble_eq_true rfl) dX5_reads_188 (fun H locs hP hD hS => ?_)
                  have hP : va_P Γ.1 vwCl (wcat [moB Γ a ms mt mc (upd (upd md (3 * O) (mt P)) (3 * O + 1) r_30.1) m0 m1 (nI T) (nI O) (nI (r_32.2.1)) r_32.2.2]) H := hP
                  have hD : va_D A (wcat [moB Γ a ms mt mc (upd (upd md (3 * O) (mt P)) (3 * O + 1) r_30.1) m0 m1 (nI T) (nI O) (nI (r_32.2.1)) r_32.2.2]) := hD
                  refine lv_aload_n hx hb dX5_reads_189 rfl (lv_at hl 3 rfl) ?_
                  refine va_get (D := Γ.1) (ci := 5) (v := .ref (a 4)) (C := RX5) (T := TX5) (N := 10) hx hb hts hi5 hown hK hP 0 rfl rfl 6 (by decide) kf20 (fun _ h9 => h9) rfl dX5_reads_190 ?_
                  refine lv_iconst (v := (nI 3)) hx hb dX5_reads_193 (by decide) ?_
                  refine lv_aload_n hx hb dX5_reads_194 rfl (lv_at hl 3 rfl) ?_
                  refine va_get (D := Γ.1) (ci := 5) (v := .int (nI O)) (C := RX5) (T := TX5) (N := 10) hx hb hts hi5 hown hK hP 0 rfl rfl 7 (by decide) kf125 (fun _ h9 => h9) rfl dX5_reads_195 ?_
                  refine lv_imul hx hb dX5_reads_198 ?_
                  refine lv_eqi (y := (nI (3 * O))) (pk_mul _ _) ?_
                  refine lv_iconst (v := (nI 2)) hx hb dX5_reads_199 (by decide) ?_
                  refine lv_iadd hx hb dX5_reads_200 ?_
                  refine lv_eqi (y := (nI (3 * O + 2))) (nI_add _ _) ?_
                  refine lv_iload_n hx hb dX5_reads_201 rfl (lv_at hl 0 rfl) ?_
                  refine va_iast_n (f := (upd (upd md (3 * O) (mt P)) (3 * O + 1) r_30.1)) hx hb hK hP hD hS 4 0 rfl rfl (by omega) (Nat.le_of_ble_eq_true rfl) dX5_reads_202 (fun H locs hP hD hS => ?_)
                  have hP : va_P Γ.1 vwCl (wcat [moB Γ a ms mt mc (upd (upd (upd md (3 * O) (mt P)) (3 * O + 1) r_30.1) (3 * O + 2) r_32.1) m0 m1 (nI T) (nI O) (nI (r_32.2.1)) r_32.2.2]) H := hP
                  have hD : va_D A (wcat [moB Γ a ms mt mc (upd (upd (upd md (3 * O) (mt P)) (3 * O + 1) r_30.1) (3 * O + 2) r_32.1) m0 m1 (nI T) (nI O) (nI (r_32.2.1)) r_32.2.2]) := hD
                  refine lv_aload_n hx hb dX5_reads_203 rfl (lv_at hl 3 rfl) ?_
                  refine lv_dup hx hb dX5_reads_204 rfl ?_
                  refine va_get (D := Γ.1) (ci := 5) (v := .int (nI O)) (C := RX5) (T := TX5) (N := 10) hx hb hts hi5 hown hK hP 0 rfl rfl 7 (by decide) kf125 (fun _ h9 => h9) rfl dX5_reads_205 ?_
                  refine lv_iconst (v := (nI 1)) hx hb dX5_reads_208 (by decide) ?_
                  refine lv_iadd hx hb dX5_reads_209 ?_
                  refine lv_eqi (y := (nI (O + 1))) (nI_add _ _) ?_
                  refine va_put (D := Γ.1) (ci := 5) (v := .int (nI (O + 1))) (ty := .int) (C := RX5) (T := TX5) (N := 10) hx hb hts hi5 tyX5 tyX5_ok nmX5 hown hK hP hD hS 0 rfl rfl 7 (by decide) kf125 (fun _ h9 => h9) rfl (by decide +kernel) rfl rfl (Nat.le_of_ble_eq_true rfl) dX5_reads_210 (fun H locs hP hD hS => ?_)
                  have hP : va_P Γ.1 vwCl (wcat [moB Γ a ms mt mc (upd (upd (upd md (3 * O) (mt P)) (3 * O + 1) r_30.1) (3 * O + 2) r_32.1) m0 m1 (nI T) (nI (O + 1)) (nI (r_32.2.1)) r_32.2.2]) H := hP
                  have hD : va_D A (wcat [moB Γ a ms mt mc (upd (upd (upd md (3 * O) (mt P)) (3 * O + 1) r_30.1) (3 * O + 2) r_32.1) m0 m1 (nI T) (nI (O + 1)) (nI (r_32.2.1)) r_32.2.2]) := hD
                  exact W.vret hx hb hr (fun t ht hW => eMV (by rw [hq]; exact hP) hS ht) hS.2.2 dX5_reads_213
            · have hq := hq.trans (if_pos c_28)
              refine lv_aload_n hx hb dX5_reads_109 rfl (lv_at hl 3 rfl) ?_
              refine cMI (bc' := [moB Γ a ms mt mc md m0 m1 (nI T) (nI O) (nI ((fX5_days (T) (P + 1) mt (nI 1)).2.1)) (fX5_days (T) (P + 1) mt (nI 1)).2.2]) (va_runV (As := []) (rest := []) ⟨hx, hb, hml, hown, hts⟩ ((kX5_days l Γ a (T) (P + 1) ms mt mc md m0 m1 (nI O) (nI 1) (by first | assumption | omega) ((by first | omega | (have hq9 := ltN (a := P) (b := T) (by omega) (by omega) (by assumption); omega)))) _) (cwV 0 hts gX5_reads_X5_days rfl rfl rfl (by decide +kernel) ⟨Nat.le_of_ble_eq_true rfl, Nat.le_of_ble_eq_true rfl⟩) ⟨wPre_blind, va_recv hK hP (ci := 5) (q0 := 0) rfl rfl, wPre_mk hP hD hK hS hA hAB hAm [0] rfl rfl⟩ rfl rfl hl.1 rfl (lv_room (Nat.le_of_ble_eq_true rfl)) dX5_reads_110 ⟨Nat.zero_le _, Nat.zero_le _⟩) hP hD hS hA [0] rfl rfl (bs' := [moB Γ a ms mt mc md m0 m1 (nI T) (nI O) (nI ((fX5_days (T) (P + 1) mt (nI 1)).2.1)) (fX5_days (T) (P + 1) mt (nI 1)).2.2]) rfl (fun H locs hP hD hS => ?_)
              have hfr_34 : (P + 1) ≤ (fX5_days (T) (P + 1) mt (nI 1)).2.1 ∧ (fX5_days (T) (P + 1) mt (nI 1)).2.1 ≤ T ∧ ((fX5_days (T) (P + 1) mt (nI 1)).2.2 = nI 0 ∨ (fX5_days (T) (P + 1) mt (nI 1)).2.2 = nI 1) := days_fx hT (by first | omega | (have hq9 := ltN (a := P) (b := T) (by omega) (by omega) (by assumption); omega))
              generalize hr_34 : (fX5_days (T) (P + 1) mt (nI 1)) = r_34 at hfr_34 hP hD hq ⊢
              replace hq : (fX5_reads T O P mt md m5) = (if r_34.2.2 = 0 then (md, O, (r_34.2.1), r_34.2.2) else ((upd (upd (upd md (3 * O) (mt P)) (3 * O + 1) r_34.1) (3 * O + 2) (nI 0)), O + 1, (r_34.2.1), r_34.2.2)) := hq
              refine lv_istore_n (lv' := [(2, .int r_34.1), (3, .int (nI 0)), (1, .int (mt P)), (0, .ref (a 0))]) hx hb dX5_reads_113 rfl hl (by decide) rfl (fun ls hl => ?_)
              refine lv_goto (tgt := 156) hx hb dX5_reads_114 (by decide) ?_
              refine lv_aload_n hx hb dX5_reads_156 rfl (lv_at hl 3 rfl) ?_
              refine va_get (D := Γ.1) (ci := 5) (v := .int r_34.2.2) (C := RX5) (T := TX5) (N := 10) hx hb hts hi5 hown hK hP 0 rfl rfl 9 (by decide) kf104 (fun _ h9 => h9) rfl dX5_reads_157 ?_
              refine lv_if_eq (tgt := 213) hx hb dX5_reads_160 (by decide) (fun c_35 => ?_) (fun c_35 => ?_)
              · have hq := hq.trans (if_pos c_35)
                exact W.vret hx hb hr (fun t ht hW => eMV (by rw [hq]; exact hP) hS ht) hS.2.2 dX5_reads_213
              · have hq := hq.trans (if_neg c_35)
                refine lv_aload_n hx hb dX5_reads_163 rfl (lv_at hl 3 rfl) ?_
                refine va_get (D := Γ.1) (ci := 5) (v := .ref (a 4)) (C := RX5) (T := TX5) (N := 10) hx hb hts hi5 hown hK hP 0 rfl rfl 6 (by decide) kf20 (fun _ h9 => h9) rfl dX5_reads_164 ?_
                refine lv_iconst (v := (nI 3)) hx hb dX5_reads_167 (by decide) ?_
                refine lv_aload_n hx hb dX5_reads_168 rfl (lv_at hl 3 rfl) ?_
                refine va_get (D := Γ.1) (ci := 5) (v := .int (nI O)) (C := RX5) (T := TX5) (N := 10) hx hb hts hi5 hown hK hP 0 rfl rfl 7 (by decide) kf125 (fun _ h9 => h9) rfl dX5_reads_169 ?_
                refine lv_imul hx hb dX5_reads_172 ?_
                refine lv_eqi (y := (nI (3 * O))) (pk_mul _ _) ?_
                refine lv_iload_n hx hb dX5_reads_173 rfl (lv_at hl 2 rfl) ?_
                refine va_iast_n (f := md) hx hb hK hP hD hS 4 0 rfl rfl (by omega) (Nat.le_of_ble_eq_true rfl) dX5_reads_174 (fun H locs hP hD hS => ?_)
                have hP : va_P Γ.1 vwCl (wcat [moB Γ a ms mt mc (upd md (3 * O) (mt P)) m0 m1 (nI T) (nI O) (nI (r_34.2.1)) r_34.2.2]) H := hP
                have hD : va_D A (wcat [moB Γ a ms mt mc (upd md (3 * O) (mt P)) m0 m1 (nI T) (nI O) (nI (r_34.2.1)) r_34.2.2]) := hD
                refine lv_aload_n hx hb dX5_reads_175 rfl (lv_at hl 3 rfl) ?_
                refine va_get (D := Γ.1) (ci := 5) (v := .ref (a 4)) (C := RX5) (T := TX5) (N := 10) hx hb hts hi5 hown hK hP 0 rfl rfl 6 (by decide) kf20 (fun _ h9 => h9) rfl dX5_reads_176 ?_
                refine lv_iconst (v := (nI 3)) hx hb dX5_reads_179 (by decide) ?_
                refine lv_aload_n hx hb dX5_reads_180 rfl (lv_at hl 3 rfl) ?_
                refine va_get (D := Γ.1) (ci := 5) (v := .int (nI O)) (C := RX5) (T := TX5) (N := 10) hx hb hts hi5 hown hK hP 0 rfl rfl 7 (by decide) kf125 (fun _ h9 => h9) rfl dX5_reads_181 ?_
                refine lv_imul hx hb dX5_reads_184 ?_
                refine lv_eqi (y := (nI (3 * O))) (pk_mul _ _) ?_
                refine lv_iconst (v := (nI 1)) hx hb dX5_reads_185 (by decide) ?_
                refine lv_iadd hx hb dX5_reads_186 ?_
                refine lv_eqi (y := (nI (3 * O + 1))) (nI_add _ _) ?_
                refine lv_iload_n hx hb dX5_reads_187 rfl (lv_at hl 0 rfl) ?_
                refine va_iast_n (f := (upd md (3 * O) (mt P))) hx hb hK hP hD hS 4 0 rfl rfl (by omega) (Nat.le_of_ble_eq_true rfl) dX5_reads_188 (fun H locs hP hD hS => ?_)
                have hP : va_P Γ.1 vwCl (wcat [moB Γ a ms mt mc (upd (upd md (3 * O) (mt P)) (3 * O + 1) r_34.1) m0 m1 (nI T) (nI O) (nI (r_34.2.1)) r_34.2.2]) H := hP
                have hD : va_D A (wcat [moB Γ a ms mt mc (upd (upd md (3 * O) (mt P)) (3 * O + 1) r_34.1) m0 m1 (nI T) (nI O) (nI (r_34.2.1)) r_34.2.2]) := hD
                refine lv_aload_n hx hb dX5_reads_189 rfl (lv_at hl 3 rfl) ?_
                refine va_get (D := Γ.1) (ci := 5) (v := .ref (a 4)) (C := RX5) (T := TX5) (N := 10) hx hb hts hi5 hown hK hP 0 rfl rfl 6 (by decide) kf20 (fun _ h9 => h9) rfl dX5_reads_190 ?_
                refine lv_iconst (v := (nI 3)) hx hb dX5_reads_193 (by decide) ?_
                refine lv_aload_n hx hb dX5_reads_194 rfl (lv_at hl 3 rfl) ?_
                refine va_get (D := Γ.1) (ci := 5) (v := .int (nI O)) (C := RX5) (T := TX5) (N := 10) hx hb hts hi5 hown hK hP 0 rfl rfl 7 (by decide) kf125 (fun _ h9 => h9) rfl dX5_reads_195 ?_
                refine lv_imul hx hb dX5_reads_198 ?_
                refine lv_eqi (y := (nI (3 * O))) (pk_mul _ _) ?_
                refine lv_iconst (v := (nI 2)) hx hb dX5_reads_199 (by decide) ?_
                refine lv_iadd hx hb dX5_reads_200 ?_
                refine lv_eqi (y := (nI (3 * O + 2))) (nI_add _ _) ?_
                refine lv_iload_n hx hb dX5_reads_201 rfl (lv_at hl 1 rfl) ?_
                refine va_iast_n (f := (upd (upd md (3 * O) (mt P)) (3 * O + 1) r_34.1)) hx hb hK hP hD hS 4 0 rfl rfl (by omega) (Nat.le_of_ble_eq_true rfl) dX5_reads_202 (fun H locs hP hD hS => ?_)
                have hP : va_P Γ.1 vwCl (wcat [moB Γ a ms mt mc (upd (upd (upd md (3 * O) (mt P)) (3 * O + 1) r_34.1) (3 * O + 2) (nI 0)) m0 m1 (nI T) (nI O) (nI (r_34.2.1)) r_34.2.2]) H := hP
                have hD : va_D A (wcat [moB Γ a ms mt mc (upd (upd (upd md (3 * O) (mt P)) (3 * O + 1) r_34.1) (3 * O + 2) (nI 0)) m0 m1 (nI T) (nI O) (nI (r_34.2.1)) r_34.2.2]) := hD
                refine lv_aload_n hx hb dX5_reads_203 rfl (lv_at hl 3 rfl) ?_
                refine lv_dup hx hb dX5_reads_204 rfl ?_
                refine va_get (D := Γ.1) (ci := 5) (v := .int (nI O)) (C := RX5) (T := TX5) (N := 10) hx hb hts hi5 hown hK hP 0 rfl rfl 7 (by decide) kf125 (fun _ h9 => h9) rfl dX5_reads_205 ?_
                refine lv_iconst (v := (nI 1)) hx hb dX5_reads_208 (by decide) ?_
                refine lv_iadd hx hb dX5_reads_209 ?_
                refine lv_eqi (y := (nI (O + 1))) (nI_add _ _) ?_
                refine va_put (D := Γ.1) (ci := 5) (v := .int (nI (O + 1))) (ty := .int) (C := RX5) (T := TX5) (N := 10) hx hb hts hi5 tyX5 tyX5_ok nmX5 hown hK hP hD hS 0 rfl rfl 7 (by decide) kf125 (fun _ h9 => h9) rfl (by decide +kernel) rfl rfl (Nat.le_of_ble_eq_true rfl) dX5_reads_210 (fun H locs hP hD hS => ?_)
                have hP : va_P Γ.1 vwCl (wcat [moB Γ a ms mt mc (upd (upd (upd md (3 * O) (mt P)) (3 * O + 1) r_34.1) (3 * O + 2) (nI 0)) m0 m1 (nI T) (nI (O + 1)) (nI (r_34.2.1)) r_34.2.2]) H := hP
                have hD : va_D A (wcat [moB Γ a ms mt mc (upd (upd (upd md (3 * O) (mt P)) (3 * O + 1) r_34.1) (3 * O + 2) (nI 0)) m0 m1 (nI T) (nI (O + 1)) (nI (r_34.2.1)) r_34.2.2]) := hD
                exact W.vret hx hb hr (fun t ht hW => eMV (by rw [hq]; exact hP) hS ht) hS.2.2 dX5_reads_213
          · have hq := hq.trans (if_neg c_27)
            refine lv_iload_n hx hb dX5_reads_58 rfl (lv_at hl 0 rfl) ?_
            refine lv_bipush (v := (nI 116)) hx hb dX5_reads_59 (by decide) ?_
            refine lv_icmp_eq (tgt := 70) hx hb dX5_reads_61 (by decide) (fun c_36 => ?_) (fun c_36 => ?_)
            · have hq := hq.trans (if_pos c_36)
              refine lv_iconst (v := (nI 1)) hx hb dX5_reads_70 (by decide) ?_
              refine lv_goto (tgt := 75) hx hb dX5_reads_71 (by decide) ?_
              refine va_put (D := Γ.1) (ci := 5) (v := .int (nI 1)) (ty := .boolean) (C := RX5) (T := TX5) (N := 10) hx hb hts hi5 tyX5 tyX5_ok nmX5 hown hK hP hD hS 0 rfl rfl 9 (by decide) kf104 (fun _ h9 => h9) rfl (by decide +kernel) rfl rfl (Nat.le_of_ble_eq_true rfl) dX5_reads_75 (fun H locs hP hD hS => ?_)
              have hP : va_P Γ.1 vwCl (wcat [moB Γ a ms mt mc md m0 m1 (nI T) (nI O) (nI P) (nI 1)]) H := hP
              have hD : va_D A (wcat [moB Γ a ms mt mc md m0 m1 (nI T) (nI O) (nI P) (nI 1)]) := hD
              refine lv_aload_n hx hb dX5_reads_78 rfl (lv_at hl 1 rfl) ?_
              refine lv_dup hx hb dX5_reads_79 rfl ?_
              refine va_get (D := Γ.1) (ci := 5) (v := .int (nI P)) (C := RX5) (T := TX5) (N := 10) hx hb hts hi5 hown hK hP 0 rfl rfl 8 (by decide) kf108 (fun _ h9 => h9) rfl dX5_reads_80 ?_
              refine lv_aload_n hx hb dX5_reads_83 rfl (lv_at hl 1 rfl) ?_
              refine va_get (D := Γ.1) (ci := 5) (v := .int (nI 1)) (C := RX5) (T := TX5) (N := 10) hx hb hts hi5 hown hK hP 0 rfl rfl 9 (by decide) kf104 (fun _ h9 => h9) rfl dX5_reads_84 ?_
              refine lv_if_eq (tgt := 94) hx hb dX5_reads_87 (by decide) (fun c_87 => absurd c_87 (by decide)) (fun c_87 => ?_)
              refine lv_iconst (v := (nI 1)) hx hb dX5_reads_90 (by decide) ?_
              refine lv_goto (tgt := 95) hx hb dX5_reads_91 (by decide) ?_
              refine lv_iadd hx hb dX5_reads_95 ?_
              refine lv_eqi (y := (nI (P + 1))) (nI_add _ _) ?_
              refine va_put (D := Γ.1) (ci := 5) (v := .int (nI (P + 1))) (ty := .int) (C := RX5) (T := TX5) (N := 10) hx hb hts hi5 tyX5 tyX5_ok nmX5 hown hK hP hD hS 0 rfl rfl 8 (by decide) kf108 (fun _ h9 => h9) rfl (by decide +kernel) rfl rfl (Nat.le_of_ble_eq_true rfl) dX5_reads_96 (fun H locs hP hD hS => ?_)
              have hP : va_P Γ.1 vwCl (wcat [moB Γ a ms mt mc md m0 m1 (nI T) (nI O) (nI (P + 1)) (nI 1)]) H := hP
              have hD : va_D A (wcat [moB Γ a ms mt mc md m0 m1 (nI T) (nI O) (nI (P + 1)) (nI 1)]) := hD
              refine lv_iconst (v := (nI 0)) hx hb dX5_reads_99 (by decide) ?_
              refine lv_istore_n (lv' := [(2, .int (nI 0)), (1, .int (mt P)), (0, .ref (a 0))]) hx hb dX5_reads_100 rfl hl (by decide) rfl (fun ls hl => ?_)
              refine lv_iconst (v := (nI 0)) hx hb dX5_reads_101 (by decide) ?_
              refine lv_istore_n (lv' := [(3, .int (nI 0)), (2, .int (nI 0)), (1, .int (mt P)), (0, .ref (a 0))]) hx hb dX5_reads_102 rfl hl (by decide) rfl (fun ls hl => ?_)
              refine lv_iload_n hx hb dX5_reads_103 rfl (lv_at hl 2 rfl) ?_
              refine lv_bipush (v := (nI 116)) hx hb dX5_reads_104 (by decide) ?_
              refine lv_icmp_ne (tgt := 117) hx hb dX5_reads_106 (by decide) (fun c_106 => absurd c_36 c_106) (fun c_106 => ?_)
              refine lv_aload_n hx hb dX5_reads_109 rfl (lv_at hl 3 rfl) ?_
              refine cMI (bc' := [moB Γ a ms mt mc md m0 m1 (nI T) (nI O) (nI ((fX5_days (T) (P + 1) mt (nI 1)).2.1)) (fX5_days (T) (P + 1) mt (nI 1)).2.2]) (va_runV (As := []) (rest := []) ⟨hx, hb, hml, hown, hts⟩ ((kX5_days l Γ a (T) (P + 1) ms mt mc md m0 m1 (nI O) (nI 1) (by first | assumption | omega) ((by first | omega | (have hq9 := ltN (a := P) (b := T) (by omega) (by omega) (by assumption); omega)))) _) (cwV 0 hts gX5_reads_X5_days rfl rfl rfl (by decide +kernel) ⟨Nat.le_of_ble_eq_true rfl, Nat.le_of_ble_eq_true rfl⟩) ⟨wPre_blind, va_recv hK hP (ci := 5) (q0 := 0) rfl rfl, wPre_mk hP hD hK hS hA hAB hAm [0] rfl rfl⟩ rfl rfl hl.1 rfl (lv_room (Nat.le_of_ble_eq_true rfl)) dX5_reads_110 ⟨Nat.zero_le _, Nat.zero_le _⟩) hP hD hS hA [0] rfl rfl (bs' := [moB Γ a ms mt mc md m0 m1 (nI T) (nI O) (nI ((fX5_days (T) (P + 1) mt (nI 1)).2.1)) (fX5_days (T) (P + 1) mt (nI 1)).2.2]) rfl (fun H locs hP hD hS => ?_)
              have hfr_37 : (P + 1) ≤ (fX5_days (T) (P + 1) mt (nI 1)).2.1 ∧ (fX5_days (T) (P + 1) mt (nI 1)).2.1 ≤ T ∧ ((fX5_days (T) (P + 1) mt (nI 1)).2.2 = nI 0 ∨ (fX5_days (T) (P + 1) mt (nI 1)).2.2 = nI 1) := days_fx hT (by first | omega | (have hq9 := ltN (a := P) (b := T) (by omega) (by omega) (by assumption); omega))
              generalize hr_37 : (fX5_days (T) (P + 1) mt (nI 1)) = r_37 at hfr_37 hP hD hq ⊢
              replace hq : (fX5_reads T O P mt md m5) = (if r_37.2.2 = 0 then (md, O, (r_37.2.1), r_37.2.2) else ((upd (upd (upd md (3 * O) (mt P)) (3 * O + 1) r_37.1) (3 * O + 2) (nI 0)), O + 1, (r_37.2.1), r_37.2.2)) := hq
              refine lv_istore_n (lv' := [(2, .int r_37.1), (3, .int (nI 0)), (1, .int (mt P)), (0, .ref (a 0))]) hx hb dX5_reads_113 rfl hl (by decide) rfl (fun ls hl => ?_)
              refine lv_goto (tgt := 156) hx hb dX5_reads_114 (by decide) ?_
              refine lv_aload_n hx hb dX5_reads_156 rfl (lv_at hl 3 rfl) ?_
              refine va_get (D := Γ.1) (ci := 5) (v := .int r_37.2.2) (C := RX5) (T := TX5) (N := 10) hx hb hts hi5 hown hK hP 0 rfl rfl 9 (by decide) kf104 (fun _ h9 => h9) rfl dX5_reads_157 ?_
              refine lv_if_eq (tgt := 213) hx hb dX5_reads_160 (by decide) (fun c_38 => ?_) (fun c_38 => ?_)
              · have hq := hq.trans (if_pos c_38)
                exact W.vret hx hb hr (fun t ht hW => eMV (by rw [hq]; exact hP) hS ht) hS.2.2 dX5_reads_213
              · have hq := hq.trans (if_neg c_38)
                refine lv_aload_n hx hb dX5_reads_163 rfl (lv_at hl 3 rfl) ?_
                refine va_get (D := Γ.1) (ci := 5) (v := .ref (a 4)) (C := RX5) (T := TX5) (N := 10) hx hb hts hi5 hown hK hP 0 rfl rfl 6 (by decide) kf20 (fun _ h9 => h9) rfl dX5_reads_164 ?_
                refine lv_iconst (v := (nI 3)) hx hb dX5_reads_167 (by decide) ?_
                refine lv_aload_n hx hb dX5_reads_168 rfl (lv_at hl 3 rfl) ?_
                refine va_get (D := Γ.1) (ci := 5) (v := .int (nI O)) (C := RX5) (T := TX5) (N := 10) hx hb hts hi5 hown hK hP 0 rfl rfl 7 (by decide) kf125 (fun _ h9 => h9) rfl dX5_reads_169 ?_
                refine lv_imul hx hb dX5_reads_172 ?_
                refine lv_eqi (y := (nI (3 * O))) (pk_mul _ _) ?_
                refine lv_iload_n hx hb dX5_reads_173 rfl (lv_at hl 2 rfl) ?_
                refine va_iast_n (f := md) hx hb hK hP hD hS 4 0 rfl rfl (by omega) (Nat.le_of_ble_eq_true rfl) dX5_reads_174 (fun H locs hP hD hS => ?_)
                have hP : va_P Γ.1 vwCl (wcat [moB Γ a ms mt mc (upd md (3 * O) (mt P)) m0 m1 (nI T) (nI O) (nI (r_37.2.1)) r_37.2.2]) H := hP
                have hD : va_D A (wcat [moB Γ a ms mt mc (upd md (3 * O) (mt P)) m0 m1 (nI T) (nI O) (nI (r_37.2.1)) r_37.2.2]) := hD
                refine lv_aload_n hx hb dX5_reads_175 rfl (lv_at hl 3 rfl) ?_
                refine va_get (D := Γ.1) (ci := 5) (v := .ref (a 4)) (C := RX5) (T := TX5) (N := 10) hx hb hts hi5 hown hK hP 0 rfl rfl 6 (by decide) kf20 (fun _ h9 => h9) rfl dX5_reads_176 ?_
                refine lv_iconst (v := (nI 3)) hx hb dX5_reads_179 (by decide) ?_
                refine lv_aload_n hx hb dX5_reads_180 rfl (lv_at hl 3 rfl) ?_
                refine va_get (D := Γ.1) (ci := 5) (v := .int (nI O)) (C := RX5) (T := TX5) (N := 10) hx hb hts hi5 hown hK hP 0 rfl rfl 7 (by decide) kf125 (fun _ h9 => h9) rfl dX5_reads_181 ?_
                refine lv_imul hx hb dX5_reads_184 ?_
                refine lv_eqi (y := (nI (3 * O))) (pk_mul _ _) ?_
                refine lv_iconst (v := (nI 1)) hx hb dX5_reads_185 (by decide) ?_
                refine lv_iadd hx hb dX5_reads_186 ?_
                refine lv_eqi (y := (nI (3 * O + 1))) (nI_add _ _) ?_
                refine lv_iload_n hx hb dX5_reads_187 rfl (lv_at hl 0 rfl) ?_
                refine va_iast_n (f := (upd md (3 * O) (mt P))) hx hb hK hP hD hS 4 0 rfl rfl (by omega) (Nat.le_of_ble_eq_true rfl) dX5_reads_188 (fun H locs hP hD hS => ?_)
                have hP : va_P Γ.1 vwCl (wcat [moB Γ a ms mt mc (upd (upd md (3 * O) (mt P)) (3 * O + 1) r_37.1) m0 m1 (nI T) (nI O) (nI (r_37.2.1)) r_37.2.2]) H := hP
                have hD : va_D A (wcat [moB Γ a ms mt mc (upd (upd md (3 * O) (mt P)) (3 * O + 1) r_37.1) m0 m1 (nI T) (nI O) (nI (r_37.2.1)) r_37.2.2]) := hD
                refine lv_aload_n hx hb dX5_reads_189 rfl (lv_at hl 3 rfl) ?_
                refine va_get (D := Γ.1) (ci := 5) (v := .ref (a 4)) (C := RX5) (T := TX5) (N := 10) hx hb hts hi5 hown hK hP 0 rfl rfl 6 (by decide) kf20 (fun _ h9 => h9) rfl dX5_reads_190 ?_
                refine lv_iconst (v := (nI 3)) hx hb dX5_reads_193 (by decide) ?_
                refine lv_aload_n hx hb dX5_reads_194 rfl (lv_at hl 3 rfl) ?_
                refine va_get (D := Γ.1) (ci := 5) (v := .int (nI O)) (C := RX5) (T := TX5) (N := 10) hx hb hts hi5 hown hK hP 0 rfl rfl 7 (by decide) kf125 (fun _ h9 => h9) rfl dX5_reads_195 ?_
                refine lv_imul hx hb dX5_reads_198 ?_
                refine lv_eqi (y := (nI (3 * O))) (pk_mul _ _) ?_
                refine lv_iconst (v := (nI 2)) hx hb dX5_reads_199 (by decide) ?_
                refine lv_iadd hx hb dX5_reads_200 ?_
                refine lv_eqi (y := (nI (3 * O + 2))) (nI_add _ _) ?_
                refine lv_iload_n hx hb dX5_reads_201 rfl (lv_at hl 1 rfl) ?_
                refine va_iast_n (f := (upd (upd md (3 * O) (mt P)) (3 * O + 1) r_37.1)) hx hb hK hP hD hS 4 0 rfl rfl (by omega) (Nat.le_of_ble_eq_true rfl) dX5_reads_202 (fun H locs hP hD hS => ?_)
                have hP : va_P Γ.1 vwCl (wcat [moB Γ a ms mt mc (upd (upd (upd md (3 * O) (mt P)) (3 * O + 1) r_37.1) (3 * O + 2) (nI 0)) m0 m1 (nI T) (nI O) (nI (r_37.2.1)) r_37.2.2]) H := hP
                have hD : va_D A (wcat [moB Γ a ms mt mc (upd (upd (upd md (3 * O) (mt P)) (3 * O + 1) r_37.1) (3 * O + 2) (nI 0)) m0 m1 (nI T) (nI O) (nI (r_37.2.1)) r_37.2.2]) := hD
                refine lv_aload_n hx hb dX5_reads_203 rfl (lv_at hl 3 rfl) ?_
                refine lv_dup hx hb dX5_reads_204 rfl ?_
                refine va_get (D := Γ.1) (ci := 5) (v := .int (nI O)) (C := RX5) (T := TX5) (N := 10) hx hb hts hi5 hown hK hP 0 rfl rfl 7 (by decide) kf125 (fun _ h9 => h9) rfl dX5_reads_205 ?_
                refine lv_iconst (v := (nI 1)) hx hb dX5_reads_208 (by decide) ?_
                refine lv_iadd hx hb dX5_reads_209 ?_
                refine lv_eqi (y := (nI (O + 1))) (nI_add _ _) ?_
                refine va_put (D := Γ.1) (ci := 5) (v := .int (nI (O + 1))) (ty := .int) (C := RX5) (T := TX5) (N := 10) hx hb hts hi5 tyX5 tyX5_ok nmX5 hown hK hP hD hS 0 rfl rfl 7 (by decide) kf125 (fun _ h9 => h9) rfl (by decide +kernel) rfl rfl (Nat.le_of_ble_eq_true rfl) dX5_reads_210 (fun H locs hP hD hS => ?_)
                have hP : va_P Γ.1 vwCl (wcat [moB Γ a ms mt mc (upd (upd (upd md (3 * O) (mt P)) (3 * O + 1) r_37.1) (3 * O + 2) (nI 0)) m0 m1 (nI T) (nI (O + 1)) (nI (r_37.2.1)) r_37.2.2]) H := hP
                have hD : va_D A (wcat [moB Γ a ms mt mc (upd (upd (upd md (3 * O) (mt P)) (3 * O + 1) r_37.1) (3 * O + 2) (nI 0)) m0 m1 (nI T) (nI (O + 1)) (nI (r_37.2.1)) r_37.2.2]) := hD
                exact W.vret hx hb hr (fun t ht hW => eMV (by rw [hq]; exact hP) hS ht) hS.2.2 dX5_reads_213
            · have hq := hq.trans (if_neg c_36)
              refine lv_iload_n hx hb dX5_reads_64 rfl (lv_at hl 0 rfl) ?_
              refine lv_bipush (v := (nI 114)) hx hb dX5_reads_65 (by decide) ?_
              refine lv_icmp_ne (tgt := 74) hx hb dX5_reads_67 (by decide) (fun c_39 => ?_) (fun c_39 => ?_)
              · have hq := hq.trans (if_neg c_39)
                refine lv_iconst (v := (nI 0)) hx hb dX5_reads_74 (by decide) ?_
                refine va_put (D := Γ.1) (ci := 5) (v := .int (nI 0)) (ty := .boolean) (C := RX5) (T := TX5) (N := 10) hx hb hts hi5 tyX5 tyX5_ok nmX5 hown hK hP hD hS 0 rfl rfl 9 (by decide) kf104 (fun _ h9 => h9) rfl (by decide +kernel) rfl rfl (Nat.le_of_ble_eq_true rfl) dX5_reads_75 (fun H locs hP hD hS => ?_)
                have hP : va_P Γ.1 vwCl (wcat [moB Γ a ms mt mc md m0 m1 (nI T) (nI O) (nI P) (nI 0)]) H := hP
                have hD : va_D A (wcat [moB Γ a ms mt mc md m0 m1 (nI T) (nI O) (nI P) (nI 0)]) := hD
                refine lv_aload_n hx hb dX5_reads_78 rfl (lv_at hl 1 rfl) ?_
                refine lv_dup hx hb dX5_reads_79 rfl ?_
                refine va_get (D := Γ.1) (ci := 5) (v := .int (nI P)) (C := RX5) (T := TX5) (N := 10) hx hb hts hi5 hown hK hP 0 rfl rfl 8 (by decide) kf108 (fun _ h9 => h9) rfl dX5_reads_80 ?_
                refine lv_aload_n hx hb dX5_reads_83 rfl (lv_at hl 1 rfl) ?_
                refine va_get (D := Γ.1) (ci := 5) (v := .int (nI 0)) (C := RX5) (T := TX5) (N := 10) hx hb hts hi5 hown hK hP 0 rfl rfl 9 (by decide) kf104 (fun _ h9 => h9) rfl dX5_reads_84 ?_
                refine lv_if_eq (tgt := 94) hx hb dX5_reads_87 (by decide) (fun c_87 => ?_) (fun c_87 => absurd c_87 (by decide))
                refine lv_iconst (v := (nI 0)) hx hb dX5_reads_94 (by decide) ?_
                refine lv_iadd hx hb dX5_reads_95 ?_
                refine lv_eqi (y := (nI (P + 0))) (nI_add _ _) ?_
                refine va_put (D := Γ.1) (ci := 5) (v := .int (nI (P + 0))) (ty := .int) (C := RX5) (T := TX5) (N := 10) hx hb hts hi5 tyX5 tyX5_ok nmX5 hown hK hP hD hS 0 rfl rfl 8 (by decide) kf108 (fun _ h9 => h9) rfl (by decide +kernel) rfl rfl (Nat.le_of_ble_eq_true rfl) dX5_reads_96 (fun H locs hP hD hS => ?_)
                have hP : va_P Γ.1 vwCl (wcat [moB Γ a ms mt mc md m0 m1 (nI T) (nI O) (nI (P + 0)) (nI 0)]) H := hP
                have hD : va_D A (wcat [moB Γ a ms mt mc md m0 m1 (nI T) (nI O) (nI (P + 0)) (nI 0)]) := hD
                refine lv_iconst (v := (nI 0)) hx hb dX5_reads_99 (by decide) ?_
                refine lv_istore_n (lv' := [(2, .int (nI 0)), (1, .int (mt P)), (0, .ref (a 0))]) hx hb dX5_reads_100 rfl hl (by decide) rfl (fun ls hl => ?_)
                refine lv_iconst (v := (nI 0)) hx hb dX5_reads_101 (by decide) ?_
                refine lv_istore_n (lv' := [(3, .int (nI 0)), (2, .int (nI 0)), (1, .int (mt P)), (0, .ref (a 0))]) hx hb dX5_reads_102 rfl hl (by decide) rfl (fun ls hl => ?_)
                refine lv_iload_n hx hb dX5_reads_103 rfl (lv_at hl 2 rfl) ?_
                refine lv_bipush (v := (nI 116)) hx hb dX5_reads_104 (by decide) ?_
                refine lv_icmp_ne (tgt := 117) hx hb dX5_reads_106 (by decide) (fun c_106 => ?_) (fun c_106 => absurd c_106 c_36)
                refine lv_iload_n hx hb dX5_reads_117 rfl (lv_at hl 2 rfl) ?_
                refine lv_bipush (v := (nI 114)) hx hb dX5_reads_118 (by decide) ?_
                refine lv_icmp_eq (tgt := 156) hx hb dX5_reads_120 (by decide) (fun c_120 => absurd c_120 c_39) (fun c_120 => ?_)
                refine lv_aload_n hx hb dX5_reads_123 rfl (lv_at hl 3 rfl) ?_
                refine cMI (bc' := [moB Γ a ms mt mc md m0 m1 (nI T) (nI O) (nI ((fX5_digit (T) (P + 0) mt (nI 0)).2.1)) (fX5_digit (T) (P + 0) mt (nI 0)).2.2]) (va_runV (As := []) (rest := []) ⟨hx, hb, hml, hown, hts⟩ ((kX5_digit l Γ a (T) (P + 0) ms mt mc md m0 m1 (nI O) (nI 0) (by first | assumption | omega) ((by first | omega | (have hq9 := ltN (a := P) (b := T) (by omega) (by omega) (by assumption); omega)))) _) (cwV 0 hts gX5_reads_X5_digit rfl rfl rfl (by decide +kernel) ⟨Nat.le_of_ble_eq_true rfl, Nat.le_of_ble_eq_true rfl⟩) ⟨wPre_blind, va_recv hK hP (ci := 5) (q0 := 0) rfl rfl, wPre_mk hP hD hK hS hA hAB hAm [0] rfl rfl⟩ rfl rfl hl.1 rfl (lv_room (Nat.le_of_ble_eq_true rfl)) dX5_reads_124 ⟨Nat.zero_le _, Nat.zero_le _⟩) hP hD hS hA [0] rfl rfl (bs' := [moB Γ a ms mt mc md m0 m1 (nI T) (nI O) (nI ((fX5_digit (T) (P + 0) mt (nI 0)).2.1)) (fX5_digit (T) (P + 0) mt (nI 0)).2.2]) rfl (fun H locs hP hD hS => ?_)
                have hfr_40 : (P + 0) ≤ (fX5_digit (T) (P + 0) mt (nI 0)).2.1 ∧ (fX5_digit (T) (P + 0) mt (nI 0)).2.1 ≤ T ∧ ((fX5_digit (T) (P + 0) mt (nI 0)).2.2 = nI 0 ∨ (fX5_digit (T) (P + 0) mt (nI 0)).2.2 = nI 1) := digit_fx hT (by first | omega | (have hq9 := ltN (a := P) (b := T) (by omega) (by omega) (by assumption); omega))
                generalize hr_40 : (fX5_digit (T) (P + 0) mt (nI 0)) = r_40 at hfr_40 hP hD hq ⊢
                replace hq : (fX5_reads T O P mt md m5) = (let r_41 := (fX5_takes (T) ((r_40.2.1)) mt r_40.2.2 (nI 62)); (let r_42 := (fX5_digit (T) ((r_41.1)) mt r_41.2); (if r_42.2.2 = 0 then (md, O, (r_42.2.1), r_42.2.2) else ((upd (upd (upd md (3 * O) (mt P)) (3 * O + 1) r_40.1) (3 * O + 2) r_42.1), O + 1, (r_42.2.1), r_42.2.2)))) := hq
                refine lv_istore_n (lv' := [(2, .int r_40.1), (3, .int (nI 0)), (1, .int (mt P)), (0, .ref (a 0))]) hx hb dX5_reads_127 rfl hl (by decide) rfl (fun ls hl => ?_)
                refine lv_iload_n hx hb dX5_reads_128 rfl (lv_at hl 2 rfl) ?_
                refine lv_bipush (v := (nI 100)) hx hb dX5_reads_129 (by decide) ?_
                refine lv_icmp_eq (tgt := 156) hx hb dX5_reads_131 (by decide) (fun c_131 => absurd c_131 c_11) (fun c_131 => ?_)
                refine lv_aload_n hx hb dX5_reads_134 rfl (lv_at hl 3 rfl) ?_
                refine lv_iload_n hx hb dX5_reads_135 rfl (lv_at hl 2 rfl) ?_
                refine lv_bipush (v := (nI 113)) hx hb dX5_reads_136 (by decide) ?_
                refine lv_icmp_ne (tgt := 146) hx hb dX5_reads_138 (by decide) (fun c_138 => ?_) (fun c_138 => absurd c_138 c_18)
                refine lv_bipush (v := (nI 62)) hx hb dX5_reads_146 (by decide) ?_
                refine cMV (bc' := [moB Γ a ms mt mc md m0 m1 (nI T) (nI O) (nI ((fX5_takes (T) ((r_40.2.1)) mt r_40.2.2 (nI 62)).1)) (fX5_takes (T) ((r_40.2.1)) mt r_40.2.2 (nI 62)).2]) (va_runV (As := [.int (nI 62)]) (rest := []) ⟨hx, hb, hml, hown, hts⟩ ((kX5_takes l Γ a (T) ((r_40.2.1)) ms mt mc md m0 m1 (nI O) r_40.2.2 (nI 62) (by first | assumption | omega) ((by first | omega | (have hq9 := ltN (a := P) (b := T) (by omega) (by omega) (by assumption); omega)))) _) (cwV 1 hts gX5_reads_X5_takes rfl rfl rfl (by decide +kernel) ⟨Nat.le_of_ble_eq_true rfl, Nat.le_of_ble_eq_true rfl⟩) ⟨wPre_blind, va_recv hK hP (ci := 5) (q0 := 0) rfl rfl, wPre_mk hP hD hK hS hA hAB hAm [0] rfl rfl⟩ rfl rfl hl.1 rfl (lv_room (Nat.le_of_ble_eq_true rfl)) dX5_reads_148 ⟨Nat.zero_le _, Nat.zero_le _⟩) hP hD hS hA [0] rfl rfl (bs' := [moB Γ a ms mt mc md m0 m1 (nI T) (nI O) (nI ((fX5_takes (T) ((r_40.2.1)) mt r_40.2.2 (nI 62)).1)) (fX5_takes (T) ((r_40.2.1)) mt r_40.2.2 (nI 62)).2]) rfl (fun H locs hP hD hS => ?_)
                have hfr_41 : ((r_40.2.1)) ≤ (fX5_takes (T) ((r_40.2.1)) mt r_40.2.2 (nI 62)).1 ∧ (fX5_takes (T) ((r_40.2.1)) mt r_40.2.2 (nI 62)).1 ≤ T ∧ ((fX5_takes (T) ((r_40.2.1)) mt r_40.2.2 (nI 62)).2 = nI 0 ∨ (fX5_takes (T) ((r_40.2.1)) mt r_40.2.2 (nI 62)).2 = nI 1) ∧ (¬ (fX5_takes (T) ((r_40.2.1)) mt r_40.2.2 (nI 62)).2 = 0 → ((r_40.2.1)) + 1 ≤ (fX5_takes (T) ((r_40.2.1)) mt r_40.2.2 (nI 62)).1) := takes_fx hT (by first | omega | (have hq9 := ltN (a := P) (b := T) (by omega) (by omega) (by assumption); omega))
                generalize hr_41 : (fX5_takes (T) ((r_40.2.1)) mt r_40.2.2 (nI 62)) = r_41 at hfr_41 hP hD hq
                replace hq : (fX5_reads T O P mt md m5) = (let r_42 := (fX5_digit (T) ((r_41.1)) mt r_41.2); (if r_42.2.2 = 0 then (md, O, (r_42.2.1), r_42.2.2) else ((upd (upd (upd md (3 * O) (mt P)) (3 * O + 1) r_40.1) (3 * O + 2) r_42.1), O + 1, (r_42.2.1), r_42.2.2))) := hq
                refine lv_aload_n hx hb dX5_reads_151 rfl (lv_at hl 3 rfl) ?_
                refine cMI (bc' := [moB Γ a ms mt mc md m0 m1 (nI T) (nI O) (nI ((fX5_digit (T) ((r_41.1)) mt r_41.2).2.1)) (fX5_digit (T) ((r_41.1)) mt r_41.2).2.2]) (va_runV (As := []) (rest := []) ⟨hx, hb, hml, hown, hts⟩ ((kX5_digit l Γ a (T) ((r_41.1)) ms mt mc md m0 m1 (nI O) r_41.2 (by first | assumption | omega) ((by first | omega | (have hq9 := ltN (a := P) (b := T) (by omega) (by omega) (by assumption); omega)))) _) (cwV 0 hts gX5_reads_X5_digit rfl rfl rfl (by decide +kernel) ⟨Nat.le_of_ble_eq_true rfl, Nat.le_of_ble_eq_true rfl⟩) ⟨wPre_blind, va_recv hK hP (ci := 5) (q0 := 0) rfl rfl, wPre_mk hP hD hK hS hA hAB hAm [0] rfl rfl⟩ rfl rfl hl.1 rfl (lv_room (Nat.le_of_ble_eq_true rfl)) dX5_reads_152 ⟨Nat.zero_le _, Nat.zero_le _⟩) hP hD hS hA [0] rfl rfl (bs' := [moB Γ a ms mt mc md m0 m1 (nI T) (nI O) (nI ((fX5_digit (T) ((r_41.1)) mt r_41.2).2.1)) (fX5_digit (T) ((r_41.1)) mt r_41.2).2.2]) rfl (fun H locs hP hD hS => ?_)
                have hfr_42 : ((r_41.1)) ≤ (fX5_digit (T) ((r_41.1)) mt r_41.2).2.1 ∧ (fX5_digit (T) ((r_41.1)) mt r_41.2).2.1 ≤ T ∧ ((fX5_digit (T) ((r_41.1)) mt r_41.2).2.2 = nI 0 ∨ (fX5_digit (T) ((r_41.1)) mt r_41.2).2.2 = nI 1) := digit_fx hT (by first | omega | (have hq9 := ltN (a := P) (b := T) (by omega) (by omega) (by assumption); omega))
                generalize hr_42 : (fX5_digit (T) ((r_41.1)) mt r_41.2) = r_42 at hfr_42 hP hD hq ⊢
                replace hq : (fX5_reads T O P mt md m5) = (if r_42.2.2 = 0 then (md, O, (r_42.2.1), r_42.2.2) else ((upd (upd (upd md (3 * O) (mt P)) (3 * O + 1) r_40.1) (3 * O + 2) r_42.1), O + 1, (r_42.2.1), r_42.2.2)) := hq
                refine lv_istore_n (lv' := [(3, .int r_42.1), (2, .int r_40.1), (1, .int (mt P)), (0, .ref (a 0))]) hx hb dX5_reads_155 rfl hl (by decide) rfl (fun ls hl => ?_)
                refine lv_aload_n hx hb dX5_reads_156 rfl (lv_at hl 3 rfl) ?_
                refine va_get (D := Γ.1) (ci := 5) (v := .int r_42.2.2) (C := RX5) (T := TX5) (N := 10) hx hb hts hi5 hown hK hP 0 rfl rfl 9 (by decide) kf104 (fun _ h9 => h9) rfl dX5_reads_157 ?_
                refine lv_if_eq (tgt := 213) hx hb dX5_reads_160 (by decide) (fun c_43 => ?_) (fun c_43 => ?_)
                · have hq := hq.trans (if_pos c_43)
                  exact W.vret hx hb hr (fun t ht hW => eMV (by rw [hq]; exact hP) hS ht) hS.2.2 dX5_reads_213
                · have hq := hq.trans (if_neg c_43)
                  refine lv_aload_n hx hb dX5_reads_163 rfl (lv_at hl 3 rfl) ?_
                  refine va_get (D := Γ.1) (ci := 5) (v := .ref (a 4)) (C := RX5) (T := TX5) (N := 10) hx hb hts hi5 hown hK hP 0 rfl rfl 6 (by decide) kf20 (fun _ h9 => h9) rfl dX5_reads_164 ?_
                  refine lv_iconst (v := (nI 3)) hx hb dX5_reads_167 (by decide) ?_
                  refine lv_aload_n hx hb dX5_reads_168 rfl (lv_at hl 3 rfl) ?_
                  refine va_get (D := Γ.1) (ci := 5) (v := .int (nI O)) (C := RX5) (T := TX5) (N := 10) hx hb hts hi5 hown hK hP 0 rfl rfl 7 (by decide) kf125 (fun _ h9 => h9) rfl dX5_reads_169 ?_
                  refine lv_imul hx hb dX5_reads_172 ?_
                  refine lv_eqi (y := (nI (3 * O))) (pk_mul _ _) ?_
                  refine lv_iload_n hx hb dX5_reads_173 rfl (lv_at hl 2 rfl) ?_
                  refine va_iast_n (f := md) hx hb hK hP hD hS 4 0 rfl rfl (by omega) (Nat.le_of_ble_eq_true rfl) dX5_reads_174 (fun H locs hP hD hS => ?_)
                  have hP : va_P Γ.1 vwCl (wcat [moB Γ a ms mt mc (upd md (3 * O) (mt P)) m0 m1 (nI T) (nI O) (nI (r_42.2.1)) r_42.2.2]) H := hP
                  have hD : va_D A (wcat [moB Γ a ms mt mc (upd md (3 * O) (mt P)) m0 m1 (nI T) (nI O) (nI (r_42.2.1)) r_42.2.2]) := hD
                  refine lv_aload_n hx hb dX5_reads_175 rfl (lv_at hl 3 rfl) ?_
                  refine va_get (D := Γ.1) (ci := 5) (v := .ref (a 4)) (C := RX5) (T := TX5) (N := 10) hx hb hts hi5 hown hK hP 0 rfl rfl 6 (by decide) kf20 (fun _ h9 => h9) rfl dX5_reads_176 ?_
                  refine lv_iconst (v := (nI 3)) hx hb dX5_reads_179 (by decide) ?_
                  refine lv_aload_n hx hb dX5_reads_180 rfl (lv_at hl 3 rfl) ?_
                  refine va_get (D := Γ.1) (ci := 5) (v := .int (nI O)) (C := RX5) (T := TX5) (N := 10) hx hb hts hi5 hown hK hP 0 rfl rfl 7 (by decide) kf125 (fun _ h9 => h9) rfl dX5_reads_181 ?_
                  refine lv_imul hx hb dX5_reads_184 ?_
                  refine lv_eqi (y := (nI (3 * O))) (pk_mul _ _) ?_
                  refine lv_iconst (v := (nI 1)) hx hb dX5_reads_185 (by decide) ?_
                  refine lv_iadd hx hb dX5_reads_186 ?_
                  refine lv_eqi (y := (nI (3 * O + 1))) (nI_add _ _) ?_
                  refine lv_iload_n hx hb dX5_reads_187 rfl (lv_at hl 1 rfl) ?_
                  refine va_iast_n (f := (upd md (3 * O) (mt P))) hx hb hK hP hD hS 4 0 rfl rfl (by omega) (Nat.le_of_ble_eq_true rfl) dX5_reads_188 (fun H locs hP hD hS => ?_)
                  have hP : va_P Γ.1 vwCl (wcat [moB Γ a ms mt mc (upd (upd md (3 * O) (mt P)) (3 * O + 1) r_40.1) m0 m1 (nI T) (nI O) (nI (r_42.2.1)) r_42.2.2]) H := hP
                  have hD : va_D A (wcat [moB Γ a ms mt mc (upd (upd md (3 * O) (mt P)) (3 * O + 1) r_40.1) m0 m1 (nI T) (nI O) (nI (r_42.2.1)) r_42.2.2]) := hD
                  refine lv_aload_n hx hb dX5_reads_189 rfl (lv_at hl 3 rfl) ?_
                  refine va_get (D := Γ.1) (ci := 5) (v := .ref (a 4)) (C := RX5) (T := TX5) (N := 10) hx hb hts hi5 hown hK hP 0 rfl rfl 6 (by decide) kf20 (fun _ h9 => h9) rfl dX5_reads_190 ?_
                  refine lv_iconst (v := (nI 3)) hx hb dX5_reads_193 (by decide) ?_
                  refine lv_aload_n hx hb dX5_reads_194 rfl (lv_at hl 3 rfl) ?_
                  refine va_get (D := Γ.1) (ci := 5) (v := .int (nI O)) (C := RX5) (T := TX5) (N := 10) hx hb hts hi5 hown hK hP 0 rfl rfl 7 (by decide) kf125 (fun _ h9 => h9) rfl dX5_reads_195 ?_
                  refine lv_imul hx hb dX5_reads_198 ?_
                  refine lv_eqi (y := (nI (3 * O))) (pk_mul _ _) ?_
                  refine lv_iconst (v := (nI 2)) hx hb dX5_reads_199 (by decide) ?_
                  refine lv_iadd hx hb dX5_reads_200 ?_
                  refine lv_eqi (y := (nI (3 * O + 2))) (nI_add _ _) ?_
                  refine lv_iload_n hx hb dX5_reads_201 rfl (lv_at hl 0 rfl) ?_
                  refine va_iast_n (f := (upd (upd md (3 * O) (mt P)) (3 * O + 1) r_40.1)) hx hb hK hP hD hS 4 0 rfl rfl (by omega) (Nat.le_of_ble_eq_true rfl) dX5_reads_202 (fun H locs hP hD hS => ?_)
                  have hP : va_P Γ.1 vwCl (wcat [moB Γ a ms mt mc (upd (upd (upd md (3 * O) (mt P)) (3 * O + 1) r_40.1) (3 * O + 2) r_42.1) m0 m1 (nI T) (nI O) (nI (r_42.2.1)) r_42.2.2]) H := hP
                  have hD : va_D A (wcat [moB Γ a ms mt mc (upd (upd (upd md (3 * O) (mt P)) (3 * O + 1) r_40.1) (3 * O + 2) r_42.1) m0 m1 (nI T) (nI O) (nI (r_42.2.1)) r_42.2.2]) := hD
                  refine lv_aload_n hx hb dX5_reads_203 rfl (lv_at hl 3 rfl) ?_
                  refine lv_dup hx hb dX5_reads_204 rfl ?_
                  refine va_get (D := Γ.1) (ci := 5) (v := .int (nI O)) (C := RX5) (T := TX5) (N := 10) hx hb hts hi5 hown hK hP 0 rfl rfl 7 (by decide) kf125 (fun _ h9 => h9) rfl dX5_reads_205 ?_
                  refine lv_iconst (v := (nI 1)) hx hb dX5_reads_208 (by decide) ?_
                  refine lv_iadd hx hb dX5_reads_209 ?_
                  refine lv_eqi (y := (nI (O + 1))) (nI_add _ _) ?_
                  refine va_put (D := Γ.1) (ci := 5) (v := .int (nI (O + 1))) (ty := .int) (C := RX5) (T := TX5) (N := 10) hx hb hts hi5 tyX5 tyX5_ok nmX5 hown hK hP hD hS 0 rfl rfl 7 (by decide) kf125 (fun _ h9 => h9) rfl (by decide +kernel) rfl rfl (Nat.le_of_ble_eq_true rfl) dX5_reads_210 (fun H locs hP hD hS => ?_)
                  have hP : va_P Γ.1 vwCl (wcat [moB Γ a ms mt mc (upd (upd (upd md (3 * O) (mt P)) (3 * O + 1) r_40.1) (3 * O + 2) r_42.1) m0 m1 (nI T) (nI (O + 1)) (nI (r_42.2.1)) r_42.2.2]) H := hP
                  have hD : va_D A (wcat [moB Γ a ms mt mc (upd (upd (upd md (3 * O) (mt P)) (3 * O + 1) r_40.1) (3 * O + 2) r_42.1) m0 m1 (nI T) (nI (O + 1)) (nI (r_42.2.1)) r_42.2.2]) := hD
                  exact W.vret hx hb hr (fun t ht hW => eMV (by rw [hq]; exact hP) hS ht) hS.2.2 dX5_reads_213
              · have hq := hq.trans (if_pos c_39)
                refine lv_iconst (v := (nI 1)) hx hb dX5_reads_70 (by decide) ?_
                refine lv_goto (tgt := 75) hx hb dX5_reads_71 (by decide) ?_
                refine va_put (D := Γ.1) (ci := 5) (v := .int (nI 1)) (ty := .boolean) (C := RX5) (T := TX5) (N := 10) hx hb hts hi5 tyX5 tyX5_ok nmX5 hown hK hP hD hS 0 rfl rfl 9 (by decide) kf104 (fun _ h9 => h9) rfl (by decide +kernel) rfl rfl (Nat.le_of_ble_eq_true rfl) dX5_reads_75 (fun H locs hP hD hS => ?_)
                have hP : va_P Γ.1 vwCl (wcat [moB Γ a ms mt mc md m0 m1 (nI T) (nI O) (nI P) (nI 1)]) H := hP
                have hD : va_D A (wcat [moB Γ a ms mt mc md m0 m1 (nI T) (nI O) (nI P) (nI 1)]) := hD
                refine lv_aload_n hx hb dX5_reads_78 rfl (lv_at hl 1 rfl) ?_
                refine lv_dup hx hb dX5_reads_79 rfl ?_
                refine va_get (D := Γ.1) (ci := 5) (v := .int (nI P)) (C := RX5) (T := TX5) (N := 10) hx hb hts hi5 hown hK hP 0 rfl rfl 8 (by decide) kf108 (fun _ h9 => h9) rfl dX5_reads_80 ?_
                refine lv_aload_n hx hb dX5_reads_83 rfl (lv_at hl 1 rfl) ?_
                refine va_get (D := Γ.1) (ci := 5) (v := .int (nI 1)) (C := RX5) (T := TX5) (N := 10) hx hb hts hi5 hown hK hP 0 rfl rfl 9 (by decide) kf104 (fun _ h9 => h9) rfl dX5_reads_84 ?_
                refine lv_if_eq (tgt := 94) hx hb dX5_reads_87 (by decide) (fun c_87 => absurd c_87 (by decide)) (fun c_87 => ?_)
                refine lv_iconst (v := (nI 1)) hx hb dX5_reads_90 (by decide) ?_
                refine lv_goto (tgt := 95) hx hb dX5_reads_91 (by decide) ?_
                refine lv_iadd hx hb dX5_reads_95 ?_
                refine lv_eqi (y := (nI (P + 1))) (nI_add _ _) ?_
                refine va_put (D := Γ.1) (ci := 5) (v := .int (nI (P + 1))) (ty := .int) (C := RX5) (T := TX5) (N := 10) hx hb hts hi5 tyX5 tyX5_ok nmX5 hown hK hP hD hS 0 rfl rfl 8 (by decide) kf108 (fun _ h9 => h9) rfl (by decide +kernel) rfl rfl (Nat.le_of_ble_eq_true rfl) dX5_reads_96 (fun H locs hP hD hS => ?_)
                have hP : va_P Γ.1 vwCl (wcat [moB Γ a ms mt mc md m0 m1 (nI T) (nI O) (nI (P + 1)) (nI 1)]) H := hP
                have hD : va_D A (wcat [moB Γ a ms mt mc md m0 m1 (nI T) (nI O) (nI (P + 1)) (nI 1)]) := hD
                refine lv_iconst (v := (nI 0)) hx hb dX5_reads_99 (by decide) ?_
                refine lv_istore_n (lv' := [(2, .int (nI 0)), (1, .int (mt P)), (0, .ref (a 0))]) hx hb dX5_reads_100 rfl hl (by decide) rfl (fun ls hl => ?_)
                refine lv_iconst (v := (nI 0)) hx hb dX5_reads_101 (by decide) ?_
                refine lv_istore_n (lv' := [(3, .int (nI 0)), (2, .int (nI 0)), (1, .int (mt P)), (0, .ref (a 0))]) hx hb dX5_reads_102 rfl hl (by decide) rfl (fun ls hl => ?_)
                refine lv_iload_n hx hb dX5_reads_103 rfl (lv_at hl 2 rfl) ?_
                refine lv_bipush (v := (nI 116)) hx hb dX5_reads_104 (by decide) ?_
                refine lv_icmp_ne (tgt := 117) hx hb dX5_reads_106 (by decide) (fun c_106 => ?_) (fun c_106 => absurd c_106 c_36)
                refine lv_iload_n hx hb dX5_reads_117 rfl (lv_at hl 2 rfl) ?_
                refine lv_bipush (v := (nI 114)) hx hb dX5_reads_118 (by decide) ?_
                refine lv_icmp_eq (tgt := 156) hx hb dX5_reads_120 (by decide) (fun c_120 => ?_) (fun c_120 => absurd c_39 c_120)
                refine lv_aload_n hx hb dX5_reads_156 rfl (lv_at hl 3 rfl) ?_
                refine va_get (D := Γ.1) (ci := 5) (v := .int (nI 1)) (C := RX5) (T := TX5) (N := 10) hx hb hts hi5 hown hK hP 0 rfl rfl 9 (by decide) kf104 (fun _ h9 => h9) rfl dX5_reads_157 ?_
                refine lv_if_eq (tgt := 213) hx hb dX5_reads_160 (by decide) (fun c_160 => absurd c_160 (by decide)) (fun c_160 => ?_)
                refine lv_aload_n hx hb dX5_reads_163 rfl (lv_at hl 3 rfl) ?_
                refine va_get (D := Γ.1) (ci := 5) (v := .ref (a 4)) (C := RX5) (T := TX5) (N := 10) hx hb hts hi5 hown hK hP 0 rfl rfl 6 (by decide) kf20 (fun _ h9 => h9) rfl dX5_reads_164 ?_
                refine lv_iconst (v := (nI 3)) hx hb dX5_reads_167 (by decide) ?_
                refine lv_aload_n hx hb dX5_reads_168 rfl (lv_at hl 3 rfl) ?_
                refine va_get (D := Γ.1) (ci := 5) (v := .int (nI O)) (C := RX5) (T := TX5) (N := 10) hx hb hts hi5 hown hK hP 0 rfl rfl 7 (by decide) kf125 (fun _ h9 => h9) rfl dX5_reads_169 ?_
                refine lv_imul hx hb dX5_reads_172 ?_
                refine lv_eqi (y := (nI (3 * O))) (pk_mul _ _) ?_
                refine lv_iload_n hx hb dX5_reads_173 rfl (lv_at hl 2 rfl) ?_
                refine va_iast_n (f := md) hx hb hK hP hD hS 4 0 rfl rfl (by omega) (Nat.le_of_ble_eq_true rfl) dX5_reads_174 (fun H locs hP hD hS => ?_)
                have hP : va_P Γ.1 vwCl (wcat [moB Γ a ms mt mc (upd md (3 * O) (mt P)) m0 m1 (nI T) (nI O) (nI (P + 1)) (nI 1)]) H := hP
                have hD : va_D A (wcat [moB Γ a ms mt mc (upd md (3 * O) (mt P)) m0 m1 (nI T) (nI O) (nI (P + 1)) (nI 1)]) := hD
                refine lv_aload_n hx hb dX5_reads_175 rfl (lv_at hl 3 rfl) ?_
                refine va_get (D := Γ.1) (ci := 5) (v := .ref (a 4)) (C := RX5) (T := TX5) (N := 10) hx hb hts hi5 hown hK hP 0 rfl rfl 6 (by decide) kf20 (fun _ h9 => h9) rfl dX5_reads_176 ?_
                refine lv_iconst (v := (nI 3)) hx hb dX5_reads_179 (by decide) ?_
                refine lv_aload_n hx hb dX5_reads_180 rfl (lv_at hl 3 rfl) ?_
                refine va_get (D := Γ.1) (ci := 5) (v := .int (nI O)) (C := RX5) (T := TX5) (N := 10) hx hb hts hi5 hown hK hP 0 rfl rfl 7 (by decide) kf125 (fun _ h9 => h9) rfl dX5_reads_181 ?_
                refine lv_imul hx hb dX5_reads_184 ?_
                refine lv_eqi (y := (nI (3 * O))) (pk_mul _ _) ?_
                refine lv_iconst (v := (nI 1)) hx hb dX5_reads_185 (by decide) ?_
                refine lv_iadd hx hb dX5_reads_186 ?_
                refine lv_eqi (y := (nI (3 * O + 1))) (nI_add _ _) ?_
                refine lv_iload_n hx hb dX5_reads_187 rfl (lv_at hl 1 rfl) ?_
                refine va_iast_n (f := (upd md (3 * O) (mt P))) hx hb hK hP hD hS 4 0 rfl rfl (by omega) (Nat.le_of_ble_eq_true rfl) dX5_reads_188 (fun H locs hP hD hS => ?_)
                have hP : va_P Γ.1 vwCl (wcat [moB Γ a ms mt mc (upd (upd md (3 * O) (mt P)) (3 * O + 1) (nI 0)) m0 m1 (nI T) (nI O) (nI (P + 1)) (nI 1)]) H := hP
                have hD : va_D A (wcat [moB Γ a ms mt mc (upd (upd md (3 * O) (mt P)) (3 * O + 1) (nI 0)) m0 m1 (nI T) (nI O) (nI (P + 1)) (nI 1)]) := hD
                refine lv_aload_n hx hb dX5_reads_189 rfl (lv_at hl 3 rfl) ?_
                refine va_get (D := Γ.1) (ci := 5) (v := .ref (a 4)) (C := RX5) (T := TX5) (N := 10) hx hb hts hi5 hown hK hP 0 rfl rfl 6 (by decide) kf20 (fun _ h9 => h9) rfl dX5_reads_190 ?_
                refine lv_iconst (v := (nI 3)) hx hb dX5_reads_193 (by decide) ?_
                refine lv_aload_n hx hb dX5_reads_194 rfl (lv_at hl 3 rfl) ?_
                refine va_get (D := Γ.1) (ci := 5) (v := .int (nI O)) (C := RX5) (T := TX5) (N := 10) hx hb hts hi5 hown hK hP 0 rfl rfl 7 (by decide) kf125 (fun _ h9 => h9) rfl dX5_reads_195 ?_
                refine lv_imul hx hb dX5_reads_198 ?_
                refine lv_eqi (y := (nI (3 * O))) (pk_mul _ _) ?_
                refine lv_iconst (v := (nI 2)) hx hb dX5_reads_199 (by decide) ?_
                refine lv_iadd hx hb dX5_reads_200 ?_
                refine lv_eqi (y := (nI (3 * O + 2))) (nI_add _ _) ?_
                refine lv_iload_n hx hb dX5_reads_201 rfl (lv_at hl 0 rfl) ?_
                refine va_iast_n (f := (upd (upd md (3 * O) (mt P)) (3 * O + 1) (nI 0))) hx hb hK hP hD hS 4 0 rfl rfl (by omega) (Nat.le_of_ble_eq_true rfl) dX5_reads_202 (fun H locs hP hD hS => ?_)
                have hP : va_P Γ.1 vwCl (wcat [moB Γ a ms mt mc (upd (upd (upd md (3 * O) (mt P)) (3 * O + 1) (nI 0)) (3 * O + 2) (nI 0)) m0 m1 (nI T) (nI O) (nI (P + 1)) (nI 1)]) H := hP
                have hD : va_D A (wcat [moB Γ a ms mt mc (upd (upd (upd md (3 * O) (mt P)) (3 * O + 1) (nI 0)) (3 * O + 2) (nI 0)) m0 m1 (nI T) (nI O) (nI (P + 1)) (nI 1)]) := hD
                refine lv_aload_n hx hb dX5_reads_203 rfl (lv_at hl 3 rfl) ?_
                refine lv_dup hx hb dX5_reads_204 rfl ?_
                refine va_get (D := Γ.1) (ci := 5) (v := .int (nI O)) (C := RX5) (T := TX5) (N := 10) hx hb hts hi5 hown hK hP 0 rfl rfl 7 (by decide) kf125 (fun _ h9 => h9) rfl dX5_reads_205 ?_
                refine lv_iconst (v := (nI 1)) hx hb dX5_reads_208 (by decide) ?_
                refine lv_iadd hx hb dX5_reads_209 ?_
                refine lv_eqi (y := (nI (O + 1))) (nI_add _ _) ?_
                refine va_put (D := Γ.1) (ci := 5) (v := .int (nI (O + 1))) (ty := .int) (C := RX5) (T := TX5) (N := 10) hx hb hts hi5 tyX5 tyX5_ok nmX5 hown hK hP hD hS 0 rfl rfl 7 (by decide) kf125 (fun _ h9 => h9) rfl (by decide +kernel) rfl rfl (Nat.le_of_ble_eq_true rfl) dX5_reads_210 (fun H locs hP hD hS => ?_)
                have hP : va_P Γ.1 vwCl (wcat [moB Γ a ms mt mc (upd (upd (upd md (3 * O) (mt P)) (3 * O + 1) (nI 0)) (3 * O + 2) (nI 0)) m0 m1 (nI T) (nI (O + 1)) (nI (P + 1)) (nI 1)]) H := hP
                have hD : va_D A (wcat [moB Γ a ms mt mc (upd (upd (upd md (3 * O) (mt P)) (3 * O + 1) (nI 0)) (3 * O + 2) (nI 0)) m0 m1 (nI T) (nI (O + 1)) (nI (P + 1)) (nI 1)]) := hD
                exact W.vret hx hb hr (fun t ht hW => eMV (by rw [hq]; exact hP) hS ht) hS.2.2 dX5_reads_213
theorem isNext_0 {T P : Nat} {mt : Nat → Int32} {lo hi : Int32} : fX5_isNext T P mt (nI 0) lo hi = nI 0 := by
  unfold fX5_isNext
  rw [if_pos (show nI 0 = 0 by decide)]
theorem digit_0 {T P : Nat} {mt : Nat → Int32} : fX5_digit T P mt (nI 0) = (nI 0, P, nI 0) := by
  unfold fX5_digit
  rw [isNext_0, if_pos (show nI 0 = 0 by decide)]
  rfl
theorem takes_0 {T P : Nat} {mt : Nat → Int32} {ch : Int32} : fX5_takes T P mt (nI 0) ch = (P, nI 0) := by
  unfold fX5_takes
  rw [isNext_0, if_pos (show nI 0 = 0 by decide)]
  rfl
theorem two_fx {T p : Nat} {mt : Nat → Int32} {i ch : Int32} (hT : T ≤ 60) (h : p ≤ T) :
    p ≤ (fX5_digit T (fX5_takes T (fX5_digit T p mt i).2.1 mt (fX5_digit T p mt i).2.2 ch).1 mt (fX5_takes T (fX5_digit T p mt i).2.1 mt (fX5_digit T p mt i).2.2 ch).2).2.1 ∧
    (fX5_digit T (fX5_takes T (fX5_digit T p mt i).2.1 mt (fX5_digit T p mt i).2.2 ch).1 mt (fX5_takes T (fX5_digit T p mt i).2.1 mt (fX5_digit T p mt i).2.2 ch).2).2.1 ≤ T ∧
    ((fX5_digit T (fX5_takes T (fX5_digit T p mt i).2.1 mt (fX5_digit T p mt i).2.2 ch).1 mt (fX5_takes T (fX5_digit T p mt i).2.1 mt (fX5_digit T p mt i).2.2 ch).2).2.2 = nI 0 ∨ (fX5_digit T (fX5_takes T (fX5_digit T p mt i).2.1 mt (fX5_digit T p mt i).2.2 ch).1 mt (fX5_takes T (fX5_digit T p mt i).2.1 mt (fX5_digit T p mt i).2.2 ch).2).2.2 = nI 1) := by
  have a := digit_fx (P := p) (mt := mt) (m5 := i) hT h
  have b := takes_fx (P := (fX5_digit T p mt i).2.1) (mt := mt) (m5 := (fX5_digit T p mt i).2.2) (ch := ch) hT a.2.1
  have c := digit_fx (mt := mt) (m5 := (fX5_takes T (fX5_digit T p mt i).2.1 mt (fX5_digit T p mt i).2.2 ch).2) hT b.2.1
  exact ⟨Nat.le_trans a.1 (Nat.le_trans b.1 c.1), c.2.1, c.2.2⟩
theorem reads_fx {T O P : Nat} {mt md : Nat → Int32} {m5 : Int32} (hT : T ≤ 60) (h : P ≤ T) : P ≤ (fX5_reads T O P mt md m5).2.2.1 ∧ (fX5_reads T O P mt md m5).2.2.1 ≤ T ∧ ((fX5_reads T O P mt md m5).2.1 = O ∨ ((fX5_reads T O P mt md m5).2.1 = O + 1 ∧ P + 1 ≤ (fX5_reads T O P mt md m5).2.2.1)) ∧ ((fX5_reads T O P mt md m5).2.2.2 = nI 0 ∨ (fX5_reads T O P mt md m5).2.2.2 = nI 1) ∧ (m5 = 0 → (fX5_reads T O P mt md m5).2.2.2 = nI 0) := by
  have h0 : nI 0 = 0 := by decide
  have h1 : ¬ nI 1 = 0 := by decide
  generalize hr : fX5_reads T O P mt md m5 = r
  unfold fX5_reads at hr
  simp only [digit_0, takes_0, if_pos h0] at hr
  by_cases a : m5 = 0
  · rw [if_pos a] at hr
    subst hr
    exact ⟨Nat.le_refl _, h, Or.inl rfl, Or.inl rfl, fun _ => rfl⟩
  · rw [if_neg a] at hr
    by_cases b : nI T ≤ nI P
    · rw [if_pos b] at hr
      subst hr
      exact ⟨Nat.le_refl _, h, Or.inl rfl, Or.inl rfl, fun q => absurd q a⟩
    · rw [if_neg b] at hr
      have hlt := ltN (a := P) (b := T) (by omega) (by omega) b
      have D := digit_fx (P := P + 1) (mt := mt) (m5 := nI 1) hT (by omega)
      have Y := days_fx (P := P + 1) (mt := mt) (m5 := nI 1) hT (by omega)
      have W1 := two_fx (p := P + 1) (mt := mt) (i := nI 1) (ch := nI 45) hT (by omega)
      have W2 := two_fx (p := P + 1) (mt := mt) (i := nI 1) (ch := nI 62) hT (by omega)
      (repeat' split at hr) <;> subst hr <;> dsimp only <;> refine ⟨by omega, by omega, by omega, ?_, fun q => absurd q a⟩ <;> first | with_reducible exact D.2.2 | with_reducible exact Y.2.2 | with_reducible exact W1.2.2 | with_reducible exact W2.2.2 | with_reducible exact Or.inr rfl | with_reducible exact Or.inl rfl
def fX5_areDays_L19 (T : Nat) (mt : (Nat → Int32)) : Nat → (Nat → Int32) → Int32 → Nat → Nat → Int32 × (Nat → Int32) × Nat × Nat × Int32
  | 0, md0_19, m50_19, m30_19, m40_19 => (nI 0, md0_19, m30_19, m40_19, m50_19)
  | n19 + 1, md0_19, m50_19, m30_19, m40_19 => (if m50_19 = 0 then (m50_19, md0_19, m30_19, m40_19, m50_19) else (if (nI T) ≤ (nI m40_19) then (m50_19, md0_19, m30_19, m40_19, m50_19) else (let r_4 := (fX5_takes (T) (m40_19) mt m50_19 (nI 59)); (let r_5 := (fX5_reads (T) (m30_19) ((r_4.1)) mt md0_19 r_4.2); (fX5_areDays_L19 T mt n19 r_5.1 r_5.2.2.2 ((r_5.2.1)) ((r_5.2.2.1)))))))
def fX5_areDays (T : Nat) (mt : (Nat → Int32)) (md : (Nat → Int32)) : Int32 × (Nat → Int32) × Nat × Nat × Int32 := (let r_1 := (fX5_reads (T) (0) (0) mt md (nI 1)); (fX5_areDays_L19 T mt (T + 2) r_1.1 r_1.2.2.2 ((r_1.2.1)) ((r_1.2.2.1))))
set_option maxHeartbeats 4000000 in
set_option maxRecDepth 100000 in
theorem kX5_areDays (l : Launch) (Γ : wG) (a : Nat → Nat) (T : Nat) (ms : (Nat → Int32)) (mt : (Nat → Int32)) (mc : (Nat → Int32)) (md : (Nat → Int32)) (m0 : Int32) (m1 : Int32) (m3 : Int32) (m4 : Int32) (m5 : Int32) (hT : T ≤ 60) : MI l Γ yX5_areDays wsX5_areDays ({ frames := 4, cells := 0, slots := 0, locals := 89 }) [.ref (a 0)] [moB Γ a ms mt mc md m0 m1 (nI T) m3 m4 m5] [moB Γ a ms mt mc (fX5_areDays T mt md).2.1 m0 m1 (nI T) (nI (((fX5_areDays T mt md).2.2.1))) (nI (((fX5_areDays T mt md).2.2.2.1))) (fX5_areDays T mt md).2.2.2.2] (fX5_areDays T mt md).1 := by
  intro sz
  refine Met.ofW (cc := cX5_areDays) (maxL := 1) (ret := (some .boolean)) (by decide) rfl ?_
  intro p e s m args below meth c s₁ B hml hv
  obtain ⟨rfl, hsz, hP, hK, hD0, hAm⟩ := hv
  have hx := B.exec
  have hb := B.bytes
  have hr := B.returns
  have hts := atoms_spec (ws := wsX5_areDays) B.pre
  have hown : s.vm.findClass RX5 = some m.cls := findClass_of_methodNamed B.named
  have hlocks := B.notSynchronized
  subst hsz
  have hD := hD0.self (sz := s.heap.size)
  generalize hAe : va_A (wcat [moB Γ a ms mt mc md m0 m1 (nI T) m3 m4 m5]) s.heap.size = A at hD hAm ⊢
  have hA : ∀ q : Nat, s.heap.size ≤ q → A q := fun q h => by rw [← hAe]; exact Or.inr h
  have hAB : ∀ q : Nat, A q → A q := fun _ h => h
  have hS : va_S A s.heap s.heap [] := va_S.rf
  have hl := lv_entry ([.ref (a 0)]) (n := 1) (Nat.le_of_ble_eq_true rfl)
  rw [lg_entry_eq]
  generalize (lg_sl ([.ref (a 0)]) ++ List.replicate (1 - (lg_sl ([.ref (a 0)])).length) Slot.unset).toArray = ls at hl ⊢
  have hl : lv_has ls 1 [(0, .ref (a 0))] := hl
  have hi5 : ∀ w ∈ wsX50, w ∈ wsX5_areDays := by decide +kernel
  have kf101 := hts (.fieldLink RX5 101 "CapsuleKeepersModel" "typed" "I") (by decide +kernel)
  have kf104 := hts (.fieldLink RX5 104 "CapsuleKeepersModel" "isRight" "Z") (by decide +kernel)
  have kf108 := hts (.fieldLink RX5 108 "CapsuleKeepersModel" "at" "I") (by decide +kernel)
  have kf125 := hts (.fieldLink RX5 125 "CapsuleKeepersModel" "orders" "I") (by decide +kernel)
  have hq : (fX5_areDays T mt md) = (let r_1 := (fX5_reads (T) (0) (0) mt md (nI 1)); (fX5_areDays_L19 T mt (T + 2) r_1.1 r_1.2.2.2 ((r_1.2.1)) ((r_1.2.2.1)))) := rfl
  refine lv_aload_n hx hb dX5_areDays_0 rfl (lv_at hl 0 rfl) ?_
  refine lv_iconst (v := (nI 0)) hx hb dX5_areDays_1 (by decide) ?_
  refine va_put (D := Γ.1) (ci := 5) (v := .int (nI 0)) (ty := .int) (C := RX5) (T := TX5) (N := 10) hx hb hts hi5 tyX5 tyX5_ok nmX5 hown hK hP hD hS 0 rfl rfl 8 (by decide) kf108 (fun _ h9 => h9) rfl (by decide +kernel) rfl rfl (Nat.le_of_ble_eq_true rfl) dX5_areDays_2 (fun H locs hP hD hS => ?_)
  have hP : va_P Γ.1 vwCl (wcat [moB Γ a ms mt mc md m0 m1 (nI T) m3 (nI 0) m5]) H := hP
  have hD : va_D A (wcat [moB Γ a ms mt mc md m0 m1 (nI T) m3 (nI 0) m5]) := hD
  refine lv_aload_n hx hb dX5_areDays_5 rfl (lv_at hl 0 rfl) ?_
  refine lv_iconst (v := (nI 1)) hx hb dX5_areDays_6 (by decide) ?_
  refine va_put (D := Γ.1) (ci := 5) (v := .int (nI 1)) (ty := .boolean) (C := RX5) (T := TX5) (N := 10) hx hb hts hi5 tyX5 tyX5_ok nmX5 hown hK hP hD hS 0 rfl rfl 9 (by decide) kf104 (fun _ h9 => h9) rfl (by decide +kernel) rfl rfl (Nat.le_of_ble_eq_true rfl) dX5_areDays_7 (fun H locs hP hD hS => ?_)
  have hP : va_P Γ.1 vwCl (wcat [moB Γ a ms mt mc md m0 m1 (nI T) m3 (nI 0) (nI 1)]) H := hP
  have hD : va_D A (wcat [moB Γ a ms mt mc md m0 m1 (nI T) m3 (nI 0) (nI 1)]) := hD
  refine lv_aload_n hx hb dX5_areDays_10 rfl (lv_at hl 0 rfl) ?_
  refine lv_iconst (v := (nI 0)) hx hb dX5_areDays_11 (by decide) ?_
  refine va_put (D := Γ.1) (ci := 5) (v := .int (nI 0)) (ty := .int) (C := RX5) (T := TX5) (N := 10) hx hb hts hi5 tyX5 tyX5_ok nmX5 hown hK hP hD hS 0 rfl rfl 7 (by decide) kf125 (fun _ h9 => h9) rfl (by decide +kernel) rfl rfl (Nat.le_of_ble_eq_true rfl) dX5_areDays_12 (fun H locs hP hD hS => ?_)
  have hP : va_P Γ.1 vwCl (wcat [moB Γ a ms mt mc md m0 m1 (nI T) (nI 0) (nI 0) (nI 1)]) H := hP
  have hD : va_D A (wcat [moB Γ a ms mt mc md m0 m1 (nI T) (nI 0) (nI 0) (nI 1)]) := hD
  refine lv_aload_n hx hb dX5_areDays_15 rfl (lv_at hl 0 rfl) ?_
  refine cMV (bc' := [moB Γ a ms mt mc (fX5_reads (T) (0) (0) mt md (nI 1)).1 m0 m1 (nI T) (nI ((fX5_reads (T) (0) (0) mt md (nI 1)).2.1)) (nI ((fX5_reads (T) (0) (0) mt md (nI 1)).2.2.1)) (fX5_reads (T) (0) (0) mt md (nI 1)).2.2.2]) (va_runV (As := []) (rest := []) ⟨hx, hb, hml, hown, hts⟩ ((kX5_reads l Γ a (T) (0) (0) ms mt mc md m0 m1 (nI 1) (by first | assumption | omega) (by first | assumption | omega) (by first | assumption | omega)) _) (cwV 0 hts gX5_areDays_X5_reads rfl rfl rfl (by decide +kernel) ⟨Nat.le_of_ble_eq_true rfl, Nat.le_of_ble_eq_true rfl⟩) ⟨wPre_blind, va_recv hK hP (ci := 5) (q0 := 0) rfl rfl, wPre_mk hP hD hK hS hA hAB hAm [0] rfl rfl⟩ rfl rfl hl.1 rfl (lv_room (Nat.le_of_ble_eq_true rfl)) dX5_areDays_16 ⟨Nat.zero_le _, Nat.zero_le _⟩) hP hD hS hA [0] rfl rfl (bs' := [moB Γ a ms mt mc (fX5_reads (T) (0) (0) mt md (nI 1)).1 m0 m1 (nI T) (nI ((fX5_reads (T) (0) (0) mt md (nI 1)).2.1)) (nI ((fX5_reads (T) (0) (0) mt md (nI 1)).2.2.1)) (fX5_reads (T) (0) (0) mt md (nI 1)).2.2.2]) rfl (fun H locs hP hD hS => ?_)
  have hfr_1 : (0) ≤ (fX5_reads (T) (0) (0) mt md (nI 1)).2.2.1 ∧ (fX5_reads (T) (0) (0) mt md (nI 1)).2.2.1 ≤ T ∧ ((fX5_reads (T) (0) (0) mt md (nI 1)).2.1 = (0) ∨ ((fX5_reads (T) (0) (0) mt md (nI 1)).2.1 = (0) + 1 ∧ (0) + 1 ≤ (fX5_reads (T) (0) (0) mt md (nI 1)).2.2.1)) ∧ ((fX5_reads (T) (0) (0) mt md (nI 1)).2.2.2 = nI 0 ∨ (fX5_reads (T) (0) (0) mt md (nI 1)).2.2.2 = nI 1) ∧ ((nI 1) = 0 → (fX5_reads (T) (0) (0) mt md (nI 1)).2.2.2 = nI 0) := reads_fx hT (by omega)
  generalize hr_1 : (fX5_reads (T) (0) (0) mt md (nI 1)) = r_1 at hfr_1 hP hD hq
  replace hq : (fX5_areDays T mt md) = (fX5_areDays_L19 T mt (T + 2) r_1.1 r_1.2.2.2 ((r_1.2.1)) ((r_1.2.2.1))) := hq
  refine wl (pc := 19) (σ := (Nat → Int32) × Int32 × Nat × Nat) (fun n (md0_19, m50_19, m30_19, m40_19) H locs ls => ((¬ m50_19 = 0 → T + 2 ≤ m40_19 + n) ∧ (m50_19 = 0 → 1 ≤ n) ∧ m40_19 ≤ T ∧ m30_19 ≤ m40_19 ∧ (m50_19 = nI 0 ∨ m50_19 = nI 1)) ∧ (fX5_areDays T mt md) = fX5_areDays_L19 T mt n md0_19 m50_19 m30_19 m40_19 ∧ va_P Γ.1 vwCl (wcat [moB Γ a ms mt mc md0_19 m0 m1 (nI T) (nI m30_19) (nI m40_19) m50_19]) H ∧ va_D A (wcat [moB Γ a ms mt mc md0_19 m0 m1 (nI T) (nI m30_19) (nI m40_19) m50_19]) ∧ va_S A s.heap H locs ∧ lv_has ls 1 [(0, .ref (a 0))]) ?_ ?_ (T + 2) (r_1.1, r_1.2.2.2, ((r_1.2.1)), ((r_1.2.2.1))) _ _ _ ⟨⟨fun _ => by omega, fun _ => by omega, by omega, by omega, hfr_1.2.2.2.1⟩, hq, hP, hD, hS, lv_sub hl [0] rfl⟩
  · intro ⟨md0_19, m50_19, m30_19, m40_19⟩ H locs ls h
    obtain ⟨hn19, hq, hP, hD, hS, hl⟩ := h
    try dsimp only at hn19 hq hP hD hl
    obtain ⟨hu19, hv19, hw19, hx19, hz19⟩ := hn19
    replace hq : (fX5_areDays T mt md) = (nI 0, md0_19, m30_19, m40_19, m50_19) := hq
    exfalso
    (by_cases hz : m50_19 = 0 <;> first | exact absurd (hv19 hz) (by omega) | exact absurd (hu19 hz) (by omega))
  · intro n19 ih19 ⟨md0_19, m50_19, m30_19, m40_19⟩ H locs ls h
    obtain ⟨hn19, hq, hP, hD, hS, hl⟩ := h
    try dsimp only at hn19 hq hP hD hl
    obtain ⟨hu19, hv19, hw19, hx19, hz19⟩ := hn19
    replace hq : (fX5_areDays T mt md) = (if m50_19 = 0 then (m50_19, md0_19, m30_19, m40_19, m50_19) else (if (nI T) ≤ (nI m40_19) then (m50_19, md0_19, m30_19, m40_19, m50_19) else (let r_4 := (fX5_takes (T) (m40_19) mt m50_19 (nI 59)); (let r_5 := (fX5_reads (T) (m30_19) ((r_4.1)) mt md0_19 r_4.2); (fX5_areDays_L19 T mt n19 r_5.1 r_5.2.2.2 ((r_5.2.1)) ((r_5.2.2.1))))))) := hq
    refine lv_aload_n hx hb dX5_areDays_19 rfl (lv_at hl 0 rfl) ?_
    refine va_get (D := Γ.1) (ci := 5) (v := .int m50_19) (C := RX5) (T := TX5) (N := 10) hx hb hts hi5 hown hK hP 0 rfl rfl 9 (by decide) kf104 (fun _ h9 => h9) rfl dX5_areDays_20 ?_
    refine lv_if_eq (tgt := 50) hx hb dX5_areDays_23 (by decide) (fun c_2 => ?_) (fun c_2 => ?_)
    · have hq := hq.trans (if_pos c_2)
      refine lv_aload_n hx hb dX5_areDays_50 rfl (lv_at hl 0 rfl) ?_
      refine va_get (D := Γ.1) (ci := 5) (v := .int m50_19) (C := RX5) (T := TX5) (N := 10) hx hb hts hi5 hown hK hP 0 rfl rfl 9 (by decide) kf104 (fun _ h9 => h9) rfl dX5_areDays_51 ?_
      exact W.zret (v := m50_19) hx hb hr (nar01 hz19) (fun t ht hW => eMI (by rw [hq]; exact hP) hS ht (by rw [hq])) hS.2.2 dX5_areDays_54
    · have hq := hq.trans (if_neg c_2)
      refine lv_aload_n hx hb dX5_areDays_26 rfl (lv_at hl 0 rfl) ?_
      refine va_get (D := Γ.1) (ci := 5) (v := .int (nI m40_19)) (C := RX5) (T := TX5) (N := 10) hx hb hts hi5 hown hK hP 0 rfl rfl 8 (by decide) kf108 (fun _ h9 => h9) rfl dX5_areDays_27 ?_
      refine lv_aload_n hx hb dX5_areDays_30 rfl (lv_at hl 0 rfl) ?_
      refine va_get (D := Γ.1) (ci := 5) (v := .int (nI T)) (C := RX5) (T := TX5) (N := 10) hx hb hts hi5 hown hK hP 0 rfl rfl 4 (by decide) kf101 (fun _ h9 => h9) rfl dX5_areDays_31 ?_
      refine lv_icmp_ge (tgt := 50) hx hb dX5_areDays_34 (by decide) (fun c_3 => ?_) (fun c_3 => ?_)
      · have hq := hq.trans (if_pos c_3)
        refine lv_aload_n hx hb dX5_areDays_50 rfl (lv_at hl 0 rfl) ?_
        refine va_get (D := Γ.1) (ci := 5) (v := .int m50_19) (C := RX5) (T := TX5) (N := 10) hx hb hts hi5 hown hK hP 0 rfl rfl 9 (by decide) kf104 (fun _ h9 => h9) rfl dX5_areDays_51 ?_
        exact W.zret (v := m50_19) hx hb hr (nar01 hz19) (fun t ht hW => eMI (by rw [hq]; exact hP) hS ht (by rw [hq])) hS.2.2 dX5_areDays_54
      · have hq := hq.trans (if_neg c_3)
        refine lv_aload_n hx hb dX5_areDays_37 rfl (lv_at hl 0 rfl) ?_
        refine lv_bipush (v := (nI 59)) hx hb dX5_areDays_38 (by decide) ?_
        refine cMV (bc' := [moB Γ a ms mt mc md0_19 m0 m1 (nI T) (nI m30_19) (nI ((fX5_takes (T) (m40_19) mt m50_19 (nI 59)).1)) (fX5_takes (T) (m40_19) mt m50_19 (nI 59)).2]) (va_runV (As := [.int (nI 59)]) (rest := []) ⟨hx, hb, hml, hown, hts⟩ ((kX5_takes l Γ a (T) (m40_19) ms mt mc md0_19 m0 m1 (nI m30_19) m50_19 (nI 59) (by first | assumption | omega) (by first | assumption | omega)) _) (cwV 1 hts gX5_areDays_X5_takes rfl rfl rfl (by decide +kernel) ⟨Nat.le_of_ble_eq_true rfl, Nat.le_of_ble_eq_true rfl⟩) ⟨wPre_blind, va_recv hK hP (ci := 5) (q0 := 0) rfl rfl, wPre_mk hP hD hK hS hA hAB hAm [0] rfl rfl⟩ rfl rfl hl.1 rfl (lv_room (Nat.le_of_ble_eq_true rfl)) dX5_areDays_40 ⟨Nat.zero_le _, Nat.zero_le _⟩) hP hD hS hA [0] rfl rfl (bs' := [moB Γ a ms mt mc md0_19 m0 m1 (nI T) (nI m30_19) (nI ((fX5_takes (T) (m40_19) mt m50_19 (nI 59)).1)) (fX5_takes (T) (m40_19) mt m50_19 (nI 59)).2]) rfl (fun H locs hP hD hS => ?_)
        have hfr_4 : (m40_19) ≤ (fX5_takes (T) (m40_19) mt m50_19 (nI 59)).1 ∧ (fX5_takes (T) (m40_19) mt m50_19 (nI 59)).1 ≤ T ∧ ((fX5_takes (T) (m40_19) mt m50_19 (nI 59)).2 = nI 0 ∨ (fX5_takes (T) (m40_19) mt m50_19 (nI 59)).2 = nI 1) ∧ (¬ (fX5_takes (T) (m40_19) mt m50_19 (nI 59)).2 = 0 → (m40_19) + 1 ≤ (fX5_takes (T) (m40_19) mt m50_19 (nI 59)).1) := takes_fx hT (by first | omega | (have hq9 := ltN (a := P) (b := T) (by omega) (by omega) (by assumption); omega))
        generalize hr_4 : (fX5_takes (T) (m40_19) mt m50_19 (nI 59)) = r_4 at hfr_4 hP hD hq
        replace hq : (fX5_areDays T mt md) = (let r_5 := (fX5_reads (T) (m30_19) ((r_4.1)) mt md0_19 r_4.2); (fX5_areDays_L19 T mt n19 r_5.1 r_5.2.2.2 ((r_5.2.1)) ((r_5.2.2.1)))) := hq
        refine lv_aload_n hx hb dX5_areDays_43 rfl (lv_at hl 0 rfl) ?_
        refine cMV (bc' := [moB Γ a ms mt mc (fX5_reads (T) (m30_19) ((r_4.1)) mt md0_19 r_4.2).1 m0 m1 (nI T) (nI ((fX5_reads (T) (m30_19) ((r_4.1)) mt md0_19 r_4.2).2.1)) (nI ((fX5_reads (T) (m30_19) ((r_4.1)) mt md0_19 r_4.2).2.2.1)) (fX5_reads (T) (m30_19) ((r_4.1)) mt md0_19 r_4.2).2.2.2]) (va_runV (As := []) (rest := []) ⟨hx, hb, hml, hown, hts⟩ ((kX5_reads l Γ a (T) (m30_19) ((r_4.1)) ms mt mc md0_19 m0 m1 r_4.2 (by first | assumption | omega) (by first | assumption | omega) ((by first | omega | (have hq9 := ltN (a := m40_19) (b := T) (by omega) (by omega) (by assumption); omega)))) _) (cwV 0 hts gX5_areDays_X5_reads rfl rfl rfl (by decide +kernel) ⟨Nat.le_of_ble_eq_true rfl, Nat.le_of_ble_eq_true rfl⟩) ⟨wPre_blind, va_recv hK hP (ci := 5) (q0 := 0) rfl rfl, wPre_mk hP hD hK hS hA hAB hAm [0] rfl rfl⟩ rfl rfl hl.1 rfl (lv_room (Nat.le_of_ble_eq_true rfl)) dX5_areDays_44 ⟨Nat.zero_le _, Nat.zero_le _⟩) hP hD hS hA [0] rfl rfl (bs' := [moB Γ a ms mt mc (fX5_reads (T) (m30_19) ((r_4.1)) mt md0_19 r_4.2).1 m0 m1 (nI T) (nI ((fX5_reads (T) (m30_19) ((r_4.1)) mt md0_19 r_4.2).2.1)) (nI ((fX5_reads (T) (m30_19) ((r_4.1)) mt md0_19 r_4.2).2.2.1)) (fX5_reads (T) (m30_19) ((r_4.1)) mt md0_19 r_4.2).2.2.2]) rfl (fun H locs hP hD hS => ?_)
        have hfr_5 : ((r_4.1)) ≤ (fX5_reads (T) (m30_19) ((r_4.1)) mt md0_19 r_4.2).2.2.1 ∧ (fX5_reads (T) (m30_19) ((r_4.1)) mt md0_19 r_4.2).2.2.1 ≤ T ∧ ((fX5_reads (T) (m30_19) ((r_4.1)) mt md0_19 r_4.2).2.1 = (m30_19) ∨ ((fX5_reads (T) (m30_19) ((r_4.1)) mt md0_19 r_4.2).2.1 = (m30_19) + 1 ∧ ((r_4.1)) + 1 ≤ (fX5_reads (T) (m30_19) ((r_4.1)) mt md0_19 r_4.2).2.2.1)) ∧ ((fX5_reads (T) (m30_19) ((r_4.1)) mt md0_19 r_4.2).2.2.2 = nI 0 ∨ (fX5_reads (T) (m30_19) ((r_4.1)) mt md0_19 r_4.2).2.2.2 = nI 1) ∧ (r_4.2 = 0 → (fX5_reads (T) (m30_19) ((r_4.1)) mt md0_19 r_4.2).2.2.2 = nI 0) := reads_fx hT (by omega)
        generalize hr_5 : (fX5_reads (T) (m30_19) ((r_4.1)) mt md0_19 r_4.2) = r_5 at hfr_5 hP hD hq
        replace hq : (fX5_areDays T mt md) = (fX5_areDays_L19 T mt n19 r_5.1 r_5.2.2.2 ((r_5.2.1)) ((r_5.2.2.1))) := hq
        refine lv_goto (tgt := 19) hx hb dX5_areDays_47 (by decide) ?_
        exact ih19 (r_5.1, r_5.2.2.2, ((r_5.2.1)), ((r_5.2.2.1))) H locs ls ⟨⟨fun q => by (rcases Classical.em (r_4.2 = 0) with w | w; exact absurd (by rw [hfr_5.2.2.2.2 w]; decide) q; have w1 := hfr_4.2.2.2 w; have w2 := hu19 (by assumption); omega), fun _ => by have w2 := hu19 (by assumption); omega, by omega, by omega, hfr_5.2.2.2.1⟩, hq, hP, hD, hS, lv_sub hl [0] rfl⟩
