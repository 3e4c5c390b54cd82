def fX5_thrown (m1 : Int32) : Int32 := (m1)
set_option maxHeartbeats 4000000 in
set_option maxRecDepth 100000 in
theorem kX5_thrown (l : Launch) (Γ : wG) (a : Nat → Nat) (ms : (Nat → Int32)) (mt : (Nat → Int32)) (mc : (Nat → Int32)) (md : (Nat → Int32)) (m0 : Int32) (m1 : Int32) (m2 : Int32) (m3 : Int32) (m4 : Int32) (m5 : Int32) : LI l Γ yX5_thrown wsX5_thrown ({ frames := 0, cells := 0, slots := 0, locals := 0 }) [.ref (a 0)] [moB Γ a ms mt mc md m0 m1 m2 m3 m4 m5] (fX5_thrown m1) := by
  intro sz
  refine Met.ofW (cc := cX5_thrown) (maxL := 1) (ret := (some .int)) (by decide) rfl ?_
  intro p e s m args below meth c s₁ B hml hv
  obtain ⟨rfl, hsz, hP, hK, hD0, hAm⟩ := hv
  have hx := B.exec
  have hb := B.bytes
  have hr := B.returns
  have hts := atoms_spec (ws := wsX5_thrown) B.pre
  have hown : s.vm.findClass RX5 = some m.cls := findClass_of_methodNamed B.named
  have hlocks := B.notSynchronized
  subst hsz
  have hD := hD0.self (sz := s.heap.size)
  generalize hBe : va_A (wcat [moB Γ a ms mt mc md m0 m1 m2 m3 m4 m5]) s.heap.size = B0 at hD hAm
  obtain ⟨A, hAe⟩ : ∃ A, A = va_A [] s.heap.size := ⟨_, rfl⟩
  rw [← hAe]
  have hA : ∀ q : Nat, s.heap.size ≤ q → A q := fun q h => by rw [hAe]; exact Or.inr h
  have hAB : ∀ q : Nat, A q → B0 q := fun q h => by rw [hAe] at h; rw [← hBe]; exact Or.inr (wnone h)
  have hS : va_S A s.heap s.heap [] := va_S.rf
  have hl := lv_entry ([.ref (a 0)]) (n := 1) (Nat.le_of_ble_eq_true rfl)
  rw [lg_entry_eq]
  generalize (lg_sl ([.ref (a 0)]) ++ List.replicate (1 - (lg_sl ([.ref (a 0)])).length) Slot.unset).toArray = ls at hl ⊢
  have hl : lv_has ls 1 [(0, .ref (a 0))] := hl
  have hi5 : ∀ w ∈ wsX50, w ∈ wsX5_thrown := by decide +kernel
  have kf23 := hts (.fieldLink RX5 23 "CapsuleKeepersModel" "thrown" "I") (by decide +kernel)
  have hq : (fX5_thrown m1) = (m1) := rfl
  refine lv_aload_n hx hb dX5_thrown_0 rfl (lv_at hl 0 rfl) ?_
  refine va_get (D := Γ.1) (ci := 5) (v := .int m1) (C := RX5) (T := TX5) (N := 10) hx hb hts hi5 hown hK hP 0 rfl rfl 2 (by decide) kf23 (fun _ h9 => h9) rfl dX5_thrown_1 ?_
  exact W.iret (v := m1) hx hb hr (fun t ht hW => eLI hS ht (by rw [hq])) hS.2.2 dX5_thrown_4
def fX5_in (k : Int32) (lo : Int32) (hi : Int32) : Int32 := (if k < lo then ((nI 0)) else (if hi < k then ((nI 0)) else ((nI 1))))
set_option maxHeartbeats 4000000 in
set_option maxRecDepth 100000 in
theorem kX5_in (l : Launch) (Γ : wG) (k : Int32) (lo : Int32) (hi : Int32) : LI l Γ yX5_in wsX5_in ({ frames := 0, cells := 0, slots := 0, locals := 0 }) [.int k, .int lo, .int hi] [] (fX5_in k lo hi) := by
  intro sz
  refine Met.ofW (cc := cX5_in) (maxL := 3) (ret := (some .boolean)) (by decide) rfl ?_
  intro p e s m args below meth c s₁ B hml hv
  obtain ⟨rfl, hsz, hP, hK, hD0, hAm⟩ := hv
  have hx := B.exec
  have hb := B.bytes
  have hr := B.returns
  have hts := atoms_spec (ws := wsX5_in) B.pre
  have hown : s.vm.findClass RX5 = some m.cls := findClass_of_methodNamed B.named
  have hlocks := B.notSynchronized
  subst hsz
  have hD := hD0.self (sz := s.heap.size)
  generalize hBe : va_A (wcat []) s.heap.size = B0 at hD hAm
  obtain ⟨A, hAe⟩ : ∃ A, A = va_A [] s.heap.size := ⟨_, rfl⟩
  rw [← hAe]
  have hA : ∀ q : Nat, s.heap.size ≤ q → A q := fun q h => by rw [hAe]; exact Or.inr h
  have hAB : ∀ q : Nat, A q → B0 q := fun q h => by rw [hAe] at h; rw [← hBe]; exact Or.inr (wnone h)
  have hS : va_S A s.heap s.heap [] := va_S.rf
  have hl := lv_entry ([.int k, .int lo, .int hi]) (n := 3) (Nat.le_of_ble_eq_true rfl)
  rw [lg_entry_eq]
  generalize (lg_sl ([.int k, .int lo, .int hi]) ++ List.replicate (3 - (lg_sl ([.int k, .int lo, .int hi])).length) Slot.unset).toArray = ls at hl ⊢
  have hl : lv_has ls 3 [(0, .int k), (1, .int lo), (2, .int hi)] := hl
  have hq : (fX5_in k lo hi) = (if k < lo then ((nI 0)) else (if hi < k then ((nI 0)) else ((nI 1)))) := rfl
  refine lv_iload_n hx hb dX5_in_0 rfl (lv_at hl 0 rfl) ?_
  refine lv_iload_n hx hb dX5_in_1 rfl (lv_at hl 1 rfl) ?_
  refine lv_icmp_lt (tgt := 14) hx hb dX5_in_2 (by decide) (fun c_1 => ?_) (fun c_1 => ?_)
  · have hq := hq.trans (if_pos c_1)
    refine lv_iconst (v := (nI 0)) hx hb dX5_in_14 (by decide) ?_
    exact W.zret (v := (nI 0)) hx hb hr (by first | rfl | decide) (fun t ht hW => eLI hS ht (by rw [hq])) hS.2.2 dX5_in_15
  · have hq := hq.trans (if_neg c_1)
    refine lv_iload_n hx hb dX5_in_5 rfl (lv_at hl 0 rfl) ?_
    refine lv_iload_n hx hb dX5_in_6 rfl (lv_at hl 2 rfl) ?_
    refine lv_icmp_gt (tgt := 14) hx hb dX5_in_7 (by decide) (fun c_2 => ?_) (fun c_2 => ?_)
    · have hq := hq.trans (if_pos c_2)
      refine lv_iconst (v := (nI 0)) hx hb dX5_in_14 (by decide) ?_
      exact W.zret (v := (nI 0)) hx hb hr (by first | rfl | decide) (fun t ht hW => eLI hS ht (by rw [hq])) hS.2.2 dX5_in_15
    · have hq := hq.trans (if_neg c_2)
      refine lv_iconst (v := (nI 1)) hx hb dX5_in_10 (by decide) ?_
      refine lv_goto (tgt := 15) hx hb dX5_in_11 (by decide) ?_
      exact W.zret (v := (nI 1)) hx hb hr (by first | rfl | decide) (fun t ht hW => eLI hS ht (by rw [hq])) hS.2.2 dX5_in_15
theorem bX5_in (k lo hi : Int32) : fX5_in k lo hi = nI 0 ∨ fX5_in k lo hi = nI 1 := by
  unfold fX5_in
  (repeat' split) <;> simp
def fX5_goes (f1 : Int32) (f2 : Int32) : Int32 × Int32 := (if f1 = 0 then ((nI 0), (nI 1)) else (if f2 = 0 then ((nI 0), (nI 2)) else ((nI 1), (nI 0))))
set_option maxHeartbeats 4000000 in
set_option maxRecDepth 100000 in
theorem kX5_goes (l : Launch) (Γ : wG) (a : Nat → Nat) (ms : (Nat → Int32)) (mt : (Nat → Int32)) (mc : (Nat → Int32)) (md : (Nat → Int32)) (m0 : Int32) (m1 : Int32) (m2 : Int32) (m3 : Int32) (m4 : Int32) (m5 : Int32) (f1 : Int32) (f2 : Int32) : MI l Γ yX5_goes wsX5_goes ({ frames := 0, cells := 0, slots := 0, locals := 0 }) [.ref (a 0), .int f1, .int f2] [moB Γ a ms mt mc md m0 m1 m2 m3 m4 m5] [moB Γ a ms mt mc md m0 (fX5_goes f1 f2).2 m2 m3 m4 m5] (fX5_goes f1 f2).1 := by
  intro sz
  refine Met.ofW (cc := cX5_goes) (maxL := 3) (ret := (some .boolean)) (by decide) rfl ?_
  intro p e s m args below meth c s₁ B hml hv
  obtain ⟨rfl, hsz, hP, hK, hD0, hAm⟩ := hv
  have hx := B.exec
  have hb := B.bytes
  have hr := B.returns
  have hts := atoms_spec (ws := wsX5_goes) B.pre
  have hown : s.vm.findClass RX5 = some m.cls := findClass_of_methodNamed B.named
  have hlocks := B.notSynchronized
  subst hsz
  have hD := hD0.self (sz := s.heap.size)
  generalize hAe : va_A (wcat [moB Γ a ms mt mc md m0 m1 m2 m3 m4 m5]) s.heap.size = A at hD hAm ⊢
  have hA : ∀ q : Nat, s.heap.size ≤ q → A q := fun q h => by rw [← hAe]; exact Or.inr h
  have hAB : ∀ q : Nat, A q → A q := fun _ h => h
  have hS : va_S A s.heap s.heap [] := va_S.rf
  have hl := lv_entry ([.ref (a 0), .int f1, .int f2]) (n := 3) (Nat.le_of_ble_eq_true rfl)
  rw [lg_entry_eq]
  generalize (lg_sl ([.ref (a 0), .int f1, .int f2]) ++ List.replicate (3 - (lg_sl ([.ref (a 0), .int f1, .int f2])).length) Slot.unset).toArray = ls at hl ⊢
  have hl : lv_has ls 3 [(0, .ref (a 0)), (1, .int f1), (2, .int f2)] := hl
  have hi5 : ∀ w ∈ wsX50, w ∈ wsX5_goes := by decide +kernel
  have kf23 := hts (.fieldLink RX5 23 "CapsuleKeepersModel" "thrown" "I") (by decide +kernel)
  have hq : (fX5_goes f1 f2) = (if f1 = 0 then ((nI 0), (nI 1)) else (if f2 = 0 then ((nI 0), (nI 2)) else ((nI 1), (nI 0)))) := rfl
  refine lv_aload_n hx hb dX5_goes_0 rfl (lv_at hl 0 rfl) ?_
  refine lv_iload_n hx hb dX5_goes_1 rfl (lv_at hl 1 rfl) ?_
  refine lv_if_ne (tgt := 9) hx hb dX5_goes_2 (by decide) (fun c_1 => ?_) (fun c_1 => ?_)
  · have hq := hq.trans (if_neg c_1)
    refine lv_iload_n hx hb dX5_goes_9 rfl (lv_at hl 2 rfl) ?_
    refine lv_if_ne (tgt := 17) hx hb dX5_goes_10 (by decide) (fun c_2 => ?_) (fun c_2 => ?_)
    · have hq := hq.trans (if_neg c_2)
      refine lv_iconst (v := (nI 0)) hx hb dX5_goes_17 (by decide) ?_
      refine va_put (D := Γ.1) (ci := 5) (v := .int (nI 0)) (ty := .int) (C := RX5) (T := TX5) (N := 10) hx hb hts hi5 tyX5 tyX5_ok nmX5 hown hK hP hD hS 0 rfl rfl 2 (by decide) kf23 (fun _ h9 => h9) rfl (by decide +kernel) rfl rfl (Nat.le_of_ble_eq_true rfl) dX5_goes_18 (fun H locs hP hD hS => ?_)
      have hP : va_P Γ.1 vwCl (wcat [moB Γ a ms mt mc md m0 (nI 0) m2 m3 m4 m5]) H := hP
      have hD : va_D A (wcat [moB Γ a ms mt mc md m0 (nI 0) m2 m3 m4 m5]) := hD
      refine lv_aload_n hx hb dX5_goes_21 rfl (lv_at hl 0 rfl) ?_
      refine va_get (D := Γ.1) (ci := 5) (v := .int (nI 0)) (C := RX5) (T := TX5) (N := 10) hx hb hts hi5 hown hK hP 0 rfl rfl 2 (by decide) kf23 (fun _ h9 => h9) rfl dX5_goes_22 ?_
      refine lv_if_ne (tgt := 32) hx hb dX5_goes_25 (by decide) (fun c_25 => absurd c_25 (by decide)) (fun c_25 => ?_)
      refine lv_iconst (v := (nI 1)) hx hb dX5_goes_28 (by decide) ?_
      refine lv_goto (tgt := 33) hx hb dX5_goes_29 (by decide) ?_
      exact W.zret (v := (nI 1)) hx hb hr (by first | rfl | decide) (fun t ht hW => eMI (by rw [hq]; exact hP) hS ht (by rw [hq])) hS.2.2 dX5_goes_33
    · have hq := hq.trans (if_pos c_2)
      refine lv_iconst (v := (nI 2)) hx hb dX5_goes_13 (by decide) ?_
      refine lv_goto (tgt := 18) hx hb dX5_goes_14 (by decide) ?_
      refine va_put (D := Γ.1) (ci := 5) (v := .int (nI 2)) (ty := .int) (C := RX5) (T := TX5) (N := 10) hx hb hts hi5 tyX5 tyX5_ok nmX5 hown hK hP hD hS 0 rfl rfl 2 (by decide) kf23 (fun _ h9 => h9) rfl (by decide +kernel) rfl rfl (Nat.le_of_ble_eq_true rfl) dX5_goes_18 (fun H locs hP hD hS => ?_)
      have hP : va_P Γ.1 vwCl (wcat [moB Γ a ms mt mc md m0 (nI 2) m2 m3 m4 m5]) H := hP
      have hD : va_D A (wcat [moB Γ a ms mt mc md m0 (nI 2) m2 m3 m4 m5]) := hD
      refine lv_aload_n hx hb dX5_goes_21 rfl (lv_at hl 0 rfl) ?_
      refine va_get (D := Γ.1) (ci := 5) (v := .int (nI 2)) (C := RX5) (T := TX5) (N := 10) hx hb hts hi5 hown hK hP 0 rfl rfl 2 (by decide) kf23 (fun _ h9 => h9) rfl dX5_goes_22 ?_
      refine lv_if_ne (tgt := 32) hx hb dX5_goes_25 (by decide) (fun c_25 => ?_) (fun c_25 => absurd c_25 (by decide))
      refine lv_iconst (v := (nI 0)) hx hb dX5_goes_32 (by decide) ?_
      exact W.zret (v := (nI 0)) hx hb hr (by first | rfl | decide) (fun t ht hW => eMI (by rw [hq]; exact hP) hS ht (by rw [hq])) hS.2.2 dX5_goes_33
  · have hq := hq.trans (if_pos c_1)
    refine lv_iconst (v := (nI 1)) hx hb dX5_goes_5 (by decide) ?_
    refine lv_goto (tgt := 18) hx hb dX5_goes_6 (by decide) ?_
    refine va_put (D := Γ.1) (ci := 5) (v := .int (nI 1)) (ty := .int) (C := RX5) (T := TX5) (N := 10) hx hb hts hi5 tyX5 tyX5_ok nmX5 hown hK hP hD hS 0 rfl rfl 2 (by decide) kf23 (fun _ h9 => h9) rfl (by decide +kernel) rfl rfl (Nat.le_of_ble_eq_true rfl) dX5_goes_18 (fun H locs hP hD hS => ?_)
    have hP : va_P Γ.1 vwCl (wcat [moB Γ a ms mt mc md m0 (nI 1) m2 m3 m4 m5]) H := hP
    have hD : va_D A (wcat [moB Γ a ms mt mc md m0 (nI 1) m2 m3 m4 m5]) := hD
    refine lv_aload_n hx hb dX5_goes_21 rfl (lv_at hl 0 rfl) ?_
    refine va_get (D := Γ.1) (ci := 5) (v := .int (nI 1)) (C := RX5) (T := TX5) (N := 10) hx hb hts hi5 hown hK hP 0 rfl rfl 2 (by decide) kf23 (fun _ h9 => h9) rfl dX5_goes_22 ?_
    refine lv_if_ne (tgt := 32) hx hb dX5_goes_25 (by decide) (fun c_25 => ?_) (fun c_25 => absurd c_25 (by decide))
    refine lv_iconst (v := (nI 0)) hx hb dX5_goes_32 (by decide) ?_
    exact W.zret (v := (nI 0)) hx hb hr (by first | rfl | decide) (fun t ht hW => eMI (by rw [hq]; exact hP) hS ht (by rw [hq])) hS.2.2 dX5_goes_33
def fX5_bits_L4 (g : Int32) : Nat → Nat → Int32 → Int32
  | 0, i4, x1_4 => (x1_4)
  | n4 + 1, i4, x1_4 => (fX5_bits_L4 g n4 (i4 + 1) (x1_4 + ((g >>> ((nI i4) &&& 31)) &&& (nI 1))))
def fX5_bits (g : Int32) : Int32 := (fX5_bits_L4 g (8) 0 (nI 0))
set_option maxHeartbeats 4000000 in
set_option maxRecDepth 100000 in
theorem kX5_bits (l : Launch) (Γ : wG) (g : Int32) : LI l Γ yX5_bits wsX5_bits ({ frames := 0, cells := 0, slots := 0, locals := 0 }) [.int g] [] (fX5_bits g) := by
  intro sz
  refine Met.ofW (cc := cX5_bits) (maxL := 3) (ret := (some .int)) (by decide) rfl ?_
  intro p e s m args below meth c s₁ B hml hv
  obtain ⟨rfl, hsz, hP, hK, hD0, hAm⟩ := hv
  have hx := B.exec
  have hb := B.bytes
  have hr := B.returns
  have hts := atoms_spec (ws := wsX5_bits) B.pre
  have hown : s.vm.findClass RX5 = some m.cls := findClass_of_methodNamed B.named
  have hlocks := B.notSynchronized
  subst hsz
  have hD := hD0.self (sz := s.heap.size)
  generalize hBe : va_A (wcat []) s.heap.size = B0 at hD hAm
  obtain ⟨A, hAe⟩ : ∃ A, A = va_A [] s.heap.size := ⟨_, rfl⟩
  rw [← hAe]
  have hA : ∀ q : Nat, s.heap.size ≤ q → A q := fun q h => by rw [hAe]; exact Or.inr h
  have hAB : ∀ q : Nat, A q → B0 q := fun q h => by rw [hAe] at h; rw [← hBe]; exact Or.inr (wnone h)
  have hS : va_S A s.heap s.heap [] := va_S.rf
  have hl := lv_entry ([.int g]) (n := 3) (Nat.le_of_ble_eq_true rfl)
  rw [lg_entry_eq]
  generalize (lg_sl ([.int g]) ++ List.replicate (3 - (lg_sl ([.int g])).length) Slot.unset).toArray = ls at hl ⊢
  have hl : lv_has ls 3 [(0, .int g)] := hl
  have hq : (fX5_bits g) = (fX5_bits_L4 g (8) 0 (nI 0)) := rfl
  refine lv_iconst (v := (nI 0)) hx hb dX5_bits_0 (by decide) ?_
  refine lv_istore_n (lv' := [(1, .int (nI 0)), (0, .int g)]) hx hb dX5_bits_1 rfl hl (by decide) rfl (fun ls hl => ?_)
  refine lv_iconst (v := (nI 0)) hx hb dX5_bits_2 (by decide) ?_
  refine lv_istore_n (lv' := [(2, .int (nI 0)), (1, .int (nI 0)), (0, .int g)]) hx hb dX5_bits_3 rfl hl (by decide) rfl (fun ls hl => ?_)
  refine wl (pc := 4) (σ := Nat × Int32) (fun n (i4, x1_4) H locs ls => (i4 + n = 8) ∧ (fX5_bits g) = fX5_bits_L4 g n i4 x1_4 ∧ va_P Γ.1 vwCl (wcat []) H ∧ va_S A s.heap H locs ∧ lv_has ls 3 [(2, .int (nI i4)), (1, .int x1_4), (0, .int g)]) ?_ ?_ (8) (0, (nI 0)) _ _ _ ⟨by omega, hq, hP, hS, lv_sub hl [0, 1, 2] rfl⟩
  · intro ⟨i4, x1_4⟩ H locs ls h
    obtain ⟨hn4, hq, hP, hS, hl⟩ := h
    try dsimp only at hn4 hq hP hl
    replace hq : (fX5_bits g) = (x1_4) := hq
    refine lv_iload_n hx hb dX5_bits_4 rfl (lv_at hl 0 rfl) ?_
    refine lv_bipush (v := (nI 8)) hx hb dX5_bits_5 (by decide) ?_
    refine lv_icmp_ge (tgt := 24) hx hb dX5_bits_7 (by decide) (fun c_7 => ?_) (fun c_7 => absurd (nI_le (by omega) (by omega)) c_7)
    refine lv_iload_n hx hb dX5_bits_24 rfl (lv_at hl 1 rfl) ?_
    exact W.iret (v := x1_4) hx hb hr (fun t ht hW => eLI hS ht (by rw [hq])) hS.2.2 dX5_bits_25
  · intro n4 ih4 ⟨i4, x1_4⟩ H locs ls h
    obtain ⟨hn4, hq, hP, hS, hl⟩ := h
    try dsimp only at hn4 hq hP hl
    replace hq : (fX5_bits g) = (fX5_bits_L4 g n4 (i4 + 1) (x1_4 + ((g >>> ((nI i4) &&& 31)) &&& (nI 1)))) := hq
    refine lv_iload_n hx hb dX5_bits_4 rfl (lv_at hl 0 rfl) ?_
    refine lv_bipush (v := (nI 8)) hx hb dX5_bits_5 (by decide) ?_
    refine lv_icmp_ge (tgt := 24) hx hb dX5_bits_7 (by decide) (fun c_7 => absurd c_7 (nI_ge (by omega) (by omega))) (fun c_7 => ?_)
    refine lv_iload_n hx hb dX5_bits_10 rfl (lv_at hl 1 rfl) ?_
    refine lv_iload_n hx hb dX5_bits_11 rfl (lv_at hl 2 rfl) ?_
    refine lv_iload_n hx hb dX5_bits_12 rfl (lv_at hl 0 rfl) ?_
    refine lv_ishr hx hb dX5_bits_13 ?_
    refine lv_iconst (v := (nI 1)) hx hb dX5_bits_14 (by decide) ?_
    refine lv_iand hx hb dX5_bits_15 ?_
    refine lv_iadd hx hb dX5_bits_16 ?_
    refine lv_istore_n (lv' := [(1, .int (x1_4 + ((g >>> ((nI i4) &&& 31)) &&& (nI 1)))), (2, .int (nI i4)), (0, .int g)]) hx hb dX5_bits_17 rfl hl (by decide) rfl (fun ls hl => ?_)
    refine lv_iinc (v := (nI (i4 + 1))) (lv' := [(2, .int (nI (i4 + 1))), (1, .int (x1_4 + ((g >>> ((nI i4) &&& 31)) &&& (nI 1)))), (0, .int g)]) hx hb dX5_bits_18 hl (k := 1) rfl (nI_1 _) (by decide) rfl (fun ls hl => ?_)
    refine lv_goto (tgt := 4) hx hb dX5_bits_21 (by decide) ?_
    exact ih4 ((i4 + 1), (x1_4 + ((g >>> ((nI i4) &&& 31)) &&& (nI 1)))) H locs ls ⟨by omega, hq, hP, hS, lv_sub hl [0, 1, 2] rfl⟩
def fX5_copies_L2 (fr : Nat) (to : Nat) : Nat → Nat → (Nat → Int32) → (Nat → Int32)
  | 0, i2, ms0_2 => (ms0_2)
  | n2 + 1, i2, ms0_2 => (fX5_copies_L2 fr to n2 (i2 + 1) (upd ms0_2 (58 * to + i2) (ms0_2 (58 * fr + i2))))
def fX5_copies (ms : (Nat → Int32)) (fr : Nat) (to : Nat) : (Nat → Int32) := (fX5_copies_L2 fr to (58) 0 ms)
set_option maxHeartbeats 4000000 in
set_option maxRecDepth 100000 in
theorem kX5_copies (l : Launch) (Γ : wG) (a : Nat → Nat) (ms : (Nat → Int32)) (mt : (Nat → Int32)) (mc : (Nat → Int32)) (md : (Nat → Int32)) (m0 : Int32) (m1 : Int32) (m2 : Int32) (m3 : Int32) (m4 : Int32) (m5 : Int32) (fr : Nat) (to : Nat) (hf : fr ≤ 7) (ht0 : to ≤ 7) : MV l Γ yX5_copies wsX5_copies ({ frames := 0, cells := 0, slots := 0, locals := 0 }) [.ref (a 0), .int (nI fr), .int (nI to)] [moB Γ a ms mt mc md m0 m1 m2 m3 m4 m5] [moB Γ a (fX5_copies ms fr to) mt mc md m0 m1 m2 m3 m4 m5] := by
  intro sz
  refine Met.ofW (cc := cX5_copies) (maxL := 4) (ret := none) (by decide) rfl ?_
  intro p e s m args below meth c s₁ B hml hv
  obtain ⟨rfl, hsz, hP, hK, hD0, hAm⟩ := hv
  have hx := B.exec
  have hb := B.bytes
  have hr := B.returns
  have hts := atoms_spec (ws := wsX5_copies) B.pre
  have hown : s.vm.findClass RX5 = some m.cls := findClass_of_methodNamed B.named
  have hlocks := B.notSynchronized
  subst hsz
  have hD := hD0.self (sz := s.heap.size)
  generalize hAe : va_A (wcat [moB Γ a ms mt mc md m0 m1 m2 m3 m4 m5]) s.heap.size = A at hD hAm ⊢
  have hA : ∀ q : Nat, s.heap.size ≤ q → A q := fun q h => by rw [← hAe]; exact Or.inr h
  have hAB : ∀ q : Nat, A q → A q := fun _ h => h
  have hS : va_S A s.heap s.heap [] := va_S.rf
  have hl := lv_entry ([.ref (a 0), .int (nI fr), .int (nI to)]) (n := 4) (Nat.le_of_ble_eq_true rfl)
  rw [lg_entry_eq]
  generalize (lg_sl ([.ref (a 0), .int (nI fr), .int (nI to)]) ++ List.replicate (4 - (lg_sl ([.ref (a 0), .int (nI fr), .int (nI to)])).length) Slot.unset).toArray = ls at hl ⊢
  have hl : lv_has ls 4 [(0, .ref (a 0)), (1, .int (nI fr)), (2, .int (nI to))] := hl
  have hi5 : ∀ w ∈ wsX50, w ∈ wsX5_copies := by decide +kernel
  have kf7 := hts (.fieldLink RX5 7 "CapsuleKeepersModel" "s" "[I") (by decide +kernel)
  have hq : (fX5_copies ms fr to) = (fX5_copies_L2 fr to (58) 0 ms) := rfl
  refine lv_iconst (v := (nI 0)) hx hb dX5_copies_0 (by decide) ?_
  refine lv_istore_n (lv' := [(3, .int (nI 0)), (0, .ref (a 0)), (1, .int (nI fr)), (2, .int (nI to))]) hx hb dX5_copies_1 rfl hl (by decide) rfl (fun ls hl => ?_)
  refine wl (pc := 2) (σ := Nat × (Nat → Int32)) (fun n (i2, ms0_2) H locs ls => (i2 + n = 58) ∧ (fX5_copies ms fr to) = fX5_copies_L2 fr to n i2 ms0_2 ∧ va_P Γ.1 vwCl (wcat [moB Γ a ms0_2 mt mc md m0 m1 m2 m3 m4 m5]) H ∧ va_D A (wcat [moB Γ a ms0_2 mt mc md m0 m1 m2 m3 m4 m5]) ∧ va_S A s.heap H locs ∧ lv_has ls 4 [(3, .int (nI i2)), (0, .ref (a 0)), (1, .int (nI fr)), (2, .int (nI to))]) ?_ ?_ (58) (0, ms) _ _ _ ⟨by omega, hq, hP, hD, hS, lv_sub hl [0, 1, 2, 3] rfl⟩
  · intro ⟨i2, ms0_2⟩ H locs ls h
    obtain ⟨hn2, hq, hP, hD, hS, hl⟩ := h
    try dsimp only at hn2 hq hP hD hl
    replace hq : (fX5_copies ms fr to) = (ms0_2) := hq
    refine lv_iload_n hx hb dX5_copies_2 rfl (lv_at hl 0 rfl) ?_
    refine lv_bipush (v := (nI 58)) hx hb dX5_copies_3 (by decide) ?_
    refine lv_icmp_ge (tgt := 36) hx hb dX5_copies_5 (by decide) (fun c_5 => ?_) (fun c_5 => absurd (nI_le (by omega) (by omega)) c_5)
    exact W.vret hx hb hr (fun t ht hW => eMV (by rw [hq]; exact hP) hS ht) hS.2.2 dX5_copies_36
  · intro n2 ih2 ⟨i2, ms0_2⟩ H locs ls h
    obtain ⟨hn2, hq, hP, hD, hS, hl⟩ := h
    try dsimp only at hn2 hq hP hD hl
    replace hq : (fX5_copies ms fr to) = (fX5_copies_L2 fr to n2 (i2 + 1) (upd ms0_2 (58 * to + i2) (ms0_2 (58 * fr + i2)))) := hq
    refine lv_iload_n hx hb dX5_copies_2 rfl (lv_at hl 0 rfl) ?_
    refine lv_bipush (v := (nI 58)) hx hb dX5_copies_3 (by decide) ?_
    refine lv_icmp_ge (tgt := 36) hx hb dX5_copies_5 (by decide) (fun c_5 => absurd c_5 (nI_ge (by omega) (by omega))) (fun c_5 => ?_)
    refine lv_aload_n hx hb dX5_copies_8 rfl (lv_at hl 1 rfl) ?_
    refine va_get (D := Γ.1) (ci := 5) (v := .ref (a 1)) (C := RX5) (T := TX5) (N := 10) hx hb hts hi5 hown hK hP 0 rfl rfl 0 (by decide) kf7 (fun _ h9 => h9) rfl dX5_copies_9 ?_
    refine lv_bipush (v := (nI 58)) hx hb dX5_copies_12 (by decide) ?_
    refine lv_iload_n hx hb dX5_copies_14 rfl (lv_at hl 3 rfl) ?_
    refine lv_imul hx hb dX5_copies_15 ?_
    refine lv_eqi (y := (nI (58 * to))) (pk_mul _ _) ?_
    refine lv_iload_n hx hb dX5_copies_16 rfl (lv_at hl 0 rfl) ?_
    refine lv_iadd hx hb dX5_copies_17 ?_
    refine lv_eqi (y := (nI (58 * to + i2))) (nI_add _ _) ?_
    refine lv_aload_n hx hb dX5_copies_18 rfl (lv_at hl 1 rfl) ?_
    refine va_get (D := Γ.1) (ci := 5) (v := .ref (a 1)) (C := RX5) (T := TX5) (N := 10) hx hb hts hi5 hown hK hP 0 rfl rfl 0 (by decide) kf7 (fun _ h9 => h9) rfl dX5_copies_19 ?_
    refine lv_bipush (v := (nI 58)) hx hb dX5_copies_22 (by decide) ?_
    refine lv_iload_n hx hb dX5_copies_24 rfl (lv_at hl 2 rfl) ?_
    refine lv_imul hx hb dX5_copies_25 ?_
    refine lv_eqi (y := (nI (58 * fr))) (pk_mul _ _) ?_
    refine lv_iload_n hx hb dX5_copies_26 rfl (lv_at hl 0 rfl) ?_
    refine lv_iadd hx hb dX5_copies_27 ?_
    refine lv_eqi (y := (nI (58 * fr + i2))) (nI_add _ _) ?_
    refine va_iald_n (f := ms0_2) hx hb hK hP 1 0 rfl rfl (by omega) (Nat.le_of_ble_eq_true rfl) dX5_copies_28 ?_
    refine va_iast_n (f := ms0_2) hx hb hK hP hD hS 1 0 rfl rfl (by omega) (Nat.le_of_ble_eq_true rfl) dX5_copies_29 (fun H locs hP hD hS => ?_)
    have hP : va_P Γ.1 vwCl (wcat [moB Γ a (upd ms0_2 (58 * to + i2) (ms0_2 (58 * fr + i2))) mt mc md m0 m1 m2 m3 m4 m5]) H := hP
    have hD : va_D A (wcat [moB Γ a (upd ms0_2 (58 * to + i2) (ms0_2 (58 * fr + i2))) mt mc md m0 m1 m2 m3 m4 m5]) := hD
    refine lv_iinc (v := (nI (i2 + 1))) (lv' := [(3, .int (nI (i2 + 1))), (0, .ref (a 0)), (1, .int (nI fr)), (2, .int (nI to))]) hx hb dX5_copies_30 hl (k := 0) rfl (nI_1 _) (by decide) rfl (fun ls hl => ?_)
    refine lv_goto (tgt := 2) hx hb dX5_copies_33 (by decide) ?_
    exact ih2 ((i2 + 1), (upd ms0_2 (58 * to + i2) (ms0_2 (58 * fr + i2)))) H locs ls ⟨by omega, hq, hP, hD, hS, lv_sub hl [0, 1, 2, 3] rfl⟩
def fX5_isKeeper (ms : (Nat → Int32)) (k : Int32) : Int32 := ((fX5_in k (nI 0) ((ms 1) - (nI 1))))
set_option maxHeartbeats 4000000 in
set_option maxRecDepth 100000 in
theorem kX5_isKeeper (l : Launch) (Γ : wG) (a : Nat → Nat) (ms : (Nat → Int32)) (mt : (Nat → Int32)) (mc : (Nat → Int32)) (md : (Nat → Int32)) (m0 : Int32) (m1 : Int32) (m2 : Int32) (m3 : Int32) (m4 : Int32) (m5 : Int32) (k : Int32) : LI l Γ yX5_isKeeper wsX5_isKeeper ({ frames := 1, cells := 0, slots := 0, locals := 22 }) [.ref (a 0), .int k] [moB Γ a ms mt mc md m0 m1 m2 m3 m4 m5] (fX5_isKeeper ms k) := by
  intro sz
  refine Met.ofW (cc := cX5_isKeeper) (maxL := 2) (ret := (some .boolean)) (by decide) rfl ?_
  intro p e s m args below meth c s₁ B hml hv
  obtain ⟨rfl, hsz, hP, hK, hD0, hAm⟩ := hv
  have hx := B.exec
  have hb := B.bytes
  have hr := B.returns
  have hts := atoms_spec (ws := wsX5_isKeeper) B.pre
  have hown : s.vm.findClass RX5 = some m.cls := findClass_of_methodNamed B.named
  have hlocks := B.notSynchronized
  subst hsz
  have hD := hD0.self (sz := s.heap.size)
  generalize hBe : va_A (wcat [moB Γ a ms mt mc md m0 m1 m2 m3 m4 m5]) s.heap.size = B0 at hD hAm
  obtain ⟨A, hAe⟩ : ∃ A, A = va_A [] s.heap.size := ⟨_, rfl⟩
  rw [← hAe]
  have hA : ∀ q : Nat, s.heap.size ≤ q → A q := fun q h => by rw [hAe]; exact Or.inr h
  have hAB : ∀ q : Nat, A q → B0 q := fun q h => by rw [hAe] at h; rw [← hBe]; exact Or.inr (wnone h)
  have hS : va_S A s.heap s.heap [] := va_S.rf
  have hl := lv_entry ([.ref (a 0), .int k]) (n := 2) (Nat.le_of_ble_eq_true rfl)
  rw [lg_entry_eq]
  generalize (lg_sl ([.ref (a 0), .int k]) ++ List.replicate (2 - (lg_sl ([.ref (a 0), .int k])).length) Slot.unset).toArray = ls at hl ⊢
  have hl : lv_has ls 2 [(0, .ref (a 0)), (1, .int k)] := hl
  have hi5 : ∀ w ∈ wsX50, w ∈ wsX5_isKeeper := by decide +kernel
  have kf7 := hts (.fieldLink RX5 7 "CapsuleKeepersModel" "s" "[I") (by decide +kernel)
  have hq : (fX5_isKeeper ms k) = ((fX5_in k (nI 0) ((ms 1) - (nI 1)))) := rfl
  refine lv_iload_n hx hb dX5_isKeeper_0 rfl (lv_at hl 1 rfl) ?_
  refine lv_iconst (v := (nI 0)) hx hb dX5_isKeeper_1 (by decide) ?_
  refine lv_aload_n hx hb dX5_isKeeper_2 rfl (lv_at hl 0 rfl) ?_
  refine va_get (D := Γ.1) (ci := 5) (v := .ref (a 1)) (C := RX5) (T := TX5) (N := 10) hx hb hts hi5 hown hK hP 0 rfl rfl 0 (by decide) kf7 (fun _ h9 => h9) rfl dX5_isKeeper_3 ?_
  refine lv_iconst (v := (nI 1)) hx hb dX5_isKeeper_6 (by decide) ?_
  refine va_iald_n (f := ms) hx hb hK hP 1 0 rfl rfl (by omega) (Nat.le_of_ble_eq_true rfl) dX5_isKeeper_7 ?_
  refine lv_iconst (v := (nI 1)) hx hb dX5_isKeeper_8 (by decide) ?_
  refine lv_isub hx hb dX5_isKeeper_9 ?_
  refine cLI (va_runS (As := [.int k, .int (nI 0), .int ((ms 1) - (nI 1))]) (rest := []) ⟨hx, hb, hml, hown, hts⟩ ((kX5_in l Γ k (nI 0) ((ms 1) - (nI 1))) _) (va_cwS 3 hts gX5_isKeeper_X5_in rfl rfl rfl (by decide +kernel) ⟨Nat.le_of_ble_eq_true rfl, Nat.le_of_ble_eq_true rfl⟩) ⟨wPre_blind, wPre_mk hP hD hK hS hA hAB hAm [] rfl rfl⟩ rfl rfl hl.1 rfl (lv_room (Nat.le_of_ble_eq_true rfl)) dX5_isKeeper_10 ⟨Nat.zero_le _, Nat.zero_le _⟩) hP hS hA (fun H locs hP hS => ?_)
  exact W.zret (v := (fX5_in k (nI 0) ((ms 1) - (nI 1)))) hx hb hr (nar01 (bX5_in _ _ _)) (fun t ht hW => eLI hS ht (by rw [hq])) hS.2.2 dX5_isKeeper_13
def fX5_has (g : Int32) (k : Int32) : Int32 := (if ((g >>> (k &&& 31)) &&& (nI 1)) = (nI 1) then ((nI 1)) else ((nI 0)))
set_option maxHeartbeats 4000000 in
set_option maxRecDepth 100000 in
theorem kX5_has (l : Launch) (Γ : wG) (g : Int32) (k : Int32) : LI l Γ yX5_has wsX5_has ({ frames := 0, cells := 0, slots := 0, locals := 0 }) [.int g, .int k] [] (fX5_has g k) := by
  intro sz
  refine Met.ofW (cc := cX5_has) (maxL := 2) (ret := (some .boolean)) (by decide) rfl ?_
  intro p e s m args below meth c s₁ B hml hv
  obtain ⟨rfl, hsz, hP, hK, hD0, hAm⟩ := hv
  have hx := B.exec
  have hb := B.bytes
  have hr := B.returns
  have hts := atoms_spec (ws := wsX5_has) B.pre
  have hown : s.vm.findClass RX5 = some m.cls := findClass_of_methodNamed B.named
  have hlocks := B.notSynchronized
  subst hsz
  have hD := hD0.self (sz := s.heap.size)
  generalize hBe : va_A (wcat []) s.heap.size = B0 at hD hAm
  obtain ⟨A, hAe⟩ : ∃ A, A = va_A [] s.heap.size := ⟨_, rfl⟩
  rw [← hAe]
  have hA : ∀ q : Nat, s.heap.size ≤ q → A q := fun q h => by rw [hAe]; exact Or.inr h
  have hAB : ∀ q : Nat, A q → B0 q := fun q h => by rw [hAe] at h; rw [← hBe]; exact Or.inr (wnone h)
  have hS : va_S A s.heap s.heap [] := va_S.rf
  have hl := lv_entry ([.int g, .int k]) (n := 2) (Nat.le_of_ble_eq_true rfl)
  rw [lg_entry_eq]
  generalize (lg_sl ([.int g, .int k]) ++ List.replicate (2 - (lg_sl ([.int g, .int k])).length) Slot.unset).toArray = ls at hl ⊢
  have hl : lv_has ls 2 [(0, .int g), (1, .int k)] := hl
  have hq : (fX5_has g k) = (if ((g >>> (k &&& 31)) &&& (nI 1)) = (nI 1) then ((nI 1)) else ((nI 0))) := rfl
  refine lv_iload_n hx hb dX5_has_0 rfl (lv_at hl 0 rfl) ?_
  refine lv_iload_n hx hb dX5_has_1 rfl (lv_at hl 1 rfl) ?_
  refine lv_ishr hx hb dX5_has_2 ?_
  refine lv_iconst (v := (nI 1)) hx hb dX5_has_3 (by decide) ?_
  refine lv_iand hx hb dX5_has_4 ?_
  refine lv_iconst (v := (nI 1)) hx hb dX5_has_5 (by decide) ?_
  refine lv_icmp_ne (tgt := 13) hx hb dX5_has_6 (by decide) (fun c_1 => ?_) (fun c_1 => ?_)
  · have hq := hq.trans (if_neg c_1)
    refine lv_iconst (v := (nI 0)) hx hb dX5_has_13 (by decide) ?_
    exact W.zret (v := (nI 0)) hx hb hr (by first | rfl | decide) (fun t ht hW => eLI hS ht (by rw [hq])) hS.2.2 dX5_has_14
  · have hq := hq.trans (if_pos c_1)
    refine lv_iconst (v := (nI 1)) hx hb dX5_has_9 (by decide) ?_
    refine lv_goto (tgt := 14) hx hb dX5_has_10 (by decide) ?_
    exact W.zret (v := (nI 1)) hx hb hr (by first | rfl | decide) (fun t ht hW => eLI hS ht (by rw [hq])) hS.2.2 dX5_has_14
def fX5_draws (ms : (Nat → Int32)) (b : Nat) : Int32 × (Nat → Int32) := ((((upd ms b ((((nI 171) * (ms b)) + (nI 11213)) - (((nI 171) * (ms b)) + (nI 11213)) / (nI 53125) * (nI 53125))) b) - ((upd ms b ((((nI 171) * (ms b)) + (nI 11213)) - (((nI 171) * (ms b)) + (nI 11213)) / (nI 53125) * (nI 53125))) b) / (nI 251) * (nI 251)), (upd ms b ((((nI 171) * (ms b)) + (nI 11213)) - (((nI 171) * (ms b)) + (nI 11213)) / (nI 53125) * (nI 53125))))
set_option maxHeartbeats 4000000 in
set_option maxRecDepth 100000 in
theorem kX5_draws (l : Launch) (Γ : wG) (a : Nat → Nat) (ms : (Nat → Int32)) (mt : (Nat → Int32)) (mc : (Nat → Int32)) (md : (Nat → Int32)) (m0 : Int32) (m1 : Int32) (m2 : Int32) (m3 : Int32) (m4 : Int32) (m5 : Int32) (b : Nat) (hb : b ≤ 406) : MI l Γ yX5_draws wsX5_draws ({ frames := 0, cells := 0, slots := 0, locals := 0 }) [.ref (a 0), .int (nI b)] [moB Γ a ms mt mc md m0 m1 m2 m3 m4 m5] [moB Γ a (fX5_draws ms b).2 mt mc md m0 m1 m2 m3 m4 m5] (fX5_draws ms b).1 := by
  intro sz
  refine Met.ofW (cc := cX5_draws) (maxL := 2) (ret := (some .int)) (by decide) rfl ?_
  intro p e s m args below meth c s₁ B hml hv
  obtain ⟨rfl, hsz, hP, hK, hD0, hAm⟩ := hv
  have hx := B.exec
  have hb := B.bytes
  have hr := B.returns
  have hts := atoms_spec (ws := wsX5_draws) B.pre
  have hown : s.vm.findClass RX5 = some m.cls := findClass_of_methodNamed B.named
  have hlocks := B.notSynchronized
  subst hsz
  have hD := hD0.self (sz := s.heap.size)
  generalize hAe : va_A (wcat [moB Γ a ms mt mc md m0 m1 m2 m3 m4 m5]) s.heap.size = A at hD hAm ⊢
  have hA : ∀ q : Nat, s.heap.size ≤ q → A q := fun q h => by rw [← hAe]; exact Or.inr h
  have hAB : ∀ q : Nat, A q → A q := fun _ h => h
  have hS : va_S A s.heap s.heap [] := va_S.rf
  have hl := lv_entry ([.ref (a 0), .int (nI b)]) (n := 2) (Nat.le_of_ble_eq_true rfl)
  rw [lg_entry_eq]
  generalize (lg_sl ([.ref (a 0), .int (nI b)]) ++ List.replicate (2 - (lg_sl ([.ref (a 0), .int (nI b)])).length) Slot.unset).toArray = ls at hl ⊢
  have hl : lv_has ls 2 [(0, .ref (a 0)), (1, .int (nI b))] := hl
  have hi5 : ∀ w ∈ wsX50, w ∈ wsX5_draws := by decide +kernel
  have kc38 := hts (.constant RX5 38 (53125)) (by decide +kernel)
  have kf7 := hts (.fieldLink RX5 7 "CapsuleKeepersModel" "s" "[I") (by decide +kernel)
  have hq : (fX5_draws ms b) = ((((upd ms b ((((nI 171) * (ms b)) + (nI 11213)) - (((nI 171) * (ms b)) + (nI 11213)) / (nI 53125) * (nI 53125))) b) - ((upd ms b ((((nI 171) * (ms b)) + (nI 11213)) - (((nI 171) * (ms b)) + (nI 11213)) / (nI 53125) * (nI 53125))) b) / (nI 251) * (nI 251)), (upd ms b ((((nI 171) * (ms b)) + (nI 11213)) - (((nI 171) * (ms b)) + (nI 11213)) / (nI 53125) * (nI 53125)))) := rfl
  refine lv_aload_n hx hb dX5_draws_0 rfl (lv_at hl 0 rfl) ?_
  refine va_get (D := Γ.1) (ci := 5) (v := .ref (a 1)) (C := RX5) (T := TX5) (N := 10) hx hb hts hi5 hown hK hP 0 rfl rfl 0 (by decide) kf7 (fun _ h9 => h9) rfl dX5_draws_1 ?_
  refine lv_iload_n hx hb dX5_draws_4 rfl (lv_at hl 1 rfl) ?_
  refine lv_sipush (v := (nI 171)) hx hb dX5_draws_5 (by decide) ?_
  refine lv_aload_n hx hb dX5_draws_8 rfl (lv_at hl 0 rfl) ?_
  refine va_get (D := Γ.1) (ci := 5) (v := .ref (a 1)) (C := RX5) (T := TX5) (N := 10) hx hb hts hi5 hown hK hP 0 rfl rfl 0 (by decide) kf7 (fun _ h9 => h9) rfl dX5_draws_9 ?_
  refine lv_iload_n hx hb dX5_draws_12 rfl (lv_at hl 1 rfl) ?_
  refine va_iald_n (f := ms) hx hb hK hP 1 0 rfl rfl (by omega) (Nat.le_of_ble_eq_true rfl) dX5_draws_13 ?_
  refine lv_imul hx hb dX5_draws_14 ?_
  refine lv_sipush (v := (nI 11213)) hx hb dX5_draws_15 (by decide) ?_
  refine lv_iadd hx hb dX5_draws_18 ?_
  refine lv_ldc (v := (nI 53125)) hx hb hown kc38 dX5_draws_19 ?_
  refine lv_irem hx hb dX5_draws_21 (by decide) ?_
  refine va_iast_n (f := ms) hx hb hK hP hD hS 1 0 rfl rfl (by omega) (Nat.le_of_ble_eq_true rfl) dX5_draws_22 (fun H locs hP hD hS => ?_)
  have hP : va_P Γ.1 vwCl (wcat [moB Γ a (upd ms b ((((nI 171) * (ms b)) + (nI 11213)) - (((nI 171) * (ms b)) + (nI 11213)) / (nI 53125) * (nI 53125))) mt mc md m0 m1 m2 m3 m4 m5]) H := hP
  have hD : va_D A (wcat [moB Γ a (upd ms b ((((nI 171) * (ms b)) + (nI 11213)) - (((nI 171) * (ms b)) + (nI 11213)) / (nI 53125) * (nI 53125))) mt mc md m0 m1 m2 m3 m4 m5]) := hD
  refine lv_aload_n hx hb dX5_draws_23 rfl (lv_at hl 0 rfl) ?_
  refine va_get (D := Γ.1) (ci := 5) (v := .ref (a 1)) (C := RX5) (T := TX5) (N := 10) hx hb hts hi5 hown hK hP 0 rfl rfl 0 (by decide) kf7 (fun _ h9 => h9) rfl dX5_draws_24 ?_
  refine lv_iload_n hx hb dX5_draws_27 rfl (lv_at hl 1 rfl) ?_
  refine va_iald_n (f := (upd ms b ((((nI 171) * (ms b)) + (nI 11213)) - (((nI 171) * (ms b)) + (nI 11213)) / (nI 53125) * (nI 53125)))) hx hb hK hP 1 0 rfl rfl (by omega) (Nat.le_of_ble_eq_true rfl) dX5_draws_28 ?_
  refine lv_sipush (v := (nI 251)) hx hb dX5_draws_29 (by decide) ?_
  refine lv_irem hx hb dX5_draws_32 (by decide) ?_
  exact W.iret (v := (((upd ms b ((((nI 171) * (ms b)) + (nI 11213)) - (((nI 171) * (ms b)) + (nI 11213)) / (nI 53125) * (nI 53125))) b) - ((upd ms b ((((nI 171) * (ms b)) + (nI 11213)) - (((nI 171) * (ms b)) + (nI 11213)) / (nI 53125) * (nI 53125))) b) / (nI 251) * (nI 251))) hx hb hr (fun t ht hW => eMI (by rw [hq]; exact hP) hS ht (by rw [hq])) hS.2.2 dX5_draws_33
def fX5_shares_L4 (ms : (Nat → Int32)) (b : Nat) : Nat → Nat → Int32 → Int32
  | 0, i4, x2_4 => (x2_4)
  | n4 + 1, i4, x2_4 => (if (ms (b + 40 + i4)) < 0 then (fX5_shares_L4 ms b n4 (i4 + 1) (x2_4 ||| (nI 0))) else (fX5_shares_L4 ms b n4 (i4 + 1) (x2_4 ||| ((nI 1) <<< ((nI i4) &&& 31)))))
def fX5_shares (ms : (Nat → Int32)) (b : Nat) : Int32 := (fX5_shares_L4 ms b (8) 0 (nI 0))
set_option maxHeartbeats 4000000 in
set_option maxRecDepth 100000 in
theorem kX5_shares (l : Launch) (Γ : wG) (a : Nat → Nat) (ms : (Nat → Int32)) (mt : (Nat → Int32)) (mc : (Nat → Int32)) (md : (Nat → Int32)) (m0 : Int32) (m1 : Int32) (m2 : Int32) (m3 : Int32) (m4 : Int32) (m5 : Int32) (b : Nat) (hb : b ≤ 406) : LI l Γ yX5_shares wsX5_shares ({ frames := 0, cells := 0, slots := 0, locals := 0 }) [.ref (a 0), .int (nI b)] [moB Γ a ms mt mc md m0 m1 m2 m3 m4 m5] (fX5_shares ms b) := by
  intro sz
  refine Met.ofW (cc := cX5_shares) (maxL := 4) (ret := (some .int)) (by decide) rfl ?_
  intro p e s m args below meth c s₁ B hml hv
  obtain ⟨rfl, hsz, hP, hK, hD0, hAm⟩ := hv
  have hx := B.exec
  have hb := B.bytes
  have hr := B.returns
  have hts := atoms_spec (ws := wsX5_shares) B.pre
  have hown : s.vm.findClass RX5 = some m.cls := findClass_of_methodNamed B.named
  have hlocks := B.notSynchronized
  subst hsz
  have hD := hD0.self (sz := s.heap.size)
  generalize hBe : va_A (wcat [moB Γ a ms mt mc md m0 m1 m2 m3 m4 m5]) s.heap.size = B0 at hD hAm
  obtain ⟨A, hAe⟩ : ∃ A, A = va_A [] s.heap.size := ⟨_, rfl⟩
  rw [← hAe]
  have hA : ∀ q : Nat, s.heap.size ≤ q → A q := fun q h => by rw [hAe]; exact Or.inr h
  have hAB : ∀ q : Nat, A q → B0 q := fun q h => by rw [hAe] at h; rw [← hBe]; exact Or.inr (wnone h)
  have hS : va_S A s.heap s.heap [] := va_S.rf
  have hl := lv_entry ([.ref (a 0), .int (nI b)]) (n := 4) (Nat.le_of_ble_eq_true rfl)
  rw [lg_entry_eq]
  generalize (lg_sl ([.ref (a 0), .int (nI b)]) ++ List.replicate (4 - (lg_sl ([.ref (a 0), .int (nI b)])).length) Slot.unset).toArray = ls at hl ⊢
  have hl : lv_has ls 4 [(0, .ref (a 0)), (1, .int (nI b))] := hl
  have hi5 : ∀ w ∈ wsX50, w ∈ wsX5_shares := by decide +kernel
  have kf7 := hts (.fieldLink RX5 7 "CapsuleKeepersModel" "s" "[I") (by decide +kernel)
  have hq : (fX5_shares ms b) = (fX5_shares_L4 ms b (8) 0 (nI 0)) := rfl
  refine lv_iconst (v := (nI 0)) hx hb dX5_shares_0 (by decide) ?_
  refine lv_istore_n (lv' := [(2, .int (nI 0)), (0, .ref (a 0)), (1, .int (nI b))]) hx hb dX5_shares_1 rfl hl (by decide) rfl (fun ls hl => ?_)
  refine lv_iconst (v := (nI 0)) hx hb dX5_shares_2 (by decide) ?_
  refine lv_istore_n (lv' := [(3, .int (nI 0)), (2, .int (nI 0)), (0, .ref (a 0)), (1, .int (nI b))]) hx hb dX5_shares_3 rfl hl (by decide) rfl (fun ls hl => ?_)
  refine wl (pc := 4) (σ := Nat × Int32) (fun n (i4, x2_4) H locs ls => (i4 + n = 8) ∧ (fX5_shares ms b) = fX5_shares_L4 ms b n i4 x2_4 ∧ va_P Γ.1 vwCl (wcat [moB Γ a ms mt mc md m0 m1 m2 m3 m4 m5]) H ∧ va_S A s.heap H locs ∧ lv_has ls 4 [(3, .int (nI i4)), (2, .int x2_4), (0, .ref (a 0)), (1, .int (nI b))]) ?_ ?_ (8) (0, (nI 0)) _ _ _ ⟨by omega, hq, hP, hS, lv_sub hl [0, 1, 2, 3] rfl⟩
  · intro ⟨i4, x2_4⟩ H locs ls h
    obtain ⟨hn4, hq, hP, hS, hl⟩ := h
    try dsimp only at hn4 hq hP hl
    replace hq : (fX5_shares ms b) = (x2_4) := hq
    refine lv_iload_n hx hb dX5_shares_4 rfl (lv_at hl 0 rfl) ?_
    refine lv_bipush (v := (nI 8)) hx hb dX5_shares_5 (by decide) ?_
    refine lv_icmp_ge (tgt := 40) hx hb dX5_shares_7 (by decide) (fun c_7 => ?_) (fun c_7 => absurd (nI_le (by omega) (by omega)) c_7)
    refine lv_iload_n hx hb dX5_shares_40 rfl (lv_at hl 1 rfl) ?_
    exact W.iret (v := x2_4) hx hb hr (fun t ht hW => eLI hS ht (by rw [hq])) hS.2.2 dX5_shares_41
  · intro n4 ih4 ⟨i4, x2_4⟩ H locs ls h
    obtain ⟨hn4, hq, hP, hS, hl⟩ := h
    try dsimp only at hn4 hq hP hl
    replace hq : (fX5_shares ms b) = (if (ms (b + 40 + i4)) < 0 then (fX5_shares_L4 ms b n4 (i4 + 1) (x2_4 ||| (nI 0))) else (fX5_shares_L4 ms b n4 (i4 + 1) (x2_4 ||| ((nI 1) <<< ((nI i4) &&& 31))))) := hq
    refine lv_iload_n hx hb dX5_shares_4 rfl (lv_at hl 0 rfl) ?_
    refine lv_bipush (v := (nI 8)) hx hb dX5_shares_5 (by decide) ?_
    refine lv_icmp_ge (tgt := 40) hx hb dX5_shares_7 (by decide) (fun c_7 => absurd c_7 (nI_ge (by omega) (by omega))) (fun c_7 => ?_)
    refine lv_iload_n hx hb dX5_shares_10 rfl (lv_at hl 1 rfl) ?_
    refine lv_aload_n hx hb dX5_shares_11 rfl (lv_at hl 2 rfl) ?_
    refine va_get (D := Γ.1) (ci := 5) (v := .ref (a 1)) (C := RX5) (T := TX5) (N := 10) hx hb hts hi5 hown hK hP 0 rfl rfl 0 (by decide) kf7 (fun _ h9 => h9) rfl dX5_shares_12 ?_
    refine lv_iload_n hx hb dX5_shares_15 rfl (lv_at hl 3 rfl) ?_
    refine lv_bipush (v := (nI 40)) hx hb dX5_shares_16 (by decide) ?_
    refine lv_iadd hx hb dX5_shares_18 ?_
    refine lv_eqi (y := (nI (b + 40))) (nI_add _ _) ?_
    refine lv_iload_n hx hb dX5_shares_19 rfl (lv_at hl 0 rfl) ?_
    refine lv_iadd hx hb dX5_shares_20 ?_
    refine lv_eqi (y := (nI (b + 40 + i4))) (nI_add _ _) ?_
    refine va_iald_n (f := ms) hx hb hK hP 1 0 rfl rfl (by omega) (Nat.le_of_ble_eq_true rfl) dX5_shares_21 ?_
    refine lv_if_lt (tgt := 31) hx hb dX5_shares_22 (by decide) (fun c_1 => ?_) (fun c_1 => ?_)
    · have hq := hq.trans (if_pos c_1)
      refine lv_iconst (v := (nI 0)) hx hb dX5_shares_31 (by decide) ?_
      refine lv_ior hx hb dX5_shares_32 ?_
      refine lv_istore_n (lv' := [(2, .int (x2_4 ||| (nI 0))), (3, .int (nI i4)), (0, .ref (a 0)), (1, .int (nI b))]) hx hb dX5_shares_33 rfl hl (by decide) rfl (fun ls hl => ?_)
      refine lv_iinc (v := (nI (i4 + 1))) (lv' := [(3, .int (nI (i4 + 1))), (2, .int (x2_4 ||| (nI 0))), (0, .ref (a 0)), (1, .int (nI b))]) hx hb dX5_shares_34 hl (k := 1) rfl (nI_1 _) (by decide) rfl (fun ls hl => ?_)
      refine lv_goto (tgt := 4) hx hb dX5_shares_37 (by decide) ?_
      exact ih4 ((i4 + 1), (x2_4 ||| (nI 0))) H locs ls ⟨by omega, hq, hP, hS, lv_sub hl [0, 1, 2, 3] rfl⟩
    · have hq := hq.trans (if_neg c_1)
      refine lv_iconst (v := (nI 1)) hx hb dX5_shares_25 (by decide) ?_
      refine lv_iload_n hx hb dX5_shares_26 rfl (lv_at hl 0 rfl) ?_
      refine lv_ishl hx hb dX5_shares_27 ?_
      refine lv_goto (tgt := 32) hx hb dX5_shares_28 (by decide) ?_
      refine lv_ior hx hb dX5_shares_32 ?_
      refine lv_istore_n (lv' := [(2, .int (x2_4 ||| ((nI 1) <<< ((nI i4) &&& 31)))), (3, .int (nI i4)), (0, .ref (a 0)), (1, .int (nI b))]) hx hb dX5_shares_33 rfl hl (by decide) rfl (fun ls hl => ?_)
      refine lv_iinc (v := (nI (i4 + 1))) (lv' := [(3, .int (nI (i4 + 1))), (2, .int (x2_4 ||| ((nI 1) <<< ((nI i4) &&& 31)))), (0, .ref (a 0)), (1, .int (nI b))]) hx hb dX5_shares_34 hl (k := 1) rfl (nI_1 _) (by decide) rfl (fun ls hl => ?_)
      refine lv_goto (tgt := 4) hx hb dX5_shares_37 (by decide) ?_
      exact ih4 ((i4 + 1), (x2_4 ||| ((nI 1) <<< ((nI i4) &&& 31)))) H locs ls ⟨by omega, hq, hP, hS, lv_sub hl [0, 1, 2, 3] rfl⟩
def fX5_owned_L5 (ms : (Nat → Int32)) (b : Nat) (g : Int32) : Nat → Nat → Int32 → Int32
  | 0, i5, x3_5 => (x3_5)
  | n5 + 1, i5, x3_5 => (if (ms (b + 40 + i5)) < 0 then (fX5_owned_L5 ms b g n5 (i5 + 1) (x3_5 ||| (nI 0))) else (if (fX5_has g (ms (b + 40 + i5))) = 0 then (fX5_owned_L5 ms b g n5 (i5 + 1) (x3_5 ||| (nI 0))) else (fX5_owned_L5 ms b g n5 (i5 + 1) (x3_5 ||| ((nI 1) <<< ((nI i5) &&& 31))))))
def fX5_owned (ms : (Nat → Int32)) (b : Nat) (g : Int32) : Int32 := (fX5_owned_L5 ms b g (8) 0 (nI 0))
set_option maxHeartbeats 4000000 in
set_option maxRecDepth 100000 in
theorem kX5_owned (l : Launch) (Γ : wG) (a : Nat → Nat) (ms : (Nat → Int32)) (mt : (Nat → Int32)) (mc : (Nat → Int32)) (md : (Nat → Int32)) (m0 : Int32) (m1 : Int32) (m2 : Int32) (m3 : Int32) (m4 : Int32) (m5 : Int32) (b : Nat) (g : Int32) (hb : b ≤ 406) : LI l Γ yX5_owned wsX5_owned ({ frames := 1, cells := 0, slots := 0, locals := 21 }) [.ref (a 0), .int (nI b), .int g] [moB Γ a ms mt mc md m0 m1 m2 m3 m4 m5] (fX5_owned ms b g) := by
  intro sz
  refine Met.ofW (cc := cX5_owned) (maxL := 5) (ret := (some .int)) (by decide) rfl ?_
  intro p e s m args below meth c s₁ B hml hv
  obtain ⟨rfl, hsz, hP, hK, hD0, hAm⟩ := hv
  have hx := B.exec
  have hb := B.bytes
  have hr := B.returns
  have hts := atoms_spec (ws := wsX5_owned) B.pre
  have hown : s.vm.findClass RX5 = some m.cls := findClass_of_methodNamed B.named
  have hlocks := B.notSynchronized
  subst hsz
  have hD := hD0.self (sz := s.heap.size)
  generalize hBe : va_A (wcat [moB Γ a ms mt mc md m0 m1 m2 m3 m4 m5]) s.heap.size = B0 at hD hAm
  obtain ⟨A, hAe⟩ : ∃ A, A = va_A [] s.heap.size := ⟨_, rfl⟩
  rw [← hAe]
  have hA : ∀ q : Nat, s.heap.size ≤ q → A q := fun q h => by rw [hAe]; exact Or.inr h
  have hAB : ∀ q : Nat, A q → B0 q := fun q h => by rw [hAe] at h; rw [← hBe]; exact Or.inr (wnone h)
  have hS : va_S A s.heap s.heap [] := va_S.rf
  have hl := lv_entry ([.ref (a 0), .int (nI b), .int g]) (n := 5) (Nat.le_of_ble_eq_true rfl)
  rw [lg_entry_eq]
  generalize (lg_sl ([.ref (a 0), .int (nI b), .int g]) ++ List.replicate (5 - (lg_sl ([.ref (a 0), .int (nI b), .int g])).length) Slot.unset).toArray = ls at hl ⊢
  have hl : lv_has ls 5 [(0, .ref (a 0)), (1, .int (nI b)), (2, .int g)] := hl
  have hi5 : ∀ w ∈ wsX50, w ∈ wsX5_owned := by decide +kernel
  have kf7 := hts (.fieldLink RX5 7 "CapsuleKeepersModel" "s" "[I") (by decide +kernel)
  have hq : (fX5_owned ms b g) = (fX5_owned_L5 ms b g (8) 0 (nI 0)) := rfl
  refine lv_iconst (v := (nI 0)) hx hb dX5_owned_0 (by decide) ?_
  refine lv_istore_n (lv' := [(3, .int (nI 0)), (0, .ref (a 0)), (1, .int (nI b)), (2, .int g)]) hx hb dX5_owned_1 rfl hl (by decide) rfl (fun ls hl => ?_)
  refine lv_iconst (v := (nI 0)) hx hb dX5_owned_2 (by decide) ?_
  refine lv_istore (lv' := [(4, .int (nI 0)), (3, .int (nI 0)), (0, .ref (a 0)), (1, .int (nI b)), (2, .int g)]) hx hb dX5_owned_3 hl (by decide) rfl (fun ls hl => ?_)
  refine wl (pc := 5) (σ := Nat × Int32) (fun n (i5, x3_5) H locs ls => (i5 + n = 8) ∧ (fX5_owned ms b g) = fX5_owned_L5 ms b g n i5 x3_5 ∧ va_P Γ.1 vwCl (wcat [moB Γ a ms mt mc md m0 m1 m2 m3 m4 m5]) H ∧ va_S A s.heap H locs ∧ lv_has ls 5 [(4, .int (nI i5)), (3, .int x3_5), (0, .ref (a 0)), (1, .int (nI b)), (2, .int g)]) ?_ ?_ (8) (0, (nI 0)) _ _ _ ⟨by omega, hq, hP, hS, lv_sub hl [0, 1, 2, 3, 4] rfl⟩
  · intro ⟨i5, x3_5⟩ H locs ls h
    obtain ⟨hn5, hq, hP, hS, hl⟩ := h
    try dsimp only at hn5 hq hP hl
    replace hq : (fX5_owned ms b g) = (x3_5) := hq
    refine lv_iload hx hb dX5_owned_5 (lv_at hl 0 rfl) ?_
    refine lv_bipush (v := (nI 8)) hx hb dX5_owned_7 (by decide) ?_
    refine lv_icmp_ge (tgt := 63) hx hb dX5_owned_9 (by decide) (fun c_9 => ?_) (fun c_9 => absurd (nI_le (by omega) (by omega)) c_9)
    refine lv_iload_n hx hb dX5_owned_63 rfl (lv_at hl 1 rfl) ?_
    exact W.iret (v := x3_5) hx hb hr (fun t ht hW => eLI hS ht (by rw [hq])) hS.2.2 dX5_owned_64
  · intro n5 ih5 ⟨i5, x3_5⟩ H locs ls h
    obtain ⟨hn5, hq, hP, hS, hl⟩ := h
    try dsimp only at hn5 hq hP hl
    replace hq : (fX5_owned ms b g) = (if (ms (b + 40 + i5)) < 0 then (fX5_owned_L5 ms b g n5 (i5 + 1) (x3_5 ||| (nI 0))) else (if (fX5_has g (ms (b + 40 + i5))) = 0 then (fX5_owned_L5 ms b g n5 (i5 + 1) (x3_5 ||| (nI 0))) else (fX5_owned_L5 ms b g n5 (i5 + 1) (x3_5 ||| ((nI 1) <<< ((nI i5) &&& 31)))))) := hq
    refine lv_iload hx hb dX5_owned_5 (lv_at hl 0 rfl) ?_
    refine lv_bipush (v := (nI 8)) hx hb dX5_owned_7 (by decide) ?_
    refine lv_icmp_ge (tgt := 63) hx hb dX5_owned_9 (by decide) (fun c_9 => absurd c_9 (nI_ge (by omega) (by omega))) (fun c_9 => ?_)
    refine lv_iload_n hx hb dX5_owned_12 rfl (lv_at hl 1 rfl) ?_
    refine lv_aload_n hx hb dX5_owned_13 rfl (lv_at hl 2 rfl) ?_
    refine va_get (D := Γ.1) (ci := 5) (v := .ref (a 1)) (C := RX5) (T := TX5) (N := 10) hx hb hts hi5 hown hK hP 0 rfl rfl 0 (by decide) kf7 (fun _ h9 => h9) rfl dX5_owned_14 ?_
    refine lv_iload_n hx hb dX5_owned_17 rfl (lv_at hl 3 rfl) ?_
    refine lv_bipush (v := (nI 40)) hx hb dX5_owned_18 (by decide) ?_
    refine lv_iadd hx hb dX5_owned_20 ?_
    refine lv_eqi (y := (nI (b + 40))) (nI_add _ _) ?_
    refine lv_iload hx hb dX5_owned_21 (lv_at hl 0 rfl) ?_
    refine lv_iadd hx hb dX5_owned_23 ?_
    refine lv_eqi (y := (nI (b + 40 + i5))) (nI_add _ _) ?_
    refine va_iald_n (f := ms) hx hb hK hP 1 0 rfl rfl (by omega) (Nat.le_of_ble_eq_true rfl) dX5_owned_24 ?_
    refine lv_if_lt (tgt := 54) hx hb dX5_owned_25 (by decide) (fun c_1 => ?_) (fun c_1 => ?_)
    · have hq := hq.trans (if_pos c_1)
      refine lv_iconst (v := (nI 0)) hx hb dX5_owned_54 (by decide) ?_
      refine lv_ior hx hb dX5_owned_55 ?_
      refine lv_istore_n (lv' := [(3, .int (x3_5 ||| (nI 0))), (4, .int (nI i5)), (0, .ref (a 0)), (1, .int (nI b)), (2, .int g)]) hx hb dX5_owned_56 rfl hl (by decide) rfl (fun ls hl => ?_)
      refine lv_iinc (v := (nI (i5 + 1))) (lv' := [(4, .int (nI (i5 + 1))), (3, .int (x3_5 ||| (nI 0))), (0, .ref (a 0)), (1, .int (nI b)), (2, .int g)]) hx hb dX5_owned_57 hl (k := 1) rfl (nI_1 _) (by decide) rfl (fun ls hl => ?_)
      refine lv_goto (tgt := 5) hx hb dX5_owned_60 (by decide) ?_
      exact ih5 ((i5 + 1), (x3_5 ||| (nI 0))) H locs ls ⟨by omega, hq, hP, hS, lv_sub hl [0, 1, 2, 3, 4] rfl⟩
    · have hq := hq.trans (if_neg c_1)
      refine lv_iload_n hx hb dX5_owned_28 rfl (lv_at hl 4 rfl) ?_
      refine lv_aload_n hx hb dX5_owned_29 rfl (lv_at hl 2 rfl) ?_
      refine va_get (D := Γ.1) (ci := 5) (v := .ref (a 1)) (C := RX5) (T := TX5) (N := 10) hx hb hts hi5 hown hK hP 0 rfl rfl 0 (by decide) kf7 (fun _ h9 => h9) rfl dX5_owned_30 ?_
      refine lv_iload_n hx hb dX5_owned_33 rfl (lv_at hl 3 rfl) ?_
      refine lv_bipush (v := (nI 40)) hx hb dX5_owned_34 (by decide) ?_
      refine lv_iadd hx hb dX5_owned_36 ?_
      refine lv_eqi (y := (nI (b + 40))) (nI_add _ _) ?_
      refine lv_iload hx hb dX5_owned_37 (lv_at hl 0 rfl) ?_
      refine lv_iadd hx hb dX5_owned_39 ?_
      refine lv_eqi (y := (nI (b + 40 + i5))) (nI_add _ _) ?_
      refine va_iald_n (f := ms) hx hb hK hP 1 0 rfl rfl (by omega) (Nat.le_of_ble_eq_true rfl) dX5_owned_40 ?_
      refine cLI (va_runS (As := [.int g, .int (ms (b + 40 + i5))]) (rest := [.int x3_5]) ⟨hx, hb, hml, hown, hts⟩ ((kX5_has l Γ g (ms (b + 40 + i5))) _) (va_cwS 2 hts gX5_owned_X5_has rfl rfl rfl (by decide +kernel) ⟨Nat.le_of_ble_eq_true rfl, Nat.le_of_ble_eq_true rfl⟩) ⟨wPre_blind, wPre_mk hP hD hK hS hA hAB hAm [] rfl rfl⟩ rfl rfl hl.1 rfl (lv_room (Nat.le_of_ble_eq_true rfl)) dX5_owned_41 ⟨Nat.zero_le _, Nat.zero_le _⟩) hP hS hA (fun H locs hP hS => ?_)
      refine lv_if_eq (tgt := 54) hx hb dX5_owned_44 (by decide) (fun c_2 => ?_) (fun c_2 => ?_)
      · have hq := hq.trans (if_pos c_2)
        refine lv_iconst (v := (nI 0)) hx hb dX5_owned_54 (by decide) ?_
        refine lv_ior hx hb dX5_owned_55 ?_
        refine lv_istore_n (lv' := [(3, .int (x3_5 ||| (nI 0))), (4, .int (nI i5)), (0, .ref (a 0)), (1, .int (nI b)), (2, .int g)]) hx hb dX5_owned_56 rfl hl (by decide) rfl (fun ls hl => ?_)
        refine lv_iinc (v := (nI (i5 + 1))) (lv' := [(4, .int (nI (i5 + 1))), (3, .int (x3_5 ||| (nI 0))), (0, .ref (a 0)), (1, .int (nI b)), (2, .int g)]) hx hb dX5_owned_57 hl (k := 1) rfl (nI_1 _) (by decide) rfl (fun ls hl => ?_)
        refine lv_goto (tgt := 5) hx hb dX5_owned_60 (by decide) ?_
        exact ih5 ((i5 + 1), (x3_5 ||| (nI 0))) H locs ls ⟨by omega, hq, hP, hS, lv_sub hl [0, 1, 2, 3, 4] rfl⟩
      · have hq := hq.trans (if_neg c_2)
        refine lv_iconst (v := (nI 1)) hx hb dX5_owned_47 (by decide) ?_
        refine lv_iload hx hb dX5_owned_48 (lv_at hl 0 rfl) ?_
        refine lv_ishl hx hb dX5_owned_50 ?_
        refine lv_goto (tgt := 55) hx hb dX5_owned_51 (by decide) ?_
        refine lv_ior hx hb dX5_owned_55 ?_
        refine lv_istore_n (lv' := [(3, .int (x3_5 ||| ((nI 1) <<< ((nI i5) &&& 31)))), (4, .int (nI i5)), (0, .ref (a 0)), (1, .int (nI b)), (2, .int g)]) hx hb dX5_owned_56 rfl hl (by decide) rfl (fun ls hl => ?_)
        refine lv_iinc (v := (nI (i5 + 1))) (lv' := [(4, .int (nI (i5 + 1))), (3, .int (x3_5 ||| ((nI 1) <<< ((nI i5) &&& 31)))), (0, .ref (a 0)), (1, .int (nI b)), (2, .int g)]) hx hb dX5_owned_57 hl (k := 1) rfl (nI_1 _) (by decide) rfl (fun ls hl => ?_)
        refine lv_goto (tgt := 5) hx hb dX5_owned_60 (by decide) ?_
        exact ih5 ((i5 + 1), (x3_5 ||| ((nI 1) <<< ((nI i5) &&& 31)))) H locs ls ⟨by omega, hq, hP, hS, lv_sub hl [0, 1, 2, 3, 4] rfl⟩
def fX5_inverse (k : Int32) : Int32 := (let y_1 := (k - k / (nI 251) * (nI 251)); (let y_2 := (((nI 1) * y_1) - ((nI 1) * y_1) / (nI 251) * (nI 251)); (let y_3 := ((y_1 * y_1) - (y_1 * y_1) / (nI 251) * (nI 251)); (let y_4 := ((y_3 * y_3) - (y_3 * y_3) / (nI 251) * (nI 251)); (let y_5 := ((y_4 * y_4) - (y_4 * y_4) / (nI 251) * (nI 251)); (let y_6 := ((y_2 * y_5) - (y_2 * y_5) / (nI 251) * (nI 251)); (let y_7 := ((y_5 * y_5) - (y_5 * y_5) / (nI 251) * (nI 251)); (let y_8 := ((y_6 * y_7) - (y_6 * y_7) / (nI 251) * (nI 251)); (let y_9 := ((y_7 * y_7) - (y_7 * y_7) / (nI 251) * (nI 251)); (let y_10 := ((y_8 * y_9) - (y_8 * y_9) / (nI 251) * (nI 251)); (let y_11 := ((y_9 * y_9) - (y_9 * y_9) / (nI 251) * (nI 251)); (let y_12 := ((y_10 * y_11) - (y_10 * y_11) / (nI 251) * (nI 251)); (let y_13 := ((y_11 * y_11) - (y_11 * y_11) / (nI 251) * (nI 251)); (let y_14 := ((y_12 * y_13) - (y_12 * y_13) / (nI 251) * (nI 251)); (let y_15 := ((y_13 * y_13) - (y_13 * y_13) / (nI 251) * (nI 251)); (y_14))))))))))))))))
set_option maxHeartbeats 4000000 in
set_option maxRecDepth 100000 in
theorem kX5_inverse (l : Launch) (Γ : wG) (k : Int32) : LI l Γ yX5_inverse wsX5_inverse ({ frames := 0, cells := 0, slots := 0, locals := 0 }) [.int k] [] (fX5_inverse k) := by
  intro sz
  refine Met.ofW (cc := cX5_inverse) (maxL := 4) (ret := (some .int)) (by decide) rfl ?_
  intro p e s m args below meth c s₁ B hml hv
  obtain ⟨rfl, hsz, hP, hK, hD0, hAm⟩ := hv
  have hx := B.exec
  have hb := B.bytes
  have hr := B.returns
  have hts := atoms_spec (ws := wsX5_inverse) B.pre
  have hown : s.vm.findClass RX5 = some m.cls := findClass_of_methodNamed B.named
  have hlocks := B.notSynchronized
  subst hsz
  have hD := hD0.self (sz := s.heap.size)
  generalize hBe : va_A (wcat []) s.heap.size = B0 at hD hAm
  obtain ⟨A, hAe⟩ : ∃ A, A = va_A [] s.heap.size := ⟨_, rfl⟩
  rw [← hAe]
  have hA : ∀ q : Nat, s.heap.size ≤ q → A q := fun q h => by rw [hAe]; exact Or.inr h
  have hAB : ∀ q : Nat, A q → B0 q := fun q h => by rw [hAe] at h; rw [← hBe]; exact Or.inr (wnone h)
  have hS : va_S A s.heap s.heap [] := va_S.rf
  have hl := lv_entry ([.int k]) (n := 4) (Nat.le_of_ble_eq_true rfl)
  rw [lg_entry_eq]
  generalize (lg_sl ([.int k]) ++ List.replicate (4 - (lg_sl ([.int k])).length) Slot.unset).toArray = ls at hl ⊢
  have hl : lv_has ls 4 [(0, .int k)] := hl
  have hq : (fX5_inverse k) = (let y_1 := (k - k / (nI 251) * (nI 251)); (let y_2 := (((nI 1) * y_1) - ((nI 1) * y_1) / (nI 251) * (nI 251)); (let y_3 := ((y_1 * y_1) - (y_1 * y_1) / (nI 251) * (nI 251)); (let y_4 := ((y_3 * y_3) - (y_3 * y_3) / (nI 251) * (nI 251)); (let y_5 := ((y_4 * y_4) - (y_4 * y_4) / (nI 251) * (nI 251)); (let y_6 := ((y_2 * y_5) - (y_2 * y_5) / (nI 251) * (nI 251)); (let y_7 := ((y_5 * y_5) - (y_5 * y_5) / (nI 251) * (nI 251)); (let y_8 := ((y_6 * y_7) - (y_6 * y_7) / (nI 251) * (nI 251)); (let y_9 := ((y_7 * y_7) - (y_7 * y_7) / (nI 251) * (nI 251)); (let y_10 := ((y_8 * y_9) - (y_8 * y_9) / (nI 251) * (nI 251)); (let y_11 := ((y_9 * y_9) - (y_9 * y_9) / (nI 251) * (nI 251)); (let y_12 := ((y_10 * y_11) - (y_10 * y_11) / (nI 251) * (nI 251)); (let y_13 := ((y_11 * y_11) - (y_11 * y_11) / (nI 251) * (nI 251)); (let y_14 := ((y_12 * y_13) - (y_12 * y_13) / (nI 251) * (nI 251)); (let y_15 := ((y_13 * y_13) - (y_13 * y_13) / (nI 251) * (nI 251)); (y_14)))))))))))))))) := rfl
  refine lv_sipush (v := (nI 249)) hx hb dX5_inverse_0 (by decide) ?_
  refine lv_istore_n (lv' := [(1, .int (nI 249)), (0, .int k)]) hx hb dX5_inverse_3 rfl hl (by decide) rfl (fun ls hl => ?_)
  refine lv_iload_n hx hb dX5_inverse_4 rfl (lv_at hl 1 rfl) ?_
  refine lv_sipush (v := (nI 251)) hx hb dX5_inverse_5 (by decide) ?_
  refine lv_irem hx hb dX5_inverse_8 (by decide) ?_
  refine lv_topi (fun y_1 ey_1 => ?_)
  replace hq : (fX5_inverse k) = (let y_2 := (((nI 1) * y_1) - ((nI 1) * y_1) / (nI 251) * (nI 251)); (let y_3 := ((y_1 * y_1) - (y_1 * y_1) / (nI 251) * (nI 251)); (let y_4 := ((y_3 * y_3) - (y_3 * y_3) / (nI 251) * (nI 251)); (let y_5 := ((y_4 * y_4) - (y_4 * y_4) / (nI 251) * (nI 251)); (let y_6 := ((y_2 * y_5) - (y_2 * y_5) / (nI 251) * (nI 251)); (let y_7 := ((y_5 * y_5) - (y_5 * y_5) / (nI 251) * (nI 251)); (let y_8 := ((y_6 * y_7) - (y_6 * y_7) / (nI 251) * (nI 251)); (let y_9 := ((y_7 * y_7) - (y_7 * y_7) / (nI 251) * (nI 251)); (let y_10 := ((y_8 * y_9) - (y_8 * y_9) / (nI 251) * (nI 251)); (let y_11 := ((y_9 * y_9) - (y_9 * y_9) / (nI 251) * (nI 251)); (let y_12 := ((y_10 * y_11) - (y_10 * y_11) / (nI 251) * (nI 251)); (let y_13 := ((y_11 * y_11) - (y_11 * y_11) / (nI 251) * (nI 251)); (let y_14 := ((y_12 * y_13) - (y_12 * y_13) / (nI 251) * (nI 251)); (let y_15 := ((y_13 * y_13) - (y_13 * y_13) / (nI 251) * (nI 251)); (y_14))))))))))))))) := hq.trans (by first | rw [ey_1] | rfl)
  refine lv_istore_n (lv' := [(2, .int y_1), (1, .int (nI 249)), (0, .int k)]) hx hb dX5_inverse_9 rfl hl (by decide) rfl (fun ls hl => ?_)
  refine lv_iconst (v := (nI 1)) hx hb dX5_inverse_10 (by decide) ?_
  refine lv_istore_n (lv' := [(3, .int (nI 1)), (2, .int y_1), (1, .int (nI 249)), (0, .int k)]) hx hb dX5_inverse_11 rfl hl (by decide) rfl (fun ls hl => ?_)
  refine lv_iload_n hx hb dX5_inverse_12 rfl (lv_at hl 2 rfl) ?_
  refine lv_if_le (tgt := 50) hx hb dX5_inverse_13 (by decide) (fun c_13 => absurd c_13 (by decide)) (fun c_13 => ?_)
  refine lv_iload_n hx hb dX5_inverse_16 rfl (lv_at hl 2 rfl) ?_
  refine lv_iconst (v := (nI 2)) hx hb dX5_inverse_17 (by decide) ?_
  refine lv_irem hx hb dX5_inverse_18 (by decide) ?_
  refine lv_eqi (y := (nI 1)) (by decide) ?_
  refine lv_iconst (v := (nI 1)) hx hb dX5_inverse_19 (by decide) ?_
  refine lv_icmp_ne (tgt := 33) hx hb dX5_inverse_20 (by decide) (fun c_20 => absurd c_20 (by decide)) (fun c_20 => ?_)
  refine lv_iload_n hx hb dX5_inverse_23 rfl (lv_at hl 0 rfl) ?_
  refine lv_iload_n hx hb dX5_inverse_24 rfl (lv_at hl 1 rfl) ?_
  refine lv_imul hx hb dX5_inverse_25 ?_
  refine lv_sipush (v := (nI 251)) hx hb dX5_inverse_26 (by decide) ?_
  refine lv_irem hx hb dX5_inverse_29 (by decide) ?_
  refine lv_goto (tgt := 34) hx hb dX5_inverse_30 (by decide) ?_
  refine lv_topi (fun y_2 ey_2 => ?_)
  replace hq : (fX5_inverse k) = (let y_3 := ((y_1 * y_1) - (y_1 * y_1) / (nI 251) * (nI 251)); (let y_4 := ((y_3 * y_3) - (y_3 * y_3) / (nI 251) * (nI 251)); (let y_5 := ((y_4 * y_4) - (y_4 * y_4) / (nI 251) * (nI 251)); (let y_6 := ((y_2 * y_5) - (y_2 * y_5) / (nI 251) * (nI 251)); (let y_7 := ((y_5 * y_5) - (y_5 * y_5) / (nI 251) * (nI 251)); (let y_8 := ((y_6 * y_7) - (y_6 * y_7) / (nI 251) * (nI 251)); (let y_9 := ((y_7 * y_7) - (y_7 * y_7) / (nI 251) * (nI 251)); (let y_10 := ((y_8 * y_9) - (y_8 * y_9) / (nI 251) * (nI 251)); (let y_11 := ((y_9 * y_9) - (y_9 * y_9) / (nI 251) * (nI 251)); (let y_12 := ((y_10 * y_11) - (y_10 * y_11) / (nI 251) * (nI 251)); (let y_13 := ((y_11 * y_11) - (y_11 * y_11) / (nI 251) * (nI 251)); (let y_14 := ((y_12 * y_13) - (y_12 * y_13) / (nI 251) * (nI 251)); (let y_15 := ((y_13 * y_13) - (y_13 * y_13) / (nI 251) * (nI 251)); (y_14)))))))))))))) := hq.trans (by first | rw [ey_2] | rfl)
  refine lv_istore_n (lv' := [(3, .int y_2), (2, .int y_1), (1, .int (nI 249)), (0, .int k)]) hx hb dX5_inverse_34 rfl hl (by decide) rfl (fun ls hl => ?_)
  refine lv_iload_n hx hb dX5_inverse_35 rfl (lv_at hl 1 rfl) ?_
  refine lv_iload_n hx hb dX5_inverse_36 rfl (lv_at hl 1 rfl) ?_
  refine lv_imul hx hb dX5_inverse_37 ?_
  refine lv_sipush (v := (nI 251)) hx hb dX5_inverse_38 (by decide) ?_
  refine lv_irem hx hb dX5_inverse_41 (by decide) ?_
  refine lv_topi (fun y_3 ey_3 => ?_)
  replace hq : (fX5_inverse k) = (let y_4 := ((y_3 * y_3) - (y_3 * y_3) / (nI 251) * (nI 251)); (let y_5 := ((y_4 * y_4) - (y_4 * y_4) / (nI 251) * (nI 251)); (let y_6 := ((y_2 * y_5) - (y_2 * y_5) / (nI 251) * (nI 251)); (let y_7 := ((y_5 * y_5) - (y_5 * y_5) / (nI 251) * (nI 251)); (let y_8 := ((y_6 * y_7) - (y_6 * y_7) / (nI 251) * (nI 251)); (let y_9 := ((y_7 * y_7) - (y_7 * y_7) / (nI 251) * (nI 251)); (let y_10 := ((y_8 * y_9) - (y_8 * y_9) / (nI 251) * (nI 251)); (let y_11 := ((y_9 * y_9) - (y_9 * y_9) / (nI 251) * (nI 251)); (let y_12 := ((y_10 * y_11) - (y_10 * y_11) / (nI 251) * (nI 251)); (let y_13 := ((y_11 * y_11) - (y_11 * y_11) / (nI 251) * (nI 251)); (let y_14 := ((y_12 * y_13) - (y_12 * y_13) / (nI 251) * (nI 251)); (let y_15 := ((y_13 * y_13) - (y_13 * y_13) / (nI 251) * (nI 251)); (y_14))))))))))))) := hq.trans (by first | rw [ey_3] | rfl)
  refine lv_istore_n (lv' := [(2, .int y_3), (3, .int y_2), (1, .int (nI 249)), (0, .int k)]) hx hb dX5_inverse_42 rfl hl (by decide) rfl (fun ls hl => ?_)
  refine lv_iload_n hx hb dX5_inverse_43 rfl (lv_at hl 2 rfl) ?_
  refine lv_iconst (v := (nI 2)) hx hb dX5_inverse_44 (by decide) ?_
  refine lv_idiv hx hb dX5_inverse_45 (by decide) ?_
  refine lv_eqi (y := (nI 124)) (by decide) ?_
  refine lv_istore_n (lv' := [(1, .int (nI 124)), (2, .int y_3), (3, .int y_2), (0, .int k)]) hx hb dX5_inverse_46 rfl hl (by decide) rfl (fun ls hl => ?_)
  refine lv_goto (tgt := 12) hx hb dX5_inverse_47 (by decide) ?_
  refine lv_iload_n hx hb dX5_inverse_12 rfl (lv_at hl 0 rfl) ?_
  refine lv_if_le (tgt := 50) hx hb dX5_inverse_13 (by decide) (fun c_13 => absurd c_13 (by decide)) (fun c_13 => ?_)
  refine lv_iload_n hx hb dX5_inverse_16 rfl (lv_at hl 0 rfl) ?_
  refine lv_iconst (v := (nI 2)) hx hb dX5_inverse_17 (by decide) ?_
  refine lv_irem hx hb dX5_inverse_18 (by decide) ?_
  refine lv_eqi (y := (nI 0)) (by decide) ?_
  refine lv_iconst (v := (nI 1)) hx hb dX5_inverse_19 (by decide) ?_
  refine lv_icmp_ne (tgt := 33) hx hb dX5_inverse_20 (by decide) (fun c_20 => ?_) (fun c_20 => absurd c_20 (by decide))
  refine lv_iload_n hx hb dX5_inverse_33 rfl (lv_at hl 2 rfl) ?_
  refine lv_istore_n (lv' := [(3, .int y_2), (1, .int (nI 124)), (2, .int y_3), (0, .int k)]) hx hb dX5_inverse_34 rfl hl (by decide) rfl (fun ls hl => ?_)
  refine lv_iload_n hx hb dX5_inverse_35 rfl (lv_at hl 2 rfl) ?_
  refine lv_iload_n hx hb dX5_inverse_36 rfl (lv_at hl 2 rfl) ?_
  refine lv_imul hx hb dX5_inverse_37 ?_
  refine lv_sipush (v := (nI 251)) hx hb dX5_inverse_38 (by decide) ?_
  refine lv_irem hx hb dX5_inverse_41 (by decide) ?_
  refine lv_topi (fun y_4 ey_4 => ?_)
  replace hq : (fX5_inverse k) = (let y_5 := ((y_4 * y_4) - (y_4 * y_4) / (nI 251) * (nI 251)); (let y_6 := ((y_2 * y_5) - (y_2 * y_5) / (nI 251) * (nI 251)); (let y_7 := ((y_5 * y_5) - (y_5 * y_5) / (nI 251) * (nI 251)); (let y_8 := ((y_6 * y_7) - (y_6 * y_7) / (nI 251) * (nI 251)); (let y_9 := ((y_7 * y_7) - (y_7 * y_7) / (nI 251) * (nI 251)); (let y_10 := ((y_8 * y_9) - (y_8 * y_9) / (nI 251) * (nI 251)); (let y_11 := ((y_9 * y_9) - (y_9 * y_9) / (nI 251) * (nI 251)); (let y_12 := ((y_10 * y_11) - (y_10 * y_11) / (nI 251) * (nI 251)); (let y_13 := ((y_11 * y_11) - (y_11 * y_11) / (nI 251) * (nI 251)); (let y_14 := ((y_12 * y_13) - (y_12 * y_13) / (nI 251) * (nI 251)); (let y_15 := ((y_13 * y_13) - (y_13 * y_13) / (nI 251) * (nI 251)); (y_14)))))))))))) := hq.trans (by first | rw [ey_4] | rfl)
  refine lv_istore_n (lv' := [(2, .int y_4), (3, .int y_2), (1, .int (nI 124)), (0, .int k)]) hx hb dX5_inverse_42 rfl hl (by decide) rfl (fun ls hl => ?_)
  refine lv_iload_n hx hb dX5_inverse_43 rfl (lv_at hl 2 rfl) ?_
  refine lv_iconst (v := (nI 2)) hx hb dX5_inverse_44 (by decide) ?_
  refine lv_idiv hx hb dX5_inverse_45 (by decide) ?_
  refine lv_eqi (y := (nI 62)) (by decide) ?_
  refine lv_istore_n (lv' := [(1, .int (nI 62)), (2, .int y_4), (3, .int y_2), (0, .int k)]) hx hb dX5_inverse_46 rfl hl (by decide) rfl (fun ls hl => ?_)
  refine lv_goto (tgt := 12) hx hb dX5_inverse_47 (by decide) ?_
  refine lv_iload_n hx hb dX5_inverse_12 rfl (lv_at hl 0 rfl) ?_
  refine lv_if_le (tgt := 50) hx hb dX5_inverse_13 (by decide) (fun c_13 => absurd c_13 (by decide)) (fun c_13 => ?_)
  refine lv_iload_n hx hb dX5_inverse_16 rfl (lv_at hl 0 rfl) ?_
  refine lv_iconst (v := (nI 2)) hx hb dX5_inverse_17 (by decide) ?_
  refine lv_irem hx hb dX5_inverse_18 (by decide) ?_
  refine lv_eqi (y := (nI 0)) (by decide) ?_
  refine lv_iconst (v := (nI 1)) hx hb dX5_inverse_19 (by decide) ?_
  refine lv_icmp_ne (tgt := 33) hx hb dX5_inverse_20 (by decide) (fun c_20 => ?_) (fun c_20 => absurd c_20 (by decide))
  refine lv_iload_n hx hb dX5_inverse_33 rfl (lv_at hl 2 rfl) ?_
  refine lv_istore_n (lv' := [(3, .int y_2), (1, .int (nI 62)), (2, .int y_4), (0, .int k)]) hx hb dX5_inverse_34 rfl hl (by decide) rfl (fun ls hl => ?_)
  refine lv_iload_n hx hb dX5_inverse_35 rfl (lv_at hl 2 rfl) ?_
  refine lv_iload_n hx hb dX5_inverse_36 rfl (lv_at hl 2 rfl) ?_
  refine lv_imul hx hb dX5_inverse_37 ?_
  refine lv_sipush (v := (nI 251)) hx hb dX5_inverse_38 (by decide) ?_
  refine lv_irem hx hb dX5_inverse_41 (by decide) ?_
  refine lv_topi (fun y_5 ey_5 => ?_)
  replace hq : (fX5_inverse k) = (let y_6 := ((y_2 * y_5) - (y_2 * y_5) / (nI 251) * (nI 251)); (let y_7 := ((y_5 * y_5) - (y_5 * y_5) / (nI 251) * (nI 251)); (let y_8 := ((y_6 * y_7) - (y_6 * y_7) / (nI 251) * (nI 251)); (let y_9 := ((y_7 * y_7) - (y_7 * y_7) / (nI 251) * (nI 251)); (let y_10 := ((y_8 * y_9) - (y_8 * y_9) / (nI 251) * (nI 251)); (let y_11 := ((y_9 * y_9) - (y_9 * y_9) / (nI 251) * (nI 251)); (let y_12 := ((y_10 * y_11) - (y_10 * y_11) / (nI 251) * (nI 251)); (let y_13 := ((y_11 * y_11) - (y_11 * y_11) / (nI 251) * (nI 251)); (let y_14 := ((y_12 * y_13) - (y_12 * y_13) / (nI 251) * (nI 251)); (let y_15 := ((y_13 * y_13) - (y_13 * y_13) / (nI 251) * (nI 251)); (y_14))))))))))) := hq.trans (by first | rw [ey_5] | rfl)
  refine lv_istore_n (lv' := [(2, .int y_5), (3, .int y_2), (1, .int (nI 62)), (0, .int k)]) hx hb dX5_inverse_42 rfl hl (by decide) rfl (fun ls hl => ?_)
  refine lv_iload_n hx hb dX5_inverse_43 rfl (lv_at hl 2 rfl) ?_
  refine lv_iconst (v := (nI 2)) hx hb dX5_inverse_44 (by decide) ?_
  refine lv_idiv hx hb dX5_inverse_45 (by decide) ?_
  refine lv_eqi (y := (nI 31)) (by decide) ?_
  refine lv_istore_n (lv' := [(1, .int (nI 31)), (2, .int y_5), (3, .int y_2), (0, .int k)]) hx hb dX5_inverse_46 rfl hl (by decide) rfl (fun ls hl => ?_)
  refine lv_goto (tgt := 12) hx hb dX5_inverse_47 (by decide) ?_
  refine lv_iload_n hx hb dX5_inverse_12 rfl (lv_at hl 0 rfl) ?_
  refine lv_if_le (tgt := 50) hx hb dX5_inverse_13 (by decide) (fun c_13 => absurd c_13 (by decide)) (fun c_13 => ?_)
  refine lv_iload_n hx hb dX5_inverse_16 rfl (lv_at hl 0 rfl) ?_
  refine lv_iconst (v := (nI 2)) hx hb dX5_inverse_17 (by decide) ?_
  refine lv_irem hx hb dX5_inverse_18 (by decide) ?_
  refine lv_eqi (y := (nI 1)) (by decide) ?_
  refine lv_iconst (v := (nI 1)) hx hb dX5_inverse_19 (by decide) ?_
  refine lv_icmp_ne (tgt := 33) hx hb dX5_inverse_20 (by decide) (fun c_20 => absurd c_20 (by decide)) (fun c_20 => ?_)
  refine lv_iload_n hx hb dX5_inverse_23 rfl (lv_at hl 2 rfl) ?_
  refine lv_iload_n hx hb dX5_inverse_24 rfl (lv_at hl 1 rfl) ?_
  refine lv_imul hx hb dX5_inverse_25 ?_
  refine lv_sipush (v := (nI 251)) hx hb dX5_inverse_26 (by decide) ?_
  refine lv_irem hx hb dX5_inverse_29 (by decide) ?_
  refine lv_goto (tgt := 34) hx hb dX5_inverse_30 (by decide) ?_
  refine lv_topi (fun y_6 ey_6 => ?_)
  replace hq : (fX5_inverse k) = (let y_7 := ((y_5 * y_5) - (y_5 * y_5) / (nI 251) * (nI 251)); (let y_8 := ((y_6 * y_7) - (y_6 * y_7) / (nI 251) * (nI 251)); (let y_9 := ((y_7 * y_7) - (y_7 * y_7) / (nI 251) * (nI 251)); (let y_10 := ((y_8 * y_9) - (y_8 * y_9) / (nI 251) * (nI 251)); (let y_11 := ((y_9 * y_9) - (y_9 * y_9) / (nI 251) * (nI 251)); (let y_12 := ((y_10 * y_11) - (y_10 * y_11) / (nI 251) * (nI 251)); (let y_13 := ((y_11 * y_11) - (y_11 * y_11) / (nI 251) * (nI 251)); (let y_14 := ((y_12 * y_13) - (y_12 * y_13) / (nI 251) * (nI 251)); (let y_15 := ((y_13 * y_13) - (y_13 * y_13) / (nI 251) * (nI 251)); (y_14)))))))))) := hq.trans (by first | rw [ey_6] | rfl)
  refine lv_istore_n (lv' := [(3, .int y_6), (1, .int (nI 31)), (2, .int y_5), (0, .int k)]) hx hb dX5_inverse_34 rfl hl (by decide) rfl (fun ls hl => ?_)
  refine lv_iload_n hx hb dX5_inverse_35 rfl (lv_at hl 2 rfl) ?_
  refine lv_iload_n hx hb dX5_inverse_36 rfl (lv_at hl 2 rfl) ?_
  refine lv_imul hx hb dX5_inverse_37 ?_
  refine lv_sipush (v := (nI 251)) hx hb dX5_inverse_38 (by decide) ?_
  refine lv_irem hx hb dX5_inverse_41 (by decide) ?_
  refine lv_topi (fun y_7 ey_7 => ?_)
  replace hq : (fX5_inverse k) = (let y_8 := ((y_6 * y_7) - (y_6 * y_7) / (nI 251) * (nI 251)); (let y_9 := ((y_7 * y_7) - (y_7 * y_7) / (nI 251) * (nI 251)); (let y_10 := ((y_8 * y_9) - (y_8 * y_9) / (nI 251) * (nI 251)); (let y_11 := ((y_9 * y_9) - (y_9 * y_9) / (nI 251) * (nI 251)); (let y_12 := ((y_10 * y_11) - (y_10 * y_11) / (nI 251) * (nI 251)); (let y_13 := ((y_11 * y_11) - (y_11 * y_11) / (nI 251) * (nI 251)); (let y_14 := ((y_12 * y_13) - (y_12 * y_13) / (nI 251) * (nI 251)); (let y_15 := ((y_13 * y_13) - (y_13 * y_13) / (nI 251) * (nI 251)); (y_14))))))))) := hq.trans (by first | rw [ey_7] | rfl)
  refine lv_istore_n (lv' := [(2, .int y_7), (3, .int y_6), (1, .int (nI 31)), (0, .int k)]) hx hb dX5_inverse_42 rfl hl (by decide) rfl (fun ls hl => ?_)
  refine lv_iload_n hx hb dX5_inverse_43 rfl (lv_at hl 2 rfl) ?_
  refine lv_iconst (v := (nI 2)) hx hb dX5_inverse_44 (by decide) ?_
  refine lv_idiv hx hb dX5_inverse_45 (by decide) ?_
  refine lv_eqi (y := (nI 15)) (by decide) ?_
  refine lv_istore_n (lv' := [(1, .int (nI 15)), (2, .int y_7), (3, .int y_6), (0, .int k)]) hx hb dX5_inverse_46 rfl hl (by decide) rfl (fun ls hl => ?_)
  refine lv_goto (tgt := 12) hx hb dX5_inverse_47 (by decide) ?_
  refine lv_iload_n hx hb dX5_inverse_12 rfl (lv_at hl 0 rfl) ?_
  refine lv_if_le (tgt := 50) hx hb dX5_inverse_13 (by decide) (fun c_13 => absurd c_13 (by decide)) (fun c_13 => ?_)
  refine lv_iload_n hx hb dX5_inverse_16 rfl (lv_at hl 0 rfl) ?_
  refine lv_iconst (v := (nI 2)) hx hb dX5_inverse_17 (by decide) ?_
  refine lv_irem hx hb dX5_inverse_18 (by decide) ?_
  refine lv_eqi (y := (nI 1)) (by decide) ?_
  refine lv_iconst (v := (nI 1)) hx hb dX5_inverse_19 (by decide) ?_
  refine lv_icmp_ne (tgt := 33) hx hb dX5_inverse_20 (by decide) (fun c_20 => absurd c_20 (by decide)) (fun c_20 => ?_)
  refine lv_iload_n hx hb dX5_inverse_23 rfl (lv_at hl 2 rfl) ?_
  refine lv_iload_n hx hb dX5_inverse_24 rfl (lv_at hl 1 rfl) ?_
  refine lv_imul hx hb dX5_inverse_25 ?_
  refine lv_sipush (v := (nI 251)) hx hb dX5_inverse_26 (by decide) ?_
  refine lv_irem hx hb dX5_inverse_29 (by decide) ?_
  refine lv_goto (tgt := 34) hx hb dX5_inverse_30 (by decide) ?_
  refine lv_topi (fun y_8 ey_8 => ?_)
  replace hq : (fX5_inverse k) = (let y_9 := ((y_7 * y_7) - (y_7 * y_7) / (nI 251) * (nI 251)); (let y_10 := ((y_8 * y_9) - (y_8 * y_9) / (nI 251) * (nI 251)); (let y_11 := ((y_9 * y_9) - (y_9 * y_9) / (nI 251) * (nI 251)); (let y_12 := ((y_10 * y_11) - (y_10 * y_11) / (nI 251) * (nI 251)); (let y_13 := ((y_11 * y_11) - (y_11 * y_11) / (nI 251) * (nI 251)); (let y_14 := ((y_12 * y_13) - (y_12 * y_13) / (nI 251) * (nI 251)); (let y_15 := ((y_13 * y_13) - (y_13 * y_13) / (nI 251) * (nI 251)); (y_14)))))))) := hq.trans (by first | rw [ey_8] | rfl)
  refine lv_istore_n (lv' := [(3, .int y_8), (1, .int (nI 15)), (2, .int y_7), (0, .int k)]) hx hb dX5_inverse_34 rfl hl (by decide) rfl (fun ls hl => ?_)
  refine lv_iload_n hx hb dX5_inverse_35 rfl (lv_at hl 2 rfl) ?_
  refine lv_iload_n hx hb dX5_inverse_36 rfl (lv_at hl 2 rfl) ?_
  refine lv_imul hx hb dX5_inverse_37 ?_
  refine lv_sipush (v := (nI 251)) hx hb dX5_inverse_38 (by decide) ?_
  refine lv_irem hx hb dX5_inverse_41 (by decide) ?_
  refine lv_topi (fun y_9 ey_9 => ?_)
  replace hq : (fX5_inverse k) = (let y_10 := ((y_8 * y_9) - (y_8 * y_9) / (nI 251) * (nI 251)); (let y_11 := ((y_9 * y_9) - (y_9 * y_9) / (nI 251) * (nI 251)); (let y_12 := ((y_10 * y_11) - (y_10 * y_11) / (nI 251) * (nI 251)); (let y_13 := ((y_11 * y_11) - (y_11 * y_11) / (nI 251) * (nI 251)); (let y_14 := ((y_12 * y_13) - (y_12 * y_13) / (nI 251) * (nI 251)); (let y_15 := ((y_13 * y_13) - (y_13 * y_13) / (nI 251) * (nI 251)); (y_14))))))) := hq.trans (by first | rw [ey_9] | rfl)
  refine lv_istore_n (lv' := [(2, .int y_9), (3, .int y_8), (1, .int (nI 15)), (0, .int k)]) hx hb dX5_inverse_42 rfl hl (by decide) rfl (fun ls hl => ?_)
  refine lv_iload_n hx hb dX5_inverse_43 rfl (lv_at hl 2 rfl) ?_
  refine lv_iconst (v := (nI 2)) hx hb dX5_inverse_44 (by decide) ?_
  refine lv_idiv hx hb dX5_inverse_45 (by decide) ?_
  refine lv_eqi (y := (nI 7)) (by decide) ?_
  refine lv_istore_n (lv' := [(1, .int (nI 7)), (2, .int y_9), (3, .int y_8), (0, .int k)]) hx hb dX5_inverse_46 rfl hl (by decide) rfl (fun ls hl => ?_)
  refine lv_goto (tgt := 12) hx hb dX5_inverse_47 (by decide) ?_
  refine lv_iload_n hx hb dX5_inverse_12 rfl (lv_at hl 0 rfl) ?_
  refine lv_if_le (tgt := 50) hx hb dX5_inverse_13 (by decide) (fun c_13 => absurd c_13 (by decide)) (fun c_13 => ?_)
  refine lv_iload_n hx hb dX5_inverse_16 rfl (lv_at hl 0 rfl) ?_
  refine lv_iconst (v := (nI 2)) hx hb dX5_inverse_17 (by decide) ?_
  refine lv_irem hx hb dX5_inverse_18 (by decide) ?_
  refine lv_eqi (y := (nI 1)) (by decide) ?_
  refine lv_iconst (v := (nI 1)) hx hb dX5_inverse_19 (by decide) ?_
  refine lv_icmp_ne (tgt := 33) hx hb dX5_inverse_20 (by decide) (fun c_20 => absurd c_20 (by decide)) (fun c_20 => ?_)
  refine lv_iload_n hx hb dX5_inverse_23 rfl (lv_at hl 2 rfl) ?_
  refine lv_iload_n hx hb dX5_inverse_24 rfl (lv_at hl 1 rfl) ?_
  refine lv_imul hx hb dX5_inverse_25 ?_
  refine lv_sipush (v := (nI 251)) hx hb dX5_inverse_26 (by decide) ?_
  refine lv_irem hx hb dX5_inverse_29 (by decide) ?_
  refine lv_goto (tgt := 34) hx hb dX5_inverse_30 (by decide) ?_
  refine lv_topi (fun y_10 ey_10 => ?_)
  replace hq : (fX5_inverse k) = (let y_11 := ((y_9 * y_9) - (y_9 * y_9) / (nI 251) * (nI 251)); (let y_12 := ((y_10 * y_11) - (y_10 * y_11) / (nI 251) * (nI 251)); (let y_13 := ((y_11 * y_11) - (y_11 * y_11) / (nI 251) * (nI 251)); (let y_14 := ((y_12 * y_13) - (y_12 * y_13) / (nI 251) * (nI 251)); (let y_15 := ((y_13 * y_13) - (y_13 * y_13) / (nI 251) * (nI 251)); (y_14)))))) := hq.trans (by first | rw [ey_10] | rfl)
  refine lv_istore_n (lv' := [(3, .int y_10), (1, .int (nI 7)), (2, .int y_9), (0, .int k)]) hx hb dX5_inverse_34 rfl hl (by decide) rfl (fun ls hl => ?_)
  refine lv_iload_n hx hb dX5_inverse_35 rfl (lv_at hl 2 rfl) ?_
  refine lv_iload_n hx hb dX5_inverse_36 rfl (lv_at hl 2 rfl) ?_
  refine lv_imul hx hb dX5_inverse_37 ?_
  refine lv_sipush (v := (nI 251)) hx hb dX5_inverse_38 (by decide) ?_
  refine lv_irem hx hb dX5_inverse_41 (by decide) ?_
  refine lv_topi (fun y_11 ey_11 => ?_)
  replace hq : (fX5_inverse k) = (let y_12 := ((y_10 * y_11) - (y_10 * y_11) / (nI 251) * (nI 251)); (let y_13 := ((y_11 * y_11) - (y_11 * y_11) / (nI 251) * (nI 251)); (let y_14 := ((y_12 * y_13) - (y_12 * y_13) / (nI 251) * (nI 251)); (let y_15 := ((y_13 * y_13) - (y_13 * y_13) / (nI 251) * (nI 251)); (y_14))))) := hq.trans (by first | rw [ey_11] | rfl)
  refine lv_istore_n (lv' := [(2, .int y_11), (3, .int y_10), (1, .int (nI 7)), (0, .int k)]) hx hb dX5_inverse_42 rfl hl (by decide) rfl (fun ls hl => ?_)
  refine lv_iload_n hx hb dX5_inverse_43 rfl (lv_at hl 2 rfl) ?_
  refine lv_iconst (v := (nI 2)) hx hb dX5_inverse_44 (by decide) ?_
  refine lv_idiv hx hb dX5_inverse_45 (by decide) ?_
  refine lv_eqi (y := (nI 3)) (by decide) ?_
  refine lv_istore_n (lv' := [(1, .int (nI 3)), (2, .int y_11), (3, .int y_10), (0, .int k)]) hx hb dX5_inverse_46 rfl hl (by decide) rfl (fun ls hl => ?_)
  refine lv_goto (tgt := 12) hx hb dX5_inverse_47 (by decide) ?_
  refine lv_iload_n hx hb dX5_inverse_12 rfl (lv_at hl 0 rfl) ?_
  refine lv_if_le (tgt := 50) hx hb dX5_inverse_13 (by decide) (fun c_13 => absurd c_13 (by decide)) (fun c_13 => ?_)
  refine lv_iload_n hx hb dX5_inverse_16 rfl (lv_at hl 0 rfl) ?_
  refine lv_iconst (v := (nI 2)) hx hb dX5_inverse_17 (by decide) ?_
  refine lv_irem hx hb dX5_inverse_18 (by decide) ?_
  refine lv_eqi (y := (nI 1)) (by decide) ?_
  refine lv_iconst (v := (nI 1)) hx hb dX5_inverse_19 (by decide) ?_
  refine lv_icmp_ne (tgt := 33) hx hb dX5_inverse_20 (by decide) (fun c_20 => absurd c_20 (by decide)) (fun c_20 => ?_)
  refine lv_iload_n hx hb dX5_inverse_23 rfl (lv_at hl 2 rfl) ?_
  refine lv_iload_n hx hb dX5_inverse_24 rfl (lv_at hl 1 rfl) ?_
  refine lv_imul hx hb dX5_inverse_25 ?_
  refine lv_sipush (v := (nI 251)) hx hb dX5_inverse_26 (by decide) ?_
  refine lv_irem hx hb dX5_inverse_29 (by decide) ?_
  refine lv_goto (tgt := 34) hx hb dX5_inverse_30 (by decide) ?_
  refine lv_topi (fun y_12 ey_12 => ?_)
  replace hq : (fX5_inverse k) = (let y_13 := ((y_11 * y_11) - (y_11 * y_11) / (nI 251) * (nI 251)); (let y_14 := ((y_12 * y_13) - (y_12 * y_13) / (nI 251) * (nI 251)); (let y_15 := ((y_13 * y_13) - (y_13 * y_13) / (nI 251) * (nI 251)); (y_14)))) := hq.trans (by first | rw [ey_12] | rfl)
  refine lv_istore_n (lv' := [(3, .int y_12), (1, .int (nI 3)), (2, .int y_11), (0, .int k)]) hx hb dX5_inverse_34 rfl hl (by decide) rfl (fun ls hl => ?_)
  refine lv_iload_n hx hb dX5_inverse_35 rfl (lv_at hl 2 rfl) ?_
  refine lv_iload_n hx hb dX5_inverse_36 rfl (lv_at hl 2 rfl) ?_
  refine lv_imul hx hb dX5_inverse_37 ?_
  refine lv_sipush (v := (nI 251)) hx hb dX5_inverse_38 (by decide) ?_
  refine lv_irem hx hb dX5_inverse_41 (by decide) ?_
  refine lv_topi (fun y_13 ey_13 => ?_)
  replace hq : (fX5_inverse k) = (let y_14 := ((y_12 * y_13) - (y_12 * y_13) / (nI 251) * (nI 251)); (let y_15 := ((y_13 * y_13) - (y_13 * y_13) / (nI 251) * (nI 251)); (y_14))) := hq.trans (by first | rw [ey_13] | rfl)
  refine lv_istore_n (lv' := [(2, .int y_13), (3, .int y_12), (1, .int (nI 3)), (0, .int k)]) hx hb dX5_inverse_42 rfl hl (by decide) rfl (fun ls hl => ?_)
  refine lv_iload_n hx hb dX5_inverse_43 rfl (lv_at hl 2 rfl) ?_
  refine lv_iconst (v := (nI 2)) hx hb dX5_inverse_44 (by decide) ?_
  refine lv_idiv hx hb dX5_inverse_45 (by decide) ?_
  refine lv_eqi (y := (nI 1)) (by decide) ?_
  refine lv_istore_n (lv' := [(1, .int (nI 1)), (2, .int y_13), (3, .int y_12), (0, .int k)]) hx hb dX5_inverse_46 rfl hl (by decide) rfl (fun ls hl => ?_)
  refine lv_goto (tgt := 12) hx hb dX5_inverse_47 (by decide) ?_
  refine lv_iload_n hx hb dX5_inverse_12 rfl (lv_at hl 0 rfl) ?_
  refine lv_if_le (tgt := 50) hx hb dX5_inverse_13 (by decide) (fun c_13 => absurd c_13 (by decide)) (fun c_13 => ?_)
  refine lv_iload_n hx hb dX5_inverse_16 rfl (lv_at hl 0 rfl) ?_
  refine lv_iconst (v := (nI 2)) hx hb dX5_inverse_17 (by decide) ?_
  refine lv_irem hx hb dX5_inverse_18 (by decide) ?_
  refine lv_eqi (y := (nI 1)) (by decide) ?_
  refine lv_iconst (v := (nI 1)) hx hb dX5_inverse_19 (by decide) ?_
  refine lv_icmp_ne (tgt := 33) hx hb dX5_inverse_20 (by decide) (fun c_20 => absurd c_20 (by decide)) (fun c_20 => ?_)
  refine lv_iload_n hx hb dX5_inverse_23 rfl (lv_at hl 2 rfl) ?_
  refine lv_iload_n hx hb dX5_inverse_24 rfl (lv_at hl 1 rfl) ?_
  refine lv_imul hx hb dX5_inverse_25 ?_
  refine lv_sipush (v := (nI 251)) hx hb dX5_inverse_26 (by decide) ?_
  refine lv_irem hx hb dX5_inverse_29 (by decide) ?_
  refine lv_goto (tgt := 34) hx hb dX5_inverse_30 (by decide) ?_
  refine lv_topi (fun y_14 ey_14 => ?_)
  replace hq : (fX5_inverse k) = (let y_15 := ((y_13 * y_13) - (y_13 * y_13) / (nI 251) * (nI 251)); (y_14)) := hq.trans (by first | rw [ey_14] | rfl)
  refine lv_istore_n (lv' := [(3, .int y_14), (1, .int (nI 1)), (2, .int y_13), (0, .int k)]) hx hb dX5_inverse_34 rfl hl (by decide) rfl (fun ls hl => ?_)
  refine lv_iload_n hx hb dX5_inverse_35 rfl (lv_at hl 2 rfl) ?_
  refine lv_iload_n hx hb dX5_inverse_36 rfl (lv_at hl 2 rfl) ?_
  refine lv_imul hx hb dX5_inverse_37 ?_
  refine lv_sipush (v := (nI 251)) hx hb dX5_inverse_38 (by decide) ?_
  refine lv_irem hx hb dX5_inverse_41 (by decide) ?_
  refine lv_topi (fun y_15 ey_15 => ?_)
  replace hq : (fX5_inverse k) = (y_14) := hq.trans (by first | rw [ey_15] | rfl)
  refine lv_istore_n (lv' := [(2, .int y_15), (3, .int y_14), (1, .int (nI 1)), (0, .int k)]) hx hb dX5_inverse_42 rfl hl (by decide) rfl (fun ls hl => ?_)
  refine lv_iload_n hx hb dX5_inverse_43 rfl (lv_at hl 2 rfl) ?_
  refine lv_iconst (v := (nI 2)) hx hb dX5_inverse_44 (by decide) ?_
  refine lv_idiv hx hb dX5_inverse_45 (by decide) ?_
  refine lv_eqi (y := (nI 0)) (by decide) ?_
  refine lv_istore_n (lv' := [(1, .int (nI 0)), (2, .int y_15), (3, .int y_14), (0, .int k)]) hx hb dX5_inverse_46 rfl hl (by decide) rfl (fun ls hl => ?_)
  refine lv_goto (tgt := 12) hx hb dX5_inverse_47 (by decide) ?_
  refine lv_iload_n hx hb dX5_inverse_12 rfl (lv_at hl 0 rfl) ?_
  refine lv_if_le (tgt := 50) hx hb dX5_inverse_13 (by decide) (fun c_13 => ?_) (fun c_13 => absurd c_13 (by decide))
  refine lv_iload_n hx hb dX5_inverse_50 rfl (lv_at hl 2 rfl) ?_
  exact W.iret (v := y_14) hx hb hr (fun t ht hW => eLI hS ht (by rw [hq])) hS.2.2 dX5_inverse_51
def fX5_lowest_L4 (g : Int32) (mn : Int32) : Nat → Nat → Int32 → Int32
  | 0, i4, x2_4 => (x2_4)
  | n4 + 1, i4, x2_4 => (if (fX5_has g (nI i4)) = 0 then (fX5_lowest_L4 g mn n4 (i4 + 1) (x2_4 ||| (nI 0))) else (if mn ≤ (fX5_bits x2_4) then (fX5_lowest_L4 g mn n4 (i4 + 1) (x2_4 ||| (nI 0))) else (fX5_lowest_L4 g mn n4 (i4 + 1) (x2_4 ||| ((nI 1) <<< ((nI i4) &&& 31))))))
def fX5_lowest (g : Int32) (mn : Int32) : Int32 := (fX5_lowest_L4 g mn (8) 0 (nI 0))
set_option maxHeartbeats 4000000 in
set_option maxRecDepth 100000 in
theorem kX5_lowest (l : Launch) (Γ : wG) (g : Int32) (mn : Int32) : LI l Γ yX5_lowest wsX5_lowest ({ frames := 1, cells := 0, slots := 0, locals := 22 }) [.int g, .int mn] [] (fX5_lowest g mn) := by
  intro sz
  refine Met.ofW (cc := cX5_lowest) (maxL := 4) (ret := (some .int)) (by decide) rfl ?_
  intro p e s m args below meth c s₁ B hml hv
  obtain ⟨rfl, hsz, hP, hK, hD0, hAm⟩ := hv
  have hx := B.exec
  have hb := B.bytes
  have hr := B.returns
  have hts := atoms_spec (ws := wsX5_lowest) B.pre
  have hown : s.vm.findClass RX5 = some m.cls := findClass_of_methodNamed B.named
  have hlocks := B.notSynchronized
  subst hsz
  have hD := hD0.self (sz := s.heap.size)
  generalize hBe : va_A (wcat []) s.heap.size = B0 at hD hAm
  obtain ⟨A, hAe⟩ : ∃ A, A = va_A [] s.heap.size := ⟨_, rfl⟩
  rw [← hAe]
  have hA : ∀ q : Nat, s.heap.size ≤ q → A q := fun q h => by rw [hAe]; exact Or.inr h
  have hAB : ∀ q : Nat, A q → B0 q := fun q h => by rw [hAe] at h; rw [← hBe]; exact Or.inr (wnone h)
  have hS : va_S A s.heap s.heap [] := va_S.rf
  have hl := lv_entry ([.int g, .int mn]) (n := 4) (Nat.le_of_ble_eq_true rfl)
  rw [lg_entry_eq]
  generalize (lg_sl ([.int g, .int mn]) ++ List.replicate (4 - (lg_sl ([.int g, .int mn])).length) Slot.unset).toArray = ls at hl ⊢
  have hl : lv_has ls 4 [(0, .int g), (1, .int mn)] := hl
  have hq : (fX5_lowest g mn) = (fX5_lowest_L4 g mn (8) 0 (nI 0)) := rfl
  refine lv_iconst (v := (nI 0)) hx hb dX5_lowest_0 (by decide) ?_
  refine lv_istore_n (lv' := [(2, .int (nI 0)), (0, .int g), (1, .int mn)]) hx hb dX5_lowest_1 rfl hl (by decide) rfl (fun ls hl => ?_)
  refine lv_iconst (v := (nI 0)) hx hb dX5_lowest_2 (by decide) ?_
  refine lv_istore_n (lv' := [(3, .int (nI 0)), (2, .int (nI 0)), (0, .int g), (1, .int mn)]) hx hb dX5_lowest_3 rfl hl (by decide) rfl (fun ls hl => ?_)
  refine wl (pc := 4) (σ := Nat × Int32) (fun n (i4, x2_4) H locs ls => (i4 + n = 8) ∧ (fX5_lowest g mn) = fX5_lowest_L4 g mn n i4 x2_4 ∧ va_P Γ.1 vwCl (wcat []) H ∧ va_S A s.heap H locs ∧ lv_has ls 4 [(3, .int (nI i4)), (2, .int x2_4), (0, .int g), (1, .int mn)]) ?_ ?_ (8) (0, (nI 0)) _ _ _ ⟨by omega, hq, hP, hS, lv_sub hl [0, 1, 2, 3] rfl⟩
  · intro ⟨i4, x2_4⟩ H locs ls h
    obtain ⟨hn4, hq, hP, hS, hl⟩ := h
    try dsimp only at hn4 hq hP hl
    replace hq : (fX5_lowest g mn) = (x2_4) := hq
    refine lv_iload_n hx hb dX5_lowest_4 rfl (lv_at hl 0 rfl) ?_
    refine lv_bipush (v := (nI 8)) hx hb dX5_lowest_5 (by decide) ?_
    refine lv_icmp_ge (tgt := 42) hx hb dX5_lowest_7 (by decide) (fun c_7 => ?_) (fun c_7 => absurd (nI_le (by omega) (by omega)) c_7)
    refine lv_iload_n hx hb dX5_lowest_42 rfl (lv_at hl 1 rfl) ?_
    exact W.iret (v := x2_4) hx hb hr (fun t ht hW => eLI hS ht (by rw [hq])) hS.2.2 dX5_lowest_43
  · intro n4 ih4 ⟨i4, x2_4⟩ H locs ls h
    obtain ⟨hn4, hq, hP, hS, hl⟩ := h
    try dsimp only at hn4 hq hP hl
    replace hq : (fX5_lowest g mn) = (if (fX5_has g (nI i4)) = 0 then (fX5_lowest_L4 g mn n4 (i4 + 1) (x2_4 ||| (nI 0))) else (if mn ≤ (fX5_bits x2_4) then (fX5_lowest_L4 g mn n4 (i4 + 1) (x2_4 ||| (nI 0))) else (fX5_lowest_L4 g mn n4 (i4 + 1) (x2_4 ||| ((nI 1) <<< ((nI i4) &&& 31)))))) := hq
    refine lv_iload_n hx hb dX5_lowest_4 rfl (lv_at hl 0 rfl) ?_
    refine lv_bipush (v := (nI 8)) hx hb dX5_lowest_5 (by decide) ?_
    refine lv_icmp_ge (tgt := 42) hx hb dX5_lowest_7 (by decide) (fun c_7 => absurd c_7 (nI_ge (by omega) (by omega))) (fun c_7 => ?_)
    refine lv_iload_n hx hb dX5_lowest_10 rfl (lv_at hl 1 rfl) ?_
    refine lv_iload_n hx hb dX5_lowest_11 rfl (lv_at hl 2 rfl) ?_
    refine lv_iload_n hx hb dX5_lowest_12 rfl (lv_at hl 0 rfl) ?_
    refine cLI (va_runS (As := [.int g, .int (nI i4)]) (rest := [.int x2_4]) ⟨hx, hb, hml, hown, hts⟩ ((kX5_has l Γ g (nI i4)) _) (va_cwS 2 hts gX5_lowest_X5_has rfl rfl rfl (by decide +kernel) ⟨Nat.le_of_ble_eq_true rfl, Nat.le_of_ble_eq_true rfl⟩) ⟨wPre_blind, wPre_mk hP hD hK hS hA hAB hAm [] rfl rfl⟩ rfl rfl hl.1 rfl (lv_room (Nat.le_of_ble_eq_true rfl)) dX5_lowest_13 ⟨Nat.zero_le _, Nat.zero_le _⟩) hP hS hA (fun H locs hP hS => ?_)
    refine lv_if_eq (tgt := 33) hx hb dX5_lowest_16 (by decide) (fun c_1 => ?_) (fun c_1 => ?_)
    · have hq := hq.trans (if_pos c_1)
      refine lv_iconst (v := (nI 0)) hx hb dX5_lowest_33 (by decide) ?_
      refine lv_ior hx hb dX5_lowest_34 ?_
      refine lv_istore_n (lv' := [(2, .int (x2_4 ||| (nI 0))), (3, .int (nI i4)), (0, .int g), (1, .int mn)]) hx hb dX5_lowest_35 rfl hl (by decide) rfl (fun ls hl => ?_)
      refine lv_iinc (v := (nI (i4 + 1))) (lv' := [(3, .int (nI (i4 + 1))), (2, .int (x2_4 ||| (nI 0))), (0, .int g), (1, .int mn)]) hx hb dX5_lowest_36 hl (k := 1) rfl (nI_1 _) (by decide) rfl (fun ls hl => ?_)
      refine lv_goto (tgt := 4) hx hb dX5_lowest_39 (by decide) ?_
      exact ih4 ((i4 + 1), (x2_4 ||| (nI 0))) H locs ls ⟨by omega, hq, hP, hS, lv_sub hl [0, 1, 2, 3] rfl⟩
    · have hq := hq.trans (if_neg c_1)
      refine lv_iload_n hx hb dX5_lowest_19 rfl (lv_at hl 1 rfl) ?_
      refine cLI (va_runS (As := [.int x2_4]) (rest := [.int x2_4]) ⟨hx, hb, hml, hown, hts⟩ ((kX5_bits l Γ x2_4) _) (va_cwS 1 hts gX5_lowest_X5_bits rfl rfl rfl (by decide +kernel) ⟨Nat.le_of_ble_eq_true rfl, Nat.le_of_ble_eq_true rfl⟩) ⟨wPre_blind, wPre_mk hP hD hK hS hA hAB hAm [] rfl rfl⟩ rfl rfl hl.1 rfl (lv_room (Nat.le_of_ble_eq_true rfl)) dX5_lowest_20 ⟨Nat.zero_le _, Nat.zero_le _⟩) hP hS hA (fun H locs hP hS => ?_)
      refine lv_iload_n hx hb dX5_lowest_23 rfl (lv_at hl 3 rfl) ?_
      refine lv_icmp_ge (tgt := 33) hx hb dX5_lowest_24 (by decide) (fun c_2 => ?_) (fun c_2 => ?_)
      · have hq := hq.trans (if_pos c_2)
        refine lv_iconst (v := (nI 0)) hx hb dX5_lowest_33 (by decide) ?_
        refine lv_ior hx hb dX5_lowest_34 ?_
        refine lv_istore_n (lv' := [(2, .int (x2_4 ||| (nI 0))), (3, .int (nI i4)), (0, .int g), (1, .int mn)]) hx hb dX5_lowest_35 rfl hl (by decide) rfl (fun ls hl => ?_)
        refine lv_iinc (v := (nI (i4 + 1))) (lv' := [(3, .int (nI (i4 + 1))), (2, .int (x2_4 ||| (nI 0))), (0, .int g), (1, .int mn)]) hx hb dX5_lowest_36 hl (k := 1) rfl (nI_1 _) (by decide) rfl (fun ls hl => ?_)
        refine lv_goto (tgt := 4) hx hb dX5_lowest_39 (by decide) ?_
        exact ih4 ((i4 + 1), (x2_4 ||| (nI 0))) H locs ls ⟨by omega, hq, hP, hS, lv_sub hl [0, 1, 2, 3] rfl⟩
      · have hq := hq.trans (if_neg c_2)
        refine lv_iconst (v := (nI 1)) hx hb dX5_lowest_27 (by decide) ?_
        refine lv_iload_n hx hb dX5_lowest_28 rfl (lv_at hl 0 rfl) ?_
        refine lv_ishl hx hb dX5_lowest_29 ?_
        refine lv_goto (tgt := 34) hx hb dX5_lowest_30 (by decide) ?_
        refine lv_ior hx hb dX5_lowest_34 ?_
        refine lv_istore_n (lv' := [(2, .int (x2_4 ||| ((nI 1) <<< ((nI i4) &&& 31)))), (3, .int (nI i4)), (0, .int g), (1, .int mn)]) hx hb dX5_lowest_35 rfl hl (by decide) rfl (fun ls hl => ?_)
        refine lv_iinc (v := (nI (i4 + 1))) (lv' := [(3, .int (nI (i4 + 1))), (2, .int (x2_4 ||| ((nI 1) <<< ((nI i4) &&& 31)))), (0, .int g), (1, .int mn)]) hx hb dX5_lowest_36 hl (k := 1) rfl (nI_1 _) (by decide) rfl (fun ls hl => ?_)
        refine lv_goto (tgt := 4) hx hb dX5_lowest_39 (by decide) ?_
        exact ih4 ((i4 + 1), (x2_4 ||| ((nI 1) <<< ((nI i4) &&& 31)))) H locs ls ⟨by omega, hq, hP, hS, lv_sub hl [0, 1, 2, 3] rfl⟩
def fX5_dies_L43 (b : Nat) (k : Nat) : Nat → Nat → Int32 → Int32 → Int32 → (Nat → Int32) → Int32 × (Nat → Int32)
  | 0, i43, x3_43, x4_43, x5_43, ms0_43 => (x5_43, (upd ms0_43 (b + 2) ((ms0_43 (b + 2)) &&& (((nI 1) <<< ((nI k) &&& 31)) ^^^ (-1)))))
  | n43 + 1, i43, x3_43, x4_43, x5_43, ms0_43 => (if (ms0_43 (b + 40 + i43)) = (nI k) then (if x4_43 = 0 then (fX5_dies_L43 b k n43 (i43 + 1) x3_43 x4_43 (x5_43 + (nI 0)) (upd ms0_43 (b + 40 + i43) (-1))) else (fX5_dies_L43 b k n43 (i43 + 1) x3_43 x4_43 (x5_43 + (nI 1)) (upd ms0_43 (b + 40 + i43) x3_43))) else (fX5_dies_L43 b k n43 (i43 + 1) x3_43 x4_43 x5_43 ms0_43))
def fX5_dies (ms : (Nat → Int32)) (b : Nat) (k : Nat) : Int32 × (Nat → Int32) := (if (ms (b + 3 + k)) < 0 then (fX5_dies_L43 b k (8) 0 (ms (b + 3 + k)) (nI 0) (nI 0) ms) else (if (fX5_has (ms (b + 2)) (ms (b + 3 + k))) = 0 then (fX5_dies_L43 b k (8) 0 (ms (b + 3 + k)) (nI 0) (nI 0) ms) else (fX5_dies_L43 b k (8) 0 (ms (b + 3 + k)) (nI 1) (nI 0) ms)))
set_option maxHeartbeats 4000000 in
set_option maxRecDepth 100000 in
theorem kX5_dies (l : Launch) (Γ : wG) (a : Nat → Nat) (ms : (Nat → Int32)) (mt : (Nat → Int32)) (mc : (Nat → Int32)) (md : (Nat → Int32)) (m0 : Int32) (m1 : Int32) (m2 : Int32) (m3 : Int32) (m4 : Int32) (m5 : Int32) (b : Nat) (k : Nat) (hb : b ≤ 406) (hk : k < 8) : MI l Γ yX5_dies wsX5_dies ({ frames := 1, cells := 0, slots := 0, locals := 21 }) [.ref (a 0), .int (nI b), .int (nI k)] [moB Γ a ms mt mc md m0 m1 m2 m3 m4 m5] [moB Γ a (fX5_dies ms b k).2 mt mc md m0 m1 m2 m3 m4 m5] (fX5_dies ms b k).1 := by
  intro sz
  refine Met.ofW (cc := cX5_dies) (maxL := 7) (ret := (some .int)) (by decide) rfl ?_
  intro p e s m args below meth c s₁ B hml hv
  obtain ⟨rfl, hsz, hP, hK, hD0, hAm⟩ := hv
  have hx := B.exec
  have hb := B.bytes
  have hr := B.returns
  have hts := atoms_spec (ws := wsX5_dies) B.pre
  have hown : s.vm.findClass RX5 = some m.cls := findClass_of_methodNamed B.named
  have hlocks := B.notSynchronized
  subst hsz
  have hD := hD0.self (sz := s.heap.size)
  generalize hAe : va_A (wcat [moB Γ a ms mt mc md m0 m1 m2 m3 m4 m5]) s.heap.size = A at hD hAm ⊢
  have hA : ∀ q : Nat, s.heap.size ≤ q → A q := fun q h => by rw [← hAe]; exact Or.inr h
  have hAB : ∀ q : Nat, A q → A q := fun _ h => h
  have hS : va_S A s.heap s.heap [] := va_S.rf
  have hl := lv_entry ([.ref (a 0), .int (nI b), .int (nI k)]) (n := 7) (Nat.le_of_ble_eq_true rfl)
  rw [lg_entry_eq]
  generalize (lg_sl ([.ref (a 0), .int (nI b), .int (nI k)]) ++ List.replicate (7 - (lg_sl ([.ref (a 0), .int (nI b), .int (nI k)])).length) Slot.unset).toArray = ls at hl ⊢
  have hl : lv_has ls 7 [(0, .ref (a 0)), (1, .int (nI b)), (2, .int (nI k))] := hl
  have hi5 : ∀ w ∈ wsX50, w ∈ wsX5_dies := by decide +kernel
  have kf7 := hts (.fieldLink RX5 7 "CapsuleKeepersModel" "s" "[I") (by decide +kernel)
  have hq : (fX5_dies ms b k) = (if (ms (b + 3 + k)) < 0 then (fX5_dies_L43 b k (8) 0 (ms (b + 3 + k)) (nI 0) (nI 0) ms) else (if (fX5_has (ms (b + 2)) (ms (b + 3 + k))) = 0 then (fX5_dies_L43 b k (8) 0 (ms (b + 3 + k)) (nI 0) (nI 0) ms) else (fX5_dies_L43 b k (8) 0 (ms (b + 3 + k)) (nI 1) (nI 0) ms))) := rfl
  refine lv_aload_n hx hb dX5_dies_0 rfl (lv_at hl 0 rfl) ?_
  refine va_get (D := Γ.1) (ci := 5) (v := .ref (a 1)) (C := RX5) (T := TX5) (N := 10) hx hb hts hi5 hown hK hP 0 rfl rfl 0 (by decide) kf7 (fun _ h9 => h9) rfl dX5_dies_1 ?_
  refine lv_iload_n hx hb dX5_dies_4 rfl (lv_at hl 1 rfl) ?_
  refine lv_iconst (v := (nI 3)) hx hb dX5_dies_5 (by decide) ?_
  refine lv_iadd hx hb dX5_dies_6 ?_
  refine lv_eqi (y := (nI (b + 3))) (nI_add _ _) ?_
  refine lv_iload_n hx hb dX5_dies_7 rfl (lv_at hl 2 rfl) ?_
  refine lv_iadd hx hb dX5_dies_8 ?_
  refine lv_eqi (y := (nI (b + 3 + k))) (nI_add _ _) ?_
  refine va_iald_n (f := ms) hx hb hK hP 1 0 rfl rfl (by omega) (Nat.le_of_ble_eq_true rfl) dX5_dies_9 ?_
  refine lv_istore_n (lv' := [(3, .int (ms (b + 3 + k))), (0, .ref (a 0)), (1, .int (nI b)), (2, .int (nI k))]) hx hb dX5_dies_10 rfl hl (by decide) rfl (fun ls hl => ?_)
  refine lv_iload_n hx hb dX5_dies_11 rfl (lv_at hl 0 rfl) ?_
  refine lv_if_lt (tgt := 34) hx hb dX5_dies_12 (by decide) (fun c_1 => ?_) (fun c_1 => ?_)
  · have hq := hq.trans (if_pos c_1)
    refine lv_iconst (v := (nI 0)) hx hb dX5_dies_34 (by decide) ?_
    refine lv_istore (lv' := [(4, .int (nI 0)), (3, .int (ms (b + 3 + k))), (0, .ref (a 0)), (1, .int (nI b)), (2, .int (nI k))]) hx hb dX5_dies_35 hl (by decide) rfl (fun ls hl => ?_)
    refine lv_iconst (v := (nI 0)) hx hb dX5_dies_37 (by decide) ?_
    refine lv_istore (lv' := [(5, .int (nI 0)), (4, .int (nI 0)), (3, .int (ms (b + 3 + k))), (0, .ref (a 0)), (1, .int (nI b)), (2, .int (nI k))]) hx hb dX5_dies_38 hl (by decide) rfl (fun ls hl => ?_)
    refine lv_iconst (v := (nI 0)) hx hb dX5_dies_40 (by decide) ?_
    refine lv_istore (lv' := [(6, .int (nI 0)), (5, .int (nI 0)), (4, .int (nI 0)), (3, .int (ms (b + 3 + k))), (0, .ref (a 0)), (1, .int (nI b)), (2, .int (nI k))]) hx hb dX5_dies_41 hl (by decide) rfl (fun ls hl => ?_)
    refine wl (pc := 43) (σ := Nat × Int32 × Int32 × Int32 × (Nat → Int32)) (fun n (i43, x3_43, x4_43, x5_43, ms0_43) H locs ls => (i43 + n = 8) ∧ (fX5_dies ms b k) = fX5_dies_L43 b k n i43 x3_43 x4_43 x5_43 ms0_43 ∧ va_P Γ.1 vwCl (wcat [moB Γ a ms0_43 mt mc md m0 m1 m2 m3 m4 m5]) H ∧ va_D A (wcat [moB Γ a ms0_43 mt mc md m0 m1 m2 m3 m4 m5]) ∧ va_S A s.heap H locs ∧ lv_has ls 7 [(6, .int (nI i43)), (5, .int x5_43), (4, .int x4_43), (3, .int x3_43), (0, .ref (a 0)), (1, .int (nI b)), (2, .int (nI k))]) ?_ ?_ (8) (0, (ms (b + 3 + k)), (nI 0), (nI 0), ms) _ _ _ ⟨by omega, hq, hP, hD, hS, lv_sub hl [0, 1, 2, 3, 4, 5, 6] rfl⟩
    · intro ⟨i43, x3_43, x4_43, x5_43, ms0_43⟩ H locs ls h
      obtain ⟨hn43, hq, hP, hD, hS, hl⟩ := h
      try dsimp only at hn43 hq hP hD hl
      replace hq : (fX5_dies ms b k) = (x5_43, (upd ms0_43 (b + 2) ((ms0_43 (b + 2)) &&& (((nI 1) <<< ((nI k) &&& 31)) ^^^ (-1))))) := hq
      refine lv_iload hx hb dX5_dies_43 (lv_at hl 0 rfl) ?_
      refine lv_bipush (v := (nI 8)) hx hb dX5_dies_45 (by decide) ?_
      refine lv_icmp_ge (tgt := 109) hx hb dX5_dies_47 (by decide) (fun c_47 => ?_) (fun c_47 => absurd (nI_le (by omega) (by omega)) c_47)
      refine lv_aload_n hx hb dX5_dies_109 rfl (lv_at hl 4 rfl) ?_
      refine va_get (D := Γ.1) (ci := 5) (v := .ref (a 1)) (C := RX5) (T := TX5) (N := 10) hx hb hts hi5 hown hK hP 0 rfl rfl 0 (by decide) kf7 (fun _ h9 => h9) rfl dX5_dies_110 ?_
      refine lv_iload_n hx hb dX5_dies_113 rfl (lv_at hl 5 rfl) ?_
      refine lv_iconst (v := (nI 2)) hx hb dX5_dies_114 (by decide) ?_
      refine lv_iadd hx hb dX5_dies_115 ?_
      refine lv_eqi (y := (nI (b + 2))) (nI_add _ _) ?_
      refine lv_dup2_11 hx hb dX5_dies_116 rfl rfl ?_
      refine va_iald_n (f := ms0_43) hx hb hK hP 1 0 rfl rfl (by omega) (Nat.le_of_ble_eq_true rfl) dX5_dies_117 ?_
      refine lv_iconst (v := (nI 1)) hx hb dX5_dies_118 (by decide) ?_
      refine lv_iload_n hx hb dX5_dies_119 rfl (lv_at hl 6 rfl) ?_
      refine lv_ishl hx hb dX5_dies_120 ?_
      refine lv_iconst (v := (-1)) hx hb dX5_dies_121 (by decide) ?_
      refine lv_ixor hx hb dX5_dies_122 ?_
      refine lv_iand hx hb dX5_dies_123 ?_
      refine va_iast_n (f := ms0_43) hx hb hK hP hD hS 1 0 rfl rfl (by omega) (Nat.le_of_ble_eq_true rfl) dX5_dies_124 (fun H locs hP hD hS => ?_)
      have hP : va_P Γ.1 vwCl (wcat [moB Γ a (upd ms0_43 (b + 2) ((ms0_43 (b + 2)) &&& (((nI 1) <<< ((nI k) &&& 31)) ^^^ (-1)))) mt mc md m0 m1 m2 m3 m4 m5]) H := hP
      have hD : va_D A (wcat [moB Γ a (upd ms0_43 (b + 2) ((ms0_43 (b + 2)) &&& (((nI 1) <<< ((nI k) &&& 31)) ^^^ (-1)))) mt mc md m0 m1 m2 m3 m4 m5]) := hD
      refine lv_iload hx hb dX5_dies_125 (lv_at hl 1 rfl) ?_
      exact W.iret (v := x5_43) hx hb hr (fun t ht hW => eMI (by rw [hq]; exact hP) hS ht (by rw [hq])) hS.2.2 dX5_dies_127
    · intro n43 ih43 ⟨i43, x3_43, x4_43, x5_43, ms0_43⟩ H locs ls h
      obtain ⟨hn43, hq, hP, hD, hS, hl⟩ := h
      try dsimp only at hn43 hq hP hD hl
      replace hq : (fX5_dies ms b k) = (if (ms0_43 (b + 40 + i43)) = (nI k) then (if x4_43 = 0 then (fX5_dies_L43 b k n43 (i43 + 1) x3_43 x4_43 (x5_43 + (nI 0)) (upd ms0_43 (b + 40 + i43) (-1))) else (fX5_dies_L43 b k n43 (i43 + 1) x3_43 x4_43 (x5_43 + (nI 1)) (upd ms0_43 (b + 40 + i43) x3_43))) else (fX5_dies_L43 b k n43 (i43 + 1) x3_43 x4_43 x5_43 ms0_43)) := hq
      refine lv_iload hx hb dX5_dies_43 (lv_at hl 0 rfl) ?_
      refine lv_bipush (v := (nI 8)) hx hb dX5_dies_45 (by decide) ?_
      refine lv_icmp_ge (tgt := 109) hx hb dX5_dies_47 (by decide) (fun c_47 => absurd c_47 (nI_ge (by omega) (by omega))) (fun c_47 => ?_)
      refine lv_aload_n hx hb dX5_dies_50 rfl (lv_at hl 4 rfl) ?_
      refine va_get (D := Γ.1) (ci := 5) (v := .ref (a 1)) (C := RX5) (T := TX5) (N := 10) hx hb hts hi5 hown hK hP 0 rfl rfl 0 (by decide) kf7 (fun _ h9 => h9) rfl dX5_dies_51 ?_
      refine lv_iload_n hx hb dX5_dies_54 rfl (lv_at hl 5 rfl) ?_
      refine lv_bipush (v := (nI 40)) hx hb dX5_dies_55 (by decide) ?_
      refine lv_iadd hx hb dX5_dies_57 ?_
      refine lv_eqi (y := (nI (b + 40))) (nI_add _ _) ?_
      refine lv_iload hx hb dX5_dies_58 (lv_at hl 0 rfl) ?_
      refine lv_iadd hx hb dX5_dies_60 ?_
      refine lv_eqi (y := (nI (b + 40 + i43))) (nI_add _ _) ?_
      refine va_iald_n (f := ms0_43) hx hb hK hP 1 0 rfl rfl (by omega) (Nat.le_of_ble_eq_true rfl) dX5_dies_61 ?_
      refine lv_iload_n hx hb dX5_dies_62 rfl (lv_at hl 6 rfl) ?_
      refine lv_icmp_ne (tgt := 103) hx hb dX5_dies_63 (by decide) (fun c_2 => ?_) (fun c_2 => ?_)
      · have hq := hq.trans (if_neg c_2)
        refine lv_iinc (v := (nI (i43 + 1))) (lv' := [(6, .int (nI (i43 + 1))), (5, .int x5_43), (4, .int x4_43), (3, .int x3_43), (0, .ref (a 0)), (1, .int (nI b)), (2, .int (nI k))]) hx hb dX5_dies_103 hl (k := 0) rfl (nI_1 _) (by decide) rfl (fun ls hl => ?_)
        refine lv_goto (tgt := 43) hx hb dX5_dies_106 (by decide) ?_
        exact ih43 ((i43 + 1), x3_43, x4_43, x5_43, ms0_43) H locs ls ⟨by omega, hq, hP, hD, hS, lv_sub hl [0, 1, 2, 3, 4, 5, 6] rfl⟩
      · have hq := hq.trans (if_pos c_2)
        refine lv_aload_n hx hb dX5_dies_66 rfl (lv_at hl 4 rfl) ?_
        refine va_get (D := Γ.1) (ci := 5) (v := .ref (a 1)) (C := RX5) (T := TX5) (N := 10) hx hb hts hi5 hown hK hP 0 rfl rfl 0 (by decide) kf7 (fun _ h9 => h9) rfl dX5_dies_67 ?_
        refine lv_iload_n hx hb dX5_dies_70 rfl (lv_at hl 5 rfl) ?_
        refine lv_bipush (v := (nI 40)) hx hb dX5_dies_71 (by decide) ?_
        refine lv_iadd hx hb dX5_dies_73 ?_
        refine lv_eqi (y := (nI (b + 40))) (nI_add _ _) ?_
        refine lv_iload hx hb dX5_dies_74 (lv_at hl 0 rfl) ?_
        refine lv_iadd hx hb dX5_dies_76 ?_
        refine lv_eqi (y := (nI (b + 40 + i43))) (nI_add _ _) ?_
        refine lv_iload hx hb dX5_dies_77 (lv_at hl 2 rfl) ?_
        refine lv_if_eq (tgt := 86) hx hb dX5_dies_79 (by decide) (fun c_3 => ?_) (fun c_3 => ?_)
        · have hq := hq.trans (if_pos c_3)
          refine lv_iconst (v := (-1)) hx hb dX5_dies_86 (by decide) ?_
          refine va_iast_n (f := ms0_43) hx hb hK hP hD hS 1 0 rfl rfl (by omega) (Nat.le_of_ble_eq_true rfl) dX5_dies_87 (fun H locs hP hD hS => ?_)
          have hP : va_P Γ.1 vwCl (wcat [moB Γ a (upd ms0_43 (b + 40 + i43) (-1)) mt mc md m0 m1 m2 m3 m4 m5]) H := hP
          have hD : va_D A (wcat [moB Γ a (upd ms0_43 (b + 40 + i43) (-1)) mt mc md m0 m1 m2 m3 m4 m5]) := hD
          refine lv_iload hx hb dX5_dies_88 (lv_at hl 1 rfl) ?_
          refine lv_iload hx hb dX5_dies_90 (lv_at hl 2 rfl) ?_
          refine lv_if_eq (tgt := 99) hx hb dX5_dies_92 (by decide) (fun c_92 => ?_) (fun c_92 => absurd c_3 c_92)
          refine lv_iconst (v := (nI 0)) hx hb dX5_dies_99 (by decide) ?_
          refine lv_iadd hx hb dX5_dies_100 ?_
          refine lv_istore (lv' := [(5, .int (x5_43 + (nI 0))), (6, .int (nI i43)), (4, .int x4_43), (3, .int x3_43), (0, .ref (a 0)), (1, .int (nI b)), (2, .int (nI k))]) hx hb dX5_dies_101 hl (by decide) rfl (fun ls hl => ?_)
          refine lv_iinc (v := (nI (i43 + 1))) (lv' := [(6, .int (nI (i43 + 1))), (5, .int (x5_43 + (nI 0))), (4, .int x4_43), (3, .int x3_43), (0, .ref (a 0)), (1, .int (nI b)), (2, .int (nI k))]) hx hb dX5_dies_103 hl (k := 1) rfl (nI_1 _) (by decide) rfl (fun ls hl => ?_)
          refine lv_goto (tgt := 43) hx hb dX5_dies_106 (by decide) ?_
          exact ih43 ((i43 + 1), x3_43, x4_43, (x5_43 + (nI 0)), (upd ms0_43 (b + 40 + i43) (-1))) H locs ls ⟨by omega, hq, hP, hD, hS, lv_sub hl [0, 1, 2, 3, 4, 5, 6] rfl⟩
        · have hq := hq.trans (if_neg c_3)
          refine lv_iload_n hx hb dX5_dies_82 rfl (lv_at hl 3 rfl) ?_
          refine lv_goto (tgt := 87) hx hb dX5_dies_83 (by decide) ?_
          refine va_iast_n (f := ms0_43) hx hb hK hP hD hS 1 0 rfl rfl (by omega) (Nat.le_of_ble_eq_true rfl) dX5_dies_87 (fun H locs hP hD hS => ?_)
          have hP : va_P Γ.1 vwCl (wcat [moB Γ a (upd ms0_43 (b + 40 + i43) x3_43) mt mc md m0 m1 m2 m3 m4 m5]) H := hP
          have hD : va_D A (wcat [moB Γ a (upd ms0_43 (b + 40 + i43) x3_43) mt mc md m0 m1 m2 m3 m4 m5]) := hD
          refine lv_iload hx hb dX5_dies_88 (lv_at hl 1 rfl) ?_
          refine lv_iload hx hb dX5_dies_90 (lv_at hl 2 rfl) ?_
          refine lv_if_eq (tgt := 99) hx hb dX5_dies_92 (by decide) (fun c_92 => absurd c_92 c_3) (fun c_92 => ?_)
          refine lv_iconst (v := (nI 1)) hx hb dX5_dies_95 (by decide) ?_
          refine lv_goto (tgt := 100) hx hb dX5_dies_96 (by decide) ?_
          refine lv_iadd hx hb dX5_dies_100 ?_
          refine lv_istore (lv' := [(5, .int (x5_43 + (nI 1))), (6, .int (nI i43)), (4, .int x4_43), (3, .int x3_43), (0, .ref (a 0)), (1, .int (nI b)), (2, .int (nI k))]) hx hb dX5_dies_101 hl (by decide) rfl (fun ls hl => ?_)
          refine lv_iinc (v := (nI (i43 + 1))) (lv' := [(6, .int (nI (i43 + 1))), (5, .int (x5_43 + (nI 1))), (4, .int x4_43), (3, .int x3_43), (0, .ref (a 0)), (1, .int (nI b)), (2, .int (nI k))]) hx hb dX5_dies_103 hl (k := 1) rfl (nI_1 _) (by decide) rfl (fun ls hl => ?_)
          refine lv_goto (tgt := 43) hx hb dX5_dies_106 (by decide) ?_
          exact ih43 ((i43 + 1), x3_43, x4_43, (x5_43 + (nI 1)), (upd ms0_43 (b + 40 + i43) x3_43)) H locs ls ⟨by omega, hq, hP, hD, hS, lv_sub hl [0, 1, 2, 3, 4, 5, 6] rfl⟩
  · have hq := hq.trans (if_neg c_1)
    refine lv_aload_n hx hb dX5_dies_15 rfl (lv_at hl 1 rfl) ?_
    refine va_get (D := Γ.1) (ci := 5) (v := .ref (a 1)) (C := RX5) (T := TX5) (N := 10) hx hb hts hi5 hown hK hP 0 rfl rfl 0 (by decide) kf7 (fun _ h9 => h9) rfl dX5_dies_16 ?_
    refine lv_iload_n hx hb dX5_dies_19 rfl (lv_at hl 2 rfl) ?_
    refine lv_iconst (v := (nI 2)) hx hb dX5_dies_20 (by decide) ?_
    refine lv_iadd hx hb dX5_dies_21 ?_
    refine lv_eqi (y := (nI (b + 2))) (nI_add _ _) ?_
    refine va_iald_n (f := ms) hx hb hK hP 1 0 rfl rfl (by omega) (Nat.le_of_ble_eq_true rfl) dX5_dies_22 ?_
    refine lv_iload_n hx hb dX5_dies_23 rfl (lv_at hl 0 rfl) ?_
    refine cLI (va_runS (As := [.int (ms (b + 2)), .int (ms (b + 3 + k))]) (rest := []) ⟨hx, hb, hml, hown, hts⟩ ((kX5_has l Γ (ms (b + 2)) (ms (b + 3 + k))) _) (va_cwS 2 hts gX5_dies_X5_has rfl rfl rfl (by decide +kernel) ⟨Nat.le_of_ble_eq_true rfl, Nat.le_of_ble_eq_true rfl⟩) ⟨wPre_blind, wPre_mk hP hD hK hS hA hAB hAm [] rfl rfl⟩ rfl rfl hl.1 rfl (lv_room (Nat.le_of_ble_eq_true rfl)) dX5_dies_24 ⟨Nat.zero_le _, Nat.zero_le _⟩) hP hS hA (fun H locs hP hS => ?_)
    refine lv_if_eq (tgt := 34) hx hb dX5_dies_27 (by decide) (fun c_4 => ?_) (fun c_4 => ?_)
    · have hq := hq.trans (if_pos c_4)
      refine lv_iconst (v := (nI 0)) hx hb dX5_dies_34 (by decide) ?_
      refine lv_istore (lv' := [(4, .int (nI 0)), (3, .int (ms (b + 3 + k))), (0, .ref (a 0)), (1, .int (nI b)), (2, .int (nI k))]) hx hb dX5_dies_35 hl (by decide) rfl (fun ls hl => ?_)
      refine lv_iconst (v := (nI 0)) hx hb dX5_dies_37 (by decide) ?_
      refine lv_istore (lv' := [(5, .int (nI 0)), (4, .int (nI 0)), (3, .int (ms (b + 3 + k))), (0, .ref (a 0)), (1, .int (nI b)), (2, .int (nI k))]) hx hb dX5_dies_38 hl (by decide) rfl (fun ls hl => ?_)
      refine lv_iconst (v := (nI 0)) hx hb dX5_dies_40 (by decide) ?_
      refine lv_istore (lv' := [(6, .int (nI 0)), (5, .int (nI 0)), (4, .int (nI 0)), (3, .int (ms (b + 3 + k))), (0, .ref (a 0)), (1, .int (nI b)), (2, .int (nI k))]) hx hb dX5_dies_41 hl (by decide) rfl (fun ls hl => ?_)
      refine wl (pc := 43) (σ := Nat × Int32 × Int32 × Int32 × (Nat → Int32)) (fun n (i43, x3_43, x4_43, x5_43, ms0_43) H locs ls => (i43 + n = 8) ∧ (fX5_dies ms b k) = fX5_dies_L43 b k n i43 x3_43 x4_43 x5_43 ms0_43 ∧ va_P Γ.1 vwCl (wcat [moB Γ a ms0_43 mt mc md m0 m1 m2 m3 m4 m5]) H ∧ va_D A (wcat [moB Γ a ms0_43 mt mc md m0 m1 m2 m3 m4 m5]) ∧ va_S A s.heap H locs ∧ lv_has ls 7 [(6, .int (nI i43)), (5, .int x5_43), (4, .int x4_43), (3, .int x3_43), (0, .ref (a 0)), (1, .int (nI b)), (2, .int (nI k))]) ?_ ?_ (8) (0, (ms (b + 3 + k)), (nI 0), (nI 0), ms) _ _ _ ⟨by omega, hq, hP, hD, hS, lv_sub hl [0, 1, 2, 3, 4, 5, 6] rfl⟩
      · intro ⟨i43, x3_43, x4_43, x5_43, ms0_43⟩ H locs ls h
        obtain ⟨hn43, hq, hP, hD, hS, hl⟩ := h
        try dsimp only at hn43 hq hP hD hl
        replace hq : (fX5_dies ms b k) = (x5_43, (upd ms0_43 (b + 2) ((ms0_43 (b + 2)) &&& (((nI 1) <<< ((nI k) &&& 31)) ^^^ (-1))))) := hq
        refine lv_iload hx hb dX5_dies_43 (lv_at hl 0 rfl) ?_
        refine lv_bipush (v := (nI 8)) hx hb dX5_dies_45 (by decide) ?_
        refine lv_icmp_ge (tgt := 109) hx hb dX5_dies_47 (by decide) (fun c_47 => ?_) (fun c_47 => absurd (nI_le (by omega) (by omega)) c_47)
        refine lv_aload_n hx hb dX5_dies_109 rfl (lv_at hl 4 rfl) ?_
        refine va_get (D := Γ.1) (ci := 5) (v := .ref (a 1)) (C := RX5) (T := TX5) (N := 10) hx hb hts hi5 hown hK hP 0 rfl rfl 0 (by decide) kf7 (fun _ h9 => h9) rfl dX5_dies_110 ?_
        refine lv_iload_n hx hb dX5_dies_113 rfl (lv_at hl 5 rfl) ?_
        refine lv_iconst (v := (nI 2)) hx hb dX5_dies_114 (by decide) ?_
        refine lv_iadd hx hb dX5_dies_115 ?_
        refine lv_eqi (y := (nI (b + 2))) (nI_add _ _) ?_
        refine lv_dup2_11 hx hb dX5_dies_116 rfl rfl ?_
        refine va_iald_n (f := ms0_43) hx hb hK hP 1 0 rfl rfl (by omega) (Nat.le_of_ble_eq_true rfl) dX5_dies_117 ?_
        refine lv_iconst (v := (nI 1)) hx hb dX5_dies_118 (by decide) ?_
        refine lv_iload_n hx hb dX5_dies_119 rfl (lv_at hl 6 rfl) ?_
        refine lv_ishl hx hb dX5_dies_120 ?_
        refine lv_iconst (v := (-1)) hx hb dX5_dies_121 (by decide) ?_
        refine lv_ixor hx hb dX5_dies_122 ?_
        refine lv_iand hx hb dX5_dies_123 ?_
        refine va_iast_n (f := ms0_43) hx hb hK hP hD hS 1 0 rfl rfl (by omega) (Nat.le_of_ble_eq_true rfl) dX5_dies_124 (fun H locs hP hD hS => ?_)
        have hP : va_P Γ.1 vwCl (wcat [moB Γ a (upd ms0_43 (b + 2) ((ms0_43 (b + 2)) &&& (((nI 1) <<< ((nI k) &&& 31)) ^^^ (-1)))) mt mc md m0 m1 m2 m3 m4 m5]) H := hP
        have hD : va_D A (wcat [moB Γ a (upd ms0_43 (b + 2) ((ms0_43 (b + 2)) &&& (((nI 1) <<< ((nI k) &&& 31)) ^^^ (-1)))) mt mc md m0 m1 m2 m3 m4 m5]) := hD
        refine lv_iload hx hb dX5_dies_125 (lv_at hl 1 rfl) ?_
        exact W.iret (v := x5_43) hx hb hr (fun t ht hW => eMI (by rw [hq]; exact hP) hS ht (by rw [hq])) hS.2.2 dX5_dies_127
      · intro n43 ih43 ⟨i43, x3_43, x4_43, x5_43, ms0_43⟩ H locs ls h
        obtain ⟨hn43, hq, hP, hD, hS, hl⟩ := h
        try dsimp only at hn43 hq hP hD hl
        replace hq : (fX5_dies ms b k) = (if (ms0_43 (b + 40 + i43)) = (nI k) then (if x4_43 = 0 then (fX5_dies_L43 b k n43 (i43 + 1) x3_43 x4_43 (x5_43 + (nI 0)) (upd ms0_43 (b + 40 + i43) (-1))) else (fX5_dies_L43 b k n43 (i43 + 1) x3_43 x4_43 (x5_43 + (nI 1)) (upd ms0_43 (b + 40 + i43) x3_43))) else (fX5_dies_L43 b k n43 (i43 + 1) x3_43 x4_43 x5_43 ms0_43)) := hq
        refine lv_iload hx hb dX5_dies_43 (lv_at hl 0 rfl) ?_
        refine lv_bipush (v := (nI 8)) hx hb dX5_dies_45 (by decide) ?_
        refine lv_icmp_ge (tgt := 109) hx hb dX5_dies_47 (by decide) (fun c_47 => absurd c_47 (nI_ge (by omega) (by omega))) (fun c_47 => ?_)
        refine lv_aload_n hx hb dX5_dies_50 rfl (lv_at hl 4 rfl) ?_
        refine va_get (D := Γ.1) (ci := 5) (v := .ref (a 1)) (C := RX5) (T := TX5) (N := 10) hx hb hts hi5 hown hK hP 0 rfl rfl 0 (by decide) kf7 (fun _ h9 => h9) rfl dX5_dies_51 ?_
        refine lv_iload_n hx hb dX5_dies_54 rfl (lv_at hl 5 rfl) ?_
        refine lv_bipush (v := (nI 40)) hx hb dX5_dies_55 (by decide) ?_
        refine lv_iadd hx hb dX5_dies_57 ?_
        refine lv_eqi (y := (nI (b + 40))) (nI_add _ _) ?_
        refine lv_iload hx hb dX5_dies_58 (lv_at hl 0 rfl) ?_
        refine lv_iadd hx hb dX5_dies_60 ?_
        refine lv_eqi (y := (nI (b + 40 + i43))) (nI_add _ _) ?_
        refine va_iald_n (f := ms0_43) hx hb hK hP 1 0 rfl rfl (by omega) (Nat.le_of_ble_eq_true rfl) dX5_dies_61 ?_
        refine lv_iload_n hx hb dX5_dies_62 rfl (lv_at hl 6 rfl) ?_
        refine lv_icmp_ne (tgt := 103) hx hb dX5_dies_63 (by decide) (fun c_5 => ?_) (fun c_5 => ?_)
        · have hq := hq.trans (if_neg c_5)
          refine lv_iinc (v := (nI (i43 + 1))) (lv' := [(6, .int (nI (i43 + 1))), (5, .int x5_43), (4, .int x4_43), (3, .int x3_43), (0, .ref (a 0)), (1, .int (nI b)), (2, .int (nI k))]) hx hb dX5_dies_103 hl (k := 0) rfl (nI_1 _) (by decide) rfl (fun ls hl => ?_)
          refine lv_goto (tgt := 43) hx hb dX5_dies_106 (by decide) ?_
          exact ih43 ((i43 + 1), x3_43, x4_43, x5_43, ms0_43) H locs ls ⟨by omega, hq, hP, hD, hS, lv_sub hl [0, 1, 2, 3, 4, 5, 6] rfl⟩
        · have hq := hq.trans (if_pos c_5)
          refine lv_aload_n hx hb dX5_dies_66 rfl (lv_at hl 4 rfl) ?_
          refine va_get (D := Γ.1) (ci := 5) (v := .ref (a 1)) (C := RX5) (T := TX5) (N := 10) hx hb hts hi5 hown hK hP 0 rfl rfl 0 (by decide) kf7 (fun _ h9 => h9) rfl dX5_dies_67 ?_
          refine lv_iload_n hx hb dX5_dies_70 rfl (lv_at hl 5 rfl) ?_
          refine lv_bipush (v := (nI 40)) hx hb dX5_dies_71 (by decide) ?_
          refine lv_iadd hx hb dX5_dies_73 ?_
          refine lv_eqi (y := (nI (b + 40))) (nI_add _ _) ?_
          refine lv_iload hx hb dX5_dies_74 (lv_at hl 0 rfl) ?_
          refine lv_iadd hx hb dX5_dies_76 ?_
          refine lv_eqi (y := (nI (b + 40 + i43))) (nI_add _ _) ?_
          refine lv_iload hx hb dX5_dies_77 (lv_at hl 2 rfl) ?_
          refine lv_if_eq (tgt := 86) hx hb dX5_dies_79 (by decide) (fun c_6 => ?_) (fun c_6 => ?_)
          · have hq := hq.trans (if_pos c_6)
            refine lv_iconst (v := (-1)) hx hb dX5_dies_86 (by decide) ?_
            refine va_iast_n (f := ms0_43) hx hb hK hP hD hS 1 0 rfl rfl (by omega) (Nat.le_of_ble_eq_true rfl) dX5_dies_87 (fun H locs hP hD hS => ?_)
            have hP : va_P Γ.1 vwCl (wcat [moB Γ a (upd ms0_43 (b + 40 + i43) (-1)) mt mc md m0 m1 m2 m3 m4 m5]) H := hP
            have hD : va_D A (wcat [moB Γ a (upd ms0_43 (b + 40 + i43) (-1)) mt mc md m0 m1 m2 m3 m4 m5]) := hD
            refine lv_iload hx hb dX5_dies_88 (lv_at hl 1 rfl) ?_
            refine lv_iload hx hb dX5_dies_90 (lv_at hl 2 rfl) ?_
            refine lv_if_eq (tgt := 99) hx hb dX5_dies_92 (by decide) (fun c_92 => ?_) (fun c_92 => absurd c_6 c_92)
            refine lv_iconst (v := (nI 0)) hx hb dX5_dies_99 (by decide) ?_
            refine lv_iadd hx hb dX5_dies_100 ?_
            refine lv_istore (lv' := [(5, .int (x5_43 + (nI 0))), (6, .int (nI i43)), (4, .int x4_43), (3, .int x3_43), (0, .ref (a 0)), (1, .int (nI b)), (2, .int (nI k))]) hx hb dX5_dies_101 hl (by decide) rfl (fun ls hl => ?_)
            refine lv_iinc (v := (nI (i43 + 1))) (lv' := [(6, .int (nI (i43 + 1))), (5, .int (x5_43 + (nI 0))), (4, .int x4_43), (3, .int x3_43), (0, .ref (a 0)), (1, .int (nI b)), (2, .int (nI k))]) hx hb dX5_dies_103 hl (k := 1) rfl (nI_1 _) (by decide) rfl (fun ls hl => ?_)
            refine lv_goto (tgt := 43) hx hb dX5_dies_106 (by decide) ?_
            exact ih43 ((i43 + 1), x3_43, x4_43, (x5_43 + (nI 0)), (upd ms0_43 (b + 40 + i43) (-1))) H locs ls ⟨by omega, hq, hP, hD, hS, lv_sub hl [0, 1, 2, 3, 4, 5, 6] rfl⟩
          · have hq := hq.trans (if_neg c_6)
            refine lv_iload_n hx hb dX5_dies_82 rfl (lv_at hl 3 rfl) ?_
            refine lv_goto (tgt := 87) hx hb dX5_dies_83 (by decide) ?_
            refine va_iast_n (f := ms0_43) hx hb hK hP hD hS 1 0 rfl rfl (by omega) (Nat.le_of_ble_eq_true rfl) dX5_dies_87 (fun H locs hP hD hS => ?_)
            have hP : va_P Γ.1 vwCl (wcat [moB Γ a (upd ms0_43 (b + 40 + i43) x3_43) mt mc md m0 m1 m2 m3 m4 m5]) H := hP
            have hD : va_D A (wcat [moB Γ a (upd ms0_43 (b + 40 + i43) x3_43) mt mc md m0 m1 m2 m3 m4 m5]) := hD
            refine lv_iload hx hb dX5_dies_88 (lv_at hl 1 rfl) ?_
            refine lv_iload hx hb dX5_dies_90 (lv_at hl 2 rfl) ?_
            refine lv_if_eq (tgt := 99) hx hb dX5_dies_92 (by decide) (fun c_92 => absurd c_92 c_6) (fun c_92 => ?_)
            refine lv_iconst (v := (nI 1)) hx hb dX5_dies_95 (by decide) ?_
            refine lv_goto (tgt := 100) hx hb dX5_dies_96 (by decide) ?_
            refine lv_iadd hx hb dX5_dies_100 ?_
            refine lv_istore (lv' := [(5, .int (x5_43 + (nI 1))), (6, .int (nI i43)), (4, .int x4_43), (3, .int x3_43), (0, .ref (a 0)), (1, .int (nI b)), (2, .int (nI k))]) hx hb dX5_dies_101 hl (by decide) rfl (fun ls hl => ?_)
            refine lv_iinc (v := (nI (i43 + 1))) (lv' := [(6, .int (nI (i43 + 1))), (5, .int (x5_43 + (nI 1))), (4, .int x4_43), (3, .int x3_43), (0, .ref (a 0)), (1, .int (nI b)), (2, .int (nI k))]) hx hb dX5_dies_103 hl (k := 1) rfl (nI_1 _) (by decide) rfl (fun ls hl => ?_)
            refine lv_goto (tgt := 43) hx hb dX5_dies_106 (by decide) ?_
            exact ih43 ((i43 + 1), x3_43, x4_43, (x5_43 + (nI 1)), (upd ms0_43 (b + 40 + i43) x3_43)) H locs ls ⟨by omega, hq, hP, hD, hS, lv_sub hl [0, 1, 2, 3, 4, 5, 6] rfl⟩
    · have hq := hq.trans (if_neg c_4)
      refine lv_iconst (v := (nI 1)) hx hb dX5_dies_30 (by decide) ?_
      refine lv_goto (tgt := 35) hx hb dX5_dies_31 (by decide) ?_
      refine lv_istore (lv' := [(4, .int (nI 1)), (3, .int (ms (b + 3 + k))), (0, .ref (a 0)), (1, .int (nI b)), (2, .int (nI k))]) hx hb dX5_dies_35 hl (by decide) rfl (fun ls hl => ?_)
      refine lv_iconst (v := (nI 0)) hx hb dX5_dies_37 (by decide) ?_
      refine lv_istore (lv' := [(5, .int (nI 0)), (4, .int (nI 1)), (3, .int (ms (b + 3 + k))), (0, .ref (a 0)), (1, .int (nI b)), (2, .int (nI k))]) hx hb dX5_dies_38 hl (by decide) rfl (fun ls hl => ?_)
      refine lv_iconst (v := (nI 0)) hx hb dX5_dies_40 (by decide) ?_
      refine lv_istore (lv' := [(6, .int (nI 0)), (5, .int (nI 0)), (4, .int (nI 1)), (3, .int (ms (b + 3 + k))), (0, .ref (a 0)), (1, .int (nI b)), (2, .int (nI k))]) hx hb dX5_dies_41 hl (by decide) rfl (fun ls hl => ?_)
      refine wl (pc := 43) (σ := Nat × Int32 × Int32 × Int32 × (Nat → Int32)) (fun n (i43, x3_43, x4_43, x5_43, ms0_43) H locs ls => (i43 + n = 8) ∧ (fX5_dies ms b k) = fX5_dies_L43 b k n i43 x3_43 x4_43 x5_43 ms0_43 ∧ va_P Γ.1 vwCl (wcat [moB Γ a ms0_43 mt mc md m0 m1 m2 m3 m4 m5]) H ∧ va_D A (wcat [moB Γ a ms0_43 mt mc md m0 m1 m2 m3 m4 m5]) ∧ va_S A s.heap H locs ∧ lv_has ls 7 [(6, .int (nI i43)), (5, .int x5_43), (4, .int x4_43), (3, .int x3_43), (0, .ref (a 0)), (1, .int (nI b)), (2, .int (nI k))]) ?_ ?_ (8) (0, (ms (b + 3 + k)), (nI 1), (nI 0), ms) _ _ _ ⟨by omega, hq, hP, hD, hS, lv_sub hl [0, 1, 2, 3, 4, 5, 6] rfl⟩
      · intro ⟨i43, x3_43, x4_43, x5_43, ms0_43⟩ H locs ls h
        obtain ⟨hn43, hq, hP, hD, hS, hl⟩ := h
        try dsimp only at hn43 hq hP hD hl
        replace hq : (fX5_dies ms b k) = (x5_43, (upd ms0_43 (b + 2) ((ms0_43 (b + 2)) &&& (((nI 1) <<< ((nI k) &&& 31)) ^^^ (-1))))) := hq
        refine lv_iload hx hb dX5_dies_43 (lv_at hl 0 rfl) ?_
        refine lv_bipush (v := (nI 8)) hx hb dX5_dies_45 (by decide) ?_
        refine lv_icmp_ge (tgt := 109) hx hb dX5_dies_47 (by decide) (fun c_47 => ?_) (fun c_47 => absurd (nI_le (by omega) (by omega)) c_47)
        refine lv_aload_n hx hb dX5_dies_109 rfl (lv_at hl 4 rfl) ?_
        refine va_get (D := Γ.1) (ci := 5) (v := .ref (a 1)) (C := RX5) (T := TX5) (N := 10) hx hb hts hi5 hown hK hP 0 rfl rfl 0 (by decide) kf7 (fun _ h9 => h9) rfl dX5_dies_110 ?_
        refine lv_iload_n hx hb dX5_dies_113 rfl (lv_at hl 5 rfl) ?_
        refine lv_iconst (v := (nI 2)) hx hb dX5_dies_114 (by decide) ?_
        refine lv_iadd hx hb dX5_dies_115 ?_
        refine lv_eqi (y := (nI (b + 2))) (nI_add _ _) ?_
        refine lv_dup2_11 hx hb dX5_dies_116 rfl rfl ?_
        refine va_iald_n (f := ms0_43) hx hb hK hP 1 0 rfl rfl (by omega) (Nat.le_of_ble_eq_true rfl) dX5_dies_117 ?_
        refine lv_iconst (v := (nI 1)) hx hb dX5_dies_118 (by decide) ?_
        refine lv_iload_n hx hb dX5_dies_119 rfl (lv_at hl 6 rfl) ?_
        refine lv_ishl hx hb dX5_dies_120 ?_
        refine lv_iconst (v := (-1)) hx hb dX5_dies_121 (by decide) ?_
        refine lv_ixor hx hb dX5_dies_122 ?_
        refine lv_iand hx hb dX5_dies_123 ?_
        refine va_iast_n (f := ms0_43) hx hb hK hP hD hS 1 0 rfl rfl (by omega) (Nat.le_of_ble_eq_true rfl) dX5_dies_124 (fun H locs hP hD hS => ?_)
        have hP : va_P Γ.1 vwCl (wcat [moB Γ a (upd ms0_43 (b + 2) ((ms0_43 (b + 2)) &&& (((nI 1) <<< ((nI k) &&& 31)) ^^^ (-1)))) mt mc md m0 m1 m2 m3 m4 m5]) H := hP
        have hD : va_D A (wcat [moB Γ a (upd ms0_43 (b + 2) ((ms0_43 (b + 2)) &&& (((nI 1) <<< ((nI k) &&& 31)) ^^^ (-1)))) mt mc md m0 m1 m2 m3 m4 m5]) := hD
        refine lv_iload hx hb dX5_dies_125 (lv_at hl 1 rfl) ?_
        exact W.iret (v := x5_43) hx hb hr (fun t ht hW => eMI (by rw [hq]; exact hP) hS ht (by rw [hq])) hS.2.2 dX5_dies_127
      · intro n43 ih43 ⟨i43, x3_43, x4_43, x5_43, ms0_43⟩ H locs ls h
        obtain ⟨hn43, hq, hP, hD, hS, hl⟩ := h
        try dsimp only at hn43 hq hP hD hl
        replace hq : (fX5_dies ms b k) = (if (ms0_43 (b + 40 + i43)) = (nI k) then (if x4_43 = 0 then (fX5_dies_L43 b k n43 (i43 + 1) x3_43 x4_43 (x5_43 + (nI 0)) (upd ms0_43 (b + 40 + i43) (-1))) else (fX5_dies_L43 b k n43 (i43 + 1) x3_43 x4_43 (x5_43 + (nI 1)) (upd ms0_43 (b + 40 + i43) x3_43))) else (fX5_dies_L43 b k n43 (i43 + 1) x3_43 x4_43 x5_43 ms0_43)) := hq
        refine lv_iload hx hb dX5_dies_43 (lv_at hl 0 rfl) ?_
        refine lv_bipush (v := (nI 8)) hx hb dX5_dies_45 (by decide) ?_
        refine lv_icmp_ge (tgt := 109) hx hb dX5_dies_47 (by decide) (fun c_47 => absurd c_47 (nI_ge (by omega) (by omega))) (fun c_47 => ?_)
        refine lv_aload_n hx hb dX5_dies_50 rfl (lv_at hl 4 rfl) ?_
        refine va_get (D := Γ.1) (ci := 5) (v := .ref (a 1)) (C := RX5) (T := TX5) (N := 10) hx hb hts hi5 hown hK hP 0 rfl rfl 0 (by decide) kf7 (fun _ h9 => h9) rfl dX5_dies_51 ?_
        refine lv_iload_n hx hb dX5_dies_54 rfl (lv_at hl 5 rfl) ?_
        refine lv_bipush (v := (nI 40)) hx hb dX5_dies_55 (by decide) ?_
        refine lv_iadd hx hb dX5_dies_57 ?_
        refine lv_eqi (y := (nI (b + 40))) (nI_add _ _) ?_
        refine lv_iload hx hb dX5_dies_58 (lv_at hl 0 rfl) ?_
        refine lv_iadd hx hb dX5_dies_60 ?_
        refine lv_eqi (y := (nI (b + 40 + i43))) (nI_add _ _) ?_
        refine va_iald_n (f := ms0_43) hx hb hK hP 1 0 rfl rfl (by omega) (Nat.le_of_ble_eq_true rfl) dX5_dies_61 ?_
        refine lv_iload_n hx hb dX5_dies_62 rfl (lv_at hl 6 rfl) ?_
        refine lv_icmp_ne (tgt := 103) hx hb dX5_dies_63 (by decide) (fun c_7 => ?_) (fun c_7 => ?_)
        · have hq := hq.trans (if_neg c_7)
          refine lv_iinc (v := (nI (i43 + 1))) (lv' := [(6, .int (nI (i43 + 1))), (5, .int x5_43), (4, .int x4_43), (3, .int x3_43), (0, .ref (a 0)), (1, .int (nI b)), (2, .int (nI k))]) hx hb dX5_dies_103 hl (k := 0) rfl (nI_1 _) (by decide) rfl (fun ls hl => ?_)
          refine lv_goto (tgt := 43) hx hb dX5_dies_106 (by decide) ?_
          exact ih43 ((i43 + 1), x3_43, x4_43, x5_43, ms0_43) H locs ls ⟨by omega, hq, hP, hD, hS, lv_sub hl [0, 1, 2, 3, 4, 5, 6] rfl⟩
        · have hq := hq.trans (if_pos c_7)
          refine lv_aload_n hx hb dX5_dies_66 rfl (lv_at hl 4 rfl) ?_
          refine va_get (D := Γ.1) (ci := 5) (v := .ref (a 1)) (C := RX5) (T := TX5) (N := 10) hx hb hts hi5 hown hK hP 0 rfl rfl 0 (by decide) kf7 (fun _ h9 => h9) rfl dX5_dies_67 ?_
          refine lv_iload_n hx hb dX5_dies_70 rfl (lv_at hl 5 rfl) ?_
          refine lv_bipush (v := (nI 40)) hx hb dX5_dies_71 (by decide) ?_
          refine lv_iadd hx hb dX5_dies_73 ?_
          refine lv_eqi (y := (nI (b + 40))) (nI_add _ _) ?_
          refine lv_iload hx hb dX5_dies_74 (lv_at hl 0 rfl) ?_
          refine lv_iadd hx hb dX5_dies_76 ?_
          refine lv_eqi (y := (nI (b + 40 + i43))) (nI_add _ _) ?_
          refine lv_iload hx hb dX5_dies_77 (lv_at hl 2 rfl) ?_
          refine lv_if_eq (tgt := 86) hx hb dX5_dies_79 (by decide) (fun c_8 => ?_) (fun c_8 => ?_)
          · have hq := hq.trans (if_pos c_8)
            refine lv_iconst (v := (-1)) hx hb dX5_dies_86 (by decide) ?_
            refine va_iast_n (f := ms0_43) hx hb hK hP hD hS 1 0 rfl rfl (by omega) (Nat.le_of_ble_eq_true rfl) dX5_dies_87 (fun H locs hP hD hS => ?_)
            have hP : va_P Γ.1 vwCl (wcat [moB Γ a (upd ms0_43 (b + 40 + i43) (-1)) mt mc md m0 m1 m2 m3 m4 m5]) H := hP
            have hD : va_D A (wcat [moB Γ a (upd ms0_43 (b + 40 + i43) (-1)) mt mc md m0 m1 m2 m3 m4 m5]) := hD
            refine lv_iload hx hb dX5_dies_88 (lv_at hl 1 rfl) ?_
            refine lv_iload hx hb dX5_dies_90 (lv_at hl 2 rfl) ?_
            refine lv_if_eq (tgt := 99) hx hb dX5_dies_92 (by decide) (fun c_92 => ?_) (fun c_92 => absurd c_8 c_92)
            refine lv_iconst (v := (nI 0)) hx hb dX5_dies_99 (by decide) ?_
            refine lv_iadd hx hb dX5_dies_100 ?_
            refine lv_istore (lv' := [(5, .int (x5_43 + (nI 0))), (6, .int (nI i43)), (4, .int x4_43), (3, .int x3_43), (0, .ref (a 0)), (1, .int (nI b)), (2, .int (nI k))]) hx hb dX5_dies_101 hl (by decide) rfl (fun ls hl => ?_)
            refine lv_iinc (v := (nI (i43 + 1))) (lv' := [(6, .int (nI (i43 + 1))), (5, .int (x5_43 + (nI 0))), (4, .int x4_43), (3, .int x3_43), (0, .ref (a 0)), (1, .int (nI b)), (2, .int (nI k))]) hx hb dX5_dies_103 hl (k := 1) rfl (nI_1 _) (by decide) rfl (fun ls hl => ?_)
            refine lv_goto (tgt := 43) hx hb dX5_dies_106 (by decide) ?_
            exact ih43 ((i43 + 1), x3_43, x4_43, (x5_43 + (nI 0)), (upd ms0_43 (b + 40 + i43) (-1))) H locs ls ⟨by omega, hq, hP, hD, hS, lv_sub hl [0, 1, 2, 3, 4, 5, 6] rfl⟩
          · have hq := hq.trans (if_neg c_8)
            refine lv_iload_n hx hb dX5_dies_82 rfl (lv_at hl 3 rfl) ?_
            refine lv_goto (tgt := 87) hx hb dX5_dies_83 (by decide) ?_
            refine va_iast_n (f := ms0_43) hx hb hK hP hD hS 1 0 rfl rfl (by omega) (Nat.le_of_ble_eq_true rfl) dX5_dies_87 (fun H locs hP hD hS => ?_)
            have hP : va_P Γ.1 vwCl (wcat [moB Γ a (upd ms0_43 (b + 40 + i43) x3_43) mt mc md m0 m1 m2 m3 m4 m5]) H := hP
            have hD : va_D A (wcat [moB Γ a (upd ms0_43 (b + 40 + i43) x3_43) mt mc md m0 m1 m2 m3 m4 m5]) := hD
            refine lv_iload hx hb dX5_dies_88 (lv_at hl 1 rfl) ?_
            refine lv_iload hx hb dX5_dies_90 (lv_at hl 2 rfl) ?_
            refine lv_if_eq (tgt := 99) hx hb dX5_dies_92 (by decide) (fun c_92 => absurd c_92 c_8) (fun c_92 => ?_)
            refine lv_iconst (v := (nI 1)) hx hb dX5_dies_95 (by decide) ?_
            refine lv_goto (tgt := 100) hx hb dX5_dies_96 (by decide) ?_
            refine lv_iadd hx hb dX5_dies_100 ?_
            refine lv_istore (lv' := [(5, .int (x5_43 + (nI 1))), (6, .int (nI i43)), (4, .int x4_43), (3, .int x3_43), (0, .ref (a 0)), (1, .int (nI b)), (2, .int (nI k))]) hx hb dX5_dies_101 hl (by decide) rfl (fun ls hl => ?_)
            refine lv_iinc (v := (nI (i43 + 1))) (lv' := [(6, .int (nI (i43 + 1))), (5, .int (x5_43 + (nI 1))), (4, .int x4_43), (3, .int x3_43), (0, .ref (a 0)), (1, .int (nI b)), (2, .int (nI k))]) hx hb dX5_dies_103 hl (k := 1) rfl (nI_1 _) (by decide) rfl (fun ls hl => ?_)
            refine lv_goto (tgt := 43) hx hb dX5_dies_106 (by decide) ?_
            exact ih43 ((i43 + 1), x3_43, x4_43, (x5_43 + (nI 1)), (upd ms0_43 (b + 40 + i43) x3_43)) H locs ls ⟨by omega, hq, hP, hD, hS, lv_sub hl [0, 1, 2, 3, 4, 5, 6] rfl⟩
def fX5_valueAt_L42 (k6 : Nat → Int32 → Int32) (g : Int32) (w : Int32) (i6 : Nat) (x4_6 : Int32) : Nat → Nat → Int32 → Int32 → Int32
  | 0, i42, x6_42, x7_42 => (k6 (i6 + 1) ((x4_6 + (x6_42 * (fX5_inverse x7_42))) - (x4_6 + (x6_42 * (fX5_inverse x7_42))) / (nI 251) * (nI 251)))
  | n42 + 1, i42, x6_42, x7_42 => (if (nI i42) = (nI i6) then (fX5_valueAt_L42 k6 g w i6 x4_6 n42 (i42 + 1) x6_42 x7_42) else (if (fX5_has g (nI i42)) = 0 then (fX5_valueAt_L42 k6 g w i6 x4_6 n42 (i42 + 1) x6_42 x7_42) else (fX5_valueAt_L42 k6 g w i6 x4_6 n42 (i42 + 1) ((x6_42 * ((((w - (nI i42)) - (nI 1)) + (nI 251)) - (((w - (nI i42)) - (nI 1)) + (nI 251)) / (nI 251) * (nI 251))) - (x6_42 * ((((w - (nI i42)) - (nI 1)) + (nI 251)) - (((w - (nI i42)) - (nI 1)) + (nI 251)) / (nI 251) * (nI 251))) / (nI 251) * (nI 251)) ((x7_42 * ((((nI i6) - (nI i42)) + (nI 251)) - (((nI i6) - (nI i42)) + (nI 251)) / (nI 251) * (nI 251))) - (x7_42 * ((((nI i6) - (nI i42)) + (nI 251)) - (((nI i6) - (nI i42)) + (nI 251)) / (nI 251) * (nI 251))) / (nI 251) * (nI 251)))))
def fX5_valueAt_L6 (ms : (Nat → Int32)) (b : Nat) (g : Int32) (w : Int32) : Nat → Nat → Int32 → Int32
  | 0, i6, x4_6 => (x4_6)
  | n6 + 1, i6, x4_6 => (if (fX5_has g (nI i6)) = 0 then (fX5_valueAt_L6 ms b g w n6 (i6 + 1) x4_6) else (fX5_valueAt_L42 (fX5_valueAt_L6 ms b g w n6) g w i6 x4_6 (8) 0 (ms (b + 32 + i6)) (nI 1)))
def fX5_valueAt (ms : (Nat → Int32)) (b : Nat) (g : Int32) (w : Int32) : Int32 := (fX5_valueAt_L6 ms b g w (8) 0 (nI 0))
set_option maxHeartbeats 4000000 in
set_option maxRecDepth 100000 in
theorem kX5_valueAt (l : Launch) (Γ : wG) (a : Nat → Nat) (ms : (Nat → Int32)) (mt : (Nat → Int32)) (mc : (Nat → Int32)) (md : (Nat → Int32)) (m0 : Int32) (m1 : Int32) (m2 : Int32) (m3 : Int32) (m4 : Int32) (m5 : Int32) (b : Nat) (g : Int32) (w : Int32) (hb : b ≤ 406) : LI l Γ yX5_valueAt wsX5_valueAt ({ frames := 1, cells := 0, slots := 0, locals := 23 }) [.ref (a 0), .int (nI b), .int g, .int w] [moB Γ a ms mt mc md m0 m1 m2 m3 m4 m5] (fX5_valueAt ms b g w) := by
  intro sz
  refine Met.ofW (cc := cX5_valueAt) (maxL := 9) (ret := (some .int)) (by decide) rfl ?_
  intro p e s m args below meth c s₁ B hml hv
  obtain ⟨rfl, hsz, hP, hK, hD0, hAm⟩ := hv
  have hx := B.exec
  have hb := B.bytes
  have hr := B.returns
  have hts := atoms_spec (ws := wsX5_valueAt) B.pre
  have hown : s.vm.findClass RX5 = some m.cls := findClass_of_methodNamed B.named
  have hlocks := B.notSynchronized
  subst hsz
  have hD := hD0.self (sz := s.heap.size)
  generalize hBe : va_A (wcat [moB Γ a ms mt mc md m0 m1 m2 m3 m4 m5]) s.heap.size = B0 at hD hAm
  obtain ⟨A, hAe⟩ : ∃ A, A = va_A [] s.heap.size := ⟨_, rfl⟩
  rw [← hAe]
  have hA : ∀ q : Nat, s.heap.size ≤ q → A q := fun q h => by rw [hAe]; exact Or.inr h
  have hAB : ∀ q : Nat, A q → B0 q := fun q h => by rw [hAe] at h; rw [← hBe]; exact Or.inr (wnone h)
  have hS : va_S A s.heap s.heap [] := va_S.rf
  have hl := lv_entry ([.ref (a 0), .int (nI b), .int g, .int w]) (n := 9) (Nat.le_of_ble_eq_true rfl)
  rw [lg_entry_eq]
  generalize (lg_sl ([.ref (a 0), .int (nI b), .int g, .int w]) ++ List.replicate (9 - (lg_sl ([.ref (a 0), .int (nI b), .int g, .int w])).length) Slot.unset).toArray = ls at hl ⊢
  have hl : lv_has ls 9 [(0, .ref (a 0)), (1, .int (nI b)), (2, .int g), (3, .int w)] := hl
  have hi5 : ∀ w ∈ wsX50, w ∈ wsX5_valueAt := by decide +kernel
  have kf7 := hts (.fieldLink RX5 7 "CapsuleKeepersModel" "s" "[I") (by decide +kernel)
  have hq : (fX5_valueAt ms b g w) = (fX5_valueAt_L6 ms b g w (8) 0 (nI 0)) := rfl
  refine lv_iconst (v := (nI 0)) hx hb dX5_valueAt_0 (by decide) ?_
  refine lv_istore (lv' := [(4, .int (nI 0)), (0, .ref (a 0)), (1, .int (nI b)), (2, .int g), (3, .int w)]) hx hb dX5_valueAt_1 hl (by decide) rfl (fun ls hl => ?_)
  refine lv_iconst (v := (nI 0)) hx hb dX5_valueAt_3 (by decide) ?_
  refine lv_istore (lv' := [(5, .int (nI 0)), (4, .int (nI 0)), (0, .ref (a 0)), (1, .int (nI b)), (2, .int g), (3, .int w)]) hx hb dX5_valueAt_4 hl (by decide) rfl (fun ls hl => ?_)
  refine wl (pc := 6) (σ := Nat × Int32) (fun n (i6, x4_6) H locs ls => (i6 + n = 8) ∧ (fX5_valueAt ms b g w) = fX5_valueAt_L6 ms b g w n i6 x4_6 ∧ va_P Γ.1 vwCl (wcat [moB Γ a ms mt mc md m0 m1 m2 m3 m4 m5]) H ∧ va_S A s.heap H locs ∧ lv_has ls 9 [(5, .int (nI i6)), (4, .int x4_6), (0, .ref (a 0)), (1, .int (nI b)), (2, .int g), (3, .int w)]) ?_ ?_ (8) (0, (nI 0)) _ _ _ ⟨by omega, hq, hP, hS, lv_sub hl [0, 1, 2, 3, 4, 5] rfl⟩
  · intro ⟨i6, x4_6⟩ H locs ls h
    obtain ⟨hn6, hq, hP, hS, hl⟩ := h
    try dsimp only at hn6 hq hP hl
    replace hq : (fX5_valueAt ms b g w) = (x4_6) := hq
    refine lv_iload hx hb dX5_valueAt_6 (lv_at hl 0 rfl) ?_
    refine lv_bipush (v := (nI 8)) hx hb dX5_valueAt_8 (by decide) ?_
    refine lv_icmp_ge (tgt := 139) hx hb dX5_valueAt_10 (by decide) (fun c_10 => ?_) (fun c_10 => absurd (nI_le (by omega) (by omega)) c_10)
    refine lv_iload hx hb dX5_valueAt_139 (lv_at hl 1 rfl) ?_
    exact W.iret (v := x4_6) hx hb hr (fun t ht hW => eLI hS ht (by rw [hq])) hS.2.2 dX5_valueAt_141
  · intro n6 ih6 ⟨i6, x4_6⟩ H locs ls h
    obtain ⟨hn6, hq, hP, hS, hl⟩ := h
    try dsimp only at hn6 hq hP hl
    replace hq : (fX5_valueAt ms b g w) = (if (fX5_has g (nI i6)) = 0 then (fX5_valueAt_L6 ms b g w n6 (i6 + 1) x4_6) else (fX5_valueAt_L42 (fX5_valueAt_L6 ms b g w n6) g w i6 x4_6 (8) 0 (ms (b + 32 + i6)) (nI 1))) := hq
    refine lv_iload hx hb dX5_valueAt_6 (lv_at hl 0 rfl) ?_
    refine lv_bipush (v := (nI 8)) hx hb dX5_valueAt_8 (by decide) ?_
    refine lv_icmp_ge (tgt := 139) hx hb dX5_valueAt_10 (by decide) (fun c_10 => absurd c_10 (nI_ge (by omega) (by omega))) (fun c_10 => ?_)
    refine lv_iload_n hx hb dX5_valueAt_13 rfl (lv_at hl 4 rfl) ?_
    refine lv_iload hx hb dX5_valueAt_14 (lv_at hl 0 rfl) ?_
    refine cLI (va_runS (As := [.int g, .int (nI i6)]) (rest := []) ⟨hx, hb, hml, hown, hts⟩ ((kX5_has l Γ g (nI i6)) _) (va_cwS 2 hts gX5_valueAt_X5_has rfl rfl rfl (by decide +kernel) ⟨Nat.le_of_ble_eq_true rfl, Nat.le_of_ble_eq_true rfl⟩) ⟨wPre_blind, wPre_mk hP hD hK hS hA hAB hAm [] rfl rfl⟩ rfl rfl hl.1 rfl (lv_room (Nat.le_of_ble_eq_true rfl)) dX5_valueAt_16 ⟨Nat.zero_le _, Nat.zero_le _⟩) hP hS hA (fun H locs hP hS => ?_)
    refine lv_if_eq (tgt := 133) hx hb dX5_valueAt_19 (by decide) (fun c_1 => ?_) (fun c_1 => ?_)
    · have hq := hq.trans (if_pos c_1)
      refine lv_iinc (v := (nI (i6 + 1))) (lv' := [(5, .int (nI (i6 + 1))), (4, .int x4_6), (0, .ref (a 0)), (1, .int (nI b)), (2, .int g), (3, .int w)]) hx hb dX5_valueAt_133 hl (k := 0) rfl (nI_1 _) (by decide) rfl (fun ls hl => ?_)
      refine lv_goto (tgt := 6) hx hb dX5_valueAt_136 (by decide) ?_
      exact ih6 ((i6 + 1), x4_6) H locs ls ⟨by omega, hq, hP, hS, lv_sub hl [0, 1, 2, 3, 4, 5] rfl⟩
    · have hq := hq.trans (if_neg c_1)
      refine lv_aload_n hx hb dX5_valueAt_22 rfl (lv_at hl 2 rfl) ?_
      refine va_get (D := Γ.1) (ci := 5) (v := .ref (a 1)) (C := RX5) (T := TX5) (N := 10) hx hb hts hi5 hown hK hP 0 rfl rfl 0 (by decide) kf7 (fun _ h9 => h9) rfl dX5_valueAt_23 ?_
      refine lv_iload_n hx hb dX5_valueAt_26 rfl (lv_at hl 3 rfl) ?_
      refine lv_bipush (v := (nI 32)) hx hb dX5_valueAt_27 (by decide) ?_
      refine lv_iadd hx hb dX5_valueAt_29 ?_
      refine lv_eqi (y := (nI (b + 32))) (nI_add _ _) ?_
      refine lv_iload hx hb dX5_valueAt_30 (lv_at hl 0 rfl) ?_
      refine lv_iadd hx hb dX5_valueAt_32 ?_
      refine lv_eqi (y := (nI (b + 32 + i6))) (nI_add _ _) ?_
      refine va_iald_n (f := ms) hx hb hK hP 1 0 rfl rfl (by omega) (Nat.le_of_ble_eq_true rfl) dX5_valueAt_33 ?_
      refine lv_istore (lv' := [(6, .int (ms (b + 32 + i6))), (5, .int (nI i6)), (4, .int x4_6), (0, .ref (a 0)), (1, .int (nI b)), (2, .int g), (3, .int w)]) hx hb dX5_valueAt_34 hl (by decide) rfl (fun ls hl => ?_)
      refine lv_iconst (v := (nI 1)) hx hb dX5_valueAt_36 (by decide) ?_
      refine lv_istore (lv' := [(7, .int (nI 1)), (6, .int (ms (b + 32 + i6))), (5, .int (nI i6)), (4, .int x4_6), (0, .ref (a 0)), (1, .int (nI b)), (2, .int g), (3, .int w)]) hx hb dX5_valueAt_37 hl (by decide) rfl (fun ls hl => ?_)
      refine lv_iconst (v := (nI 0)) hx hb dX5_valueAt_39 (by decide) ?_
      refine lv_istore (lv' := [(8, .int (nI 0)), (7, .int (nI 1)), (6, .int (ms (b + 32 + i6))), (5, .int (nI i6)), (4, .int x4_6), (0, .ref (a 0)), (1, .int (nI b)), (2, .int g), (3, .int w)]) hx hb dX5_valueAt_40 hl (by decide) rfl (fun ls hl => ?_)
      obtain ⟨k6, ek6⟩ : ∃ k, k = (fX5_valueAt_L6 ms b g w n6) := ⟨_, rfl⟩
      replace hq : (fX5_valueAt ms b g w) = (fX5_valueAt_L42 k6 g w i6 x4_6 (8) 0 (ms (b + 32 + i6)) (nI 1)) := hq.trans (by rw [ek6])
      refine wl (pc := 42) (σ := Nat × Int32 × Int32) (fun n (i42, x6_42, x7_42) H locs ls => (i42 + n = 8) ∧ (fX5_valueAt ms b g w) = fX5_valueAt_L42 k6 g w i6 x4_6 n i42 x6_42 x7_42 ∧ va_P Γ.1 vwCl (wcat [moB Γ a ms mt mc md m0 m1 m2 m3 m4 m5]) H ∧ va_S A s.heap H locs ∧ lv_has ls 9 [(8, .int (nI i42)), (7, .int x7_42), (6, .int x6_42), (5, .int (nI i6)), (4, .int x4_6), (0, .ref (a 0)), (1, .int (nI b)), (2, .int g), (3, .int w)]) ?_ ?_ (8) (0, (ms (b + 32 + i6)), (nI 1)) _ _ _ ⟨by omega, hq, hP, hS, lv_sub hl [0, 1, 2, 3, 4, 5, 6, 7, 8] rfl⟩
      · intro ⟨i42, x6_42, x7_42⟩ H locs ls h
        obtain ⟨hn42, hq, hP, hS, hl⟩ := h
        try dsimp only at hn42 hq hP hl
        replace hq : (fX5_valueAt ms b g w) = (k6 (i6 + 1) ((x4_6 + (x6_42 * (fX5_inverse x7_42))) - (x4_6 + (x6_42 * (fX5_inverse x7_42))) / (nI 251) * (nI 251))) := hq
        refine lv_iload hx hb dX5_valueAt_42 (lv_at hl 0 rfl) ?_
        refine lv_bipush (v := (nI 8)) hx hb dX5_valueAt_44 (by decide) ?_
        refine lv_icmp_ge (tgt := 116) hx hb dX5_valueAt_46 (by decide) (fun c_46 => ?_) (fun c_46 => absurd (nI_le (by omega) (by omega)) c_46)
        refine lv_iload hx hb dX5_valueAt_116 (lv_at hl 4 rfl) ?_
        refine lv_iload hx hb dX5_valueAt_118 (lv_at hl 2 rfl) ?_
        refine lv_iload hx hb dX5_valueAt_120 (lv_at hl 1 rfl) ?_
        refine cLI (va_runS (As := [.int x7_42]) (rest := [.int x6_42, .int x4_6]) ⟨hx, hb, hml, hown, hts⟩ ((kX5_inverse l Γ x7_42) _) (va_cwS 1 hts gX5_valueAt_X5_inverse rfl rfl rfl (by decide +kernel) ⟨Nat.le_of_ble_eq_true rfl, Nat.le_of_ble_eq_true rfl⟩) ⟨wPre_blind, wPre_mk hP hD hK hS hA hAB hAm [] rfl rfl⟩ rfl rfl hl.1 rfl (lv_room (Nat.le_of_ble_eq_true rfl)) dX5_valueAt_122 ⟨Nat.zero_le _, Nat.zero_le _⟩) hP hS hA (fun H locs hP hS => ?_)
        refine lv_imul hx hb dX5_valueAt_125 ?_
        refine lv_iadd hx hb dX5_valueAt_126 ?_
        refine lv_sipush (v := (nI 251)) hx hb dX5_valueAt_127 (by decide) ?_
        refine lv_irem hx hb dX5_valueAt_130 (by decide) ?_
        refine lv_istore (lv' := [(4, .int ((x4_6 + (x6_42 * (fX5_inverse x7_42))) - (x4_6 + (x6_42 * (fX5_inverse x7_42))) / (nI 251) * (nI 251))), (8, .int (nI i42)), (7, .int x7_42), (6, .int x6_42), (5, .int (nI i6)), (0, .ref (a 0)), (1, .int (nI b)), (2, .int g), (3, .int w)]) hx hb dX5_valueAt_131 hl (by decide) rfl (fun ls hl => ?_)
        refine lv_iinc (v := (nI (i6 + 1))) (lv' := [(5, .int (nI (i6 + 1))), (4, .int ((x4_6 + (x6_42 * (fX5_inverse x7_42))) - (x4_6 + (x6_42 * (fX5_inverse x7_42))) / (nI 251) * (nI 251))), (8, .int (nI i42)), (7, .int x7_42), (6, .int x6_42), (0, .ref (a 0)), (1, .int (nI b)), (2, .int g), (3, .int w)]) hx hb dX5_valueAt_133 hl (k := 4) rfl (nI_1 _) (by decide) rfl (fun ls hl => ?_)
        refine lv_goto (tgt := 6) hx hb dX5_valueAt_136 (by decide) ?_
        exact ih6 ((i6 + 1), ((x4_6 + (x6_42 * (fX5_inverse x7_42))) - (x4_6 + (x6_42 * (fX5_inverse x7_42))) / (nI 251) * (nI 251))) H locs ls ⟨by omega, (hq.trans (by rw [ek6])), hP, hS, lv_sub hl [0, 1, 5, 6, 7, 8] rfl⟩
      · intro n42 ih42 ⟨i42, x6_42, x7_42⟩ H locs ls h
        obtain ⟨hn42, hq, hP, hS, hl⟩ := h
        try dsimp only at hn42 hq hP hl
        replace hq : (fX5_valueAt ms b g w) = (if (nI i42) = (nI i6) then (fX5_valueAt_L42 k6 g w i6 x4_6 n42 (i42 + 1) x6_42 x7_42) else (if (fX5_has g (nI i42)) = 0 then (fX5_valueAt_L42 k6 g w i6 x4_6 n42 (i42 + 1) x6_42 x7_42) else (fX5_valueAt_L42 k6 g w i6 x4_6 n42 (i42 + 1) ((x6_42 * ((((w - (nI i42)) - (nI 1)) + (nI 251)) - (((w - (nI i42)) - (nI 1)) + (nI 251)) / (nI 251) * (nI 251))) - (x6_42 * ((((w - (nI i42)) - (nI 1)) + (nI 251)) - (((w - (nI i42)) - (nI 1)) + (nI 251)) / (nI 251) * (nI 251))) / (nI 251) * (nI 251)) ((x7_42 * ((((nI i6) - (nI i42)) + (nI 251)) - (((nI i6) - (nI i42)) + (nI 251)) / (nI 251) * (nI 251))) - (x7_42 * ((((nI i6) - (nI i42)) + (nI 251)) - (((nI i6) - (nI i42)) + (nI 251)) / (nI 251) * (nI 251))) / (nI 251) * (nI 251))))) := hq
        refine lv_iload hx hb dX5_valueAt_42 (lv_at hl 0 rfl) ?_
        refine lv_bipush (v := (nI 8)) hx hb dX5_valueAt_44 (by decide) ?_
        refine lv_icmp_ge (tgt := 116) hx hb dX5_valueAt_46 (by decide) (fun c_46 => absurd c_46 (nI_ge (by omega) (by omega))) (fun c_46 => ?_)
        refine lv_iload hx hb dX5_valueAt_49 (lv_at hl 0 rfl) ?_
        refine lv_iload hx hb dX5_valueAt_51 (lv_at hl 3 rfl) ?_
        refine lv_icmp_eq (tgt := 110) hx hb dX5_valueAt_53 (by decide) (fun c_2 => ?_) (fun c_2 => ?_)
        · have hq := hq.trans (if_pos c_2)
          refine lv_iinc (v := (nI (i42 + 1))) (lv' := [(8, .int (nI (i42 + 1))), (7, .int x7_42), (6, .int x6_42), (5, .int (nI i6)), (4, .int x4_6), (0, .ref (a 0)), (1, .int (nI b)), (2, .int g), (3, .int w)]) hx hb dX5_valueAt_110 hl (k := 0) rfl (nI_1 _) (by decide) rfl (fun ls hl => ?_)
          refine lv_goto (tgt := 42) hx hb dX5_valueAt_113 (by decide) ?_
          exact ih42 ((i42 + 1), x6_42, x7_42) H locs ls ⟨by omega, hq, hP, hS, lv_sub hl [0, 1, 2, 3, 4, 5, 6, 7, 8] rfl⟩
        · have hq := hq.trans (if_neg c_2)
          refine lv_iload_n hx hb dX5_valueAt_56 rfl (lv_at hl 7 rfl) ?_
          refine lv_iload hx hb dX5_valueAt_57 (lv_at hl 0 rfl) ?_
          refine cLI (va_runS (As := [.int g, .int (nI i42)]) (rest := []) ⟨hx, hb, hml, hown, hts⟩ ((kX5_has l Γ g (nI i42)) _) (va_cwS 2 hts gX5_valueAt_X5_has rfl rfl rfl (by decide +kernel) ⟨Nat.le_of_ble_eq_true rfl, Nat.le_of_ble_eq_true rfl⟩) ⟨wPre_blind, wPre_mk hP hD hK hS hA hAB hAm [] rfl rfl⟩ rfl rfl hl.1 rfl (lv_room (Nat.le_of_ble_eq_true rfl)) dX5_valueAt_59 ⟨Nat.zero_le _, Nat.zero_le _⟩) hP hS hA (fun H locs hP hS => ?_)
          refine lv_if_eq (tgt := 110) hx hb dX5_valueAt_62 (by decide) (fun c_3 => ?_) (fun c_3 => ?_)
          · have hq := hq.trans (if_pos c_3)
            refine lv_iinc (v := (nI (i42 + 1))) (lv' := [(8, .int (nI (i42 + 1))), (7, .int x7_42), (6, .int x6_42), (5, .int (nI i6)), (4, .int x4_6), (0, .ref (a 0)), (1, .int (nI b)), (2, .int g), (3, .int w)]) hx hb dX5_valueAt_110 hl (k := 0) rfl (nI_1 _) (by decide) rfl (fun ls hl => ?_)
            refine lv_goto (tgt := 42) hx hb dX5_valueAt_113 (by decide) ?_
            exact ih42 ((i42 + 1), x6_42, x7_42) H locs ls ⟨by omega, hq, hP, hS, lv_sub hl [0, 1, 2, 3, 4, 5, 6, 7, 8] rfl⟩
          · have hq := hq.trans (if_neg c_3)
            refine lv_iload hx hb dX5_valueAt_65 (lv_at hl 2 rfl) ?_
            refine lv_iload_n hx hb dX5_valueAt_67 rfl (lv_at hl 8 rfl) ?_
            refine lv_iload hx hb dX5_valueAt_68 (lv_at hl 0 rfl) ?_
            refine lv_isub hx hb dX5_valueAt_70 ?_
            refine lv_iconst (v := (nI 1)) hx hb dX5_valueAt_71 (by decide) ?_
            refine lv_isub hx hb dX5_valueAt_72 ?_
            refine lv_sipush (v := (nI 251)) hx hb dX5_valueAt_73 (by decide) ?_
            refine lv_iadd hx hb dX5_valueAt_76 ?_
            refine lv_sipush (v := (nI 251)) hx hb dX5_valueAt_77 (by decide) ?_
            refine lv_irem hx hb dX5_valueAt_80 (by decide) ?_
            refine lv_imul hx hb dX5_valueAt_81 ?_
            refine lv_sipush (v := (nI 251)) hx hb dX5_valueAt_82 (by decide) ?_
            refine lv_irem hx hb dX5_valueAt_85 (by decide) ?_
            refine lv_istore (lv' := [(6, .int ((x6_42 * ((((w - (nI i42)) - (nI 1)) + (nI 251)) - (((w - (nI i42)) - (nI 1)) + (nI 251)) / (nI 251) * (nI 251))) - (x6_42 * ((((w - (nI i42)) - (nI 1)) + (nI 251)) - (((w - (nI i42)) - (nI 1)) + (nI 251)) / (nI 251) * (nI 251))) / (nI 251) * (nI 251))), (8, .int (nI i42)), (7, .int x7_42), (5, .int (nI i6)), (4, .int x4_6), (0, .ref (a 0)), (1, .int (nI b)), (2, .int g), (3, .int w)]) hx hb dX5_valueAt_86 hl (by decide) rfl (fun ls hl => ?_)
            refine lv_iload hx hb dX5_valueAt_88 (lv_at hl 2 rfl) ?_
            refine lv_iload hx hb dX5_valueAt_90 (lv_at hl 3 rfl) ?_
            refine lv_iload hx hb dX5_valueAt_92 (lv_at hl 1 rfl) ?_
            refine lv_isub hx hb dX5_valueAt_94 ?_
            refine lv_sipush (v := (nI 251)) hx hb dX5_valueAt_95 (by decide) ?_
            refine lv_iadd hx hb dX5_valueAt_98 ?_
            refine lv_sipush (v := (nI 251)) hx hb dX5_valueAt_99 (by decide) ?_
            refine lv_irem hx hb dX5_valueAt_102 (by decide) ?_
            refine lv_imul hx hb dX5_valueAt_103 ?_
            refine lv_sipush (v := (nI 251)) hx hb dX5_valueAt_104 (by decide) ?_
            refine lv_irem hx hb dX5_valueAt_107 (by decide) ?_
            refine lv_istore (lv' := [(7, .int ((x7_42 * ((((nI i6) - (nI i42)) + (nI 251)) - (((nI i6) - (nI i42)) + (nI 251)) / (nI 251) * (nI 251))) - (x7_42 * ((((nI i6) - (nI i42)) + (nI 251)) - (((nI i6) - (nI i42)) + (nI 251)) / (nI 251) * (nI 251))) / (nI 251) * (nI 251))), (6, .int ((x6_42 * ((((w - (nI i42)) - (nI 1)) + (nI 251)) - (((w - (nI i42)) - (nI 1)) + (nI 251)) / (nI 251) * (nI 251))) - (x6_42 * ((((w - (nI i42)) - (nI 1)) + (nI 251)) - (((w - (nI i42)) - (nI 1)) + (nI 251)) / (nI 251) * (nI 251))) / (nI 251) * (nI 251))), (8, .int (nI i42)), (5, .int (nI i6)), (4, .int x4_6), (0, .ref (a 0)), (1, .int (nI b)), (2, .int g), (3, .int w)]) hx hb dX5_valueAt_108 hl (by decide) rfl (fun ls hl => ?_)
            refine lv_iinc (v := (nI (i42 + 1))) (lv' := [(8, .int (nI (i42 + 1))), (7, .int ((x7_42 * ((((nI i6) - (nI i42)) + (nI 251)) - (((nI i6) - (nI i42)) + (nI 251)) / (nI 251) * (nI 251))) - (x7_42 * ((((nI i6) - (nI i42)) + (nI 251)) - (((nI i6) - (nI i42)) + (nI 251)) / (nI 251) * (nI 251))) / (nI 251) * (nI 251))), (6, .int ((x6_42 * ((((w - (nI i42)) - (nI 1)) + (nI 251)) - (((w - (nI i42)) - (nI 1)) + (nI 251)) / (nI 251) * (nI 251))) - (x6_42 * ((((w - (nI i42)) - (nI 1)) + (nI 251)) - (((w - (nI i42)) - (nI 1)) + (nI 251)) / (nI 251) * (nI 251))) / (nI 251) * (nI 251))), (5, .int (nI i6)), (4, .int x4_6), (0, .ref (a 0)), (1, .int (nI b)), (2, .int g), (3, .int w)]) hx hb dX5_valueAt_110 hl (k := 2) rfl (nI_1 _) (by decide) rfl (fun ls hl => ?_)
            refine lv_goto (tgt := 42) hx hb dX5_valueAt_113 (by decide) ?_
            exact ih42 ((i42 + 1), ((x6_42 * ((((w - (nI i42)) - (nI 1)) + (nI 251)) - (((w - (nI i42)) - (nI 1)) + (nI 251)) / (nI 251) * (nI 251))) - (x6_42 * ((((w - (nI i42)) - (nI 1)) + (nI 251)) - (((w - (nI i42)) - (nI 1)) + (nI 251)) / (nI 251) * (nI 251))) / (nI 251) * (nI 251)), ((x7_42 * ((((nI i6) - (nI i42)) + (nI 251)) - (((nI i6) - (nI i42)) + (nI 251)) / (nI 251) * (nI 251))) - (x7_42 * ((((nI i6) - (nI i42)) + (nI 251)) - (((nI i6) - (nI i42)) + (nI 251)) / (nI 251) * (nI 251))) / (nI 251) * (nI 251))) H locs ls ⟨by omega, hq, hP, hS, lv_sub hl [0, 1, 2, 3, 4, 5, 6, 7, 8] rfl⟩
def fX5_keyBy (ms : (Nat → Int32)) (b : Nat) (g : Int32) : Int32 := ((fX5_valueAt ms (b) (fX5_lowest g (ms (b + 29))) (nI 0)))
set_option maxHeartbeats 4000000 in
set_option maxRecDepth 100000 in
theorem kX5_keyBy (l : Launch) (Γ : wG) (a : Nat → Nat) (ms : (Nat → Int32)) (mt : (Nat → Int32)) (mc : (Nat → Int32)) (md : (Nat → Int32)) (m0 : Int32) (m1 : Int32) (m2 : Int32) (m3 : Int32) (m4 : Int32) (m5 : Int32) (b : Nat) (g : Int32) (hb : b ≤ 406) : LI l Γ yX5_keyBy wsX5_keyBy ({ frames := 2, cells := 0, slots := 0, locals := 51 }) [.ref (a 0), .int (nI b), .int g] [moB Γ a ms mt mc md m0 m1 m2 m3 m4 m5] (fX5_keyBy ms b g) := by
  intro sz
  refine Met.ofW (cc := cX5_keyBy) (maxL := 3) (ret := (some .int)) (by decide) rfl ?_
  intro p e s m args below meth c s₁ B hml hv
  obtain ⟨rfl, hsz, hP, hK, hD0, hAm⟩ := hv
  have hx := B.exec
  have hb := B.bytes
  have hr := B.returns
  have hts := atoms_spec (ws := wsX5_keyBy) B.pre
  have hown : s.vm.findClass RX5 = some m.cls := findClass_of_methodNamed B.named
  have hlocks := B.notSynchronized
  subst hsz
  have hD := hD0.self (sz := s.heap.size)
  generalize hBe : va_A (wcat [moB Γ a ms mt mc md m0 m1 m2 m3 m4 m5]) s.heap.size = B0 at hD hAm
  obtain ⟨A, hAe⟩ : ∃ A, A = va_A [] s.heap.size := ⟨_, rfl⟩
  rw [← hAe]
  have hA : ∀ q : Nat, s.heap.size ≤ q → A q := fun q h => by rw [hAe]; exact Or.inr h
  have hAB : ∀ q : Nat, A q → B0 q := fun q h => by rw [hAe] at h; rw [← hBe]; exact Or.inr (wnone h)
  have hS : va_S A s.heap s.heap [] := va_S.rf
  have hl := lv_entry ([.ref (a 0), .int (nI b), .int g]) (n := 3) (Nat.le_of_ble_eq_true rfl)
  rw [lg_entry_eq]
  generalize (lg_sl ([.ref (a 0), .int (nI b), .int g]) ++ List.replicate (3 - (lg_sl ([.ref (a 0), .int (nI b), .int g])).length) Slot.unset).toArray = ls at hl ⊢
  have hl : lv_has ls 3 [(0, .ref (a 0)), (1, .int (nI b)), (2, .int g)] := hl
  have hi5 : ∀ w ∈ wsX50, w ∈ wsX5_keyBy := by decide +kernel
  have kf7 := hts (.fieldLink RX5 7 "CapsuleKeepersModel" "s" "[I") (by decide +kernel)
  have hq : (fX5_keyBy ms b g) = ((fX5_valueAt ms (b) (fX5_lowest g (ms (b + 29))) (nI 0))) := rfl
  refine lv_aload_n hx hb dX5_keyBy_0 rfl (lv_at hl 0 rfl) ?_
  refine lv_iload_n hx hb dX5_keyBy_1 rfl (lv_at hl 1 rfl) ?_
  refine lv_iload_n hx hb dX5_keyBy_2 rfl (lv_at hl 2 rfl) ?_
  refine lv_aload_n hx hb dX5_keyBy_3 rfl (lv_at hl 0 rfl) ?_
  refine va_get (D := Γ.1) (ci := 5) (v := .ref (a 1)) (C := RX5) (T := TX5) (N := 10) hx hb hts hi5 hown hK hP 0 rfl rfl 0 (by decide) kf7 (fun _ h9 => h9) rfl dX5_keyBy_4 ?_
  refine lv_iload_n hx hb dX5_keyBy_7 rfl (lv_at hl 1 rfl) ?_
  refine lv_bipush (v := (nI 29)) hx hb dX5_keyBy_8 (by decide) ?_
  refine lv_iadd hx hb dX5_keyBy_10 ?_
  refine lv_eqi (y := (nI (b + 29))) (nI_add _ _) ?_
  refine va_iald_n (f := ms) hx hb hK hP 1 0 rfl rfl (by omega) (Nat.le_of_ble_eq_true rfl) dX5_keyBy_11 ?_
  refine cLI (va_runS (As := [.int g, .int (ms (b + 29))]) (rest := [.int (nI b), .ref (a 0)]) ⟨hx, hb, hml, hown, hts⟩ ((kX5_lowest l Γ g (ms (b + 29))) _) (va_cwS 2 hts gX5_keyBy_X5_lowest rfl rfl rfl (by decide +kernel) ⟨Nat.le_of_ble_eq_true rfl, Nat.le_of_ble_eq_true rfl⟩) ⟨wPre_blind, wPre_mk hP hD hK hS hA hAB hAm [] rfl rfl⟩ rfl rfl hl.1 rfl (lv_room (Nat.le_of_ble_eq_true rfl)) dX5_keyBy_12 ⟨Nat.zero_le _, Nat.zero_le _⟩) hP hS hA (fun H locs hP hS => ?_)
  refine lv_iconst (v := (nI 0)) hx hb dX5_keyBy_15 (by decide) ?_
  refine cLI (va_runV (As := [.int (nI b), .int (fX5_lowest g (ms (b + 29))), .int (nI 0)]) (rest := []) ⟨hx, hb, hml, hown, hts⟩ ((kX5_valueAt l Γ a ms mt mc md m0 m1 m2 m3 m4 m5 (b) (fX5_lowest g (ms (b + 29))) (nI 0) (by first | assumption | omega)) _) (cwV 3 hts gX5_keyBy_X5_valueAt rfl rfl rfl (by decide +kernel) ⟨Nat.le_of_ble_eq_true rfl, Nat.le_of_ble_eq_true rfl⟩) ⟨wPre_blind, va_recv hK hP (ci := 5) (q0 := 0) rfl rfl, wPre_mk hP hD hK hS hA hAB hAm [0] rfl rfl⟩ rfl rfl hl.1 rfl (lv_room (Nat.le_of_ble_eq_true rfl)) dX5_keyBy_16 ⟨Nat.zero_le _, Nat.zero_le _⟩) hP hS hA (fun H locs hP hS => ?_)
  exact W.iret (v := (fX5_valueAt ms (b) (fX5_lowest g (ms (b + 29))) (nI 0))) hx hb hr (fun t ht hW => eLI hS ht (by rw [hq])) hS.2.2 dX5_keyBy_19
def fX5_quarrels_L5 (ms : (Nat → Int32)) (b : Nat) (g : Int32) : Nat → Nat → Int32 → Int32
  | 0, i5, x3_5 => (x3_5)
  | n5 + 1, i5, x3_5 => (if x3_5 = 0 then (if (fX5_has g (nI i5)) = 0 then (fX5_quarrels_L5 ms b g n5 (i5 + 1) (nI 0)) else (if ((ms (b + 11 + i5)) &&& g) = 0 then (fX5_quarrels_L5 ms b g n5 (i5 + 1) (nI 0)) else (fX5_quarrels_L5 ms b g n5 (i5 + 1) (nI 1)))) else (fX5_quarrels_L5 ms b g n5 (i5 + 1) (nI 1)))
def fX5_quarrels (ms : (Nat → Int32)) (b : Nat) (g : Int32) : Int32 := (fX5_quarrels_L5 ms b g (8) 0 (nI 0))
set_option maxHeartbeats 4000000 in
set_option maxRecDepth 100000 in
theorem kX5_quarrels (l : Launch) (Γ : wG) (a : Nat → Nat) (ms : (Nat → Int32)) (mt : (Nat → Int32)) (mc : (Nat → Int32)) (md : (Nat → Int32)) (m0 : Int32) (m1 : Int32) (m2 : Int32) (m3 : Int32) (m4 : Int32) (m5 : Int32) (b : Nat) (g : Int32) (hb : b ≤ 406) : LI l Γ yX5_quarrels wsX5_quarrels ({ frames := 1, cells := 0, slots := 0, locals := 21 }) [.ref (a 0), .int (nI b), .int g] [moB Γ a ms mt mc md m0 m1 m2 m3 m4 m5] (fX5_quarrels ms b g) := by
  intro sz
  refine Met.ofW (cc := cX5_quarrels) (maxL := 5) (ret := (some .boolean)) (by decide) rfl ?_
  intro p e s m args below meth c s₁ B hml hv
  obtain ⟨rfl, hsz, hP, hK, hD0, hAm⟩ := hv
  have hx := B.exec
  have hb := B.bytes
  have hr := B.returns
  have hts := atoms_spec (ws := wsX5_quarrels) B.pre
  have hown : s.vm.findClass RX5 = some m.cls := findClass_of_methodNamed B.named
  have hlocks := B.notSynchronized
  subst hsz
  have hD := hD0.self (sz := s.heap.size)
  generalize hBe : va_A (wcat [moB Γ a ms mt mc md m0 m1 m2 m3 m4 m5]) s.heap.size = B0 at hD hAm
  obtain ⟨A, hAe⟩ : ∃ A, A = va_A [] s.heap.size := ⟨_, rfl⟩
  rw [← hAe]
  have hA : ∀ q : Nat, s.heap.size ≤ q → A q := fun q h => by rw [hAe]; exact Or.inr h
  have hAB : ∀ q : Nat, A q → B0 q := fun q h => by rw [hAe] at h; rw [← hBe]; exact Or.inr (wnone h)
  have hS : va_S A s.heap s.heap [] := va_S.rf
  have hl := lv_entry ([.ref (a 0), .int (nI b), .int g]) (n := 5) (Nat.le_of_ble_eq_true rfl)
  rw [lg_entry_eq]
  generalize (lg_sl ([.ref (a 0), .int (nI b), .int g]) ++ List.replicate (5 - (lg_sl ([.ref (a 0), .int (nI b), .int g])).length) Slot.unset).toArray = ls at hl ⊢
  have hl : lv_has ls 5 [(0, .ref (a 0)), (1, .int (nI b)), (2, .int g)] := hl
  have hi5 : ∀ w ∈ wsX50, w ∈ wsX5_quarrels := by decide +kernel
  have kf7 := hts (.fieldLink RX5 7 "CapsuleKeepersModel" "s" "[I") (by decide +kernel)
  have hq : (fX5_quarrels ms b g) = (fX5_quarrels_L5 ms b g (8) 0 (nI 0)) := rfl
  refine lv_iconst (v := (nI 0)) hx hb dX5_quarrels_0 (by decide) ?_
  refine lv_istore_n (lv' := [(3, .int (nI 0)), (0, .ref (a 0)), (1, .int (nI b)), (2, .int g)]) hx hb dX5_quarrels_1 rfl hl (by decide) rfl (fun ls hl => ?_)
  refine lv_iconst (v := (nI 0)) hx hb dX5_quarrels_2 (by decide) ?_
  refine lv_istore (lv' := [(4, .int (nI 0)), (3, .int (nI 0)), (0, .ref (a 0)), (1, .int (nI b)), (2, .int g)]) hx hb dX5_quarrels_3 hl (by decide) rfl (fun ls hl => ?_)
  refine wl (pc := 5) (σ := Nat × Int32) (fun n (i5, x3_5) H locs ls => (i5 + n = 8 ∧ (x3_5 = nI 0 ∨ x3_5 = nI 1)) ∧ (fX5_quarrels ms b g) = fX5_quarrels_L5 ms b g n i5 x3_5 ∧ va_P Γ.1 vwCl (wcat [moB Γ a ms mt mc md m0 m1 m2 m3 m4 m5]) H ∧ va_S A s.heap H locs ∧ lv_has ls 5 [(4, .int (nI i5)), (3, .int x3_5), (0, .ref (a 0)), (1, .int (nI b)), (2, .int g)]) ?_ ?_ (8) (0, (nI 0)) _ _ _ ⟨⟨by omega, Or.inl rfl⟩, hq, hP, hS, lv_sub hl [0, 1, 2, 3, 4] rfl⟩
  · intro ⟨i5, x3_5⟩ H locs ls h
    obtain ⟨hn5, hq, hP, hS, hl⟩ := h
    try dsimp only at hn5 hq hP hl
    obtain ⟨hn5, hx5⟩ := hn5
    replace hq : (fX5_quarrels ms b g) = (x3_5) := hq
    refine lv_iload hx hb dX5_quarrels_5 (lv_at hl 0 rfl) ?_
    refine lv_bipush (v := (nI 8)) hx hb dX5_quarrels_7 (by decide) ?_
    refine lv_icmp_ge (tgt := 54) hx hb dX5_quarrels_9 (by decide) (fun c_9 => ?_) (fun c_9 => absurd (nI_le (by omega) (by omega)) c_9)
    refine lv_iload_n hx hb dX5_quarrels_54 rfl (lv_at hl 1 rfl) ?_
    exact W.zret (v := x3_5) hx hb hr (nar01 hx5) (fun t ht hW => eLI hS ht (by rw [hq])) hS.2.2 dX5_quarrels_55
  · intro n5 ih5 ⟨i5, x3_5⟩ H locs ls h
    obtain ⟨hn5, hq, hP, hS, hl⟩ := h
    try dsimp only at hn5 hq hP hl
    obtain ⟨hn5, hx5⟩ := hn5
    replace hq : (fX5_quarrels ms b g) = (if x3_5 = 0 then (if (fX5_has g (nI i5)) = 0 then (fX5_quarrels_L5 ms b g n5 (i5 + 1) (nI 0)) else (if ((ms (b + 11 + i5)) &&& g) = 0 then (fX5_quarrels_L5 ms b g n5 (i5 + 1) (nI 0)) else (fX5_quarrels_L5 ms b g n5 (i5 + 1) (nI 1)))) else (fX5_quarrels_L5 ms b g n5 (i5 + 1) (nI 1))) := hq
    refine lv_iload hx hb dX5_quarrels_5 (lv_at hl 0 rfl) ?_
    refine lv_bipush (v := (nI 8)) hx hb dX5_quarrels_7 (by decide) ?_
    refine lv_icmp_ge (tgt := 54) hx hb dX5_quarrels_9 (by decide) (fun c_9 => absurd c_9 (nI_ge (by omega) (by omega))) (fun c_9 => ?_)
    refine lv_iload_n hx hb dX5_quarrels_12 rfl (lv_at hl 1 rfl) ?_
    refine lv_if_ne (tgt := 42) hx hb dX5_quarrels_13 (by decide) (fun c_1 => ?_) (fun c_1 => ?_)
    · have hq := hq.trans (if_neg c_1)
      refine lv_iconst (v := (nI 1)) hx hb dX5_quarrels_42 (by decide) ?_
      refine lv_goto (tgt := 47) hx hb dX5_quarrels_43 (by decide) ?_
      refine lv_istore_n (lv' := [(3, .int (nI 1)), (4, .int (nI i5)), (0, .ref (a 0)), (1, .int (nI b)), (2, .int g)]) hx hb dX5_quarrels_47 rfl hl (by decide) rfl (fun ls hl => ?_)
      refine lv_iinc (v := (nI (i5 + 1))) (lv' := [(4, .int (nI (i5 + 1))), (3, .int (nI 1)), (0, .ref (a 0)), (1, .int (nI b)), (2, .int g)]) hx hb dX5_quarrels_48 hl (k := 1) rfl (nI_1 _) (by decide) rfl (fun ls hl => ?_)
      refine lv_goto (tgt := 5) hx hb dX5_quarrels_51 (by decide) ?_
      exact ih5 ((i5 + 1), (nI 1)) H locs ls ⟨⟨by omega, by first | exact Or.inl rfl | exact Or.inr rfl | assumption⟩, hq, hP, hS, lv_sub hl [0, 1, 2, 3, 4] rfl⟩
    · have hq := hq.trans (if_pos c_1)
      refine lv_iload_n hx hb dX5_quarrels_16 rfl (lv_at hl 4 rfl) ?_
      refine lv_iload hx hb dX5_quarrels_17 (lv_at hl 0 rfl) ?_
      refine cLI (va_runS (As := [.int g, .int (nI i5)]) (rest := []) ⟨hx, hb, hml, hown, hts⟩ ((kX5_has l Γ g (nI i5)) _) (va_cwS 2 hts gX5_quarrels_X5_has rfl rfl rfl (by decide +kernel) ⟨Nat.le_of_ble_eq_true rfl, Nat.le_of_ble_eq_true rfl⟩) ⟨wPre_blind, wPre_mk hP hD hK hS hA hAB hAm [] rfl rfl⟩ rfl rfl hl.1 rfl (lv_room (Nat.le_of_ble_eq_true rfl)) dX5_quarrels_19 ⟨Nat.zero_le _, Nat.zero_le _⟩) hP hS hA (fun H locs hP hS => ?_)
      refine lv_if_eq (tgt := 46) hx hb dX5_quarrels_22 (by decide) (fun c_2 => ?_) (fun c_2 => ?_)
      · have hq := hq.trans (if_pos c_2)
        refine lv_iconst (v := (nI 0)) hx hb dX5_quarrels_46 (by decide) ?_
        refine lv_istore_n (lv' := [(3, .int (nI 0)), (4, .int (nI i5)), (0, .ref (a 0)), (1, .int (nI b)), (2, .int g)]) hx hb dX5_quarrels_47 rfl hl (by decide) rfl (fun ls hl => ?_)
        refine lv_iinc (v := (nI (i5 + 1))) (lv' := [(4, .int (nI (i5 + 1))), (3, .int (nI 0)), (0, .ref (a 0)), (1, .int (nI b)), (2, .int g)]) hx hb dX5_quarrels_48 hl (k := 1) rfl (nI_1 _) (by decide) rfl (fun ls hl => ?_)
        refine lv_goto (tgt := 5) hx hb dX5_quarrels_51 (by decide) ?_
        exact ih5 ((i5 + 1), (nI 0)) H locs ls ⟨⟨by omega, by first | exact Or.inl rfl | exact Or.inr rfl | assumption⟩, hq, hP, hS, lv_sub hl [0, 1, 2, 3, 4] rfl⟩
      · have hq := hq.trans (if_neg c_2)
        refine lv_aload_n hx hb dX5_quarrels_25 rfl (lv_at hl 2 rfl) ?_
        refine va_get (D := Γ.1) (ci := 5) (v := .ref (a 1)) (C := RX5) (T := TX5) (N := 10) hx hb hts hi5 hown hK hP 0 rfl rfl 0 (by decide) kf7 (fun _ h9 => h9) rfl dX5_quarrels_26 ?_
        refine lv_iload_n hx hb dX5_quarrels_29 rfl (lv_at hl 3 rfl) ?_
        refine lv_bipush (v := (nI 11)) hx hb dX5_quarrels_30 (by decide) ?_
        refine lv_iadd hx hb dX5_quarrels_32 ?_
        refine lv_eqi (y := (nI (b + 11))) (nI_add _ _) ?_
        refine lv_iload hx hb dX5_quarrels_33 (lv_at hl 0 rfl) ?_
        refine lv_iadd hx hb dX5_quarrels_35 ?_
        refine lv_eqi (y := (nI (b + 11 + i5))) (nI_add _ _) ?_
        refine va_iald_n (f := ms) hx hb hK hP 1 0 rfl rfl (by omega) (Nat.le_of_ble_eq_true rfl) dX5_quarrels_36 ?_
        refine lv_iload_n hx hb dX5_quarrels_37 rfl (lv_at hl 4 rfl) ?_
        refine lv_iand hx hb dX5_quarrels_38 ?_
        refine lv_if_eq (tgt := 46) hx hb dX5_quarrels_39 (by decide) (fun c_3 => ?_) (fun c_3 => ?_)
        · have hq := hq.trans (if_pos c_3)
          refine lv_iconst (v := (nI 0)) hx hb dX5_quarrels_46 (by decide) ?_
          refine lv_istore_n (lv' := [(3, .int (nI 0)), (4, .int (nI i5)), (0, .ref (a 0)), (1, .int (nI b)), (2, .int g)]) hx hb dX5_quarrels_47 rfl hl (by decide) rfl (fun ls hl => ?_)
          refine lv_iinc (v := (nI (i5 + 1))) (lv' := [(4, .int (nI (i5 + 1))), (3, .int (nI 0)), (0, .ref (a 0)), (1, .int (nI b)), (2, .int g)]) hx hb dX5_quarrels_48 hl (k := 1) rfl (nI_1 _) (by decide) rfl (fun ls hl => ?_)
          refine lv_goto (tgt := 5) hx hb dX5_quarrels_51 (by decide) ?_
          exact ih5 ((i5 + 1), (nI 0)) H locs ls ⟨⟨by omega, by first | exact Or.inl rfl | exact Or.inr rfl | assumption⟩, hq, hP, hS, lv_sub hl [0, 1, 2, 3, 4] rfl⟩
        · have hq := hq.trans (if_neg c_3)
          refine lv_iconst (v := (nI 1)) hx hb dX5_quarrels_42 (by decide) ?_
          refine lv_goto (tgt := 47) hx hb dX5_quarrels_43 (by decide) ?_
          refine lv_istore_n (lv' := [(3, .int (nI 1)), (4, .int (nI i5)), (0, .ref (a 0)), (1, .int (nI b)), (2, .int g)]) hx hb dX5_quarrels_47 rfl hl (by decide) rfl (fun ls hl => ?_)
          refine lv_iinc (v := (nI (i5 + 1))) (lv' := [(4, .int (nI (i5 + 1))), (3, .int (nI 1)), (0, .ref (a 0)), (1, .int (nI b)), (2, .int g)]) hx hb dX5_quarrels_48 hl (k := 1) rfl (nI_1 _) (by decide) rfl (fun ls hl => ?_)
          refine lv_goto (tgt := 5) hx hb dX5_quarrels_51 (by decide) ?_
          exact ih5 ((i5 + 1), (nI 1)) H locs ls ⟨⟨by omega, by first | exact Or.inl rfl | exact Or.inr rfl | assumption⟩, hq, hP, hS, lv_sub hl [0, 1, 2, 3, 4] rfl⟩
def fX5_reason (ms : (Nat → Int32)) (b : Nat) (g : Int32) (hc : Int32) : Int32 := (if (ms (b + 27)) = (nI 1) then (if g = 0 then ((nI 2)) else (if (g &&& ((ms (b + 2)) ^^^ (-1))) = 0 then (if (fX5_quarrels ms (b) g) = 0 then (if hc = 0 then (if (ms (b + 30)) ≤ (ms (b + 31)) then (if (ms (b + 29)) ≤ (fX5_bits (fX5_owned ms (b) g)) then (if (fX5_keyBy ms (b) (fX5_owned ms (b) g)) = (ms (b + 28)) then ((nI 0)) else ((nI 6))) else ((nI 5))) else ((nI 4))) else (if (ms (b + 29)) ≤ (fX5_bits (fX5_owned ms (b) g)) then (if (fX5_keyBy ms (b) (fX5_owned ms (b) g)) = (ms (b + 28)) then ((nI 0)) else ((nI 6))) else ((nI 5)))) else ((nI 3))) else ((nI 2)))) else ((nI 1)))
set_option maxHeartbeats 4000000 in
set_option maxRecDepth 100000 in
theorem kX5_reason (l : Launch) (Γ : wG) (a : Nat → Nat) (ms : (Nat → Int32)) (mt : (Nat → Int32)) (mc : (Nat → Int32)) (md : (Nat → Int32)) (m0 : Int32) (m1 : Int32) (m2 : Int32) (m3 : Int32) (m4 : Int32) (m5 : Int32) (b : Nat) (g : Int32) (hc : Int32) (hb : b ≤ 406) : LI l Γ yX5_reason wsX5_reason ({ frames := 3, cells := 0, slots := 0, locals := 73 }) [.ref (a 0), .int (nI b), .int g, .int hc] [moB Γ a ms mt mc md m0 m1 m2 m3 m4 m5] (fX5_reason ms b g hc) := by
  intro sz
  refine Met.ofW (cc := cX5_reason) (maxL := 5) (ret := (some .int)) (by decide) rfl ?_
  intro p e s m args below meth c s₁ B hml hv
  obtain ⟨rfl, hsz, hP, hK, hD0, hAm⟩ := hv
  have hx := B.exec
  have hb := B.bytes
  have hr := B.returns
  have hts := atoms_spec (ws := wsX5_reason) B.pre
  have hown : s.vm.findClass RX5 = some m.cls := findClass_of_methodNamed B.named
  have hlocks := B.notSynchronized
  subst hsz
  have hD := hD0.self (sz := s.heap.size)
  generalize hBe : va_A (wcat [moB Γ a ms mt mc md m0 m1 m2 m3 m4 m5]) s.heap.size = B0 at hD hAm
  obtain ⟨A, hAe⟩ : ∃ A, A = va_A [] s.heap.size := ⟨_, rfl⟩
  rw [← hAe]
  have hA : ∀ q : Nat, s.heap.size ≤ q → A q := fun q h => by rw [hAe]; exact Or.inr h
  have hAB : ∀ q : Nat, A q → B0 q := fun q h => by rw [hAe] at h; rw [← hBe]; exact Or.inr (wnone h)
  have hS : va_S A s.heap s.heap [] := va_S.rf
  have hl := lv_entry ([.ref (a 0), .int (nI b), .int g, .int hc]) (n := 5) (Nat.le_of_ble_eq_true rfl)
  rw [lg_entry_eq]
  generalize (lg_sl ([.ref (a 0), .int (nI b), .int g, .int hc]) ++ List.replicate (5 - (lg_sl ([.ref (a 0), .int (nI b), .int g, .int hc])).length) Slot.unset).toArray = ls at hl ⊢
  have hl : lv_has ls 5 [(0, .ref (a 0)), (1, .int (nI b)), (2, .int g), (3, .int hc)] := hl
  have hi5 : ∀ w ∈ wsX50, w ∈ wsX5_reason := by decide +kernel
  have kf7 := hts (.fieldLink RX5 7 "CapsuleKeepersModel" "s" "[I") (by decide +kernel)
  have hq : (fX5_reason ms b g hc) = (if (ms (b + 27)) = (nI 1) then (if g = 0 then ((nI 2)) else (if (g &&& ((ms (b + 2)) ^^^ (-1))) = 0 then (if (fX5_quarrels ms (b) g) = 0 then (if hc = 0 then (if (ms (b + 30)) ≤ (ms (b + 31)) then (if (ms (b + 29)) ≤ (fX5_bits (fX5_owned ms (b) g)) then (if (fX5_keyBy ms (b) (fX5_owned ms (b) g)) = (ms (b + 28)) then ((nI 0)) else ((nI 6))) else ((nI 5))) else ((nI 4))) else (if (ms (b + 29)) ≤ (fX5_bits (fX5_owned ms (b) g)) then (if (fX5_keyBy ms (b) (fX5_owned ms (b) g)) = (ms (b + 28)) then ((nI 0)) else ((nI 6))) else ((nI 5)))) else ((nI 3))) else ((nI 2)))) else ((nI 1))) := rfl
  refine lv_aload_n hx hb dX5_reason_0 rfl (lv_at hl 0 rfl) ?_
  refine va_get (D := Γ.1) (ci := 5) (v := .ref (a 1)) (C := RX5) (T := TX5) (N := 10) hx hb hts hi5 hown hK hP 0 rfl rfl 0 (by decide) kf7 (fun _ h9 => h9) rfl dX5_reason_1 ?_
  refine lv_iload_n hx hb dX5_reason_4 rfl (lv_at hl 1 rfl) ?_
  refine lv_bipush (v := (nI 27)) hx hb dX5_reason_5 (by decide) ?_
  refine lv_iadd hx hb dX5_reason_7 ?_
  refine lv_eqi (y := (nI (b + 27))) (nI_add _ _) ?_
  refine va_iald_n (f := ms) hx hb hK hP 1 0 rfl rfl (by omega) (Nat.le_of_ble_eq_true rfl) dX5_reason_8 ?_
  refine lv_iconst (v := (nI 1)) hx hb dX5_reason_9 (by decide) ?_
  refine lv_icmp_eq (tgt := 15) hx hb dX5_reason_10 (by decide) (fun c_1 => ?_) (fun c_1 => ?_)
  · have hq := hq.trans (if_pos c_1)
    refine lv_iload_n hx hb dX5_reason_15 rfl (lv_at hl 2 rfl) ?_
    refine lv_if_eq (tgt := 34) hx hb dX5_reason_16 (by decide) (fun c_2 => ?_) (fun c_2 => ?_)
    · have hq := hq.trans (if_pos c_2)
      refine lv_iconst (v := (nI 2)) hx hb dX5_reason_34 (by decide) ?_
      exact W.iret (v := (nI 2)) hx hb hr (fun t ht hW => eLI hS ht (by rw [hq])) hS.2.2 dX5_reason_35
    · have hq := hq.trans (if_neg c_2)
      refine lv_iload_n hx hb dX5_reason_19 rfl (lv_at hl 2 rfl) ?_
      refine lv_aload_n hx hb dX5_reason_20 rfl (lv_at hl 0 rfl) ?_
      refine va_get (D := Γ.1) (ci := 5) (v := .ref (a 1)) (C := RX5) (T := TX5) (N := 10) hx hb hts hi5 hown hK hP 0 rfl rfl 0 (by decide) kf7 (fun _ h9 => h9) rfl dX5_reason_21 ?_
      refine lv_iload_n hx hb dX5_reason_24 rfl (lv_at hl 1 rfl) ?_
      refine lv_iconst (v := (nI 2)) hx hb dX5_reason_25 (by decide) ?_
      refine lv_iadd hx hb dX5_reason_26 ?_
      refine lv_eqi (y := (nI (b + 2))) (nI_add _ _) ?_
      refine va_iald_n (f := ms) hx hb hK hP 1 0 rfl rfl (by omega) (Nat.le_of_ble_eq_true rfl) dX5_reason_27 ?_
      refine lv_iconst (v := (-1)) hx hb dX5_reason_28 (by decide) ?_
      refine lv_ixor hx hb dX5_reason_29 ?_
      refine lv_iand hx hb dX5_reason_30 ?_
      refine lv_if_eq (tgt := 36) hx hb dX5_reason_31 (by decide) (fun c_3 => ?_) (fun c_3 => ?_)
      · have hq := hq.trans (if_pos c_3)
        refine lv_aload_n hx hb dX5_reason_36 rfl (lv_at hl 0 rfl) ?_
        refine lv_iload_n hx hb dX5_reason_37 rfl (lv_at hl 1 rfl) ?_
        refine lv_iload_n hx hb dX5_reason_38 rfl (lv_at hl 2 rfl) ?_
        refine cLI (va_runV (As := [.int (nI b), .int g]) (rest := []) ⟨hx, hb, hml, hown, hts⟩ ((kX5_quarrels l Γ a ms mt mc md m0 m1 m2 m3 m4 m5 (b) g (by first | assumption | omega)) _) (cwV 2 hts gX5_reason_X5_quarrels rfl rfl rfl (by decide +kernel) ⟨Nat.le_of_ble_eq_true rfl, Nat.le_of_ble_eq_true rfl⟩) ⟨wPre_blind, va_recv hK hP (ci := 5) (q0 := 0) rfl rfl, wPre_mk hP hD hK hS hA hAB hAm [0] rfl rfl⟩ rfl rfl hl.1 rfl (lv_room (Nat.le_of_ble_eq_true rfl)) dX5_reason_39 ⟨Nat.zero_le _, Nat.zero_le _⟩) hP hS hA (fun H locs hP hS => ?_)
        refine lv_if_eq (tgt := 47) hx hb dX5_reason_42 (by decide) (fun c_4 => ?_) (fun c_4 => ?_)
        · have hq := hq.trans (if_pos c_4)
          refine lv_iload_n hx hb dX5_reason_47 rfl (lv_at hl 3 rfl) ?_
          refine lv_if_ne (tgt := 74) hx hb dX5_reason_48 (by decide) (fun c_5 => ?_) (fun c_5 => ?_)
          · have hq := hq.trans (if_neg c_5)
            refine lv_aload_n hx hb dX5_reason_74 rfl (lv_at hl 0 rfl) ?_
            refine lv_iload_n hx hb dX5_reason_75 rfl (lv_at hl 1 rfl) ?_
            refine lv_iload_n hx hb dX5_reason_76 rfl (lv_at hl 2 rfl) ?_
            refine cLI (va_runV (As := [.int (nI b), .int g]) (rest := []) ⟨hx, hb, hml, hown, hts⟩ ((kX5_owned l Γ a ms mt mc md m0 m1 m2 m3 m4 m5 (b) g (by first | assumption | omega)) _) (cwV 2 hts gX5_reason_X5_owned rfl rfl rfl (by decide +kernel) ⟨Nat.le_of_ble_eq_true rfl, Nat.le_of_ble_eq_true rfl⟩) ⟨wPre_blind, va_recv hK hP (ci := 5) (q0 := 0) rfl rfl, wPre_mk hP hD hK hS hA hAB hAm [0] rfl rfl⟩ rfl rfl hl.1 rfl (lv_room (Nat.le_of_ble_eq_true rfl)) dX5_reason_77 ⟨Nat.zero_le _, Nat.zero_le _⟩) hP hS hA (fun H locs hP hS => ?_)
            refine lv_istore (lv' := [(4, .int (fX5_owned ms (b) g)), (0, .ref (a 0)), (1, .int (nI b)), (2, .int g), (3, .int hc)]) hx hb dX5_reason_80 hl (by decide) rfl (fun ls hl => ?_)
            refine lv_iload hx hb dX5_reason_82 (lv_at hl 0 rfl) ?_
            refine cLI (va_runS (As := [.int (fX5_owned ms (b) g)]) (rest := []) ⟨hx, hb, hml, hown, hts⟩ ((kX5_bits l Γ (fX5_owned ms (b) g)) _) (va_cwS 1 hts gX5_reason_X5_bits rfl rfl rfl (by decide +kernel) ⟨Nat.le_of_ble_eq_true rfl, Nat.le_of_ble_eq_true rfl⟩) ⟨wPre_blind, wPre_mk hP hD hK hS hA hAB hAm [] rfl rfl⟩ rfl rfl hl.1 rfl (lv_room (Nat.le_of_ble_eq_true rfl)) dX5_reason_84 ⟨Nat.zero_le _, Nat.zero_le _⟩) hP hS hA (fun H locs hP hS => ?_)
            refine lv_aload_n hx hb dX5_reason_87 rfl (lv_at hl 1 rfl) ?_
            refine va_get (D := Γ.1) (ci := 5) (v := .ref (a 1)) (C := RX5) (T := TX5) (N := 10) hx hb hts hi5 hown hK hP 0 rfl rfl 0 (by decide) kf7 (fun _ h9 => h9) rfl dX5_reason_88 ?_
            refine lv_iload_n hx hb dX5_reason_91 rfl (lv_at hl 2 rfl) ?_
            refine lv_bipush (v := (nI 29)) hx hb dX5_reason_92 (by decide) ?_
            refine lv_iadd hx hb dX5_reason_94 ?_
            refine lv_eqi (y := (nI (b + 29))) (nI_add _ _) ?_
            refine va_iald_n (f := ms) hx hb hK hP 1 0 rfl rfl (by omega) (Nat.le_of_ble_eq_true rfl) dX5_reason_95 ?_
            refine lv_icmp_ge (tgt := 101) hx hb dX5_reason_96 (by decide) (fun c_6 => ?_) (fun c_6 => ?_)
            · have hq := hq.trans (if_pos c_6)
              refine lv_aload_n hx hb dX5_reason_101 rfl (lv_at hl 1 rfl) ?_
              refine lv_iload_n hx hb dX5_reason_102 rfl (lv_at hl 2 rfl) ?_
              refine lv_iload hx hb dX5_reason_103 (lv_at hl 0 rfl) ?_
              refine cLI (va_runV (As := [.int (nI b), .int (fX5_owned ms (b) g)]) (rest := []) ⟨hx, hb, hml, hown, hts⟩ ((kX5_keyBy l Γ a ms mt mc md m0 m1 m2 m3 m4 m5 (b) (fX5_owned ms (b) g) (by first | assumption | omega)) _) (cwV 2 hts gX5_reason_X5_keyBy rfl rfl rfl (by decide +kernel) ⟨Nat.le_of_ble_eq_true rfl, Nat.le_of_ble_eq_true rfl⟩) ⟨wPre_blind, va_recv hK hP (ci := 5) (q0 := 0) rfl rfl, wPre_mk hP hD hK hS hA hAB hAm [0] rfl rfl⟩ rfl rfl hl.1 rfl (lv_room (Nat.le_of_ble_eq_true rfl)) dX5_reason_105 ⟨Nat.zero_le _, Nat.zero_le _⟩) hP hS hA (fun H locs hP hS => ?_)
              refine lv_aload_n hx hb dX5_reason_108 rfl (lv_at hl 1 rfl) ?_
              refine va_get (D := Γ.1) (ci := 5) (v := .ref (a 1)) (C := RX5) (T := TX5) (N := 10) hx hb hts hi5 hown hK hP 0 rfl rfl 0 (by decide) kf7 (fun _ h9 => h9) rfl dX5_reason_109 ?_
              refine lv_iload_n hx hb dX5_reason_112 rfl (lv_at hl 2 rfl) ?_
              refine lv_bipush (v := (nI 28)) hx hb dX5_reason_113 (by decide) ?_
              refine lv_iadd hx hb dX5_reason_115 ?_
              refine lv_eqi (y := (nI (b + 28))) (nI_add _ _) ?_
              refine va_iald_n (f := ms) hx hb hK hP 1 0 rfl rfl (by omega) (Nat.le_of_ble_eq_true rfl) dX5_reason_116 ?_
              refine lv_icmp_ne (tgt := 124) hx hb dX5_reason_117 (by decide) (fun c_7 => ?_) (fun c_7 => ?_)
              · have hq := hq.trans (if_neg c_7)
                refine lv_bipush (v := (nI 6)) hx hb dX5_reason_124 (by decide) ?_
                exact W.iret (v := (nI 6)) hx hb hr (fun t ht hW => eLI hS ht (by rw [hq])) hS.2.2 dX5_reason_126
              · have hq := hq.trans (if_pos c_7)
                refine lv_iconst (v := (nI 0)) hx hb dX5_reason_120 (by decide) ?_
                refine lv_goto (tgt := 126) hx hb dX5_reason_121 (by decide) ?_
                exact W.iret (v := (nI 0)) hx hb hr (fun t ht hW => eLI hS ht (by rw [hq])) hS.2.2 dX5_reason_126
            · have hq := hq.trans (if_neg c_6)
              refine lv_iconst (v := (nI 5)) hx hb dX5_reason_99 (by decide) ?_
              exact W.iret (v := (nI 5)) hx hb hr (fun t ht hW => eLI hS ht (by rw [hq])) hS.2.2 dX5_reason_100
          · have hq := hq.trans (if_pos c_5)
            refine lv_aload_n hx hb dX5_reason_51 rfl (lv_at hl 0 rfl) ?_
            refine va_get (D := Γ.1) (ci := 5) (v := .ref (a 1)) (C := RX5) (T := TX5) (N := 10) hx hb hts hi5 hown hK hP 0 rfl rfl 0 (by decide) kf7 (fun _ h9 => h9) rfl dX5_reason_52 ?_
            refine lv_iload_n hx hb dX5_reason_55 rfl (lv_at hl 1 rfl) ?_
            refine lv_bipush (v := (nI 31)) hx hb dX5_reason_56 (by decide) ?_
            refine lv_iadd hx hb dX5_reason_58 ?_
            refine lv_eqi (y := (nI (b + 31))) (nI_add _ _) ?_
            refine va_iald_n (f := ms) hx hb hK hP 1 0 rfl rfl (by omega) (Nat.le_of_ble_eq_true rfl) dX5_reason_59 ?_
            refine lv_aload_n hx hb dX5_reason_60 rfl (lv_at hl 0 rfl) ?_
            refine va_get (D := Γ.1) (ci := 5) (v := .ref (a 1)) (C := RX5) (T := TX5) (N := 10) hx hb hts hi5 hown hK hP 0 rfl rfl 0 (by decide) kf7 (fun _ h9 => h9) rfl dX5_reason_61 ?_
            refine lv_iload_n hx hb dX5_reason_64 rfl (lv_at hl 1 rfl) ?_
            refine lv_bipush (v := (nI 30)) hx hb dX5_reason_65 (by decide) ?_
            refine lv_iadd hx hb dX5_reason_67 ?_
            refine lv_eqi (y := (nI (b + 30))) (nI_add _ _) ?_
            refine va_iald_n (f := ms) hx hb hK hP 1 0 rfl rfl (by omega) (Nat.le_of_ble_eq_true rfl) dX5_reason_68 ?_
            refine lv_icmp_ge (tgt := 74) hx hb dX5_reason_69 (by decide) (fun c_8 => ?_) (fun c_8 => ?_)
            · have hq := hq.trans (if_pos c_8)
              refine lv_aload_n hx hb dX5_reason_74 rfl (lv_at hl 0 rfl) ?_
              refine lv_iload_n hx hb dX5_reason_75 rfl (lv_at hl 1 rfl) ?_
              refine lv_iload_n hx hb dX5_reason_76 rfl (lv_at hl 2 rfl) ?_
              refine cLI (va_runV (As := [.int (nI b), .int g]) (rest := []) ⟨hx, hb, hml, hown, hts⟩ ((kX5_owned l Γ a ms mt mc md m0 m1 m2 m3 m4 m5 (b) g (by first | assumption | omega)) _) (cwV 2 hts gX5_reason_X5_owned rfl rfl rfl (by decide +kernel) ⟨Nat.le_of_ble_eq_true rfl, Nat.le_of_ble_eq_true rfl⟩) ⟨wPre_blind, va_recv hK hP (ci := 5) (q0 := 0) rfl rfl, wPre_mk hP hD hK hS hA hAB hAm [0] rfl rfl⟩ rfl rfl hl.1 rfl (lv_room (Nat.le_of_ble_eq_true rfl)) dX5_reason_77 ⟨Nat.zero_le _, Nat.zero_le _⟩) hP hS hA (fun H locs hP hS => ?_)
              refine lv_istore (lv' := [(4, .int (fX5_owned ms (b) g)), (0, .ref (a 0)), (1, .int (nI b)), (2, .int g), (3, .int hc)]) hx hb dX5_reason_80 hl (by decide) rfl (fun ls hl => ?_)
              refine lv_iload hx hb dX5_reason_82 (lv_at hl 0 rfl) ?_
              refine cLI (va_runS (As := [.int (fX5_owned ms (b) g)]) (rest := []) ⟨hx, hb, hml, hown, hts⟩ ((kX5_bits l Γ (fX5_owned ms (b) g)) _) (va_cwS 1 hts gX5_reason_X5_bits rfl rfl rfl (by decide +kernel) ⟨Nat.le_of_ble_eq_true rfl, Nat.le_of_ble_eq_true rfl⟩) ⟨wPre_blind, wPre_mk hP hD hK hS hA hAB hAm [] rfl rfl⟩ rfl rfl hl.1 rfl (lv_room (Nat.le_of_ble_eq_true rfl)) dX5_reason_84 ⟨Nat.zero_le _, Nat.zero_le _⟩) hP hS hA (fun H locs hP hS => ?_)
              refine lv_aload_n hx hb dX5_reason_87 rfl (lv_at hl 1 rfl) ?_
              refine va_get (D := Γ.1) (ci := 5) (v := .ref (a 1)) (C := RX5) (T := TX5) (N := 10) hx hb hts hi5 hown hK hP 0 rfl rfl 0 (by decide) kf7 (fun _ h9 => h9) rfl dX5_reason_88 ?_
              refine lv_iload_n hx hb dX5_reason_91 rfl (lv_at hl 2 rfl) ?_
              refine lv_bipush (v := (nI 29)) hx hb dX5_reason_92 (by decide) ?_
              refine lv_iadd hx hb dX5_reason_94 ?_
              refine lv_eqi (y := (nI (b + 29))) (nI_add _ _) ?_
              refine va_iald_n (f := ms) hx hb hK hP 1 0 rfl rfl (by omega) (Nat.le_of_ble_eq_true rfl) dX5_reason_95 ?_
              refine lv_icmp_ge (tgt := 101) hx hb dX5_reason_96 (by decide) (fun c_9 => ?_) (fun c_9 => ?_)
              · have hq := hq.trans (if_pos c_9)
                refine lv_aload_n hx hb dX5_reason_101 rfl (lv_at hl 1 rfl) ?_
                refine lv_iload_n hx hb dX5_reason_102 rfl (lv_at hl 2 rfl) ?_
                refine lv_iload hx hb dX5_reason_103 (lv_at hl 0 rfl) ?_
                refine cLI (va_runV (As := [.int (nI b), .int (fX5_owned ms (b) g)]) (rest := []) ⟨hx, hb, hml, hown, hts⟩ ((kX5_keyBy l Γ a ms mt mc md m0 m1 m2 m3 m4 m5 (b) (fX5_owned ms (b) g) (by first | assumption | omega)) _) (cwV 2 hts gX5_reason_X5_keyBy rfl rfl rfl (by decide +kernel) ⟨Nat.le_of_ble_eq_true rfl, Nat.le_of_ble_eq_true rfl⟩) ⟨wPre_blind, va_recv hK hP (ci := 5) (q0 := 0) rfl rfl, wPre_mk hP hD hK hS hA hAB hAm [0] rfl rfl⟩ rfl rfl hl.1 rfl (lv_room (Nat.le_of_ble_eq_true rfl)) dX5_reason_105 ⟨Nat.zero_le _, Nat.zero_le _⟩) hP hS hA (fun H locs hP hS => ?_)
                refine lv_aload_n hx hb dX5_reason_108 rfl (lv_at hl 1 rfl) ?_
                refine va_get (D := Γ.1) (ci := 5) (v := .ref (a 1)) (C := RX5) (T := TX5) (N := 10) hx hb hts hi5 hown hK hP 0 rfl rfl 0 (by decide) kf7 (fun _ h9 => h9) rfl dX5_reason_109 ?_
                refine lv_iload_n hx hb dX5_reason_112 rfl (lv_at hl 2 rfl) ?_
                refine lv_bipush (v := (nI 28)) hx hb dX5_reason_113 (by decide) ?_
                refine lv_iadd hx hb dX5_reason_115 ?_
                refine lv_eqi (y := (nI (b + 28))) (nI_add _ _) ?_
                refine va_iald_n (f := ms) hx hb hK hP 1 0 rfl rfl (by omega) (Nat.le_of_ble_eq_true rfl) dX5_reason_116 ?_
                refine lv_icmp_ne (tgt := 124) hx hb dX5_reason_117 (by decide) (fun c_10 => ?_) (fun c_10 => ?_)
                · have hq := hq.trans (if_neg c_10)
                  refine lv_bipush (v := (nI 6)) hx hb dX5_reason_124 (by decide) ?_
                  exact W.iret (v := (nI 6)) hx hb hr (fun t ht hW => eLI hS ht (by rw [hq])) hS.2.2 dX5_reason_126
                · have hq := hq.trans (if_pos c_10)
                  refine lv_iconst (v := (nI 0)) hx hb dX5_reason_120 (by decide) ?_
                  refine lv_goto (tgt := 126) hx hb dX5_reason_121 (by decide) ?_
                  exact W.iret (v := (nI 0)) hx hb hr (fun t ht hW => eLI hS ht (by rw [hq])) hS.2.2 dX5_reason_126
              · have hq := hq.trans (if_neg c_9)
                refine lv_iconst (v := (nI 5)) hx hb dX5_reason_99 (by decide) ?_
                exact W.iret (v := (nI 5)) hx hb hr (fun t ht hW => eLI hS ht (by rw [hq])) hS.2.2 dX5_reason_100
            · have hq := hq.trans (if_neg c_8)
              refine lv_iconst (v := (nI 4)) hx hb dX5_reason_72 (by decide) ?_
              exact W.iret (v := (nI 4)) hx hb hr (fun t ht hW => eLI hS ht (by rw [hq])) hS.2.2 dX5_reason_73
        · have hq := hq.trans (if_neg c_4)
          refine lv_iconst (v := (nI 3)) hx hb dX5_reason_45 (by decide) ?_
          exact W.iret (v := (nI 3)) hx hb hr (fun t ht hW => eLI hS ht (by rw [hq])) hS.2.2 dX5_reason_46
      · have hq := hq.trans (if_neg c_3)
        refine lv_iconst (v := (nI 2)) hx hb dX5_reason_34 (by decide) ?_
        exact W.iret (v := (nI 2)) hx hb hr (fun t ht hW => eLI hS ht (by rw [hq])) hS.2.2 dX5_reason_35
  · have hq := hq.trans (if_neg c_1)
    refine lv_iconst (v := (nI 1)) hx hb dX5_reason_13 (by decide) ?_
    exact W.iret (v := (nI 1)) hx hb hr (fun t ht hW => eLI hS ht (by rw [hq])) hS.2.2 dX5_reason_14
def fX5_groupsOf_L4 (ms : (Nat → Int32)) (b : Nat) : Nat → Nat → Int32 → Int32
  | 0, i4, x2_4 => (x2_4)
  | n4 + 1, i4, x2_4 => (if (fX5_reason ms (b) (nI i4) (nI 1)) = 0 then (fX5_groupsOf_L4 ms b n4 (i4 + 1) (x2_4 + (nI 1))) else (fX5_groupsOf_L4 ms b n4 (i4 + 1) (x2_4 + (nI 0))))
def fX5_groupsOf (ms : (Nat → Int32)) (b : Nat) : Int32 := (fX5_groupsOf_L4 ms b (255) 1 (nI 0))
set_option maxHeartbeats 4000000 in
set_option maxRecDepth 100000 in
theorem kX5_groupsOf (l : Launch) (Γ : wG) (a : Nat → Nat) (ms : (Nat → Int32)) (mt : (Nat → Int32)) (mc : (Nat → Int32)) (md : (Nat → Int32)) (m0 : Int32) (m1 : Int32) (m2 : Int32) (m3 : Int32) (m4 : Int32) (m5 : Int32) (b : Nat) (hb : b ≤ 406) : LI l Γ yX5_groupsOf wsX5_groupsOf ({ frames := 4, cells := 0, slots := 0, locals := 97 }) [.ref (a 0), .int (nI b)] [moB Γ a ms mt mc md m0 m1 m2 m3 m4 m5] (fX5_groupsOf ms b) := by
  intro sz
  refine Met.ofW (cc := cX5_groupsOf) (maxL := 4) (ret := (some .int)) (by decide) rfl ?_
  intro p e s m args below meth c s₁ B hml hv
  obtain ⟨rfl, hsz, hP, hK, hD0, hAm⟩ := hv
  have hx := B.exec
  have hb := B.bytes
  have hr := B.returns
  have hts := atoms_spec (ws := wsX5_groupsOf) B.pre
  have hown : s.vm.findClass RX5 = some m.cls := findClass_of_methodNamed B.named
  have hlocks := B.notSynchronized
  subst hsz
  have hD := hD0.self (sz := s.heap.size)
  generalize hBe : va_A (wcat [moB Γ a ms mt mc md m0 m1 m2 m3 m4 m5]) s.heap.size = B0 at hD hAm
  obtain ⟨A, hAe⟩ : ∃ A, A = va_A [] s.heap.size := ⟨_, rfl⟩
  rw [← hAe]
  have hA : ∀ q : Nat, s.heap.size ≤ q → A q := fun q h => by rw [hAe]; exact Or.inr h
  have hAB : ∀ q : Nat, A q → B0 q := fun q h => by rw [hAe] at h; rw [← hBe]; exact Or.inr (wnone h)
  have hS : va_S A s.heap s.heap [] := va_S.rf
  have hl := lv_entry ([.ref (a 0), .int (nI b)]) (n := 4) (Nat.le_of_ble_eq_true rfl)
  rw [lg_entry_eq]
  generalize (lg_sl ([.ref (a 0), .int (nI b)]) ++ List.replicate (4 - (lg_sl ([.ref (a 0), .int (nI b)])).length) Slot.unset).toArray = ls at hl ⊢
  have hl : lv_has ls 4 [(0, .ref (a 0)), (1, .int (nI b))] := hl
  have hq : (fX5_groupsOf ms b) = (fX5_groupsOf_L4 ms b (255) 1 (nI 0)) := rfl
  refine lv_iconst (v := (nI 0)) hx hb dX5_groupsOf_0 (by decide) ?_
  refine lv_istore_n (lv' := [(2, .int (nI 0)), (0, .ref (a 0)), (1, .int (nI b))]) hx hb dX5_groupsOf_1 rfl hl (by decide) rfl (fun ls hl => ?_)
  refine lv_iconst (v := (nI 1)) hx hb dX5_groupsOf_2 (by decide) ?_
  refine lv_istore_n (lv' := [(3, .int (nI 1)), (2, .int (nI 0)), (0, .ref (a 0)), (1, .int (nI b))]) hx hb dX5_groupsOf_3 rfl hl (by decide) rfl (fun ls hl => ?_)
  refine wl (pc := 4) (σ := Nat × Int32) (fun n (i4, x2_4) H locs ls => (i4 + n = 256) ∧ (fX5_groupsOf ms b) = fX5_groupsOf_L4 ms b n i4 x2_4 ∧ va_P Γ.1 vwCl (wcat [moB Γ a ms mt mc md m0 m1 m2 m3 m4 m5]) H ∧ va_S A s.heap H locs ∧ lv_has ls 4 [(3, .int (nI i4)), (2, .int x2_4), (0, .ref (a 0)), (1, .int (nI b))]) ?_ ?_ (255) (1, (nI 0)) _ _ _ ⟨by omega, hq, hP, hS, lv_sub hl [0, 1, 2, 3] rfl⟩
  · intro ⟨i4, x2_4⟩ H locs ls h
    obtain ⟨hn4, hq, hP, hS, hl⟩ := h
    try dsimp only at hn4 hq hP hl
    replace hq : (fX5_groupsOf ms b) = (x2_4) := hq
    refine lv_iload_n hx hb dX5_groupsOf_4 rfl (lv_at hl 0 rfl) ?_
    refine lv_sipush (v := (nI 256)) hx hb dX5_groupsOf_5 (by decide) ?_
    refine lv_icmp_ge (tgt := 35) hx hb dX5_groupsOf_8 (by decide) (fun c_8 => ?_) (fun c_8 => absurd (nI_le (by omega) (by omega)) c_8)
    refine lv_iload_n hx hb dX5_groupsOf_35 rfl (lv_at hl 1 rfl) ?_
    exact W.iret (v := x2_4) hx hb hr (fun t ht hW => eLI hS ht (by rw [hq])) hS.2.2 dX5_groupsOf_36
  · intro n4 ih4 ⟨i4, x2_4⟩ H locs ls h
    obtain ⟨hn4, hq, hP, hS, hl⟩ := h
    try dsimp only at hn4 hq hP hl
    replace hq : (fX5_groupsOf ms b) = (if (fX5_reason ms (b) (nI i4) (nI 1)) = 0 then (fX5_groupsOf_L4 ms b n4 (i4 + 1) (x2_4 + (nI 1))) else (fX5_groupsOf_L4 ms b n4 (i4 + 1) (x2_4 + (nI 0)))) := hq
    refine lv_iload_n hx hb dX5_groupsOf_4 rfl (lv_at hl 0 rfl) ?_
    refine lv_sipush (v := (nI 256)) hx hb dX5_groupsOf_5 (by decide) ?_
    refine lv_icmp_ge (tgt := 35) hx hb dX5_groupsOf_8 (by decide) (fun c_8 => absurd c_8 (nI_ge (by omega) (by omega))) (fun c_8 => ?_)
    refine lv_iload_n hx hb dX5_groupsOf_11 rfl (lv_at hl 1 rfl) ?_
    refine lv_aload_n hx hb dX5_groupsOf_12 rfl (lv_at hl 2 rfl) ?_
    refine lv_iload_n hx hb dX5_groupsOf_13 rfl (lv_at hl 3 rfl) ?_
    refine lv_iload_n hx hb dX5_groupsOf_14 rfl (lv_at hl 0 rfl) ?_
    refine lv_iconst (v := (nI 1)) hx hb dX5_groupsOf_15 (by decide) ?_
    refine cLI (va_runV (As := [.int (nI b), .int (nI i4), .int (nI 1)]) (rest := [.int x2_4]) ⟨hx, hb, hml, hown, hts⟩ ((kX5_reason l Γ a ms mt mc md m0 m1 m2 m3 m4 m5 (b) (nI i4) (nI 1) (by first | assumption | omega)) _) (cwV 3 hts gX5_groupsOf_X5_reason rfl rfl rfl (by decide +kernel) ⟨Nat.le_of_ble_eq_true rfl, Nat.le_of_ble_eq_true rfl⟩) ⟨wPre_blind, va_recv hK hP (ci := 5) (q0 := 0) rfl rfl, wPre_mk hP hD hK hS hA hAB hAm [0] rfl rfl⟩ rfl rfl hl.1 rfl (lv_room (Nat.le_of_ble_eq_true rfl)) dX5_groupsOf_16 ⟨Nat.zero_le _, Nat.zero_le _⟩) hP hS hA (fun H locs hP hS => ?_)
    refine lv_if_ne (tgt := 26) hx hb dX5_groupsOf_19 (by decide) (fun c_1 => ?_) (fun c_1 => ?_)
    · have hq := hq.trans (if_neg c_1)
      refine lv_iconst (v := (nI 0)) hx hb dX5_groupsOf_26 (by decide) ?_
      refine lv_iadd hx hb dX5_groupsOf_27 ?_
      refine lv_istore_n (lv' := [(2, .int (x2_4 + (nI 0))), (3, .int (nI i4)), (0, .ref (a 0)), (1, .int (nI b))]) hx hb dX5_groupsOf_28 rfl hl (by decide) rfl (fun ls hl => ?_)
      refine lv_iinc (v := (nI (i4 + 1))) (lv' := [(3, .int (nI (i4 + 1))), (2, .int (x2_4 + (nI 0))), (0, .ref (a 0)), (1, .int (nI b))]) hx hb dX5_groupsOf_29 hl (k := 1) rfl (nI_1 _) (by decide) rfl (fun ls hl => ?_)
      refine lv_goto (tgt := 4) hx hb dX5_groupsOf_32 (by decide) ?_
      exact ih4 ((i4 + 1), (x2_4 + (nI 0))) H locs ls ⟨by omega, hq, hP, hS, lv_sub hl [0, 1, 2, 3] rfl⟩
    · have hq := hq.trans (if_pos c_1)
      refine lv_iconst (v := (nI 1)) hx hb dX5_groupsOf_22 (by decide) ?_
      refine lv_goto (tgt := 27) hx hb dX5_groupsOf_23 (by decide) ?_
      refine lv_iadd hx hb dX5_groupsOf_27 ?_
      refine lv_istore_n (lv' := [(2, .int (x2_4 + (nI 1))), (3, .int (nI i4)), (0, .ref (a 0)), (1, .int (nI b))]) hx hb dX5_groupsOf_28 rfl hl (by decide) rfl (fun ls hl => ?_)
      refine lv_iinc (v := (nI (i4 + 1))) (lv' := [(3, .int (nI (i4 + 1))), (2, .int (x2_4 + (nI 1))), (0, .ref (a 0)), (1, .int (nI b))]) hx hb dX5_groupsOf_29 hl (k := 1) rfl (nI_1 _) (by decide) rfl (fun ls hl => ?_)
      refine lv_goto (tgt := 4) hx hb dX5_groupsOf_32 (by decide) ?_
      exact ih4 ((i4 + 1), (x2_4 + (nI 1))) H locs ls ⟨by omega, hq, hP, hS, lv_sub hl [0, 1, 2, 3] rfl⟩
def fX5_areAlive (ms : (Nat → Int32)) (b : Nat) (k : Int32) (o : Int32) : Int32 := (if (fX5_has (ms (b + 2)) k) = 0 then ((nI 0)) else (if o < 0 then ((nI 1)) else (if (fX5_has (ms (b + 2)) o) = 0 then ((nI 0)) else ((nI 1)))))
set_option maxHeartbeats 4000000 in
set_option maxRecDepth 100000 in
theorem kX5_areAlive (l : Launch) (Γ : wG) (a : Nat → Nat) (ms : (Nat → Int32)) (mt : (Nat → Int32)) (mc : (Nat → Int32)) (md : (Nat → Int32)) (m0 : Int32) (m1 : Int32) (m2 : Int32) (m3 : Int32) (m4 : Int32) (m5 : Int32) (b : Nat) (k : Int32) (o : Int32) (hb : b ≤ 406) : LI l Γ yX5_areAlive wsX5_areAlive ({ frames := 1, cells := 0, slots := 0, locals := 21 }) [.ref (a 0), .int (nI b), .int k, .int o] [moB Γ a ms mt mc md m0 m1 m2 m3 m4 m5] (fX5_areAlive ms b k o) := by
  intro sz
  refine Met.ofW (cc := cX5_areAlive) (maxL := 4) (ret := (some .boolean)) (by decide) rfl ?_
  intro p e s m args below meth c s₁ B hml hv
  obtain ⟨rfl, hsz, hP, hK, hD0, hAm⟩ := hv
  have hx := B.exec
  have hb := B.bytes
  have hr := B.returns
  have hts := atoms_spec (ws := wsX5_areAlive) B.pre
  have hown : s.vm.findClass RX5 = some m.cls := findClass_of_methodNamed B.named
  have hlocks := B.notSynchronized
  subst hsz
  have hD := hD0.self (sz := s.heap.size)
  generalize hBe : va_A (wcat [moB Γ a ms mt mc md m0 m1 m2 m3 m4 m5]) s.heap.size = B0 at hD hAm
  obtain ⟨A, hAe⟩ : ∃ A, A = va_A [] s.heap.size := ⟨_, rfl⟩
  rw [← hAe]
  have hA : ∀ q : Nat, s.heap.size ≤ q → A q := fun q h => by rw [hAe]; exact Or.inr h
  have hAB : ∀ q : Nat, A q → B0 q := fun q h => by rw [hAe] at h; rw [← hBe]; exact Or.inr (wnone h)
  have hS : va_S A s.heap s.heap [] := va_S.rf
  have hl := lv_entry ([.ref (a 0), .int (nI b), .int k, .int o]) (n := 4) (Nat.le_of_ble_eq_true rfl)
  rw [lg_entry_eq]
  generalize (lg_sl ([.ref (a 0), .int (nI b), .int k, .int o]) ++ List.replicate (4 - (lg_sl ([.ref (a 0), .int (nI b), .int k, .int o])).length) Slot.unset).toArray = ls at hl ⊢
  have hl : lv_has ls 4 [(0, .ref (a 0)), (1, .int (nI b)), (2, .int k), (3, .int o)] := hl
  have hi5 : ∀ w ∈ wsX50, w ∈ wsX5_areAlive := by decide +kernel
  have kf7 := hts (.fieldLink RX5 7 "CapsuleKeepersModel" "s" "[I") (by decide +kernel)
  have hq : (fX5_areAlive ms b k o) = (if (fX5_has (ms (b + 2)) k) = 0 then ((nI 0)) else (if o < 0 then ((nI 1)) else (if (fX5_has (ms (b + 2)) o) = 0 then ((nI 0)) else ((nI 1))))) := rfl
  refine lv_aload_n hx hb dX5_areAlive_0 rfl (lv_at hl 0 rfl) ?_
  refine va_get (D := Γ.1) (ci := 5) (v := .ref (a 1)) (C := RX5) (T := TX5) (N := 10) hx hb hts hi5 hown hK hP 0 rfl rfl 0 (by decide) kf7 (fun _ h9 => h9) rfl dX5_areAlive_1 ?_
  refine lv_iload_n hx hb dX5_areAlive_4 rfl (lv_at hl 1 rfl) ?_
  refine lv_iconst (v := (nI 2)) hx hb dX5_areAlive_5 (by decide) ?_
  refine lv_iadd hx hb dX5_areAlive_6 ?_
  refine lv_eqi (y := (nI (b + 2))) (nI_add _ _) ?_
  refine va_iald_n (f := ms) hx hb hK hP 1 0 rfl rfl (by omega) (Nat.le_of_ble_eq_true rfl) dX5_areAlive_7 ?_
  refine lv_iload_n hx hb dX5_areAlive_8 rfl (lv_at hl 2 rfl) ?_
  refine cLI (va_runS (As := [.int (ms (b + 2)), .int k]) (rest := []) ⟨hx, hb, hml, hown, hts⟩ ((kX5_has l Γ (ms (b + 2)) k) _) (va_cwS 2 hts gX5_areAlive_X5_has rfl rfl rfl (by decide +kernel) ⟨Nat.le_of_ble_eq_true rfl, Nat.le_of_ble_eq_true rfl⟩) ⟨wPre_blind, wPre_mk hP hD hK hS hA hAB hAm [] rfl rfl⟩ rfl rfl hl.1 rfl (lv_room (Nat.le_of_ble_eq_true rfl)) dX5_areAlive_9 ⟨Nat.zero_le _, Nat.zero_le _⟩) hP hS hA (fun H locs hP hS => ?_)
  refine lv_if_eq (tgt := 38) hx hb dX5_areAlive_12 (by decide) (fun c_1 => ?_) (fun c_1 => ?_)
  · have hq := hq.trans (if_pos c_1)
    refine lv_iconst (v := (nI 0)) hx hb dX5_areAlive_38 (by decide) ?_
    exact W.zret (v := (nI 0)) hx hb hr (by first | rfl | decide) (fun t ht hW => eLI hS ht (by rw [hq])) hS.2.2 dX5_areAlive_39
  · have hq := hq.trans (if_neg c_1)
    refine lv_iload_n hx hb dX5_areAlive_15 rfl (lv_at hl 3 rfl) ?_
    refine lv_if_lt (tgt := 34) hx hb dX5_areAlive_16 (by decide) (fun c_2 => ?_) (fun c_2 => ?_)
    · have hq := hq.trans (if_pos c_2)
      refine lv_iconst (v := (nI 1)) hx hb dX5_areAlive_34 (by decide) ?_
      refine lv_goto (tgt := 39) hx hb dX5_areAlive_35 (by decide) ?_
      exact W.zret (v := (nI 1)) hx hb hr (by first | rfl | decide) (fun t ht hW => eLI hS ht (by rw [hq])) hS.2.2 dX5_areAlive_39
    · have hq := hq.trans (if_neg c_2)
      refine lv_aload_n hx hb dX5_areAlive_19 rfl (lv_at hl 0 rfl) ?_
      refine va_get (D := Γ.1) (ci := 5) (v := .ref (a 1)) (C := RX5) (T := TX5) (N := 10) hx hb hts hi5 hown hK hP 0 rfl rfl 0 (by decide) kf7 (fun _ h9 => h9) rfl dX5_areAlive_20 ?_
      refine lv_iload_n hx hb dX5_areAlive_23 rfl (lv_at hl 1 rfl) ?_
      refine lv_iconst (v := (nI 2)) hx hb dX5_areAlive_24 (by decide) ?_
      refine lv_iadd hx hb dX5_areAlive_25 ?_
      refine lv_eqi (y := (nI (b + 2))) (nI_add _ _) ?_
      refine va_iald_n (f := ms) hx hb hK hP 1 0 rfl rfl (by omega) (Nat.le_of_ble_eq_true rfl) dX5_areAlive_26 ?_
      refine lv_iload_n hx hb dX5_areAlive_27 rfl (lv_at hl 3 rfl) ?_
      refine cLI (va_runS (As := [.int (ms (b + 2)), .int o]) (rest := []) ⟨hx, hb, hml, hown, hts⟩ ((kX5_has l Γ (ms (b + 2)) o) _) (va_cwS 2 hts gX5_areAlive_X5_has rfl rfl rfl (by decide +kernel) ⟨Nat.le_of_ble_eq_true rfl, Nat.le_of_ble_eq_true rfl⟩) ⟨wPre_blind, wPre_mk hP hD hK hS hA hAB hAm [] rfl rfl⟩ rfl rfl hl.1 rfl (lv_room (Nat.le_of_ble_eq_true rfl)) dX5_areAlive_28 ⟨Nat.zero_le _, Nat.zero_le _⟩) hP hS hA (fun H locs hP hS => ?_)
      refine lv_if_eq (tgt := 38) hx hb dX5_areAlive_31 (by decide) (fun c_3 => ?_) (fun c_3 => ?_)
      · have hq := hq.trans (if_pos c_3)
        refine lv_iconst (v := (nI 0)) hx hb dX5_areAlive_38 (by decide) ?_
        exact W.zret (v := (nI 0)) hx hb hr (by first | rfl | decide) (fun t ht hW => eLI hS ht (by rw [hq])) hS.2.2 dX5_areAlive_39
      · have hq := hq.trans (if_neg c_3)
        refine lv_iconst (v := (nI 1)) hx hb dX5_areAlive_34 (by decide) ?_
        refine lv_goto (tgt := 39) hx hb dX5_areAlive_35 (by decide) ?_
        exact W.zret (v := (nI 1)) hx hb hr (by first | rfl | decide) (fun t ht hW => eLI hS ht (by rw [hq])) hS.2.2 dX5_areAlive_39
def fX5_canRenew (ms : (Nat → Int32)) (b : Nat) : Int32 := (if (ms (b + 27)) = (nI 1) then (if (fX5_bits (ms (b + 2))) < (ms (b + 29)) then ((nI 0)) else ((nI 1))) else ((nI 0)))
set_option maxHeartbeats 4000000 in
set_option maxRecDepth 100000 in
theorem kX5_canRenew (l : Launch) (Γ : wG) (a : Nat → Nat) (ms : (Nat → Int32)) (mt : (Nat → Int32)) (mc : (Nat → Int32)) (md : (Nat → Int32)) (m0 : Int32) (m1 : Int32) (m2 : Int32) (m3 : Int32) (m4 : Int32) (m5 : Int32) (b : Nat) (hb : b ≤ 406) : LI l Γ yX5_canRenew wsX5_canRenew ({ frames := 1, cells := 0, slots := 0, locals := 22 }) [.ref (a 0), .int (nI b)] [moB Γ a ms mt mc md m0 m1 m2 m3 m4 m5] (fX5_canRenew ms b) := by
  intro sz
  refine Met.ofW (cc := cX5_canRenew) (maxL := 2) (ret := (some .boolean)) (by decide) rfl ?_
  intro p e s m args below meth c s₁ B hml hv
  obtain ⟨rfl, hsz, hP, hK, hD0, hAm⟩ := hv
  have hx := B.exec
  have hb := B.bytes
  have hr := B.returns
  have hts := atoms_spec (ws := wsX5_canRenew) B.pre
  have hown : s.vm.findClass RX5 = some m.cls := findClass_of_methodNamed B.named
  have hlocks := B.notSynchronized
  subst hsz
  have hD := hD0.self (sz := s.heap.size)
  generalize hBe : va_A (wcat [moB Γ a ms mt mc md m0 m1 m2 m3 m4 m5]) s.heap.size = B0 at hD hAm
  obtain ⟨A, hAe⟩ : ∃ A, A = va_A [] s.heap.size := ⟨_, rfl⟩
  rw [← hAe]
  have hA : ∀ q : Nat, s.heap.size ≤ q → A q := fun q h => by rw [hAe]; exact Or.inr h
  have hAB : ∀ q : Nat, A q → B0 q := fun q h => by rw [hAe] at h; rw [← hBe]; exact Or.inr (wnone h)
  have hS : va_S A s.heap s.heap [] := va_S.rf
  have hl := lv_entry ([.ref (a 0), .int (nI b)]) (n := 2) (Nat.le_of_ble_eq_true rfl)
  rw [lg_entry_eq]
  generalize (lg_sl ([.ref (a 0), .int (nI b)]) ++ List.replicate (2 - (lg_sl ([.ref (a 0), .int (nI b)])).length) Slot.unset).toArray = ls at hl ⊢
  have hl : lv_has ls 2 [(0, .ref (a 0)), (1, .int (nI b))] := hl
  have hi5 : ∀ w ∈ wsX50, w ∈ wsX5_canRenew := by decide +kernel
  have kf7 := hts (.fieldLink RX5 7 "CapsuleKeepersModel" "s" "[I") (by decide +kernel)
  have hq : (fX5_canRenew ms b) = (if (ms (b + 27)) = (nI 1) then (if (fX5_bits (ms (b + 2))) < (ms (b + 29)) then ((nI 0)) else ((nI 1))) else ((nI 0))) := rfl
  refine lv_aload_n hx hb dX5_canRenew_0 rfl (lv_at hl 0 rfl) ?_
  refine va_get (D := Γ.1) (ci := 5) (v := .ref (a 1)) (C := RX5) (T := TX5) (N := 10) hx hb hts hi5 hown hK hP 0 rfl rfl 0 (by decide) kf7 (fun _ h9 => h9) rfl dX5_canRenew_1 ?_
  refine lv_iload_n hx hb dX5_canRenew_4 rfl (lv_at hl 1 rfl) ?_
  refine lv_bipush (v := (nI 27)) hx hb dX5_canRenew_5 (by decide) ?_
  refine lv_iadd hx hb dX5_canRenew_7 ?_
  refine lv_eqi (y := (nI (b + 27))) (nI_add _ _) ?_
  refine va_iald_n (f := ms) hx hb hK hP 1 0 rfl rfl (by omega) (Nat.le_of_ble_eq_true rfl) dX5_canRenew_8 ?_
  refine lv_iconst (v := (nI 1)) hx hb dX5_canRenew_9 (by decide) ?_
  refine lv_icmp_ne (tgt := 40) hx hb dX5_canRenew_10 (by decide) (fun c_1 => ?_) (fun c_1 => ?_)
  · have hq := hq.trans (if_neg c_1)
    refine lv_iconst (v := (nI 0)) hx hb dX5_canRenew_40 (by decide) ?_
    exact W.zret (v := (nI 0)) hx hb hr (by first | rfl | decide) (fun t ht hW => eLI hS ht (by rw [hq])) hS.2.2 dX5_canRenew_41
  · have hq := hq.trans (if_pos c_1)
    refine lv_aload_n hx hb dX5_canRenew_13 rfl (lv_at hl 0 rfl) ?_
    refine va_get (D := Γ.1) (ci := 5) (v := .ref (a 1)) (C := RX5) (T := TX5) (N := 10) hx hb hts hi5 hown hK hP 0 rfl rfl 0 (by decide) kf7 (fun _ h9 => h9) rfl dX5_canRenew_14 ?_
    refine lv_iload_n hx hb dX5_canRenew_17 rfl (lv_at hl 1 rfl) ?_
    refine lv_iconst (v := (nI 2)) hx hb dX5_canRenew_18 (by decide) ?_
    refine lv_iadd hx hb dX5_canRenew_19 ?_
    refine lv_eqi (y := (nI (b + 2))) (nI_add _ _) ?_
    refine va_iald_n (f := ms) hx hb hK hP 1 0 rfl rfl (by omega) (Nat.le_of_ble_eq_true rfl) dX5_canRenew_20 ?_
    refine cLI (va_runS (As := [.int (ms (b + 2))]) (rest := []) ⟨hx, hb, hml, hown, hts⟩ ((kX5_bits l Γ (ms (b + 2))) _) (va_cwS 1 hts gX5_canRenew_X5_bits rfl rfl rfl (by decide +kernel) ⟨Nat.le_of_ble_eq_true rfl, Nat.le_of_ble_eq_true rfl⟩) ⟨wPre_blind, wPre_mk hP hD hK hS hA hAB hAm [] rfl rfl⟩ rfl rfl hl.1 rfl (lv_room (Nat.le_of_ble_eq_true rfl)) dX5_canRenew_21 ⟨Nat.zero_le _, Nat.zero_le _⟩) hP hS hA (fun H locs hP hS => ?_)
    refine lv_aload_n hx hb dX5_canRenew_24 rfl (lv_at hl 0 rfl) ?_
    refine va_get (D := Γ.1) (ci := 5) (v := .ref (a 1)) (C := RX5) (T := TX5) (N := 10) hx hb hts hi5 hown hK hP 0 rfl rfl 0 (by decide) kf7 (fun _ h9 => h9) rfl dX5_canRenew_25 ?_
    refine lv_iload_n hx hb dX5_canRenew_28 rfl (lv_at hl 1 rfl) ?_
    refine lv_bipush (v := (nI 29)) hx hb dX5_canRenew_29 (by decide) ?_
    refine lv_iadd hx hb dX5_canRenew_31 ?_
    refine lv_eqi (y := (nI (b + 29))) (nI_add _ _) ?_
    refine va_iald_n (f := ms) hx hb hK hP 1 0 rfl rfl (by omega) (Nat.le_of_ble_eq_true rfl) dX5_canRenew_32 ?_
    refine lv_icmp_lt (tgt := 40) hx hb dX5_canRenew_33 (by decide) (fun c_2 => ?_) (fun c_2 => ?_)
    · have hq := hq.trans (if_pos c_2)
      refine lv_iconst (v := (nI 0)) hx hb dX5_canRenew_40 (by decide) ?_
      exact W.zret (v := (nI 0)) hx hb hr (by first | rfl | decide) (fun t ht hW => eLI hS ht (by rw [hq])) hS.2.2 dX5_canRenew_41
    · have hq := hq.trans (if_neg c_2)
      refine lv_iconst (v := (nI 1)) hx hb dX5_canRenew_36 (by decide) ?_
      refine lv_goto (tgt := 41) hx hb dX5_canRenew_37 (by decide) ?_
      exact W.zret (v := (nI 1)) hx hb hr (by first | rfl | decide) (fun t ht hW => eLI hS ht (by rw [hq])) hS.2.2 dX5_canRenew_41
def fX5_isGroup (ms : (Nat → Int32)) (g : Int32) : Int32 := (if (fX5_in g (nI 0) (nI 255)) = 0 then ((nI 0)) else (if (g >>> ((ms 1) &&& 31)) = 0 then ((nI 1)) else ((nI 0))))
set_option maxHeartbeats 4000000 in
set_option maxRecDepth 100000 in
theorem kX5_isGroup (l : Launch) (Γ : wG) (a : Nat → Nat) (ms : (Nat → Int32)) (mt : (Nat → Int32)) (mc : (Nat → Int32)) (md : (Nat → Int32)) (m0 : Int32) (m1 : Int32) (m2 : Int32) (m3 : Int32) (m4 : Int32) (m5 : Int32) (g : Int32) : LI l Γ yX5_isGroup wsX5_isGroup ({ frames := 1, cells := 0, slots := 0, locals := 22 }) [.ref (a 0), .int g] [moB Γ a ms mt mc md m0 m1 m2 m3 m4 m5] (fX5_isGroup ms g) := by
  intro sz
  refine Met.ofW (cc := cX5_isGroup) (maxL := 2) (ret := (some .boolean)) (by decide) rfl ?_
  intro p e s m args below meth c s₁ B hml hv
  obtain ⟨rfl, hsz, hP, hK, hD0, hAm⟩ := hv
  have hx := B.exec
  have hb := B.bytes
  have hr := B.returns
  have hts := atoms_spec (ws := wsX5_isGroup) B.pre
  have hown : s.vm.findClass RX5 = some m.cls := findClass_of_methodNamed B.named
  have hlocks := B.notSynchronized
  subst hsz
  have hD := hD0.self (sz := s.heap.size)
  generalize hBe : va_A (wcat [moB Γ a ms mt mc md m0 m1 m2 m3 m4 m5]) s.heap.size = B0 at hD hAm
  obtain ⟨A, hAe⟩ : ∃ A, A = va_A [] s.heap.size := ⟨_, rfl⟩
  rw [← hAe]
  have hA : ∀ q : Nat, s.heap.size ≤ q → A q := fun q h => by rw [hAe]; exact Or.inr h
  have hAB : ∀ q : Nat, A q → B0 q := fun q h => by rw [hAe] at h; rw [← hBe]; exact Or.inr (wnone h)
  have hS : va_S A s.heap s.heap [] := va_S.rf
  have hl := lv_entry ([.ref (a 0), .int g]) (n := 2) (Nat.le_of_ble_eq_true rfl)
  rw [lg_entry_eq]
  generalize (lg_sl ([.ref (a 0), .int g]) ++ List.replicate (2 - (lg_sl ([.ref (a 0), .int g])).length) Slot.unset).toArray = ls at hl ⊢
  have hl : lv_has ls 2 [(0, .ref (a 0)), (1, .int g)] := hl
  have hi5 : ∀ w ∈ wsX50, w ∈ wsX5_isGroup := by decide +kernel
  have kf7 := hts (.fieldLink RX5 7 "CapsuleKeepersModel" "s" "[I") (by decide +kernel)
  have hq : (fX5_isGroup ms g) = (if (fX5_in g (nI 0) (nI 255)) = 0 then ((nI 0)) else (if (g >>> ((ms 1) &&& 31)) = 0 then ((nI 1)) else ((nI 0)))) := rfl
  refine lv_iload_n hx hb dX5_isGroup_0 rfl (lv_at hl 1 rfl) ?_
  refine lv_iconst (v := (nI 0)) hx hb dX5_isGroup_1 (by decide) ?_
  refine lv_sipush (v := (nI 255)) hx hb dX5_isGroup_2 (by decide) ?_
  refine cLI (va_runS (As := [.int g, .int (nI 0), .int (nI 255)]) (rest := []) ⟨hx, hb, hml, hown, hts⟩ ((kX5_in l Γ g (nI 0) (nI 255)) _) (va_cwS 3 hts gX5_isGroup_X5_in rfl rfl rfl (by decide +kernel) ⟨Nat.le_of_ble_eq_true rfl, Nat.le_of_ble_eq_true rfl⟩) ⟨wPre_blind, wPre_mk hP hD hK hS hA hAB hAm [] rfl rfl⟩ rfl rfl hl.1 rfl (lv_room (Nat.le_of_ble_eq_true rfl)) dX5_isGroup_5 ⟨Nat.zero_le _, Nat.zero_le _⟩) hP hS hA (fun H locs hP hS => ?_)
  refine lv_if_eq (tgt := 26) hx hb dX5_isGroup_8 (by decide) (fun c_1 => ?_) (fun c_1 => ?_)
  · have hq := hq.trans (if_pos c_1)
    refine lv_iconst (v := (nI 0)) hx hb dX5_isGroup_26 (by decide) ?_
    exact W.zret (v := (nI 0)) hx hb hr (by first | rfl | decide) (fun t ht hW => eLI hS ht (by rw [hq])) hS.2.2 dX5_isGroup_27
  · have hq := hq.trans (if_neg c_1)
    refine lv_iload_n hx hb dX5_isGroup_11 rfl (lv_at hl 1 rfl) ?_
    refine lv_aload_n hx hb dX5_isGroup_12 rfl (lv_at hl 0 rfl) ?_
    refine va_get (D := Γ.1) (ci := 5) (v := .ref (a 1)) (C := RX5) (T := TX5) (N := 10) hx hb hts hi5 hown hK hP 0 rfl rfl 0 (by decide) kf7 (fun _ h9 => h9) rfl dX5_isGroup_13 ?_
    refine lv_iconst (v := (nI 1)) hx hb dX5_isGroup_16 (by decide) ?_
    refine va_iald_n (f := ms) hx hb hK hP 1 0 rfl rfl (by omega) (Nat.le_of_ble_eq_true rfl) dX5_isGroup_17 ?_
    refine lv_ishr hx hb dX5_isGroup_18 ?_
    refine lv_if_ne (tgt := 26) hx hb dX5_isGroup_19 (by decide) (fun c_2 => ?_) (fun c_2 => ?_)
    · have hq := hq.trans (if_neg c_2)
      refine lv_iconst (v := (nI 0)) hx hb dX5_isGroup_26 (by decide) ?_
      exact W.zret (v := (nI 0)) hx hb hr (by first | rfl | decide) (fun t ht hW => eLI hS ht (by rw [hq])) hS.2.2 dX5_isGroup_27
    · have hq := hq.trans (if_pos c_2)
      refine lv_iconst (v := (nI 1)) hx hb dX5_isGroup_22 (by decide) ?_
      refine lv_goto (tgt := 27) hx hb dX5_isGroup_23 (by decide) ?_
      exact W.zret (v := (nI 1)) hx hb hr (by first | rfl | decide) (fun t ht hW => eLI hS ht (by rw [hq])) hS.2.2 dX5_isGroup_27
def fX5_shareOf (ms : (Nat → Int32)) (k : Nat) (w : Int32) : Int32 := (if 0 ≤ (ms (40 + k)) then (if w = 0 then ((ms (32 + k))) else (if w = (nI 1) then ((ms (40 + k))) else ((ms (48 + k))))) else ((-1)))
set_option maxHeartbeats 4000000 in
set_option maxRecDepth 100000 in
theorem kX5_shareOf (l : Launch) (Γ : wG) (a : Nat → Nat) (ms : (Nat → Int32)) (mt : (Nat → Int32)) (mc : (Nat → Int32)) (md : (Nat → Int32)) (m0 : Int32) (m1 : Int32) (m2 : Int32) (m3 : Int32) (m4 : Int32) (m5 : Int32) (k : Nat) (w : Int32) (hk : k < 8) : LI l Γ yX5_shareOf wsX5_shareOf ({ frames := 0, cells := 0, slots := 0, locals := 0 }) [.ref (a 0), .int (nI k), .int w] [moB Γ a ms mt mc md m0 m1 m2 m3 m4 m5] (fX5_shareOf ms k w) := by
  intro sz
  refine Met.ofW (cc := cX5_shareOf) (maxL := 3) (ret := (some .int)) (by decide) rfl ?_
  intro p e s m args below meth c s₁ B hml hv
  obtain ⟨rfl, hsz, hP, hK, hD0, hAm⟩ := hv
  have hx := B.exec
  have hb := B.bytes
  have hr := B.returns
  have hts := atoms_spec (ws := wsX5_shareOf) B.pre
  have hown : s.vm.findClass RX5 = some m.cls := findClass_of_methodNamed B.named
  have hlocks := B.notSynchronized
  subst hsz
  have hD := hD0.self (sz := s.heap.size)
  generalize hBe : va_A (wcat [moB Γ a ms mt mc md m0 m1 m2 m3 m4 m5]) s.heap.size = B0 at hD hAm
  obtain ⟨A, hAe⟩ : ∃ A, A = va_A [] s.heap.size := ⟨_, rfl⟩
  rw [← hAe]
  have hA : ∀ q : Nat, s.heap.size ≤ q → A q := fun q h => by rw [hAe]; exact Or.inr h
  have hAB : ∀ q : Nat, A q → B0 q := fun q h => by rw [hAe] at h; rw [← hBe]; exact Or.inr (wnone h)
  have hS : va_S A s.heap s.heap [] := va_S.rf
  have hl := lv_entry ([.ref (a 0), .int (nI k), .int w]) (n := 3) (Nat.le_of_ble_eq_true rfl)
  rw [lg_entry_eq]
  generalize (lg_sl ([.ref (a 0), .int (nI k), .int w]) ++ List.replicate (3 - (lg_sl ([.ref (a 0), .int (nI k), .int w])).length) Slot.unset).toArray = ls at hl ⊢
  have hl : lv_has ls 3 [(0, .ref (a 0)), (1, .int (nI k)), (2, .int w)] := hl
  have hi5 : ∀ w ∈ wsX50, w ∈ wsX5_shareOf := by decide +kernel
  have kf7 := hts (.fieldLink RX5 7 "CapsuleKeepersModel" "s" "[I") (by decide +kernel)
  have hq : (fX5_shareOf ms k w) = (if 0 ≤ (ms (40 + k)) then (if w = 0 then ((ms (32 + k))) else (if w = (nI 1) then ((ms (40 + k))) else ((ms (48 + k))))) else ((-1))) := rfl
  refine lv_aload_n hx hb dX5_shareOf_0 rfl (lv_at hl 0 rfl) ?_
  refine va_get (D := Γ.1) (ci := 5) (v := .ref (a 1)) (C := RX5) (T := TX5) (N := 10) hx hb hts hi5 hown hK hP 0 rfl rfl 0 (by decide) kf7 (fun _ h9 => h9) rfl dX5_shareOf_1 ?_
  refine lv_bipush (v := (nI 40)) hx hb dX5_shareOf_4 (by decide) ?_
  refine lv_iload_n hx hb dX5_shareOf_6 rfl (lv_at hl 1 rfl) ?_
  refine lv_iadd hx hb dX5_shareOf_7 ?_
  refine lv_eqi (y := (nI (40 + k))) (nI_add _ _) ?_
  refine va_iald_n (f := ms) hx hb hK hP 1 0 rfl rfl (by omega) (Nat.le_of_ble_eq_true rfl) dX5_shareOf_8 ?_
  refine lv_if_ge (tgt := 14) hx hb dX5_shareOf_9 (by decide) (fun c_1 => ?_) (fun c_1 => ?_)
  · have hq := hq.trans (if_pos c_1)
    refine lv_iload_n hx hb dX5_shareOf_14 rfl (lv_at hl 2 rfl) ?_
    refine lv_if_ne (tgt := 30) hx hb dX5_shareOf_15 (by decide) (fun c_2 => ?_) (fun c_2 => ?_)
    · have hq := hq.trans (if_neg c_2)
      refine lv_iload_n hx hb dX5_shareOf_30 rfl (lv_at hl 2 rfl) ?_
      refine lv_iconst (v := (nI 1)) hx hb dX5_shareOf_31 (by decide) ?_
      refine lv_icmp_ne (tgt := 47) hx hb dX5_shareOf_32 (by decide) (fun c_3 => ?_) (fun c_3 => ?_)
      · have hq := hq.trans (if_neg c_3)
        refine lv_aload_n hx hb dX5_shareOf_47 rfl (lv_at hl 0 rfl) ?_
        refine va_get (D := Γ.1) (ci := 5) (v := .ref (a 1)) (C := RX5) (T := TX5) (N := 10) hx hb hts hi5 hown hK hP 0 rfl rfl 0 (by decide) kf7 (fun _ h9 => h9) rfl dX5_shareOf_48 ?_
        refine lv_bipush (v := (nI 48)) hx hb dX5_shareOf_51 (by decide) ?_
        refine lv_iload_n hx hb dX5_shareOf_53 rfl (lv_at hl 1 rfl) ?_
        refine lv_iadd hx hb dX5_shareOf_54 ?_
        refine lv_eqi (y := (nI (48 + k))) (nI_add _ _) ?_
        refine va_iald_n (f := ms) hx hb hK hP 1 0 rfl rfl (by omega) (Nat.le_of_ble_eq_true rfl) dX5_shareOf_55 ?_
        exact W.iret (v := (ms (48 + k))) hx hb hr (fun t ht hW => eLI hS ht (by rw [hq])) hS.2.2 dX5_shareOf_56
      · have hq := hq.trans (if_pos c_3)
        refine lv_aload_n hx hb dX5_shareOf_35 rfl (lv_at hl 0 rfl) ?_
        refine va_get (D := Γ.1) (ci := 5) (v := .ref (a 1)) (C := RX5) (T := TX5) (N := 10) hx hb hts hi5 hown hK hP 0 rfl rfl 0 (by decide) kf7 (fun _ h9 => h9) rfl dX5_shareOf_36 ?_
        refine lv_bipush (v := (nI 40)) hx hb dX5_shareOf_39 (by decide) ?_
        refine lv_iload_n hx hb dX5_shareOf_41 rfl (lv_at hl 1 rfl) ?_
        refine lv_iadd hx hb dX5_shareOf_42 ?_
        refine lv_eqi (y := (nI (40 + k))) (nI_add _ _) ?_
        refine va_iald_n (f := ms) hx hb hK hP 1 0 rfl rfl (by omega) (Nat.le_of_ble_eq_true rfl) dX5_shareOf_43 ?_
        refine lv_goto (tgt := 56) hx hb dX5_shareOf_44 (by decide) ?_
        exact W.iret (v := (ms (40 + k))) hx hb hr (fun t ht hW => eLI hS ht (by rw [hq])) hS.2.2 dX5_shareOf_56
    · have hq := hq.trans (if_pos c_2)
      refine lv_aload_n hx hb dX5_shareOf_18 rfl (lv_at hl 0 rfl) ?_
      refine va_get (D := Γ.1) (ci := 5) (v := .ref (a 1)) (C := RX5) (T := TX5) (N := 10) hx hb hts hi5 hown hK hP 0 rfl rfl 0 (by decide) kf7 (fun _ h9 => h9) rfl dX5_shareOf_19 ?_
      refine lv_bipush (v := (nI 32)) hx hb dX5_shareOf_22 (by decide) ?_
      refine lv_iload_n hx hb dX5_shareOf_24 rfl (lv_at hl 1 rfl) ?_
      refine lv_iadd hx hb dX5_shareOf_25 ?_
      refine lv_eqi (y := (nI (32 + k))) (nI_add _ _) ?_
      refine va_iald_n (f := ms) hx hb hK hP 1 0 rfl rfl (by omega) (Nat.le_of_ble_eq_true rfl) dX5_shareOf_26 ?_
      refine lv_goto (tgt := 56) hx hb dX5_shareOf_27 (by decide) ?_
      exact W.iret (v := (ms (32 + k))) hx hb hr (fun t ht hW => eLI hS ht (by rw [hq])) hS.2.2 dX5_shareOf_56
  · have hq := hq.trans (if_neg c_1)
    refine lv_iconst (v := (-1)) hx hb dX5_shareOf_12 (by decide) ?_
    exact W.iret (v := (-1)) hx hb hr (fun t ht hW => eLI hS ht (by rw [hq])) hS.2.2 dX5_shareOf_13
def fX5_tells (ms : (Nat → Int32)) (g : Int32) : Int32 := (if (ms 27) ≤ 0 then ((-1)) else (if (g &&& ((fX5_shares ms (0)) ^^^ (-1))) = 0 then (if (fX5_bits g) < (ms 29) then ((-1)) else ((fX5_keyBy ms (0) g))) else ((-1))))
set_option maxHeartbeats 4000000 in
set_option maxRecDepth 100000 in
theorem kX5_tells (l : Launch) (Γ : wG) (a : Nat → Nat) (ms : (Nat → Int32)) (mt : (Nat → Int32)) (mc : (Nat → Int32)) (md : (Nat → Int32)) (m0 : Int32) (m1 : Int32) (m2 : Int32) (m3 : Int32) (m4 : Int32) (m5 : Int32) (g : Int32) : LI l Γ yX5_tells wsX5_tells ({ frames := 3, cells := 0, slots := 0, locals := 73 }) [.ref (a 0), .int g] [moB Γ a ms mt mc md m0 m1 m2 m3 m4 m5] (fX5_tells ms g) := by
  intro sz
  refine Met.ofW (cc := cX5_tells) (maxL := 3) (ret := (some .int)) (by decide) rfl ?_
  intro p e s m args below meth c s₁ B hml hv
  obtain ⟨rfl, hsz, hP, hK, hD0, hAm⟩ := hv
  have hx := B.exec
  have hb := B.bytes
  have hr := B.returns
  have hts := atoms_spec (ws := wsX5_tells) B.pre
  have hown : s.vm.findClass RX5 = some m.cls := findClass_of_methodNamed B.named
  have hlocks := B.notSynchronized
  subst hsz
  have hD := hD0.self (sz := s.heap.size)
  generalize hBe : va_A (wcat [moB Γ a ms mt mc md m0 m1 m2 m3 m4 m5]) s.heap.size = B0 at hD hAm
  obtain ⟨A, hAe⟩ : ∃ A, A = va_A [] s.heap.size := ⟨_, rfl⟩
  rw [← hAe]
  have hA : ∀ q : Nat, s.heap.size ≤ q → A q := fun q h => by rw [hAe]; exact Or.inr h
  have hAB : ∀ q : Nat, A q → B0 q := fun q h => by rw [hAe] at h; rw [← hBe]; exact Or.inr (wnone h)
  have hS : va_S A s.heap s.heap [] := va_S.rf
  have hl := lv_entry ([.ref (a 0), .int g]) (n := 3) (Nat.le_of_ble_eq_true rfl)
  rw [lg_entry_eq]
  generalize (lg_sl ([.ref (a 0), .int g]) ++ List.replicate (3 - (lg_sl ([.ref (a 0), .int g])).length) Slot.unset).toArray = ls at hl ⊢
  have hl : lv_has ls 3 [(0, .ref (a 0)), (1, .int g)] := hl
  have hi5 : ∀ w ∈ wsX50, w ∈ wsX5_tells := by decide +kernel
  have kf7 := hts (.fieldLink RX5 7 "CapsuleKeepersModel" "s" "[I") (by decide +kernel)
  have hq : (fX5_tells ms g) = (if (ms 27) ≤ 0 then ((-1)) else (if (g &&& ((fX5_shares ms (0)) ^^^ (-1))) = 0 then (if (fX5_bits g) < (ms 29) then ((-1)) else ((fX5_keyBy ms (0) g))) else ((-1)))) := rfl
  refine lv_aload_n hx hb dX5_tells_0 rfl (lv_at hl 0 rfl) ?_
  refine va_get (D := Γ.1) (ci := 5) (v := .ref (a 1)) (C := RX5) (T := TX5) (N := 10) hx hb hts hi5 hown hK hP 0 rfl rfl 0 (by decide) kf7 (fun _ h9 => h9) rfl dX5_tells_1 ?_
  refine lv_bipush (v := (nI 27)) hx hb dX5_tells_4 (by decide) ?_
  refine va_iald_n (f := ms) hx hb hK hP 1 0 rfl rfl (by omega) (Nat.le_of_ble_eq_true rfl) dX5_tells_6 ?_
  refine lv_if_le (tgt := 40) hx hb dX5_tells_7 (by decide) (fun c_1 => ?_) (fun c_1 => ?_)
  · have hq := hq.trans (if_pos c_1)
    refine lv_iconst (v := (nI 0)) hx hb dX5_tells_40 (by decide) ?_
    refine lv_istore_n (lv' := [(2, .int (nI 0)), (0, .ref (a 0)), (1, .int g)]) hx hb dX5_tells_41 rfl hl (by decide) rfl (fun ls hl => ?_)
    refine lv_iload_n hx hb dX5_tells_42 rfl (lv_at hl 0 rfl) ?_
    refine lv_if_eq (tgt := 55) hx hb dX5_tells_43 (by decide) (fun c_43 => ?_) (fun c_43 => absurd c_43 (by decide))
    refine lv_iconst (v := (-1)) hx hb dX5_tells_55 (by decide) ?_
    exact W.iret (v := (-1)) hx hb hr (fun t ht hW => eLI hS ht (by rw [hq])) hS.2.2 dX5_tells_56
  · have hq := hq.trans (if_neg c_1)
    refine lv_iload_n hx hb dX5_tells_10 rfl (lv_at hl 1 rfl) ?_
    refine lv_aload_n hx hb dX5_tells_11 rfl (lv_at hl 0 rfl) ?_
    refine lv_iconst (v := (nI 0)) hx hb dX5_tells_12 (by decide) ?_
    refine cLI (va_runV (As := [.int (nI 0)]) (rest := [.int g]) ⟨hx, hb, hml, hown, hts⟩ ((kX5_shares l Γ a ms mt mc md m0 m1 m2 m3 m4 m5 (0) (by first | assumption | omega)) _) (cwV 1 hts gX5_tells_X5_shares rfl rfl rfl (by decide +kernel) ⟨Nat.le_of_ble_eq_true rfl, Nat.le_of_ble_eq_true rfl⟩) ⟨wPre_blind, va_recv hK hP (ci := 5) (q0 := 0) rfl rfl, wPre_mk hP hD hK hS hA hAB hAm [0] rfl rfl⟩ rfl rfl hl.1 rfl (lv_room (Nat.le_of_ble_eq_true rfl)) dX5_tells_13 ⟨Nat.zero_le _, Nat.zero_le _⟩) hP hS hA (fun H locs hP hS => ?_)
    refine lv_iconst (v := (-1)) hx hb dX5_tells_16 (by decide) ?_
    refine lv_ixor hx hb dX5_tells_17 ?_
    refine lv_iand hx hb dX5_tells_18 ?_
    refine lv_if_ne (tgt := 40) hx hb dX5_tells_19 (by decide) (fun c_2 => ?_) (fun c_2 => ?_)
    · have hq := hq.trans (if_neg c_2)
      refine lv_iconst (v := (nI 0)) hx hb dX5_tells_40 (by decide) ?_
      refine lv_istore_n (lv' := [(2, .int (nI 0)), (0, .ref (a 0)), (1, .int g)]) hx hb dX5_tells_41 rfl hl (by decide) rfl (fun ls hl => ?_)
      refine lv_iload_n hx hb dX5_tells_42 rfl (lv_at hl 0 rfl) ?_
      refine lv_if_eq (tgt := 55) hx hb dX5_tells_43 (by decide) (fun c_43 => ?_) (fun c_43 => absurd c_43 (by decide))
      refine lv_iconst (v := (-1)) hx hb dX5_tells_55 (by decide) ?_
      exact W.iret (v := (-1)) hx hb hr (fun t ht hW => eLI hS ht (by rw [hq])) hS.2.2 dX5_tells_56
    · have hq := hq.trans (if_pos c_2)
      refine lv_iload_n hx hb dX5_tells_22 rfl (lv_at hl 1 rfl) ?_
      refine cLI (va_runS (As := [.int g]) (rest := []) ⟨hx, hb, hml, hown, hts⟩ ((kX5_bits l Γ g) _) (va_cwS 1 hts gX5_tells_X5_bits rfl rfl rfl (by decide +kernel) ⟨Nat.le_of_ble_eq_true rfl, Nat.le_of_ble_eq_true rfl⟩) ⟨wPre_blind, wPre_mk hP hD hK hS hA hAB hAm [] rfl rfl⟩ rfl rfl hl.1 rfl (lv_room (Nat.le_of_ble_eq_true rfl)) dX5_tells_23 ⟨Nat.zero_le _, Nat.zero_le _⟩) hP hS hA (fun H locs hP hS => ?_)
      refine lv_aload_n hx hb dX5_tells_26 rfl (lv_at hl 0 rfl) ?_
      refine va_get (D := Γ.1) (ci := 5) (v := .ref (a 1)) (C := RX5) (T := TX5) (N := 10) hx hb hts hi5 hown hK hP 0 rfl rfl 0 (by decide) kf7 (fun _ h9 => h9) rfl dX5_tells_27 ?_
      refine lv_bipush (v := (nI 29)) hx hb dX5_tells_30 (by decide) ?_
      refine va_iald_n (f := ms) hx hb hK hP 1 0 rfl rfl (by omega) (Nat.le_of_ble_eq_true rfl) dX5_tells_32 ?_
      refine lv_icmp_lt (tgt := 40) hx hb dX5_tells_33 (by decide) (fun c_3 => ?_) (fun c_3 => ?_)
      · have hq := hq.trans (if_pos c_3)
        refine lv_iconst (v := (nI 0)) hx hb dX5_tells_40 (by decide) ?_
        refine lv_istore_n (lv' := [(2, .int (nI 0)), (0, .ref (a 0)), (1, .int g)]) hx hb dX5_tells_41 rfl hl (by decide) rfl (fun ls hl => ?_)
        refine lv_iload_n hx hb dX5_tells_42 rfl (lv_at hl 0 rfl) ?_
        refine lv_if_eq (tgt := 55) hx hb dX5_tells_43 (by decide) (fun c_43 => ?_) (fun c_43 => absurd c_43 (by decide))
        refine lv_iconst (v := (-1)) hx hb dX5_tells_55 (by decide) ?_
        exact W.iret (v := (-1)) hx hb hr (fun t ht hW => eLI hS ht (by rw [hq])) hS.2.2 dX5_tells_56
      · have hq := hq.trans (if_neg c_3)
        refine lv_iconst (v := (nI 1)) hx hb dX5_tells_36 (by decide) ?_
        refine lv_goto (tgt := 41) hx hb dX5_tells_37 (by decide) ?_
        refine lv_istore_n (lv' := [(2, .int (nI 1)), (0, .ref (a 0)), (1, .int g)]) hx hb dX5_tells_41 rfl hl (by decide) rfl (fun ls hl => ?_)
        refine lv_iload_n hx hb dX5_tells_42 rfl (lv_at hl 0 rfl) ?_
        refine lv_if_eq (tgt := 55) hx hb dX5_tells_43 (by decide) (fun c_43 => absurd c_43 (by decide)) (fun c_43 => ?_)
        refine lv_aload_n hx hb dX5_tells_46 rfl (lv_at hl 1 rfl) ?_
        refine lv_iconst (v := (nI 0)) hx hb dX5_tells_47 (by decide) ?_
        refine lv_iload_n hx hb dX5_tells_48 rfl (lv_at hl 2 rfl) ?_
        refine cLI (va_runV (As := [.int (nI 0), .int g]) (rest := []) ⟨hx, hb, hml, hown, hts⟩ ((kX5_keyBy l Γ a ms mt mc md m0 m1 m2 m3 m4 m5 (0) g (by first | assumption | omega)) _) (cwV 2 hts gX5_tells_X5_keyBy rfl rfl rfl (by decide +kernel) ⟨Nat.le_of_ble_eq_true rfl, Nat.le_of_ble_eq_true rfl⟩) ⟨wPre_blind, va_recv hK hP (ci := 5) (q0 := 0) rfl rfl, wPre_mk hP hD hK hS hA hAB hAm [0] rfl rfl⟩ rfl rfl hl.1 rfl (lv_room (Nat.le_of_ble_eq_true rfl)) dX5_tells_49 ⟨Nat.zero_le _, Nat.zero_le _⟩) hP hS hA (fun H locs hP hS => ?_)
        refine lv_goto (tgt := 56) hx hb dX5_tells_52 (by decide) ?_
        exact W.iret (v := (fX5_keyBy ms (0) g)) hx hb hr (fun t ht hW => eLI hS ht (by rw [hq])) hS.2.2 dX5_tells_56
def fX5_keys_L59 (ms : (Nat → Int32)) (g : Int32) : Nat → Nat → Int32 → Int32
  | 0, i59, x3_59 => (if x3_59 = 0 then ((nI 0)) else ((nI 1)))
  | n59 + 1, i59, x3_59 => (if x3_59 = 0 then (fX5_keys_L59 ms g n59 (i59 + 1) (nI 0)) else (if (fX5_has g (nI i59)) = 0 then (fX5_keys_L59 ms g n59 (i59 + 1) (nI 1)) else (if (fX5_valueAt ms (0) (fX5_lowest g (ms 29)) (nI (i59 + 1))) = (ms (32 + i59)) then (fX5_keys_L59 ms g n59 (i59 + 1) (nI 1)) else (fX5_keys_L59 ms g n59 (i59 + 1) (nI 0)))))
def fX5_keys (ms : (Nat → Int32)) (g : Int32) : Int32 := (if (ms 27) = 0 then ((-1)) else (if (g &&& ((fX5_shares ms (0)) ^^^ (-1))) = 0 then (if (ms 29) ≤ (fX5_bits g) then (fX5_keys_L59 ms g (8) 0 (nI 1)) else ((nI 251))) else ((-1))))
set_option maxHeartbeats 4000000 in
set_option maxRecDepth 100000 in
theorem kX5_keys (l : Launch) (Γ : wG) (a : Nat → Nat) (ms : (Nat → Int32)) (mt : (Nat → Int32)) (mc : (Nat → Int32)) (md : (Nat → Int32)) (m0 : Int32) (m1 : Int32) (m2 : Int32) (m3 : Int32) (m4 : Int32) (m5 : Int32) (g : Int32) : LI l Γ yX5_keys wsX5_keys ({ frames := 2, cells := 0, slots := 0, locals := 51 }) [.ref (a 0), .int g] [moB Γ a ms mt mc md m0 m1 m2 m3 m4 m5] (fX5_keys ms g) := by
  intro sz
  refine Met.ofW (cc := cX5_keys) (maxL := 5) (ret := (some .int)) (by decide) rfl ?_
  intro p e s m args below meth c s₁ B hml hv
  obtain ⟨rfl, hsz, hP, hK, hD0, hAm⟩ := hv
  have hx := B.exec
  have hb := B.bytes
  have hr := B.returns
  have hts := atoms_spec (ws := wsX5_keys) B.pre
  have hown : s.vm.findClass RX5 = some m.cls := findClass_of_methodNamed B.named
  have hlocks := B.notSynchronized
  subst hsz
  have hD := hD0.self (sz := s.heap.size)
  generalize hBe : va_A (wcat [moB Γ a ms mt mc md m0 m1 m2 m3 m4 m5]) s.heap.size = B0 at hD hAm
  obtain ⟨A, hAe⟩ : ∃ A, A = va_A [] s.heap.size := ⟨_, rfl⟩
  rw [← hAe]
  have hA : ∀ q : Nat, s.heap.size ≤ q → A q := fun q h => by rw [hAe]; exact Or.inr h
  have hAB : ∀ q : Nat, A q → B0 q := fun q h => by rw [hAe] at h; rw [← hBe]; exact Or.inr (wnone h)
  have hS : va_S A s.heap s.heap [] := va_S.rf
  have hl := lv_entry ([.ref (a 0), .int g]) (n := 5) (Nat.le_of_ble_eq_true rfl)
  rw [lg_entry_eq]
  generalize (lg_sl ([.ref (a 0), .int g]) ++ List.replicate (5 - (lg_sl ([.ref (a 0), .int g])).length) Slot.unset).toArray = ls at hl ⊢
  have hl : lv_has ls 5 [(0, .ref (a 0)), (1, .int g)] := hl
  have hi5 : ∀ w ∈ wsX50, w ∈ wsX5_keys := by decide +kernel
  have kf7 := hts (.fieldLink RX5 7 "CapsuleKeepersModel" "s" "[I") (by decide +kernel)
  have hq : (fX5_keys ms g) = (if (ms 27) = 0 then ((-1)) else (if (g &&& ((fX5_shares ms (0)) ^^^ (-1))) = 0 then (if (ms 29) ≤ (fX5_bits g) then (fX5_keys_L59 ms g (8) 0 (nI 1)) else ((nI 251))) else ((-1)))) := rfl
  refine lv_aload_n hx hb dX5_keys_0 rfl (lv_at hl 0 rfl) ?_
  refine va_get (D := Γ.1) (ci := 5) (v := .ref (a 1)) (C := RX5) (T := TX5) (N := 10) hx hb hts hi5 hown hK hP 0 rfl rfl 0 (by decide) kf7 (fun _ h9 => h9) rfl dX5_keys_1 ?_
  refine lv_bipush (v := (nI 27)) hx hb dX5_keys_4 (by decide) ?_
  refine va_iald_n (f := ms) hx hb hK hP 1 0 rfl rfl (by omega) (Nat.le_of_ble_eq_true rfl) dX5_keys_6 ?_
  refine lv_if_eq (tgt := 22) hx hb dX5_keys_7 (by decide) (fun c_1 => ?_) (fun c_1 => ?_)
  · have hq := hq.trans (if_pos c_1)
    refine lv_iconst (v := (-1)) hx hb dX5_keys_22 (by decide) ?_
    exact W.iret (v := (-1)) hx hb hr (fun t ht hW => eLI hS ht (by rw [hq])) hS.2.2 dX5_keys_23
  · have hq := hq.trans (if_neg c_1)
    refine lv_iload_n hx hb dX5_keys_10 rfl (lv_at hl 1 rfl) ?_
    refine lv_aload_n hx hb dX5_keys_11 rfl (lv_at hl 0 rfl) ?_
    refine lv_iconst (v := (nI 0)) hx hb dX5_keys_12 (by decide) ?_
    refine cLI (va_runV (As := [.int (nI 0)]) (rest := [.int g]) ⟨hx, hb, hml, hown, hts⟩ ((kX5_shares l Γ a ms mt mc md m0 m1 m2 m3 m4 m5 (0) (by first | assumption | omega)) _) (cwV 1 hts gX5_keys_X5_shares rfl rfl rfl (by decide +kernel) ⟨Nat.le_of_ble_eq_true rfl, Nat.le_of_ble_eq_true rfl⟩) ⟨wPre_blind, va_recv hK hP (ci := 5) (q0 := 0) rfl rfl, wPre_mk hP hD hK hS hA hAB hAm [0] rfl rfl⟩ rfl rfl hl.1 rfl (lv_room (Nat.le_of_ble_eq_true rfl)) dX5_keys_13 ⟨Nat.zero_le _, Nat.zero_le _⟩) hP hS hA (fun H locs hP hS => ?_)
    refine lv_iconst (v := (-1)) hx hb dX5_keys_16 (by decide) ?_
    refine lv_ixor hx hb dX5_keys_17 ?_
    refine lv_iand hx hb dX5_keys_18 ?_
    refine lv_if_eq (tgt := 24) hx hb dX5_keys_19 (by decide) (fun c_2 => ?_) (fun c_2 => ?_)
    · have hq := hq.trans (if_pos c_2)
      refine lv_iload_n hx hb dX5_keys_24 rfl (lv_at hl 1 rfl) ?_
      refine cLI (va_runS (As := [.int g]) (rest := []) ⟨hx, hb, hml, hown, hts⟩ ((kX5_bits l Γ g) _) (va_cwS 1 hts gX5_keys_X5_bits rfl rfl rfl (by decide +kernel) ⟨Nat.le_of_ble_eq_true rfl, Nat.le_of_ble_eq_true rfl⟩) ⟨wPre_blind, wPre_mk hP hD hK hS hA hAB hAm [] rfl rfl⟩ rfl rfl hl.1 rfl (lv_room (Nat.le_of_ble_eq_true rfl)) dX5_keys_25 ⟨Nat.zero_le _, Nat.zero_le _⟩) hP hS hA (fun H locs hP hS => ?_)
      refine lv_aload_n hx hb dX5_keys_28 rfl (lv_at hl 0 rfl) ?_
      refine va_get (D := Γ.1) (ci := 5) (v := .ref (a 1)) (C := RX5) (T := TX5) (N := 10) hx hb hts hi5 hown hK hP 0 rfl rfl 0 (by decide) kf7 (fun _ h9 => h9) rfl dX5_keys_29 ?_
      refine lv_bipush (v := (nI 29)) hx hb dX5_keys_32 (by decide) ?_
      refine va_iald_n (f := ms) hx hb hK hP 1 0 rfl rfl (by omega) (Nat.le_of_ble_eq_true rfl) dX5_keys_34 ?_
      refine lv_icmp_ge (tgt := 42) hx hb dX5_keys_35 (by decide) (fun c_3 => ?_) (fun c_3 => ?_)
      · have hq := hq.trans (if_pos c_3)
        refine lv_iload_n hx hb dX5_keys_42 rfl (lv_at hl 1 rfl) ?_
        refine lv_aload_n hx hb dX5_keys_43 rfl (lv_at hl 0 rfl) ?_
        refine va_get (D := Γ.1) (ci := 5) (v := .ref (a 1)) (C := RX5) (T := TX5) (N := 10) hx hb hts hi5 hown hK hP 0 rfl rfl 0 (by decide) kf7 (fun _ h9 => h9) rfl dX5_keys_44 ?_
        refine lv_bipush (v := (nI 29)) hx hb dX5_keys_47 (by decide) ?_
        refine va_iald_n (f := ms) hx hb hK hP 1 0 rfl rfl (by omega) (Nat.le_of_ble_eq_true rfl) dX5_keys_49 ?_
        refine cLI (va_runS (As := [.int g, .int (ms 29)]) (rest := []) ⟨hx, hb, hml, hown, hts⟩ ((kX5_lowest l Γ g (ms 29)) _) (va_cwS 2 hts gX5_keys_X5_lowest rfl rfl rfl (by decide +kernel) ⟨Nat.le_of_ble_eq_true rfl, Nat.le_of_ble_eq_true rfl⟩) ⟨wPre_blind, wPre_mk hP hD hK hS hA hAB hAm [] rfl rfl⟩ rfl rfl hl.1 rfl (lv_room (Nat.le_of_ble_eq_true rfl)) dX5_keys_50 ⟨Nat.zero_le _, Nat.zero_le _⟩) hP hS hA (fun H locs hP hS => ?_)
        refine lv_istore_n (lv' := [(2, .int (fX5_lowest g (ms 29))), (0, .ref (a 0)), (1, .int g)]) hx hb dX5_keys_53 rfl hl (by decide) rfl (fun ls hl => ?_)
        refine lv_iconst (v := (nI 1)) hx hb dX5_keys_54 (by decide) ?_
        refine lv_istore_n (lv' := [(3, .int (nI 1)), (2, .int (fX5_lowest g (ms 29))), (0, .ref (a 0)), (1, .int g)]) hx hb dX5_keys_55 rfl hl (by decide) rfl (fun ls hl => ?_)
        refine lv_iconst (v := (nI 0)) hx hb dX5_keys_56 (by decide) ?_
        refine lv_istore (lv' := [(4, .int (nI 0)), (3, .int (nI 1)), (2, .int (fX5_lowest g (ms 29))), (0, .ref (a 0)), (1, .int g)]) hx hb dX5_keys_57 hl (by decide) rfl (fun ls hl => ?_)
        refine wl (pc := 59) (σ := Nat × Int32) (fun n (i59, x3_59) H locs ls => (i59 + n = 8) ∧ (fX5_keys ms g) = fX5_keys_L59 ms g n i59 x3_59 ∧ va_P Γ.1 vwCl (wcat [moB Γ a ms mt mc md m0 m1 m2 m3 m4 m5]) H ∧ va_S A s.heap H locs ∧ lv_has ls 5 [(4, .int (nI i59)), (3, .int x3_59), (2, .int (fX5_lowest g (ms 29))), (0, .ref (a 0)), (1, .int g)]) ?_ ?_ (8) (0, (nI 1)) _ _ _ ⟨by omega, hq, hP, hS, lv_sub hl [0, 1, 2, 3, 4] rfl⟩
        · intro ⟨i59, x3_59⟩ H locs ls h
          obtain ⟨hn59, hq, hP, hS, hl⟩ := h
          try dsimp only at hn59 hq hP hl
          replace hq : (fX5_keys ms g) = (if x3_59 = 0 then ((nI 0)) else ((nI 1))) := hq
          refine lv_iload hx hb dX5_keys_59 (lv_at hl 0 rfl) ?_
          refine lv_bipush (v := (nI 8)) hx hb dX5_keys_61 (by decide) ?_
          refine lv_icmp_ge (tgt := 114) hx hb dX5_keys_63 (by decide) (fun c_63 => ?_) (fun c_63 => absurd (nI_le (by omega) (by omega)) c_63)
          refine lv_iload_n hx hb dX5_keys_114 rfl (lv_at hl 1 rfl) ?_
          refine lv_if_eq (tgt := 122) hx hb dX5_keys_115 (by decide) (fun c_4 => ?_) (fun c_4 => ?_)
          · have hq := hq.trans (if_pos c_4)
            refine lv_iconst (v := (nI 0)) hx hb dX5_keys_122 (by decide) ?_
            exact W.iret (v := (nI 0)) hx hb hr (fun t ht hW => eLI hS ht (by rw [hq])) hS.2.2 dX5_keys_123
          · have hq := hq.trans (if_neg c_4)
            refine lv_iconst (v := (nI 1)) hx hb dX5_keys_118 (by decide) ?_
            refine lv_goto (tgt := 123) hx hb dX5_keys_119 (by decide) ?_
            exact W.iret (v := (nI 1)) hx hb hr (fun t ht hW => eLI hS ht (by rw [hq])) hS.2.2 dX5_keys_123
        · intro n59 ih59 ⟨i59, x3_59⟩ H locs ls h
          obtain ⟨hn59, hq, hP, hS, hl⟩ := h
          try dsimp only at hn59 hq hP hl
          replace hq : (fX5_keys ms g) = (if x3_59 = 0 then (fX5_keys_L59 ms g n59 (i59 + 1) (nI 0)) else (if (fX5_has g (nI i59)) = 0 then (fX5_keys_L59 ms g n59 (i59 + 1) (nI 1)) else (if (fX5_valueAt ms (0) (fX5_lowest g (ms 29)) (nI (i59 + 1))) = (ms (32 + i59)) then (fX5_keys_L59 ms g n59 (i59 + 1) (nI 1)) else (fX5_keys_L59 ms g n59 (i59 + 1) (nI 0))))) := hq
          refine lv_iload hx hb dX5_keys_59 (lv_at hl 0 rfl) ?_
          refine lv_bipush (v := (nI 8)) hx hb dX5_keys_61 (by decide) ?_
          refine lv_icmp_ge (tgt := 114) hx hb dX5_keys_63 (by decide) (fun c_63 => absurd c_63 (nI_ge (by omega) (by omega))) (fun c_63 => ?_)
          refine lv_iload_n hx hb dX5_keys_66 rfl (lv_at hl 1 rfl) ?_
          refine lv_if_eq (tgt := 106) hx hb dX5_keys_67 (by decide) (fun c_5 => ?_) (fun c_5 => ?_)
          · have hq := hq.trans (if_pos c_5)
            refine lv_iconst (v := (nI 0)) hx hb dX5_keys_106 (by decide) ?_
            refine lv_istore_n (lv' := [(3, .int (nI 0)), (4, .int (nI i59)), (2, .int (fX5_lowest g (ms 29))), (0, .ref (a 0)), (1, .int g)]) hx hb dX5_keys_107 rfl hl (by decide) rfl (fun ls hl => ?_)
            refine lv_iinc (v := (nI (i59 + 1))) (lv' := [(4, .int (nI (i59 + 1))), (3, .int (nI 0)), (2, .int (fX5_lowest g (ms 29))), (0, .ref (a 0)), (1, .int g)]) hx hb dX5_keys_108 hl (k := 1) rfl (nI_1 _) (by decide) rfl (fun ls hl => ?_)
            refine lv_goto (tgt := 59) hx hb dX5_keys_111 (by decide) ?_
            exact ih59 ((i59 + 1), (nI 0)) H locs ls ⟨by omega, hq, hP, hS, lv_sub hl [0, 1, 2, 3, 4] rfl⟩
          · have hq := hq.trans (if_neg c_5)
            refine lv_iload_n hx hb dX5_keys_70 rfl (lv_at hl 4 rfl) ?_
            refine lv_iload hx hb dX5_keys_71 (lv_at hl 0 rfl) ?_
            refine cLI (va_runS (As := [.int g, .int (nI i59)]) (rest := []) ⟨hx, hb, hml, hown, hts⟩ ((kX5_has l Γ g (nI i59)) _) (va_cwS 2 hts gX5_keys_X5_has rfl rfl rfl (by decide +kernel) ⟨Nat.le_of_ble_eq_true rfl, Nat.le_of_ble_eq_true rfl⟩) ⟨wPre_blind, wPre_mk hP hD hK hS hA hAB hAm [] rfl rfl⟩ rfl rfl hl.1 rfl (lv_room (Nat.le_of_ble_eq_true rfl)) dX5_keys_73 ⟨Nat.zero_le _, Nat.zero_le _⟩) hP hS hA (fun H locs hP hS => ?_)
            refine lv_if_eq (tgt := 102) hx hb dX5_keys_76 (by decide) (fun c_6 => ?_) (fun c_6 => ?_)
            · have hq := hq.trans (if_pos c_6)
              refine lv_iconst (v := (nI 1)) hx hb dX5_keys_102 (by decide) ?_
              refine lv_goto (tgt := 107) hx hb dX5_keys_103 (by decide) ?_
              refine lv_istore_n (lv' := [(3, .int (nI 1)), (4, .int (nI i59)), (2, .int (fX5_lowest g (ms 29))), (0, .ref (a 0)), (1, .int g)]) hx hb dX5_keys_107 rfl hl (by decide) rfl (fun ls hl => ?_)
              refine lv_iinc (v := (nI (i59 + 1))) (lv' := [(4, .int (nI (i59 + 1))), (3, .int (nI 1)), (2, .int (fX5_lowest g (ms 29))), (0, .ref (a 0)), (1, .int g)]) hx hb dX5_keys_108 hl (k := 1) rfl (nI_1 _) (by decide) rfl (fun ls hl => ?_)
              refine lv_goto (tgt := 59) hx hb dX5_keys_111 (by decide) ?_
              exact ih59 ((i59 + 1), (nI 1)) H locs ls ⟨by omega, hq, hP, hS, lv_sub hl [0, 1, 2, 3, 4] rfl⟩
            · have hq := hq.trans (if_neg c_6)
              refine lv_aload_n hx hb dX5_keys_79 rfl (lv_at hl 3 rfl) ?_
              refine lv_iconst (v := (nI 0)) hx hb dX5_keys_80 (by decide) ?_
              refine lv_iload_n hx hb dX5_keys_81 rfl (lv_at hl 2 rfl) ?_
              refine lv_iload hx hb dX5_keys_82 (lv_at hl 0 rfl) ?_
              refine lv_iconst (v := (nI 1)) hx hb dX5_keys_84 (by decide) ?_
              refine lv_iadd hx hb dX5_keys_85 ?_
              refine lv_eqi (y := (nI (i59 + 1))) (nI_add _ _) ?_
              refine cLI (va_runV (As := [.int (nI 0), .int (fX5_lowest g (ms 29)), .int (nI (i59 + 1))]) (rest := []) ⟨hx, hb, hml, hown, hts⟩ ((kX5_valueAt l Γ a ms mt mc md m0 m1 m2 m3 m4 m5 (0) (fX5_lowest g (ms 29)) (nI (i59 + 1)) (by first | assumption | omega)) _) (cwV 3 hts gX5_keys_X5_valueAt rfl rfl rfl (by decide +kernel) ⟨Nat.le_of_ble_eq_true rfl, Nat.le_of_ble_eq_true rfl⟩) ⟨wPre_blind, va_recv hK hP (ci := 5) (q0 := 0) rfl rfl, wPre_mk hP hD hK hS hA hAB hAm [0] rfl rfl⟩ rfl rfl hl.1 rfl (lv_room (Nat.le_of_ble_eq_true rfl)) dX5_keys_86 ⟨Nat.zero_le _, Nat.zero_le _⟩) hP hS hA (fun H locs hP hS => ?_)
              refine lv_aload_n hx hb dX5_keys_89 rfl (lv_at hl 3 rfl) ?_
              refine va_get (D := Γ.1) (ci := 5) (v := .ref (a 1)) (C := RX5) (T := TX5) (N := 10) hx hb hts hi5 hown hK hP 0 rfl rfl 0 (by decide) kf7 (fun _ h9 => h9) rfl dX5_keys_90 ?_
              refine lv_bipush (v := (nI 32)) hx hb dX5_keys_93 (by decide) ?_
              refine lv_iload hx hb dX5_keys_95 (lv_at hl 0 rfl) ?_
              refine lv_iadd hx hb dX5_keys_97 ?_
              refine lv_eqi (y := (nI (32 + i59))) (nI_add _ _) ?_
              refine va_iald_n (f := ms) hx hb hK hP 1 0 rfl rfl (by omega) (Nat.le_of_ble_eq_true rfl) dX5_keys_98 ?_
              refine lv_icmp_ne (tgt := 106) hx hb dX5_keys_99 (by decide) (fun c_7 => ?_) (fun c_7 => ?_)
              · have hq := hq.trans (if_neg c_7)
                refine lv_iconst (v := (nI 0)) hx hb dX5_keys_106 (by decide) ?_
                refine lv_istore_n (lv' := [(3, .int (nI 0)), (4, .int (nI i59)), (2, .int (fX5_lowest g (ms 29))), (0, .ref (a 0)), (1, .int g)]) hx hb dX5_keys_107 rfl hl (by decide) rfl (fun ls hl => ?_)
                refine lv_iinc (v := (nI (i59 + 1))) (lv' := [(4, .int (nI (i59 + 1))), (3, .int (nI 0)), (2, .int (fX5_lowest g (ms 29))), (0, .ref (a 0)), (1, .int g)]) hx hb dX5_keys_108 hl (k := 1) rfl (nI_1 _) (by decide) rfl (fun ls hl => ?_)
                refine lv_goto (tgt := 59) hx hb dX5_keys_111 (by decide) ?_
                exact ih59 ((i59 + 1), (nI 0)) H locs ls ⟨by omega, hq, hP, hS, lv_sub hl [0, 1, 2, 3, 4] rfl⟩
              · have hq := hq.trans (if_pos c_7)
                refine lv_iconst (v := (nI 1)) hx hb dX5_keys_102 (by decide) ?_
                refine lv_goto (tgt := 107) hx hb dX5_keys_103 (by decide) ?_
                refine lv_istore_n (lv' := [(3, .int (nI 1)), (4, .int (nI i59)), (2, .int (fX5_lowest g (ms 29))), (0, .ref (a 0)), (1, .int g)]) hx hb dX5_keys_107 rfl hl (by decide) rfl (fun ls hl => ?_)
                refine lv_iinc (v := (nI (i59 + 1))) (lv' := [(4, .int (nI (i59 + 1))), (3, .int (nI 1)), (2, .int (fX5_lowest g (ms 29))), (0, .ref (a 0)), (1, .int g)]) hx hb dX5_keys_108 hl (k := 1) rfl (nI_1 _) (by decide) rfl (fun ls hl => ?_)
                refine lv_goto (tgt := 59) hx hb dX5_keys_111 (by decide) ?_
                exact ih59 ((i59 + 1), (nI 1)) H locs ls ⟨by omega, hq, hP, hS, lv_sub hl [0, 1, 2, 3, 4] rfl⟩
      · have hq := hq.trans (if_neg c_3)
        refine lv_sipush (v := (nI 251)) hx hb dX5_keys_38 (by decide) ?_
        exact W.iret (v := (nI 251)) hx hb hr (fun t ht hW => eLI hS ht (by rw [hq])) hS.2.2 dX5_keys_41
    · have hq := hq.trans (if_neg c_2)
      refine lv_iconst (v := (-1)) hx hb dX5_keys_22 (by decide) ?_
      exact W.iret (v := (-1)) hx hb hr (fun t ht hW => eLI hS ht (by rw [hq])) hS.2.2 dX5_keys_23
def gsR (f1 f2 : Int32) : Int32 := if f1 = 0 then nI 0 else if f2 = 0 then nI 0 else nI 1
def gsT (f1 f2 : Int32) : Int32 := if f1 = 0 then nI 1 else if f2 = 0 then nI 2 else nI 0
theorem goes_eq (f1 f2 : Int32) : fX5_goes f1 f2 = (gsR f1 f2, gsT f1 f2) := by
  have h1 : ¬ (nI 1 = 0) := by decide
  have h2 : ¬ (nI 2 = 0) := by decide
  have h0 : nI 0 = 0 := by decide
  unfold fX5_goes gsR gsT
  by_cases a : f1 = 0
  · simp [a, h1]
  · by_cases b : f2 = 0 <;> simp [a, b, h2, h0]
theorem gsR_ne {f1 f2 : Int32} (h : ¬ gsR f1 f2 = 0) : ¬ f1 = 0 ∧ ¬ f2 = 0 := by
  unfold gsR at h
  refine ⟨fun q => h (by rw [if_pos q]; rfl), fun q => h ?_⟩
  by_cases a : f1 = 0
  · rw [if_pos a]; rfl
  · rw [if_neg a, if_pos q]; rfl
theorem in_ne {k lo hi : Int32} (h : ¬ fX5_in k lo hi = 0) : ¬ k < lo ∧ ¬ hi < k := by
  unfold fX5_in at h
  refine ⟨fun q => h (by rw [if_pos q]; rfl), fun q => h ?_⟩
  by_cases a : k < lo
  · rw [if_pos a]; rfl
  · rw [if_neg a, if_pos q]; rfl
theorem in_nat {k : Int32} {n : Nat} (hn : n < 2 ^ 31) (h : ¬ fX5_in k (nI 0) (nI n) = 0) : ∃ j : Nat, j ≤ n ∧ k = nI j := by
  obtain ⟨h1, h2⟩ := in_ne h
  obtain ⟨j, hj, rfl⟩ := nI_of h1
  rw [nI_ltI hn hj] at h2
  exact ⟨j, by omega, rfl⟩
theorem isK {ms : Nat → Int32} {k : Int32} {K : Nat} (hK : ms 1 = nI K) (h8 : K ≤ 8) (h : ¬ fX5_isKeeper ms k = 0) : ∃ j : Nat, j < K ∧ k = nI j := by
  unfold fX5_isKeeper at h
  rw [hK] at h
  obtain ⟨h1, h2⟩ := in_ne h
  obtain ⟨j, hj, rfl⟩ := nI_of h1
  refine ⟨j, ?_, rfl⟩
  cases K with
  | zero =>
    refine absurd ?_ h2
    rw [Int32.lt_iff_toInt_lt, nI_toInt hj, show (nI 0 - nI 1).toInt = -1 by decide]
    omega
  | succ K =>
    rw [pk_sub (show 1 ≤ K + 1 by omega), Nat.add_sub_cancel, nI_ltI (by omega) hj] at h2
    omega
/-- slot f of the row copied to slot t -/
def cpR (r : Nat → Int32) (f t : Nat) : Nat → Int32 := fun j => if 58 * t ≤ j ∧ j < 58 * t + 58 then r (58 * f + (j - 58 * t)) else r j
theorem cp_loop (f t : Nat) : ∀ (n i : Nat) (r : Nat → Int32), i + n = 58 → fX5_copies_L2 f t n i r = fun j => if 58 * t + i ≤ j ∧ j < 58 * t + 58 then r (58 * f + (j - 58 * t)) else r j := by
  intro n
  induction n with
  | zero =>
    intro i r h
    funext j
    show r j = _
    rw [if_neg (by omega)]
  | succ n ih =>
    intro i r h
    show fX5_copies_L2 f t n (i + 1) _ = _
    rw [ih (i + 1) _ (by omega)]
    funext j
    by_cases h1 : 58 * t + i ≤ j ∧ j < 58 * t + 58
    · rw [if_pos h1]
      by_cases h2 : j = 58 * t + i
      · rw [if_neg (by omega)]
        subst h2
        simp only [upd, if_true]
        congr 1; omega
      · rw [if_pos (by omega)]
        simp only [upd]
        by_cases h3 : 58 * f + (j - 58 * t) = 58 * t + i
        · rw [if_pos h3, h3]
          congr 1; omega
        · rw [if_neg h3]
    · rw [if_neg (by omega), if_neg h1]
      simp only [upd]
      rw [if_neg (by omega)]
theorem copies_eq (r : Nat → Int32) (f t : Nat) : fX5_copies r f t = cpR r f t := by
  unfold fX5_copies cpR
  rw [cp_loop f t 58 0 r (by omega)]
  rfl
def shR : Nat → Nat → (Nat → Int32) → (Nat → Int32)
  | 0, _, r => r
  | n + 1, k, r => shR n (k + 1) (cpR r (k + 1) k)
def svR (S : Nat) (r : Nat → Int32) : Nat → Int32 := if S = 6 then cpR (shR 5 1 r) 0 6 else cpR r 0 (S + 1)
def svS (S : Nat) : Nat := if S = 6 then 6 else S + 1
theorem svS_le {S : Nat} (h : S ≤ 6) : svS S ≤ 6 := by unfold svS; split <;> omega
theorem nX5_goes (l : Launch) (Γ : wG) (a : Nat → Nat) (ms : (Nat → Int32)) (mt : (Nat → Int32)) (mc : (Nat → Int32)) (md : (Nat → Int32)) (m0 : Int32) (m1 : Int32) (m2 : Int32) (m3 : Int32) (m4 : Int32) (m5 : Int32) (f1 : Int32) (f2 : Int32) : MI l Γ yX5_goes wsX5_goes ({ frames := 0, cells := 0, slots := 0, locals := 0 }) [.ref (a 0), .int f1, .int f2] [moB Γ a ms mt mc md m0 m1 m2 m3 m4 m5] [moB Γ a ms mt mc md m0 (gsT f1 f2) m2 m3 m4 m5] (gsR f1 f2) := by
  have h := kX5_goes l Γ a ms mt mc md m0 m1 m2 m3 m4 m5 f1 f2
  rw [goes_eq] at h
  exact h
theorem nX5_copies (l : Launch) (Γ : wG) (a : Nat → Nat) (ms : (Nat → Int32)) (mt : (Nat → Int32)) (mc : (Nat → Int32)) (md : (Nat → Int32)) (m0 : Int32) (m1 : Int32) (m2 : Int32) (m3 : Int32) (m4 : Int32) (m5 : Int32) (fr : Nat) (to : Nat) (hf : fr ≤ 7) (ht0 : to ≤ 7) : MV l Γ yX5_copies wsX5_copies ({ frames := 0, cells := 0, slots := 0, locals := 0 }) [.ref (a 0), .int (nI fr), .int (nI to)] [moB Γ a ms mt mc md m0 m1 m2 m3 m4 m5] [moB Γ a (cpR ms fr to) mt mc md m0 m1 m2 m3 m4 m5] := by
  have h := kX5_copies l Γ a ms mt mc md m0 m1 m2 m3 m4 m5 fr to hf ht0
  rw [copies_eq] at h
  exact h
def fX5_saves_L11 (S : Nat) : Nat → Nat → (Nat → Int32) → (Nat → Int32) × Int32
  | 0, i11, ms0_11 => ((cpR ms0_11 (0) (S - 1 + 1)), (nI (S - 1 + 1)))
  | n11 + 1, i11, ms0_11 => (fX5_saves_L11 S n11 (i11 + 1) (cpR ms0_11 (i11 + 1) (i11)))
def fX5_saves (S : Nat) (ms : (Nat → Int32)) : (Nat → Int32) × Int32 := (if (nI S) = (nI 6) then (fX5_saves_L11 S (5) 1 ms) else ((cpR ms (0) (S + 1)), (nI (S + 1))))
set_option maxHeartbeats 4000000 in
set_option maxRecDepth 100000 in
theorem kX5_saves (l : Launch) (Γ : wG) (a : Nat → Nat) (S : Nat) (ms : (Nat → Int32)) (mt : (Nat → Int32)) (mc : (Nat → Int32)) (md : (Nat → Int32)) (m1 : Int32) (m2 : Int32) (m3 : Int32) (m4 : Int32) (m5 : Int32) (hS6 : S ≤ 6) : MV l Γ yX5_saves wsX5_saves ({ frames := 1, cells := 0, slots := 0, locals := 23 }) [.ref (a 0)] [moB Γ a ms mt mc md (nI S) m1 m2 m3 m4 m5] [moB Γ a (fX5_saves S ms).1 mt mc md (fX5_saves S ms).2 m1 m2 m3 m4 m5] := by
  intro sz
  refine Met.ofW (cc := cX5_saves) (maxL := 2) (ret := none) (by decide) rfl ?_
  intro p e s m args below meth c s₁ B hml hv
  obtain ⟨rfl, hsz, hP, hK, hD0, hAm⟩ := hv
  have hx := B.exec
  have hb := B.bytes
  have hr := B.returns
  have hts := atoms_spec (ws := wsX5_saves) B.pre
  have hown : s.vm.findClass RX5 = some m.cls := findClass_of_methodNamed B.named
  have hlocks := B.notSynchronized
  subst hsz
  have hD := hD0.self (sz := s.heap.size)
  generalize hAe : va_A (wcat [moB Γ a ms mt mc md (nI S) m1 m2 m3 m4 m5]) s.heap.size = A at hD hAm ⊢
  have hA : ∀ q : Nat, s.heap.size ≤ q → A q := fun q h => by rw [← hAe]; exact Or.inr h
  have hAB : ∀ q : Nat, A q → A q := fun _ h => h
  have hS : va_S A s.heap s.heap [] := va_S.rf
  have hl := lv_entry ([.ref (a 0)]) (n := 2) (Nat.le_of_ble_eq_true rfl)
  rw [lg_entry_eq]
  generalize (lg_sl ([.ref (a 0)]) ++ List.replicate (2 - (lg_sl ([.ref (a 0)])).length) Slot.unset).toArray = ls at hl ⊢
  have hl : lv_has ls 2 [(0, .ref (a 0))] := hl
  have hi5 : ∀ w ∈ wsX50, w ∈ wsX5_saves := by decide +kernel
  have kf27 := hts (.fieldLink RX5 27 "CapsuleKeepersModel" "states" "I") (by decide +kernel)
  have hq : (fX5_saves S ms) = (if (nI S) = (nI 6) then (fX5_saves_L11 S (5) 1 ms) else ((cpR ms (0) (S + 1)), (nI (S + 1)))) := rfl
  refine lv_aload_n hx hb dX5_saves_0 rfl (lv_at hl 0 rfl) ?_
  refine va_get (D := Γ.1) (ci := 5) (v := .int (nI S)) (C := RX5) (T := TX5) (N := 10) hx hb hts hi5 hown hK hP 0 rfl rfl 1 (by decide) kf27 (fun _ h9 => h9) rfl dX5_saves_1 ?_
  refine lv_bipush (v := (nI 6)) hx hb dX5_saves_4 (by decide) ?_
  refine lv_icmp_ne (tgt := 41) hx hb dX5_saves_6 (by decide) (fun c_1 => ?_) (fun c_1 => ?_)
  · have hq := hq.trans (if_neg c_1)
    refine lv_aload_n hx hb dX5_saves_41 rfl (lv_at hl 0 rfl) ?_
    refine lv_dup hx hb dX5_saves_42 rfl ?_
    refine va_get (D := Γ.1) (ci := 5) (v := .int (nI S)) (C := RX5) (T := TX5) (N := 10) hx hb hts hi5 hown hK hP 0 rfl rfl 1 (by decide) kf27 (fun _ h9 => h9) rfl dX5_saves_43 ?_
    refine lv_iconst (v := (nI 1)) hx hb dX5_saves_46 (by decide) ?_
    refine lv_iadd hx hb dX5_saves_47 ?_
    refine lv_eqi (y := (nI (S + 1))) (nI_add _ _) ?_
    refine va_put (D := Γ.1) (ci := 5) (v := .int (nI (S + 1))) (ty := .int) (C := RX5) (T := TX5) (N := 10) hx hb hts hi5 tyX5 tyX5_ok nmX5 hown hK hP hD hS 0 rfl rfl 1 (by decide) kf27 (fun _ h9 => h9) rfl (by decide +kernel) rfl rfl (Nat.le_of_ble_eq_true rfl) dX5_saves_48 (fun H locs hP hD hS => ?_)
    have hP : va_P Γ.1 vwCl (wcat [moB Γ a ms mt mc md (nI (S + 1)) m1 m2 m3 m4 m5]) H := hP
    have hD : va_D A (wcat [moB Γ a ms mt mc md (nI (S + 1)) m1 m2 m3 m4 m5]) := hD
    refine lv_aload_n hx hb dX5_saves_51 rfl (lv_at hl 0 rfl) ?_
    refine lv_iconst (v := (nI 0)) hx hb dX5_saves_52 (by decide) ?_
    refine lv_aload_n hx hb dX5_saves_53 rfl (lv_at hl 0 rfl) ?_
    refine va_get (D := Γ.1) (ci := 5) (v := .int (nI (S + 1))) (C := RX5) (T := TX5) (N := 10) hx hb hts hi5 hown hK hP 0 rfl rfl 1 (by decide) kf27 (fun _ h9 => h9) rfl dX5_saves_54 ?_
    refine cMV (bc' := [moB Γ a (cpR ms (0) (S + 1)) mt mc md (nI (S + 1)) m1 m2 m3 m4 m5]) (va_runV (As := [.int (nI 0), .int (nI (S + 1))]) (rest := []) ⟨hx, hb, hml, hown, hts⟩ ((nX5_copies l Γ a ms mt mc md (nI (S + 1)) m1 m2 m3 m4 m5 (0) (S + 1) (by first | assumption | omega) (by first | assumption | omega)) _) (cwV 2 hts gX5_saves_X5_copies rfl rfl rfl (by decide +kernel) ⟨Nat.le_of_ble_eq_true rfl, Nat.le_of_ble_eq_true rfl⟩) ⟨wPre_blind, va_recv hK hP (ci := 5) (q0 := 0) rfl rfl, wPre_mk hP hD hK hS hA hAB hAm [0] rfl rfl⟩ rfl rfl hl.1 rfl (lv_room (Nat.le_of_ble_eq_true rfl)) dX5_saves_57 ⟨Nat.zero_le _, Nat.zero_le _⟩) hP hD hS hA [0] rfl rfl (bs' := [moB Γ a (cpR ms (0) (S + 1)) mt mc md (nI (S + 1)) m1 m2 m3 m4 m5]) rfl (fun H locs hP hD hS => ?_)
    exact W.vret hx hb hr (fun t ht hW => eMV (by rw [hq]; exact hP) hS ht) hS.2.2 dX5_saves_60
  · have hq := hq.trans (if_pos c_1)
    refine lv_iconst (v := (nI 1)) hx hb dX5_saves_9 (by decide) ?_
    refine lv_istore_n (lv' := [(1, .int (nI 1)), (0, .ref (a 0))]) hx hb dX5_saves_10 rfl hl (by decide) rfl (fun ls hl => ?_)
    refine wl (pc := 11) (σ := Nat × (Nat → Int32)) (fun n (i11, ms0_11) H locs ls => (i11 + n = 6) ∧ (fX5_saves S ms) = fX5_saves_L11 S n i11 ms0_11 ∧ va_P Γ.1 vwCl (wcat [moB Γ a ms0_11 mt mc md (nI S) m1 m2 m3 m4 m5]) H ∧ va_D A (wcat [moB Γ a ms0_11 mt mc md (nI S) m1 m2 m3 m4 m5]) ∧ va_S A s.heap H locs ∧ lv_has ls 2 [(1, .int (nI i11)), (0, .ref (a 0))]) ?_ ?_ (5) (1, ms) _ _ _ ⟨by omega, hq, hP, hD, hS, lv_sub hl [0, 1] rfl⟩
    · intro ⟨i11, ms0_11⟩ H locs ls h
      obtain ⟨hn11, hq, hP, hD, hS, hl⟩ := h
      try dsimp only at hn11 hq hP hD hl
      replace hq : (fX5_saves S ms) = ((cpR ms0_11 (0) (S - 1 + 1)), (nI (S - 1 + 1))) := hq
      refine lv_iload_n hx hb dX5_saves_11 rfl (lv_at hl 0 rfl) ?_
      refine lv_bipush (v := (nI 6)) hx hb dX5_saves_12 (by decide) ?_
      refine lv_icmp_ge (tgt := 31) hx hb dX5_saves_14 (by decide) (fun c_14 => ?_) (fun c_14 => absurd (nI_le (by omega) (by omega)) c_14)
      refine lv_aload_n hx hb dX5_saves_31 rfl (lv_at hl 1 rfl) ?_
      refine lv_dup hx hb dX5_saves_32 rfl ?_
      refine va_get (D := Γ.1) (ci := 5) (v := .int (nI S)) (C := RX5) (T := TX5) (N := 10) hx hb hts hi5 hown hK hP 0 rfl rfl 1 (by decide) kf27 (fun _ h9 => h9) rfl dX5_saves_33 ?_
      refine lv_iconst (v := (nI 1)) hx hb dX5_saves_36 (by decide) ?_
      refine lv_isub hx hb dX5_saves_37 ?_
      refine lv_eqi (y := (nI (S - 1))) (pk_sub (by have := (nI_eq (show S < 2 ^ 31 by omega) (show 6 < 2 ^ 31 by decide)).mp c_1; omega)) ?_
      refine va_put (D := Γ.1) (ci := 5) (v := .int (nI (S - 1))) (ty := .int) (C := RX5) (T := TX5) (N := 10) hx hb hts hi5 tyX5 tyX5_ok nmX5 hown hK hP hD hS 0 rfl rfl 1 (by decide) kf27 (fun _ h9 => h9) rfl (by decide +kernel) rfl rfl (Nat.le_of_ble_eq_true rfl) dX5_saves_38 (fun H locs hP hD hS => ?_)
      have hP : va_P Γ.1 vwCl (wcat [moB Γ a ms0_11 mt mc md (nI (S - 1)) m1 m2 m3 m4 m5]) H := hP
      have hD : va_D A (wcat [moB Γ a ms0_11 mt mc md (nI (S - 1)) m1 m2 m3 m4 m5]) := hD
      refine lv_aload_n hx hb dX5_saves_41 rfl (lv_at hl 1 rfl) ?_
      refine lv_dup hx hb dX5_saves_42 rfl ?_
      refine va_get (D := Γ.1) (ci := 5) (v := .int (nI (S - 1))) (C := RX5) (T := TX5) (N := 10) hx hb hts hi5 hown hK hP 0 rfl rfl 1 (by decide) kf27 (fun _ h9 => h9) rfl dX5_saves_43 ?_
      refine lv_iconst (v := (nI 1)) hx hb dX5_saves_46 (by decide) ?_
      refine lv_iadd hx hb dX5_saves_47 ?_
      refine lv_eqi (y := (nI (S - 1 + 1))) (nI_add _ _) ?_
      refine va_put (D := Γ.1) (ci := 5) (v := .int (nI (S - 1 + 1))) (ty := .int) (C := RX5) (T := TX5) (N := 10) hx hb hts hi5 tyX5 tyX5_ok nmX5 hown hK hP hD hS 0 rfl rfl 1 (by decide) kf27 (fun _ h9 => h9) rfl (by decide +kernel) rfl rfl (Nat.le_of_ble_eq_true rfl) dX5_saves_48 (fun H locs hP hD hS => ?_)
      have hP : va_P Γ.1 vwCl (wcat [moB Γ a ms0_11 mt mc md (nI (S - 1 + 1)) m1 m2 m3 m4 m5]) H := hP
      have hD : va_D A (wcat [moB Γ a ms0_11 mt mc md (nI (S - 1 + 1)) m1 m2 m3 m4 m5]) := hD
      refine lv_aload_n hx hb dX5_saves_51 rfl (lv_at hl 1 rfl) ?_
      refine lv_iconst (v := (nI 0)) hx hb dX5_saves_52 (by decide) ?_
      refine lv_aload_n hx hb dX5_saves_53 rfl (lv_at hl 1 rfl) ?_
      refine va_get (D := Γ.1) (ci := 5) (v := .int (nI (S - 1 + 1))) (C := RX5) (T := TX5) (N := 10) hx hb hts hi5 hown hK hP 0 rfl rfl 1 (by decide) kf27 (fun _ h9 => h9) rfl dX5_saves_54 ?_
      refine cMV (bc' := [moB Γ a (cpR ms0_11 (0) (S - 1 + 1)) mt mc md (nI (S - 1 + 1)) m1 m2 m3 m4 m5]) (va_runV (As := [.int (nI 0), .int (nI (S - 1 + 1))]) (rest := []) ⟨hx, hb, hml, hown, hts⟩ ((nX5_copies l Γ a ms0_11 mt mc md (nI (S - 1 + 1)) m1 m2 m3 m4 m5 (0) (S - 1 + 1) (by first | assumption | omega) (by first | assumption | omega)) _) (cwV 2 hts gX5_saves_X5_copies rfl rfl rfl (by decide +kernel) ⟨Nat.le_of_ble_eq_true rfl, Nat.le_of_ble_eq_true rfl⟩) ⟨wPre_blind, va_recv hK hP (ci := 5) (q0 := 0) rfl rfl, wPre_mk hP hD hK hS hA hAB hAm [0] rfl rfl⟩ rfl rfl hl.1 rfl (lv_room (Nat.le_of_ble_eq_true rfl)) dX5_saves_57 ⟨Nat.zero_le _, Nat.zero_le _⟩) hP hD hS hA [0] rfl rfl (bs' := [moB Γ a (cpR ms0_11 (0) (S - 1 + 1)) mt mc md (nI (S - 1 + 1)) m1 m2 m3 m4 m5]) rfl (fun H locs hP hD hS => ?_)
      exact W.vret hx hb hr (fun t ht hW => eMV (by rw [hq]; exact hP) hS ht) hS.2.2 dX5_saves_60
    · intro n11 ih11 ⟨i11, ms0_11⟩ H locs ls h
      obtain ⟨hn11, hq, hP, hD, hS, hl⟩ := h
      try dsimp only at hn11 hq hP hD hl
      replace hq : (fX5_saves S ms) = (fX5_saves_L11 S n11 (i11 + 1) (cpR ms0_11 (i11 + 1) (i11))) := hq
      refine lv_iload_n hx hb dX5_saves_11 rfl (lv_at hl 0 rfl) ?_
      refine lv_bipush (v := (nI 6)) hx hb dX5_saves_12 (by decide) ?_
      refine lv_icmp_ge (tgt := 31) hx hb dX5_saves_14 (by decide) (fun c_14 => absurd c_14 (nI_ge (by omega) (by omega))) (fun c_14 => ?_)
      refine lv_aload_n hx hb dX5_saves_17 rfl (lv_at hl 1 rfl) ?_
      refine lv_iload_n hx hb dX5_saves_18 rfl (lv_at hl 0 rfl) ?_
      refine lv_iconst (v := (nI 1)) hx hb dX5_saves_19 (by decide) ?_
      refine lv_iadd hx hb dX5_saves_20 ?_
      refine lv_eqi (y := (nI (i11 + 1))) (nI_add _ _) ?_
      refine lv_iload_n hx hb dX5_saves_21 rfl (lv_at hl 0 rfl) ?_
      refine cMV (bc' := [moB Γ a (cpR ms0_11 (i11 + 1) (i11)) mt mc md (nI S) m1 m2 m3 m4 m5]) (va_runV (As := [.int (nI (i11 + 1)), .int (nI i11)]) (rest := []) ⟨hx, hb, hml, hown, hts⟩ ((nX5_copies l Γ a ms0_11 mt mc md (nI S) m1 m2 m3 m4 m5 (i11 + 1) (i11) (by first | assumption | omega) (by first | assumption | omega)) _) (cwV 2 hts gX5_saves_X5_copies rfl rfl rfl (by decide +kernel) ⟨Nat.le_of_ble_eq_true rfl, Nat.le_of_ble_eq_true rfl⟩) ⟨wPre_blind, va_recv hK hP (ci := 5) (q0 := 0) rfl rfl, wPre_mk hP hD hK hS hA hAB hAm [0] rfl rfl⟩ rfl rfl hl.1 rfl (lv_room (Nat.le_of_ble_eq_true rfl)) dX5_saves_22 ⟨Nat.zero_le _, Nat.zero_le _⟩) hP hD hS hA [0] rfl rfl (bs' := [moB Γ a (cpR ms0_11 (i11 + 1) (i11)) mt mc md (nI S) m1 m2 m3 m4 m5]) rfl (fun H locs hP hD hS => ?_)
      refine lv_iinc (v := (nI (i11 + 1))) (lv' := [(1, .int (nI (i11 + 1))), (0, .ref (a 0))]) hx hb dX5_saves_25 hl (k := 0) rfl (nI_1 _) (by decide) rfl (fun ls hl => ?_)
      refine lv_goto (tgt := 11) hx hb dX5_saves_28 (by decide) ?_
      exact ih11 ((i11 + 1), (cpR ms0_11 (i11 + 1) (i11))) H locs ls ⟨by omega, hq, hP, hD, hS, lv_sub hl [0, 1] rfl⟩
