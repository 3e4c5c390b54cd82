def fbit (x : Int32) : Int32 := (let y_1 := (x - (((x.toUInt32 >>> ((nI 1).toUInt32 &&& Int32.toUInt32 31)).toInt32) &&& (nI 1431655765))); (let y_2 := ((y_1 &&& (nI 858993459)) + (((y_1.toUInt32 >>> ((nI 2).toUInt32 &&& Int32.toUInt32 31)).toInt32) &&& (nI 858993459))); (let y_3 := ((y_2 + ((y_2.toUInt32 >>> ((nI 4).toUInt32 &&& Int32.toUInt32 31)).toInt32)) &&& (nI 252645135)); (let y_4 := (y_3 + ((y_3.toUInt32 >>> ((nI 8).toUInt32 &&& Int32.toUInt32 31)).toInt32)); (let y_5 := (y_4 + ((y_4.toUInt32 >>> ((nI 16).toUInt32 &&& Int32.toUInt32 31)).toInt32)); ((y_5 &&& (nI 63))))))))
set_option maxHeartbeats 4000000 in
set_option maxRecDepth 100000 in
theorem kJ6_bitCount_0f7a4 (l : Launch) (Γ : wG) (x : Int32) : LI l Γ yJ6_bitCount_0f7a4 wsJ6_bitCount_0f7a4 ({ frames := 0, cells := 0, slots := 0, locals := 0 }) [.int x] [] (fbit x) := by
  intro sz
  refine Met.ofW (cc := cJ6_bitCount_0f7a4) (maxL := 1) (ret := (some .int)) (by decide) rfl ?_
  intro p e s m args below meth c s₁ B hml hv
  obtain ⟨rfl, hsz, hP, hK, hD0, hAm⟩ := hv
  have hx := B.exec
  have hb := B.bytes
  have hr := B.returns
  have hts := atoms_spec (ws := wsJ6_bitCount_0f7a4) B.pre
  have hown : s.vm.findClass RJ6 = some m.cls := findClass_of_methodNamed B.named
  have hlocks := B.notSynchronized
  subst hsz
  have hD := hD0.self (sz := s.heap.size)
  generalize hBe : va_A (wcat []) s.heap.size = B0 at hD hAm
  obtain ⟨A, hAe⟩ : ∃ A, A = va_A [] s.heap.size := ⟨_, rfl⟩
  rw [← hAe]
  have hA : ∀ q : Nat, s.heap.size ≤ q → A q := fun q h => by rw [hAe]; exact Or.inr h
  have hAB : ∀ q : Nat, A q → B0 q := fun q h => by rw [hAe] at h; rw [← hBe]; exact Or.inr (wnone h)
  have hS : va_S A s.heap s.heap [] := va_S.rf
  have hl := lv_entry ([.int x]) (n := 1) (Nat.le_of_ble_eq_true rfl)
  rw [lg_entry_eq]
  generalize (lg_sl ([.int x]) ++ List.replicate (1 - (lg_sl ([.int x])).length) Slot.unset).toArray = ls at hl ⊢
  have hl : lv_has ls 1 [(0, .int x)] := hl
  have kc265 := hts (.constant RJ6 265 (1431655765)) (by decide +kernel)
  have kc266 := hts (.constant RJ6 266 (858993459)) (by decide +kernel)
  have kc267 := hts (.constant RJ6 267 (252645135)) (by decide +kernel)
  have hq : (fbit x) = (let y_1 := (x - (((x.toUInt32 >>> ((nI 1).toUInt32 &&& Int32.toUInt32 31)).toInt32) &&& (nI 1431655765))); (let y_2 := ((y_1 &&& (nI 858993459)) + (((y_1.toUInt32 >>> ((nI 2).toUInt32 &&& Int32.toUInt32 31)).toInt32) &&& (nI 858993459))); (let y_3 := ((y_2 + ((y_2.toUInt32 >>> ((nI 4).toUInt32 &&& Int32.toUInt32 31)).toInt32)) &&& (nI 252645135)); (let y_4 := (y_3 + ((y_3.toUInt32 >>> ((nI 8).toUInt32 &&& Int32.toUInt32 31)).toInt32)); (let y_5 := (y_4 + ((y_4.toUInt32 >>> ((nI 16).toUInt32 &&& Int32.toUInt32 31)).toInt32)); ((y_5 &&& (nI 63)))))))) := rfl
  refine lv_iload_n hx hb dJ6_bitCount_0f7a4_0 rfl (lv_at hl 0 rfl) ?_
  refine lv_iload_n hx hb dJ6_bitCount_0f7a4_1 rfl (lv_at hl 0 rfl) ?_
  refine lv_iconst (v := (nI 1)) hx hb dJ6_bitCount_0f7a4_2 (by decide) ?_
  refine lv_iushr (v := ((x.toUInt32 >>> ((nI 1).toUInt32 &&& Int32.toUInt32 31)).toInt32)) hx hb dJ6_bitCount_0f7a4_3 rfl ?_
  refine lv_ldcw (v := (nI 1431655765)) hx hb hown kc265 dJ6_bitCount_0f7a4_4 ?_
  refine lv_iand hx hb dJ6_bitCount_0f7a4_7 ?_
  refine lv_isub hx hb dJ6_bitCount_0f7a4_8 ?_
  refine lv_topi (fun y_1 ey_1 => ?_)
  replace hq : (fbit x) = (let y_2 := ((y_1 &&& (nI 858993459)) + (((y_1.toUInt32 >>> ((nI 2).toUInt32 &&& Int32.toUInt32 31)).toInt32) &&& (nI 858993459))); (let y_3 := ((y_2 + ((y_2.toUInt32 >>> ((nI 4).toUInt32 &&& Int32.toUInt32 31)).toInt32)) &&& (nI 252645135)); (let y_4 := (y_3 + ((y_3.toUInt32 >>> ((nI 8).toUInt32 &&& Int32.toUInt32 31)).toInt32)); (let y_5 := (y_4 + ((y_4.toUInt32 >>> ((nI 16).toUInt32 &&& Int32.toUInt32 31)).toInt32)); ((y_5 &&& (nI 63))))))) := hq.trans (by rw [ey_1])
  refine lv_istore_n (lv' := [(0, .int y_1)]) hx hb dJ6_bitCount_0f7a4_9 rfl hl (by decide) rfl (fun ls hl => ?_)
  refine lv_iload_n hx hb dJ6_bitCount_0f7a4_10 rfl (lv_at hl 0 rfl) ?_
  refine lv_ldcw (v := (nI 858993459)) hx hb hown kc266 dJ6_bitCount_0f7a4_11 ?_
  refine lv_iand hx hb dJ6_bitCount_0f7a4_14 ?_
  refine lv_iload_n hx hb dJ6_bitCount_0f7a4_15 rfl (lv_at hl 0 rfl) ?_
  refine lv_iconst (v := (nI 2)) hx hb dJ6_bitCount_0f7a4_16 (by decide) ?_
  refine lv_iushr (v := ((y_1.toUInt32 >>> ((nI 2).toUInt32 &&& Int32.toUInt32 31)).toInt32)) hx hb dJ6_bitCount_0f7a4_17 rfl ?_
  refine lv_ldcw (v := (nI 858993459)) hx hb hown kc266 dJ6_bitCount_0f7a4_18 ?_
  refine lv_iand hx hb dJ6_bitCount_0f7a4_21 ?_
  refine lv_iadd hx hb dJ6_bitCount_0f7a4_22 ?_
  refine lv_topi (fun y_2 ey_2 => ?_)
  replace hq : (fbit x) = (let y_3 := ((y_2 + ((y_2.toUInt32 >>> ((nI 4).toUInt32 &&& Int32.toUInt32 31)).toInt32)) &&& (nI 252645135)); (let y_4 := (y_3 + ((y_3.toUInt32 >>> ((nI 8).toUInt32 &&& Int32.toUInt32 31)).toInt32)); (let y_5 := (y_4 + ((y_4.toUInt32 >>> ((nI 16).toUInt32 &&& Int32.toUInt32 31)).toInt32)); ((y_5 &&& (nI 63)))))) := hq.trans (by rw [ey_2])
  refine lv_istore_n (lv' := [(0, .int y_2)]) hx hb dJ6_bitCount_0f7a4_23 rfl hl (by decide) rfl (fun ls hl => ?_)
  refine lv_iload_n hx hb dJ6_bitCount_0f7a4_24 rfl (lv_at hl 0 rfl) ?_
  refine lv_iload_n hx hb dJ6_bitCount_0f7a4_25 rfl (lv_at hl 0 rfl) ?_
  refine lv_iconst (v := (nI 4)) hx hb dJ6_bitCount_0f7a4_26 (by decide) ?_
  refine lv_iushr (v := ((y_2.toUInt32 >>> ((nI 4).toUInt32 &&& Int32.toUInt32 31)).toInt32)) hx hb dJ6_bitCount_0f7a4_27 rfl ?_
  refine lv_iadd hx hb dJ6_bitCount_0f7a4_28 ?_
  refine lv_ldcw (v := (nI 252645135)) hx hb hown kc267 dJ6_bitCount_0f7a4_29 ?_
  refine lv_iand hx hb dJ6_bitCount_0f7a4_32 ?_
  refine lv_topi (fun y_3 ey_3 => ?_)
  replace hq : (fbit x) = (let y_4 := (y_3 + ((y_3.toUInt32 >>> ((nI 8).toUInt32 &&& Int32.toUInt32 31)).toInt32)); (let y_5 := (y_4 + ((y_4.toUInt32 >>> ((nI 16).toUInt32 &&& Int32.toUInt32 31)).toInt32)); ((y_5 &&& (nI 63))))) := hq.trans (by rw [ey_3])
  refine lv_istore_n (lv' := [(0, .int y_3)]) hx hb dJ6_bitCount_0f7a4_33 rfl hl (by decide) rfl (fun ls hl => ?_)
  refine lv_iload_n hx hb dJ6_bitCount_0f7a4_34 rfl (lv_at hl 0 rfl) ?_
  refine lv_iload_n hx hb dJ6_bitCount_0f7a4_35 rfl (lv_at hl 0 rfl) ?_
  refine lv_bipush (v := (nI 8)) hx hb dJ6_bitCount_0f7a4_36 (by decide) ?_
  refine lv_iushr (v := ((y_3.toUInt32 >>> ((nI 8).toUInt32 &&& Int32.toUInt32 31)).toInt32)) hx hb dJ6_bitCount_0f7a4_38 rfl ?_
  refine lv_iadd hx hb dJ6_bitCount_0f7a4_39 ?_
  refine lv_topi (fun y_4 ey_4 => ?_)
  replace hq : (fbit x) = (let y_5 := (y_4 + ((y_4.toUInt32 >>> ((nI 16).toUInt32 &&& Int32.toUInt32 31)).toInt32)); ((y_5 &&& (nI 63)))) := hq.trans (by rw [ey_4])
  refine lv_istore_n (lv' := [(0, .int y_4)]) hx hb dJ6_bitCount_0f7a4_40 rfl hl (by decide) rfl (fun ls hl => ?_)
  refine lv_iload_n hx hb dJ6_bitCount_0f7a4_41 rfl (lv_at hl 0 rfl) ?_
  refine lv_iload_n hx hb dJ6_bitCount_0f7a4_42 rfl (lv_at hl 0 rfl) ?_
  refine lv_bipush (v := (nI 16)) hx hb dJ6_bitCount_0f7a4_43 (by decide) ?_
  refine lv_iushr (v := ((y_4.toUInt32 >>> ((nI 16).toUInt32 &&& Int32.toUInt32 31)).toInt32)) hx hb dJ6_bitCount_0f7a4_45 rfl ?_
  refine lv_iadd hx hb dJ6_bitCount_0f7a4_46 ?_
  refine lv_topi (fun y_5 ey_5 => ?_)
  replace hq : (fbit x) = ((y_5 &&& (nI 63))) := hq.trans (by rw [ey_5])
  refine lv_istore_n (lv' := [(0, .int y_5)]) hx hb dJ6_bitCount_0f7a4_47 rfl hl (by decide) rfl (fun ls hl => ?_)
  refine lv_iload_n hx hb dJ6_bitCount_0f7a4_48 rfl (lv_at hl 0 rfl) ?_
  refine lv_bipush (v := (nI 63)) hx hb dJ6_bitCount_0f7a4_49 (by decide) ?_
  refine lv_iand hx hb dJ6_bitCount_0f7a4_51 ?_
  exact W.iret (v := (y_5 &&& (nI 63))) hx hb hr (fun t ht hW => eLI hS ht (by rw [hq])) hS.2.2 dJ6_bitCount_0f7a4_52
def fX2_hasKeeper (v : (Nat → Nat → Int32)) (k : Int32) : Int32 := (if k < 0 then ((nI 0)) else (if (v 0 0) ≤ k then ((nI 0)) else (if (nI 8) ≤ k then ((nI 0)) else ((nI 1)))))
set_option maxHeartbeats 4000000 in
set_option maxRecDepth 100000 in
theorem kX2_hasKeeper (l : Launch) (Γ : wG) (a : Nat → Nat) (v : (Nat → Nat → Int32)) (k : Int32) : LI l Γ yX2_hasKeeper wsX2_hasKeeper ({ frames := 0, cells := 0, slots := 0, locals := 0 }) [.ref (a 0), .int k] [plB Γ a v] (fX2_hasKeeper v k) := by
  intro sz
  refine Met.ofW (cc := cX2_hasKeeper) (maxL := 2) (ret := (some .boolean)) (by decide) rfl ?_
  intro p e s m args below meth c s₁ B hml hv
  obtain ⟨rfl, hsz, hP, hK, hD0, hAm⟩ := hv
  have hx := B.exec
  have hb := B.bytes
  have hr := B.returns
  have hts := atoms_spec (ws := wsX2_hasKeeper) B.pre
  have hown : s.vm.findClass RX2 = some m.cls := findClass_of_methodNamed B.named
  have hlocks := B.notSynchronized
  subst hsz
  have hD := hD0.self (sz := s.heap.size)
  generalize hBe : va_A (wcat [plB Γ a v]) s.heap.size = B0 at hD hAm
  obtain ⟨A, hAe⟩ : ∃ A, A = va_A [] s.heap.size := ⟨_, rfl⟩
  rw [← hAe]
  have hA : ∀ q : Nat, s.heap.size ≤ q → A q := fun q h => by rw [hAe]; exact Or.inr h
  have hAB : ∀ q : Nat, A q → B0 q := fun q h => by rw [hAe] at h; rw [← hBe]; exact Or.inr (wnone h)
  have hS : va_S A s.heap s.heap [] := va_S.rf
  have hl := lv_entry ([.ref (a 0), .int k]) (n := 2) (Nat.le_of_ble_eq_true rfl)
  rw [lg_entry_eq]
  generalize (lg_sl ([.ref (a 0), .int k]) ++ List.replicate (2 - (lg_sl ([.ref (a 0), .int k])).length) Slot.unset).toArray = ls at hl ⊢
  have hl : lv_has ls 2 [(0, .ref (a 0)), (1, .int k)] := hl
  have hi2 : ∀ w ∈ wsX20, w ∈ wsX2_hasKeeper := by decide +kernel
  have kf34 := hts (.fieldLink RX2 34 "CapsuleKeepers$Place" "keepers" "I") (by decide +kernel)
  have hq : (fX2_hasKeeper v k) = (if k < 0 then ((nI 0)) else (if (v 0 0) ≤ k then ((nI 0)) else (if (nI 8) ≤ k then ((nI 0)) else ((nI 1))))) := rfl
  refine lv_iload_n hx hb dX2_hasKeeper_0 rfl (lv_at hl 1 rfl) ?_
  refine lv_if_lt (tgt := 22) hx hb dX2_hasKeeper_1 (by decide) (fun c_1 => ?_) (fun c_1 => ?_)
  · have hq := hq.trans (if_pos c_1)
    refine lv_iconst (v := (nI 0)) hx hb dX2_hasKeeper_22 (by decide) ?_
    exact W.zret (v := (nI 0)) hx hb hr (by first | rfl | decide) (fun t ht hW => eLI hS ht (by rw [hq])) hS.2.2 dX2_hasKeeper_23
  · have hq := hq.trans (if_neg c_1)
    refine lv_iload_n hx hb dX2_hasKeeper_4 rfl (lv_at hl 1 rfl) ?_
    refine lv_aload_n hx hb dX2_hasKeeper_5 rfl (lv_at hl 0 rfl) ?_
    refine va_get (D := Γ.1) (ci := 2) (v := .int (v 0 0)) (C := RX2) (T := TX2) (N := 16) hx hb hts hi2 hown hK hP 0 rfl rfl 0 (by decide) kf34 (fun _ h9 => h9) rfl dX2_hasKeeper_6 ?_
    refine lv_icmp_ge (tgt := 22) hx hb dX2_hasKeeper_9 (by decide) (fun c_2 => ?_) (fun c_2 => ?_)
    · have hq := hq.trans (if_pos c_2)
      refine lv_iconst (v := (nI 0)) hx hb dX2_hasKeeper_22 (by decide) ?_
      exact W.zret (v := (nI 0)) hx hb hr (by first | rfl | decide) (fun t ht hW => eLI hS ht (by rw [hq])) hS.2.2 dX2_hasKeeper_23
    · have hq := hq.trans (if_neg c_2)
      refine lv_iload_n hx hb dX2_hasKeeper_12 rfl (lv_at hl 1 rfl) ?_
      refine lv_bipush (v := (nI 8)) hx hb dX2_hasKeeper_13 (by decide) ?_
      refine lv_icmp_ge (tgt := 22) hx hb dX2_hasKeeper_15 (by decide) (fun c_3 => ?_) (fun c_3 => ?_)
      · have hq := hq.trans (if_pos c_3)
        refine lv_iconst (v := (nI 0)) hx hb dX2_hasKeeper_22 (by decide) ?_
        exact W.zret (v := (nI 0)) hx hb hr (by first | rfl | decide) (fun t ht hW => eLI hS ht (by rw [hq])) hS.2.2 dX2_hasKeeper_23
      · have hq := hq.trans (if_neg c_3)
        refine lv_iconst (v := (nI 1)) hx hb dX2_hasKeeper_18 (by decide) ?_
        refine lv_goto (tgt := 23) hx hb dX2_hasKeeper_19 (by decide) ?_
        exact W.zret (v := (nI 1)) hx hb hr (by first | rfl | decide) (fun t ht hW => eLI hS ht (by rw [hq])) hS.2.2 dX2_hasKeeper_23
def fX2_lives (v : (Nat → Nat → Int32)) (k : Int32) : Int32 := (if (fX2_hasKeeper v k) = 0 then ((nI 0)) else (if (((v 0 1) >>> (k &&& 31)) &&& (nI 1)) = (nI 1) then ((nI 1)) else ((nI 0))))
set_option maxHeartbeats 4000000 in
set_option maxRecDepth 100000 in
theorem kX2_lives (l : Launch) (Γ : wG) (a : Nat → Nat) (v : (Nat → Nat → Int32)) (k : Int32) : LI l Γ yX2_lives wsX2_lives ({ frames := 1, cells := 0, slots := 0, locals := 21 }) [.ref (a 0), .int k] [plB Γ a v] (fX2_lives v k) := by
  intro sz
  refine Met.ofW (cc := cX2_lives) (maxL := 2) (ret := (some .boolean)) (by decide) rfl ?_
  intro p e s m args below meth c s₁ B hml hv
  obtain ⟨rfl, hsz, hP, hK, hD0, hAm⟩ := hv
  have hx := B.exec
  have hb := B.bytes
  have hr := B.returns
  have hts := atoms_spec (ws := wsX2_lives) B.pre
  have hown : s.vm.findClass RX2 = some m.cls := findClass_of_methodNamed B.named
  have hlocks := B.notSynchronized
  subst hsz
  have hD := hD0.self (sz := s.heap.size)
  generalize hBe : va_A (wcat [plB Γ a v]) s.heap.size = B0 at hD hAm
  obtain ⟨A, hAe⟩ : ∃ A, A = va_A [] s.heap.size := ⟨_, rfl⟩
  rw [← hAe]
  have hA : ∀ q : Nat, s.heap.size ≤ q → A q := fun q h => by rw [hAe]; exact Or.inr h
  have hAB : ∀ q : Nat, A q → B0 q := fun q h => by rw [hAe] at h; rw [← hBe]; exact Or.inr (wnone h)
  have hS : va_S A s.heap s.heap [] := va_S.rf
  have hl := lv_entry ([.ref (a 0), .int k]) (n := 2) (Nat.le_of_ble_eq_true rfl)
  rw [lg_entry_eq]
  generalize (lg_sl ([.ref (a 0), .int k]) ++ List.replicate (2 - (lg_sl ([.ref (a 0), .int k])).length) Slot.unset).toArray = ls at hl ⊢
  have hl : lv_has ls 2 [(0, .ref (a 0)), (1, .int k)] := hl
  have hi2 : ∀ w ∈ wsX20, w ∈ wsX2_lives := by decide +kernel
  have kf37 := hts (.fieldLink RX2 37 "CapsuleKeepers$Place" "living" "I") (by decide +kernel)
  have hq : (fX2_lives v k) = (if (fX2_hasKeeper v k) = 0 then ((nI 0)) else (if (((v 0 1) >>> (k &&& 31)) &&& (nI 1)) = (nI 1) then ((nI 1)) else ((nI 0)))) := rfl
  refine lv_aload_n hx hb dX2_lives_0 rfl (lv_at hl 0 rfl) ?_
  refine lv_iload_n hx hb dX2_lives_1 rfl (lv_at hl 1 rfl) ?_
  refine cLI (va_runV (As := [.int k]) (rest := []) ⟨hx, hb, hml, hown, hts⟩ ((kX2_hasKeeper l Γ a v k) _) (cwV 1 hts gX2_lives_X2_hasKeeper rfl rfl rfl (by decide +kernel) ⟨Nat.le_of_ble_eq_true rfl, Nat.le_of_ble_eq_true rfl⟩) ⟨wPre_blind, va_recv hK hP (ci := 2) (q0 := 0) rfl rfl, wPre_mk hP hD hK hS hA hAB hAm [0] rfl rfl⟩ rfl rfl hl.1 rfl (lv_room (Nat.le_of_ble_eq_true rfl)) dX2_lives_2 ⟨Nat.zero_le _, Nat.zero_le _⟩) hP hS hA (fun H locs hP hS => ?_)
  refine lv_if_eq (tgt := 24) hx hb dX2_lives_5 (by decide) (fun c_1 => ?_) (fun c_1 => ?_)
  · have hq := hq.trans (if_pos c_1)
    refine lv_iconst (v := (nI 0)) hx hb dX2_lives_24 (by decide) ?_
    exact W.zret (v := (nI 0)) hx hb hr (by first | rfl | decide) (fun t ht hW => eLI hS ht (by rw [hq])) hS.2.2 dX2_lives_25
  · have hq := hq.trans (if_neg c_1)
    refine lv_aload_n hx hb dX2_lives_8 rfl (lv_at hl 0 rfl) ?_
    refine va_get (D := Γ.1) (ci := 2) (v := .int (v 0 1)) (C := RX2) (T := TX2) (N := 16) hx hb hts hi2 hown hK hP 0 rfl rfl 1 (by decide) kf37 (fun _ h9 => h9) rfl dX2_lives_9 ?_
    refine lv_iload_n hx hb dX2_lives_12 rfl (lv_at hl 1 rfl) ?_
    refine lv_ishr hx hb dX2_lives_13 ?_
    refine lv_iconst (v := (nI 1)) hx hb dX2_lives_14 (by decide) ?_
    refine lv_iand hx hb dX2_lives_15 ?_
    refine lv_iconst (v := (nI 1)) hx hb dX2_lives_16 (by decide) ?_
    refine lv_icmp_ne (tgt := 24) hx hb dX2_lives_17 (by decide) (fun c_2 => ?_) (fun c_2 => ?_)
    · have hq := hq.trans (if_neg c_2)
      refine lv_iconst (v := (nI 0)) hx hb dX2_lives_24 (by decide) ?_
      exact W.zret (v := (nI 0)) hx hb hr (by first | rfl | decide) (fun t ht hW => eLI hS ht (by rw [hq])) hS.2.2 dX2_lives_25
    · have hq := hq.trans (if_pos c_2)
      refine lv_iconst (v := (nI 1)) hx hb dX2_lives_20 (by decide) ?_
      refine lv_goto (tgt := 25) hx hb dX2_lives_21 (by decide) ?_
      exact W.zret (v := (nI 1)) hx hb hr (by first | rfl | decide) (fun t ht hW => eLI hS ht (by rw [hq])) hS.2.2 dX2_lives_25
def fX2_allLive (v : (Nat → Nat → Int32)) (g : Int32) : Int32 := (if (g &&& ((v 0 1) ^^^ (-1))) = 0 then ((nI 1)) else ((nI 0)))
set_option maxHeartbeats 4000000 in
set_option maxRecDepth 100000 in
theorem kX2_allLive (l : Launch) (Γ : wG) (a : Nat → Nat) (v : (Nat → Nat → Int32)) (g : Int32) : LI l Γ yX2_allLive wsX2_allLive ({ frames := 0, cells := 0, slots := 0, locals := 0 }) [.ref (a 0), .int g] [plB Γ a v] (fX2_allLive v g) := by
  intro sz
  refine Met.ofW (cc := cX2_allLive) (maxL := 2) (ret := (some .boolean)) (by decide) rfl ?_
  intro p e s m args below meth c s₁ B hml hv
  obtain ⟨rfl, hsz, hP, hK, hD0, hAm⟩ := hv
  have hx := B.exec
  have hb := B.bytes
  have hr := B.returns
  have hts := atoms_spec (ws := wsX2_allLive) B.pre
  have hown : s.vm.findClass RX2 = some m.cls := findClass_of_methodNamed B.named
  have hlocks := B.notSynchronized
  subst hsz
  have hD := hD0.self (sz := s.heap.size)
  generalize hBe : va_A (wcat [plB Γ a v]) s.heap.size = B0 at hD hAm
  obtain ⟨A, hAe⟩ : ∃ A, A = va_A [] s.heap.size := ⟨_, rfl⟩
  rw [← hAe]
  have hA : ∀ q : Nat, s.heap.size ≤ q → A q := fun q h => by rw [hAe]; exact Or.inr h
  have hAB : ∀ q : Nat, A q → B0 q := fun q h => by rw [hAe] at h; rw [← hBe]; exact Or.inr (wnone h)
  have hS : va_S A s.heap s.heap [] := va_S.rf
  have hl := lv_entry ([.ref (a 0), .int g]) (n := 2) (Nat.le_of_ble_eq_true rfl)
  rw [lg_entry_eq]
  generalize (lg_sl ([.ref (a 0), .int g]) ++ List.replicate (2 - (lg_sl ([.ref (a 0), .int g])).length) Slot.unset).toArray = ls at hl ⊢
  have hl : lv_has ls 2 [(0, .ref (a 0)), (1, .int g)] := hl
  have hi2 : ∀ w ∈ wsX20, w ∈ wsX2_allLive := by decide +kernel
  have kf37 := hts (.fieldLink RX2 37 "CapsuleKeepers$Place" "living" "I") (by decide +kernel)
  have hq : (fX2_allLive v g) = (if (g &&& ((v 0 1) ^^^ (-1))) = 0 then ((nI 1)) else ((nI 0))) := rfl
  refine lv_iload_n hx hb dX2_allLive_0 rfl (lv_at hl 1 rfl) ?_
  refine lv_aload_n hx hb dX2_allLive_1 rfl (lv_at hl 0 rfl) ?_
  refine va_get (D := Γ.1) (ci := 2) (v := .int (v 0 1)) (C := RX2) (T := TX2) (N := 16) hx hb hts hi2 hown hK hP 0 rfl rfl 1 (by decide) kf37 (fun _ h9 => h9) rfl dX2_allLive_2 ?_
  refine lv_iconst (v := (-1)) hx hb dX2_allLive_5 (by decide) ?_
  refine lv_ixor hx hb dX2_allLive_6 ?_
  refine lv_iand hx hb dX2_allLive_7 ?_
  refine lv_if_ne (tgt := 15) hx hb dX2_allLive_8 (by decide) (fun c_1 => ?_) (fun c_1 => ?_)
  · have hq := hq.trans (if_neg c_1)
    refine lv_iconst (v := (nI 0)) hx hb dX2_allLive_15 (by decide) ?_
    exact W.zret (v := (nI 0)) hx hb hr (by first | rfl | decide) (fun t ht hW => eLI hS ht (by rw [hq])) hS.2.2 dX2_allLive_16
  · have hq := hq.trans (if_pos c_1)
    refine lv_iconst (v := (nI 1)) hx hb dX2_allLive_11 (by decide) ?_
    refine lv_goto (tgt := 16) hx hb dX2_allLive_12 (by decide) ?_
    exact W.zret (v := (nI 1)) hx hb hr (by first | rfl | decide) (fun t ht hW => eLI hS ht (by rw [hq])) hS.2.2 dX2_allLive_16
def fX2_everybody (v : (Nat → Nat → Int32)) : Int32 := ((((nI 1) <<< ((v 0 0) &&& 31)) - (nI 1)))
set_option maxHeartbeats 4000000 in
set_option maxRecDepth 100000 in
theorem kX2_everybody (l : Launch) (Γ : wG) (a : Nat → Nat) (v : (Nat → Nat → Int32)) : LI l Γ yX2_everybody wsX2_everybody ({ frames := 0, cells := 0, slots := 0, locals := 0 }) [.ref (a 0)] [plB Γ a v] (fX2_everybody v) := by
  intro sz
  refine Met.ofW (cc := cX2_everybody) (maxL := 1) (ret := (some .int)) (by decide) rfl ?_
  intro p e s m args below meth c s₁ B hml hv
  obtain ⟨rfl, hsz, hP, hK, hD0, hAm⟩ := hv
  have hx := B.exec
  have hb := B.bytes
  have hr := B.returns
  have hts := atoms_spec (ws := wsX2_everybody) B.pre
  have hown : s.vm.findClass RX2 = some m.cls := findClass_of_methodNamed B.named
  have hlocks := B.notSynchronized
  subst hsz
  have hD := hD0.self (sz := s.heap.size)
  generalize hBe : va_A (wcat [plB Γ a v]) s.heap.size = B0 at hD hAm
  obtain ⟨A, hAe⟩ : ∃ A, A = va_A [] s.heap.size := ⟨_, rfl⟩
  rw [← hAe]
  have hA : ∀ q : Nat, s.heap.size ≤ q → A q := fun q h => by rw [hAe]; exact Or.inr h
  have hAB : ∀ q : Nat, A q → B0 q := fun q h => by rw [hAe] at h; rw [← hBe]; exact Or.inr (wnone h)
  have hS : va_S A s.heap s.heap [] := va_S.rf
  have hl := lv_entry ([.ref (a 0)]) (n := 1) (Nat.le_of_ble_eq_true rfl)
  rw [lg_entry_eq]
  generalize (lg_sl ([.ref (a 0)]) ++ List.replicate (1 - (lg_sl ([.ref (a 0)])).length) Slot.unset).toArray = ls at hl ⊢
  have hl : lv_has ls 1 [(0, .ref (a 0))] := hl
  have hi2 : ∀ w ∈ wsX20, w ∈ wsX2_everybody := by decide +kernel
  have kf34 := hts (.fieldLink RX2 34 "CapsuleKeepers$Place" "keepers" "I") (by decide +kernel)
  have hq : (fX2_everybody v) = ((((nI 1) <<< ((v 0 0) &&& 31)) - (nI 1))) := rfl
  refine lv_iconst (v := (nI 1)) hx hb dX2_everybody_0 (by decide) ?_
  refine lv_aload_n hx hb dX2_everybody_1 rfl (lv_at hl 0 rfl) ?_
  refine va_get (D := Γ.1) (ci := 2) (v := .int (v 0 0)) (C := RX2) (T := TX2) (N := 16) hx hb hts hi2 hown hK hP 0 rfl rfl 0 (by decide) kf34 (fun _ h9 => h9) rfl dX2_everybody_2 ?_
  refine lv_ishl hx hb dX2_everybody_5 ?_
  refine lv_iconst (v := (nI 1)) hx hb dX2_everybody_6 (by decide) ?_
  refine lv_isub hx hb dX2_everybody_7 ?_
  exact W.iret (v := (((nI 1) <<< ((v 0 0) &&& 31)) - (nI 1))) hx hb hr (fun t ht hW => eLI hS ht (by rw [hq])) hS.2.2 dX2_everybody_8
def fX2_livingCount (v : (Nat → Nat → Int32)) : Int32 := ((fbit (v 0 1)))
set_option maxHeartbeats 4000000 in
set_option maxRecDepth 100000 in
theorem kX2_livingCount (l : Launch) (Γ : wG) (a : Nat → Nat) (v : (Nat → Nat → Int32)) : LI l Γ yX2_livingCount wsX2_livingCount ({ frames := 1, cells := 0, slots := 0, locals := 20 }) [.ref (a 0)] [plB Γ a v] (fX2_livingCount v) := by
  intro sz
  refine Met.ofW (cc := cX2_livingCount) (maxL := 1) (ret := (some .int)) (by decide) rfl ?_
  intro p e s m args below meth c s₁ B hml hv
  obtain ⟨rfl, hsz, hP, hK, hD0, hAm⟩ := hv
  have hx := B.exec
  have hb := B.bytes
  have hr := B.returns
  have hts := atoms_spec (ws := wsX2_livingCount) B.pre
  have hown : s.vm.findClass RX2 = some m.cls := findClass_of_methodNamed B.named
  have hlocks := B.notSynchronized
  subst hsz
  have hD := hD0.self (sz := s.heap.size)
  generalize hBe : va_A (wcat [plB Γ a v]) s.heap.size = B0 at hD hAm
  obtain ⟨A, hAe⟩ : ∃ A, A = va_A [] s.heap.size := ⟨_, rfl⟩
  rw [← hAe]
  have hA : ∀ q : Nat, s.heap.size ≤ q → A q := fun q h => by rw [hAe]; exact Or.inr h
  have hAB : ∀ q : Nat, A q → B0 q := fun q h => by rw [hAe] at h; rw [← hBe]; exact Or.inr (wnone h)
  have hS : va_S A s.heap s.heap [] := va_S.rf
  have hl := lv_entry ([.ref (a 0)]) (n := 1) (Nat.le_of_ble_eq_true rfl)
  rw [lg_entry_eq]
  generalize (lg_sl ([.ref (a 0)]) ++ List.replicate (1 - (lg_sl ([.ref (a 0)])).length) Slot.unset).toArray = ls at hl ⊢
  have hl : lv_has ls 1 [(0, .ref (a 0))] := hl
  have hi2 : ∀ w ∈ wsX20, w ∈ wsX2_livingCount := by decide +kernel
  have kf37 := hts (.fieldLink RX2 37 "CapsuleKeepers$Place" "living" "I") (by decide +kernel)
  have hq : (fX2_livingCount v) = ((fbit (v 0 1))) := rfl
  refine lv_aload_n hx hb dX2_livingCount_0 rfl (lv_at hl 0 rfl) ?_
  refine va_get (D := Γ.1) (ci := 2) (v := .int (v 0 1)) (C := RX2) (T := TX2) (N := 16) hx hb hts hi2 hown hK hP 0 rfl rfl 1 (by decide) kf37 (fun _ h9 => h9) rfl dX2_livingCount_1 ?_
  refine cLI (va_runS (As := [.int (v 0 1)]) (rest := []) ⟨hx, hb, hml, hown, hts⟩ ((kJ6_bitCount_0f7a4 l Γ (v 0 1)) _) (va_cwS 1 hts gX2_livingCount_J6_bitCount_0f7a4 rfl rfl rfl (by decide +kernel) ⟨Nat.le_of_ble_eq_true rfl, Nat.le_of_ble_eq_true rfl⟩) ⟨wPre_blind, wPre_mk hP hD hK hS hA hAB hAm [] rfl rfl⟩ rfl rfl hl.1 rfl (lv_room (Nat.le_of_ble_eq_true rfl)) dX2_livingCount_4 ⟨Nat.zero_le _, Nat.zero_le _⟩) hP hS hA (fun H locs hP hS => ?_)
  exact W.iret (v := (fbit (v 0 1))) hx hb hr (fun t ht hW => eLI hS ht (by rw [hq])) hS.2.2 dX2_livingCount_7
def fX2_addKeeper (v : (Nat → Nat → Int32)) : Int32 × (Nat → Nat → Int32) := ((v 0 0), (sS (sS v 1 ((v 0 1) ||| ((nI 1) <<< ((v 0 0) &&& 31)))) 0 ((v 0 0) + (nI 1))))
set_option maxHeartbeats 4000000 in
set_option maxRecDepth 100000 in
theorem kX2_addKeeper (l : Launch) (Γ : wG) (a : Nat → Nat) (v : (Nat → Nat → Int32)) : MI l Γ yX2_addKeeper wsX2_addKeeper ({ frames := 0, cells := 0, slots := 0, locals := 0 }) [.ref (a 0)] [plB Γ a v] [plB Γ a (fX2_addKeeper v).2] (fX2_addKeeper v).1 := by
  intro sz
  refine Met.ofW (cc := cX2_addKeeper) (maxL := 2) (ret := (some .int)) (by decide) rfl ?_
  intro p e s m args below meth c s₁ B hml hv
  obtain ⟨rfl, hsz, hP, hK, hD0, hAm⟩ := hv
  have hx := B.exec
  have hb := B.bytes
  have hr := B.returns
  have hts := atoms_spec (ws := wsX2_addKeeper) B.pre
  have hown : s.vm.findClass RX2 = some m.cls := findClass_of_methodNamed B.named
  have hlocks := B.notSynchronized
  subst hsz
  have hD := hD0.self (sz := s.heap.size)
  generalize hAe : va_A (wcat [plB Γ a v]) s.heap.size = A at hD hAm ⊢
  have hA : ∀ q : Nat, s.heap.size ≤ q → A q := fun q h => by rw [← hAe]; exact Or.inr h
  have hAB : ∀ q : Nat, A q → A q := fun _ h => h
  have hS : va_S A s.heap s.heap [] := va_S.rf
  have hl := lv_entry ([.ref (a 0)]) (n := 2) (Nat.le_of_ble_eq_true rfl)
  rw [lg_entry_eq]
  generalize (lg_sl ([.ref (a 0)]) ++ List.replicate (2 - (lg_sl ([.ref (a 0)])).length) Slot.unset).toArray = ls at hl ⊢
  have hl : lv_has ls 2 [(0, .ref (a 0))] := hl
  have hi2 : ∀ w ∈ wsX20, w ∈ wsX2_addKeeper := by decide +kernel
  have kf34 := hts (.fieldLink RX2 34 "CapsuleKeepers$Place" "keepers" "I") (by decide +kernel)
  have kf37 := hts (.fieldLink RX2 37 "CapsuleKeepers$Place" "living" "I") (by decide +kernel)
  have hq : (fX2_addKeeper v) = ((v 0 0), (sS (sS v 1 ((v 0 1) ||| ((nI 1) <<< ((v 0 0) &&& 31)))) 0 ((v 0 0) + (nI 1)))) := rfl
  refine lv_aload_n hx hb dX2_addKeeper_0 rfl (lv_at hl 0 rfl) ?_
  refine va_get (D := Γ.1) (ci := 2) (v := .int (v 0 0)) (C := RX2) (T := TX2) (N := 16) hx hb hts hi2 hown hK hP 0 rfl rfl 0 (by decide) kf34 (fun _ h9 => h9) rfl dX2_addKeeper_1 ?_
  refine lv_istore_n (lv' := [(1, .int (v 0 0)), (0, .ref (a 0))]) hx hb dX2_addKeeper_4 rfl hl (by decide) rfl (fun ls hl => ?_)
  refine lv_aload_n hx hb dX2_addKeeper_5 rfl (lv_at hl 1 rfl) ?_
  refine lv_dup hx hb dX2_addKeeper_6 rfl ?_
  refine va_get (D := Γ.1) (ci := 2) (v := .int (v 0 1)) (C := RX2) (T := TX2) (N := 16) hx hb hts hi2 hown hK hP 0 rfl rfl 1 (by decide) kf37 (fun _ h9 => h9) rfl dX2_addKeeper_7 ?_
  refine lv_iconst (v := (nI 1)) hx hb dX2_addKeeper_10 (by decide) ?_
  refine lv_iload_n hx hb dX2_addKeeper_11 rfl (lv_at hl 0 rfl) ?_
  refine lv_ishl hx hb dX2_addKeeper_12 ?_
  refine lv_ior hx hb dX2_addKeeper_13 ?_
  refine va_put (D := Γ.1) (ci := 2) (v := .int ((v 0 1) ||| ((nI 1) <<< ((v 0 0) &&& 31)))) (ty := .int) (C := RX2) (T := TX2) (N := 16) hx hb hts hi2 tyX2 tyX2_ok nmX2 hown hK hP hD hS 0 rfl rfl 1 (by decide) kf37 (fun _ h9 => h9) rfl (by decide +kernel) rfl rfl (Nat.le_of_ble_eq_true rfl) dX2_addKeeper_14 (fun H locs hP hD hS => ?_)
  have hP : va_P Γ.1 vwCl (wcat [plB Γ a (sS v 1 ((v 0 1) ||| ((nI 1) <<< ((v 0 0) &&& 31))))]) H := hP
  have hD : va_D A (wcat [plB Γ a (sS v 1 ((v 0 1) ||| ((nI 1) <<< ((v 0 0) &&& 31))))]) := hD
  refine lv_aload_n hx hb dX2_addKeeper_17 rfl (lv_at hl 1 rfl) ?_
  refine lv_dup hx hb dX2_addKeeper_18 rfl ?_
  refine va_get (D := Γ.1) (ci := 2) (v := .int (v 0 0)) (C := RX2) (T := TX2) (N := 16) hx hb hts hi2 hown hK hP 0 rfl rfl 0 (by decide) kf34 (fun _ h9 => h9) rfl dX2_addKeeper_19 ?_
  refine lv_iconst (v := (nI 1)) hx hb dX2_addKeeper_22 (by decide) ?_
  refine lv_iadd hx hb dX2_addKeeper_23 ?_
  refine va_put (D := Γ.1) (ci := 2) (v := .int ((v 0 0) + (nI 1))) (ty := .int) (C := RX2) (T := TX2) (N := 16) hx hb hts hi2 tyX2 tyX2_ok nmX2 hown hK hP hD hS 0 rfl rfl 0 (by decide) kf34 (fun _ h9 => h9) rfl (by decide +kernel) rfl rfl (Nat.le_of_ble_eq_true rfl) dX2_addKeeper_24 (fun H locs hP hD hS => ?_)
  have hP : va_P Γ.1 vwCl (wcat [plB Γ a (sS (sS v 1 ((v 0 1) ||| ((nI 1) <<< ((v 0 0) &&& 31)))) 0 ((v 0 0) + (nI 1)))]) H := hP
  have hD : va_D A (wcat [plB Γ a (sS (sS v 1 ((v 0 1) ||| ((nI 1) <<< ((v 0 0) &&& 31)))) 0 ((v 0 0) + (nI 1)))]) := hD
  refine lv_iload_n hx hb dX2_addKeeper_27 rfl (lv_at hl 0 rfl) ?_
  exact W.iret (v := (v 0 0)) hx hb hr (fun t ht hW => eMI (by rw [hq]; exact hP) hS ht (by rw [hq])) hS.2.2 dX2_addKeeper_28
def fX2_ownedBy_L4 (v : (Nat → Nat → Int32)) (k : Int32) : Nat → Nat → Int32 → Int32
  | 0, i4, x2_4 => (x2_4)
  | n4 + 1, i4, x2_4 => (if ((v 4) i4) = k then (fX2_ownedBy_L4 v k n4 (i4 + 1) (x2_4 ||| ((nI 1) <<< ((nI i4) &&& 31)))) else (fX2_ownedBy_L4 v k n4 (i4 + 1) x2_4))
def fX2_ownedBy (v : (Nat → Nat → Int32)) (k : Int32) : Int32 := (fX2_ownedBy_L4 v k (8) 0 (nI 0))
set_option maxHeartbeats 4000000 in
set_option maxRecDepth 100000 in
theorem kX2_ownedBy (l : Launch) (Γ : wG) (a : Nat → Nat) (v : (Nat → Nat → Int32)) (k : Int32) : LI l Γ yX2_ownedBy wsX2_ownedBy ({ frames := 0, cells := 0, slots := 0, locals := 0 }) [.ref (a 0), .int k] [plB Γ a v] (fX2_ownedBy v k) := by
  intro sz
  refine Met.ofW (cc := cX2_ownedBy) (maxL := 4) (ret := (some .int)) (by decide) rfl ?_
  intro p e s m args below meth c s₁ B hml hv
  obtain ⟨rfl, hsz, hP, hK, hD0, hAm⟩ := hv
  have hx := B.exec
  have hb := B.bytes
  have hr := B.returns
  have hts := atoms_spec (ws := wsX2_ownedBy) B.pre
  have hown : s.vm.findClass RX2 = some m.cls := findClass_of_methodNamed B.named
  have hlocks := B.notSynchronized
  subst hsz
  have hD := hD0.self (sz := s.heap.size)
  generalize hBe : va_A (wcat [plB Γ a v]) s.heap.size = B0 at hD hAm
  obtain ⟨A, hAe⟩ : ∃ A, A = va_A [] s.heap.size := ⟨_, rfl⟩
  rw [← hAe]
  have hA : ∀ q : Nat, s.heap.size ≤ q → A q := fun q h => by rw [hAe]; exact Or.inr h
  have hAB : ∀ q : Nat, A q → B0 q := fun q h => by rw [hAe] at h; rw [← hBe]; exact Or.inr (wnone h)
  have hS : va_S A s.heap s.heap [] := va_S.rf
  have hl := lv_entry ([.ref (a 0), .int k]) (n := 4) (Nat.le_of_ble_eq_true rfl)
  rw [lg_entry_eq]
  generalize (lg_sl ([.ref (a 0), .int k]) ++ List.replicate (4 - (lg_sl ([.ref (a 0), .int k])).length) Slot.unset).toArray = ls at hl ⊢
  have hl : lv_has ls 4 [(0, .ref (a 0)), (1, .int k)] := hl
  have hi2 : ∀ w ∈ wsX20, w ∈ wsX2_ownedBy := by decide +kernel
  have kf21 := hts (.fieldLink RX2 21 "CapsuleKeepers$Place" "owners" "[I") (by decide +kernel)
  have hq : (fX2_ownedBy v k) = (fX2_ownedBy_L4 v k (8) 0 (nI 0)) := rfl
  refine lv_iconst (v := (nI 0)) hx hb dX2_ownedBy_0 (by decide) ?_
  refine lv_istore_n (lv' := [(2, .int (nI 0)), (0, .ref (a 0)), (1, .int k)]) hx hb dX2_ownedBy_1 rfl hl (by decide) rfl (fun ls hl => ?_)
  refine lv_iconst (v := (nI 0)) hx hb dX2_ownedBy_2 (by decide) ?_
  refine lv_istore_n (lv' := [(3, .int (nI 0)), (2, .int (nI 0)), (0, .ref (a 0)), (1, .int k)]) hx hb dX2_ownedBy_3 rfl hl (by decide) rfl (fun ls hl => ?_)
  refine wl (pc := 4) (σ := Nat × Int32) (fun n (i4, x2_4) H locs ls => (i4 + n = 8) ∧ (fX2_ownedBy v k) = fX2_ownedBy_L4 v k n i4 x2_4 ∧ va_P Γ.1 vwCl (wcat [plB Γ a v]) H ∧ va_S A s.heap H locs ∧ lv_has ls 4 [(3, .int (nI i4)), (2, .int x2_4), (0, .ref (a 0)), (1, .int k)]) ?_ ?_ (8) (0, (nI 0)) _ _ _ ⟨by omega, hq, hP, hS, lv_sub hl [0, 1, 2, 3] rfl⟩
  · intro ⟨i4, x2_4⟩ H locs ls h
    obtain ⟨hn4, hq, hP, hS, hl⟩ := h
    try dsimp only at hn4 hq hP hl
    refine lv_iload_n hx hb dX2_ownedBy_4 rfl (lv_at hl 0 rfl) ?_
    refine lv_bipush (v := (nI 8)) hx hb dX2_ownedBy_5 (by decide) ?_
    refine lv_icmp_ge (tgt := 32) hx hb dX2_ownedBy_7 (by decide) (fun c_7 => ?_) (fun c_7 => absurd (nI_le (by omega) (by omega)) c_7)
    refine lv_iload_n hx hb dX2_ownedBy_32 rfl (lv_at hl 1 rfl) ?_
    exact W.iret (v := x2_4) hx hb hr (fun t ht hW => eLI hS ht (by rw [hq])) hS.2.2 dX2_ownedBy_33
  · intro n4 ih4 ⟨i4, x2_4⟩ H locs ls h
    obtain ⟨hn4, hq, hP, hS, hl⟩ := h
    try dsimp only at hn4 hq hP hl
    refine lv_iload_n hx hb dX2_ownedBy_4 rfl (lv_at hl 0 rfl) ?_
    refine lv_bipush (v := (nI 8)) hx hb dX2_ownedBy_5 (by decide) ?_
    refine lv_icmp_ge (tgt := 32) hx hb dX2_ownedBy_7 (by decide) (fun c_7 => absurd c_7 (nI_ge (by omega) (by omega))) (fun c_7 => ?_)
    refine lv_aload_n hx hb dX2_ownedBy_10 rfl (lv_at hl 2 rfl) ?_
    refine va_get (D := Γ.1) (ci := 2) (v := .ref (a 4)) (C := RX2) (T := TX2) (N := 16) hx hb hts hi2 hown hK hP 0 rfl rfl 5 (by decide) kf21 (fun _ h9 => h9) rfl dX2_ownedBy_11 ?_
    refine lv_iload_n hx hb dX2_ownedBy_14 rfl (lv_at hl 0 rfl) ?_
    refine va_iald_n hx hb hK hP 4 0 rfl rfl (by omega) (Nat.le_of_ble_eq_true rfl) dX2_ownedBy_15 ?_
    refine lv_iload_n hx hb dX2_ownedBy_16 rfl (lv_at hl 3 rfl) ?_
    refine lv_icmp_ne (tgt := 26) hx hb dX2_ownedBy_17 (by decide) (fun c_2 => ?_) (fun c_2 => ?_)
    · have hq := hq.trans (if_neg c_2)
      refine lv_iinc (v := (nI (i4 + 1))) (lv' := [(3, .int (nI (i4 + 1))), (2, .int x2_4), (0, .ref (a 0)), (1, .int k)]) hx hb dX2_ownedBy_26 hl (k := 0) rfl (nI_1 _) (by decide) rfl (fun ls hl => ?_)
      refine lv_goto (tgt := 4) hx hb dX2_ownedBy_29 (by decide) ?_
      exact ih4 ((i4 + 1), x2_4) H locs ls ⟨by omega, hq, hP, hS, lv_sub hl [0, 1, 2, 3] rfl⟩
    · have hq := hq.trans (if_pos c_2)
      refine lv_iload_n hx hb dX2_ownedBy_20 rfl (lv_at hl 1 rfl) ?_
      refine lv_iconst (v := (nI 1)) hx hb dX2_ownedBy_21 (by decide) ?_
      refine lv_iload_n hx hb dX2_ownedBy_22 rfl (lv_at hl 0 rfl) ?_
      refine lv_ishl hx hb dX2_ownedBy_23 ?_
      refine lv_ior hx hb dX2_ownedBy_24 ?_
      refine lv_istore_n (lv' := [(2, .int (x2_4 ||| ((nI 1) <<< ((nI i4) &&& 31)))), (3, .int (nI i4)), (0, .ref (a 0)), (1, .int k)]) hx hb dX2_ownedBy_25 rfl hl (by decide) rfl (fun ls hl => ?_)
      refine lv_iinc (v := (nI (i4 + 1))) (lv' := [(3, .int (nI (i4 + 1))), (2, .int (x2_4 ||| ((nI 1) <<< ((nI i4) &&& 31)))), (0, .ref (a 0)), (1, .int k)]) hx hb dX2_ownedBy_26 hl (k := 1) rfl (nI_1 _) (by decide) rfl (fun ls hl => ?_)
      refine lv_goto (tgt := 4) hx hb dX2_ownedBy_29 (by decide) ?_
      exact ih4 ((i4 + 1), (x2_4 ||| ((nI 1) <<< ((nI i4) &&& 31)))) H locs ls ⟨by omega, hq, hP, hS, lv_sub hl [0, 1, 2, 3] rfl⟩
