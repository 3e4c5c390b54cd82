def fbit (x : Int32) : Int32 := (let y_1 := (x - (((x.toUInt32 >>> ((nI 1).toUInt32 &&& Int32.toUInt32 31)).toInt32) &&& (nI 1431655765))); (let y_2 := ((y_1 &&& (nI 858993459)) + (((y_1.toUInt32 >>> ((nI 2).toUInt32 &&& Int32.toUInt32 31)).toInt32) &&& (nI 858993459))); (let y_3 := ((y_2 + ((y_2.toUInt32 >>> ((nI 4).toUInt32 &&& Int32.toUInt32 31)).toInt32)) &&& (nI 252645135)); (let y_4 := (y_3 + ((y_3.toUInt32 >>> ((nI 8).toUInt32 &&& Int32.toUInt32 31)).toInt32)); (let y_5 := (y_4 + ((y_4.toUInt32 >>> ((nI 16).toUInt32 &&& Int32.toUInt32 31)).toInt32)); ((y_5 &&& (nI 63))))))))
set_option maxHeartbeats 4000000 in
set_option maxRecDepth 100000 in
theorem kJ6_bitCount_0f7a4 (l : Launch) (Γ : wG) (x : Int32) : LI l Γ yJ6_bitCount_0f7a4 wsJ6_bitCount_0f7a4 ({ frames := 0, cells := 0, slots := 0, locals := 0 }) [.int x] [] (fbit x) := by
  intro sz
  refine Met.ofW (cc := cJ6_bitCount_0f7a4) (maxL := 1) (ret := (some .int)) (by decide) rfl ?_
  intro p e s m args below meth c s₁ B hml hv
  obtain ⟨rfl, hsz, hP, hK, hD0, hAm⟩ := hv
  have hx := B.exec
  have hb := B.bytes
  have hr := B.returns
  have hts := atoms_spec (ws := wsJ6_bitCount_0f7a4) B.pre
  have hown : s.vm.findClass RJ6 = some m.cls := findClass_of_methodNamed B.named
  have hlocks := B.notSynchronized
  subst hsz
  have hD := hD0.self (sz := s.heap.size)
  generalize hBe : va_A (wcat []) s.heap.size = B0 at hD hAm
  obtain ⟨A, hAe⟩ : ∃ A, A = va_A [] s.heap.size := ⟨_, rfl⟩
  rw [← hAe]
  have hA : ∀ q : Nat, s.heap.size ≤ q → A q := fun q h => by rw [hAe]; exact Or.inr h
  have hAB : ∀ q : Nat, A q → B0 q := fun q h => by rw [hAe] at h; rw [← hBe]; exact Or.inr (wnone h)
  have hS : va_S A s.heap s.heap [] := va_S.rf
  have hl := lv_entry ([.int x]) (n := 1) (Nat.le_of_ble_eq_true rfl)
  rw [lg_entry_eq]
  generalize (lg_sl ([.int x]) ++ List.replicate (1 - (lg_sl ([.int x])).length) Slot.unset).toArray = ls at hl ⊢
  have hl : lv_has ls 1 [(0, .int x)] := hl
  have kc265 := hts (.constant RJ6 265 (1431655765)) (by decide +kernel)
  have kc266 := hts (.constant RJ6 266 (858993459)) (by decide +kernel)
  have kc267 := hts (.constant RJ6 267 (252645135)) (by decide +kernel)
  have hq : (fbit x) = (let y_1 := (x - (((x.toUInt32 >>> ((nI 1).toUInt32 &&& Int32.toUInt32 31)).toInt32) &&& (nI 1431655765))); (let y_2 := ((y_1 &&& (nI 858993459)) + (((y_1.toUInt32 >>> ((nI 2).toUInt32 &&& Int32.toUInt32 31)).toInt32) &&& (nI 858993459))); (let y_3 := ((y_2 + ((y_2.toUInt32 >>> ((nI 4).toUInt32 &&& Int32.toUInt32 31)).toInt32)) &&& (nI 252645135)); (let y_4 := (y_3 + ((y_3.toUInt32 >>> ((nI 8).toUInt32 &&& Int32.toUInt32 31)).toInt32)); (let y_5 := (y_4 + ((y_4.toUInt32 >>> ((nI 16).toUInt32 &&& Int32.toUInt32 31)).toInt32)); ((y_5 &&& (nI 63)))))))) := rfl
  refine lv_iload_n hx hb dJ6_bitCount_0f7a4_0 rfl (lv_at hl 0 rfl) ?_
  refine lv_iload_n hx hb dJ6_bitCount_0f7a4_1 rfl (lv_at hl 0 rfl) ?_
  refine lv_iconst (v := (nI 1)) hx hb dJ6_bitCount_0f7a4_2 (by decide) ?_
  refine lv_iushr (v := ((x.toUInt32 >>> ((nI 1).toUInt32 &&& Int32.toUInt32 31)).toInt32)) hx hb dJ6_bitCount_0f7a4_3 rfl ?_
  refine lv_ldcw (v := (nI 1431655765)) hx hb hown kc265 dJ6_bitCount_0f7a4_4 ?_
  refine lv_iand hx hb dJ6_bitCount_0f7a4_7 ?_
  refine lv_isub hx hb dJ6_bitCount_0f7a4_8 ?_
  refine lv_topi (fun y_1 ey_1 => ?_)
  replace hq : (fbit x) = (let y_2 := ((y_1 &&& (nI 858993459)) + (((y_1.toUInt32 >>> ((nI 2).toUInt32 &&& Int32.toUInt32 31)).toInt32) &&& (nI 858993459))); (let y_3 := ((y_2 + ((y_2.toUInt32 >>> ((nI 4).toUInt32 &&& Int32.toUInt32 31)).toInt32)) &&& (nI 252645135)); (let y_4 := (y_3 + ((y_3.toUInt32 >>> ((nI 8).toUInt32 &&& Int32.toUInt32 31)).toInt32)); (let y_5 := (y_4 + ((y_4.toUInt32 >>> ((nI 16).toUInt32 &&& Int32.toUInt32 31)).toInt32)); ((y_5 &&& (nI 63))))))) := hq.trans (by rw [ey_1])
  refine lv_istore_n (lv' := [(0, .int y_1)]) hx hb dJ6_bitCount_0f7a4_9 rfl hl (by decide) rfl (fun ls hl => ?_)
  refine lv_iload_n hx hb dJ6_bitCount_0f7a4_10 rfl (lv_at hl 0 rfl) ?_
  refine lv_ldcw (v := (nI 858993459)) hx hb hown kc266 dJ6_bitCount_0f7a4_11 ?_
  refine lv_iand hx hb dJ6_bitCount_0f7a4_14 ?_
  refine lv_iload_n hx hb dJ6_bitCount_0f7a4_15 rfl (lv_at hl 0 rfl) ?_
  refine lv_iconst (v := (nI 2)) hx hb dJ6_bitCount_0f7a4_16 (by decide) ?_
  refine lv_iushr (v := ((y_1.toUInt32 >>> ((nI 2).toUInt32 &&& Int32.toUInt32 31)).toInt32)) hx hb dJ6_bitCount_0f7a4_17 rfl ?_
  refine lv_ldcw (v := (nI 858993459)) hx hb hown kc266 dJ6_bitCount_0f7a4_18 ?_
  refine lv_iand hx hb dJ6_bitCount_0f7a4_21 ?_
  refine lv_iadd hx hb dJ6_bitCount_0f7a4_22 ?_
  refine lv_topi (fun y_2 ey_2 => ?_)
  replace hq : (fbit x) = (let y_3 := ((y_2 + ((y_2.toUInt32 >>> ((nI 4).toUInt32 &&& Int32.toUInt32 31)).toInt32)) &&& (nI 252645135)); (let y_4 := (y_3 + ((y_3.toUInt32 >>> ((nI 8).toUInt32 &&& Int32.toUInt32 31)).toInt32)); (let y_5 := (y_4 + ((y_4.toUInt32 >>> ((nI 16).toUInt32 &&& Int32.toUInt32 31)).toInt32)); ((y_5 &&& (nI 63)))))) := hq.trans (by rw [ey_2])
  refine lv_istore_n (lv' := [(0, .int y_2)]) hx hb dJ6_bitCount_0f7a4_23 rfl hl (by decide) rfl (fun ls hl => ?_)
  refine lv_iload_n hx hb dJ6_bitCount_0f7a4_24 rfl (lv_at hl 0 rfl) ?_
  refine lv_iload_n hx hb dJ6_bitCount_0f7a4_25 rfl (lv_at hl 0 rfl) ?_
  refine lv_iconst (v := (nI 4)) hx hb dJ6_bitCount_0f7a4_26 (by decide) ?_
  refine lv_iushr (v := ((y_2.toUInt32 >>> ((nI 4).toUInt32 &&& Int32.toUInt32 31)).toInt32)) hx hb dJ6_bitCount_0f7a4_27 rfl ?_
  refine lv_iadd hx hb dJ6_bitCount_0f7a4_28 ?_
  refine lv_ldcw (v := (nI 252645135)) hx hb hown kc267 dJ6_bitCount_0f7a4_29 ?_
  refine lv_iand hx hb dJ6_bitCount_0f7a4_32 ?_
  refine lv_topi (fun y_3 ey_3 => ?_)
  replace hq : (fbit x) = (let y_4 := (y_3 + ((y_3.toUInt32 >>> ((nI 8).toUInt32 &&& Int32.toUInt32 31)).toInt32)); (let y_5 := (y_4 + ((y_4.toUInt32 >>> ((nI 16).toUInt32 &&& Int32.toUInt32 31)).toInt32)); ((y_5 &&& (nI 63))))) := hq.trans (by rw [ey_3])
  refine lv_istore_n (lv' := [(0, .int y_3)]) hx hb dJ6_bitCount_0f7a4_33 rfl hl (by decide) rfl (fun ls hl => ?_)
  refine lv_iload_n hx hb dJ6_bitCount_0f7a4_34 rfl (lv_at hl 0 rfl) ?_
  refine lv_iload_n hx hb dJ6_bitCount_0f7a4_35 rfl (lv_at hl 0 rfl) ?_
  refine lv_bipush (v := (nI 8)) hx hb dJ6_bitCount_0f7a4_36 (by decide) ?_
  refine lv_iushr (v := ((y_3.toUInt32 >>> ((nI 8).toUInt32 &&& Int32.toUInt32 31)).toInt32)) hx hb dJ6_bitCount_0f7a4_38 rfl ?_
  refine lv_iadd hx hb dJ6_bitCount_0f7a4_39 ?_
  refine lv_topi (fun y_4 ey_4 => ?_)
  replace hq : (fbit x) = (let y_5 := (y_4 + ((y_4.toUInt32 >>> ((nI 16).toUInt32 &&& Int32.toUInt32 31)).toInt32)); ((y_5 &&& (nI 63)))) := hq.trans (by rw [ey_4])
  refine lv_istore_n (lv' := [(0, .int y_4)]) hx hb dJ6_bitCount_0f7a4_40 rfl hl (by decide) rfl (fun ls hl => ?_)
  refine lv_iload_n hx hb dJ6_bitCount_0f7a4_41 rfl (lv_at hl 0 rfl) ?_
  refine lv_iload_n hx hb dJ6_bitCount_0f7a4_42 rfl (lv_at hl 0 rfl) ?_
  refine lv_bipush (v := (nI 16)) hx hb dJ6_bitCount_0f7a4_43 (by decide) ?_
  refine lv_iushr (v := ((y_4.toUInt32 >>> ((nI 16).toUInt32 &&& Int32.toUInt32 31)).toInt32)) hx hb dJ6_bitCount_0f7a4_45 rfl ?_
  refine lv_iadd hx hb dJ6_bitCount_0f7a4_46 ?_
  refine lv_topi (fun y_5 ey_5 => ?_)
  replace hq : (fbit x) = ((y_5 &&& (nI 63))) := hq.trans (by rw [ey_5])
  refine lv_istore_n (lv' := [(0, .int y_5)]) hx hb dJ6_bitCount_0f7a4_47 rfl hl (by decide) rfl (fun ls hl => ?_)
  refine lv_iload_n hx hb dJ6_bitCount_0f7a4_48 rfl (lv_at hl 0 rfl) ?_
  refine lv_bipush (v := (nI 63)) hx hb dJ6_bitCount_0f7a4_49 (by decide) ?_
  refine lv_iand hx hb dJ6_bitCount_0f7a4_51 ?_
  exact W.iret (v := (y_5 &&& (nI 63))) hx hb hr (fun t ht hW => eLI hS ht (by rw [hq])) hS.2.2 dJ6_bitCount_0f7a4_52
def ffm (x : Int32) (y : Int32) : Int32 := (if 0 ≤ (x ^^^ y) then ((x - x / y * y)) else (if (x - x / y * y) = 0 then ((x - x / y * y)) else (((x - x / y * y) + y))))
set_option maxHeartbeats 4000000 in
set_option maxRecDepth 100000 in
theorem kJ9_floorMod_7cf53 (l : Launch) (Γ : wG) (x : Int32) (y : Int32) (hy : ¬ y = 0) : LI l Γ yJ9_floorMod_7cf53 wsJ9_floorMod_7cf53 ({ frames := 0, cells := 0, slots := 0, locals := 0 }) [.int x, .int y] [] (ffm x y) := by
  intro sz
  refine ofWF (cc := cJ9_floorMod_7cf53) (maxL := 3) (ret := (some .int)) (by decide +kernel) rfl ?_
  intro p e s m args below meth c s₁ B hml hv
  obtain ⟨rfl, hsz, hP, hK, hD0, hAm⟩ := hv
  have hx := B.exec
  have hb := B.bytes
  have hr := B.returns
  have hts := atoms_spec (ws := wsJ9_floorMod_7cf53) B.pre
  have hown : s.vm.findClass RJ9 = some m.cls := findClass_of_methodNamed B.named
  have hlocks := B.notSynchronized
  subst hsz
  have hD := hD0.self (sz := s.heap.size)
  generalize hBe : va_A (wcat []) s.heap.size = B0 at hD hAm
  obtain ⟨A, hAe⟩ : ∃ A, A = va_A [] s.heap.size := ⟨_, rfl⟩
  rw [← hAe]
  have hA : ∀ q : Nat, s.heap.size ≤ q → A q := fun q h => by rw [hAe]; exact Or.inr h
  have hAB : ∀ q : Nat, A q → B0 q := fun q h => by rw [hAe] at h; rw [← hBe]; exact Or.inr (wnone h)
  have hS : va_S A s.heap s.heap [] := va_S.rf
  have hl := lv_entry ([.int x, .int y]) (n := 3) (Nat.le_of_ble_eq_true rfl)
  rw [lg_entry_eq]
  generalize (lg_sl ([.int x, .int y]) ++ List.replicate (3 - (lg_sl ([.int x, .int y])).length) Slot.unset).toArray = ls at hl ⊢
  have hl : lv_has ls 3 [(0, .int x), (1, .int y)] := hl
  have hq : (ffm x y) = (if 0 ≤ (x ^^^ y) then ((x - x / y * y)) else (if (x - x / y * y) = 0 then ((x - x / y * y)) else (((x - x / y * y) + y)))) := rfl
  refine lv_iload_n hx hb dJ9_floorMod_7cf53_0 rfl (lv_at hl 0 rfl) ?_
  refine lv_iload_n hx hb dJ9_floorMod_7cf53_1 rfl (lv_at hl 1 rfl) ?_
  refine lv_irem hx hb dJ9_floorMod_7cf53_2 hy ?_
  refine lv_istore_n (lv' := [(2, .int (x - x / y * y)), (0, .int x), (1, .int y)]) hx hb dJ9_floorMod_7cf53_3 rfl hl (by decide) rfl (fun ls hl => ?_)
  refine lv_iload_n hx hb dJ9_floorMod_7cf53_4 rfl (lv_at hl 1 rfl) ?_
  refine lv_iload_n hx hb dJ9_floorMod_7cf53_5 rfl (lv_at hl 2 rfl) ?_
  refine lv_ixor hx hb dJ9_floorMod_7cf53_6 ?_
  refine lv_if_ge (tgt := 18) hx hb dJ9_floorMod_7cf53_7 (by decide) (fun c_1 => ?_) (fun c_1 => ?_)
  · have hq := hq.trans (if_pos c_1)
    refine lv_iload_n hx hb dJ9_floorMod_7cf53_18 rfl (lv_at hl 0 rfl) ?_
    exact W.iret (v := (x - x / y * y)) hx hb hr (fun t ht hW => eLI hS ht (by rw [hq])) hS.2.2 dJ9_floorMod_7cf53_19
  · have hq := hq.trans (if_neg c_1)
    refine lv_iload_n hx hb dJ9_floorMod_7cf53_10 rfl (lv_at hl 0 rfl) ?_
    refine lv_if_eq (tgt := 18) hx hb dJ9_floorMod_7cf53_11 (by decide) (fun c_2 => ?_) (fun c_2 => ?_)
    · have hq := hq.trans (if_pos c_2)
      refine lv_iload_n hx hb dJ9_floorMod_7cf53_18 rfl (lv_at hl 0 rfl) ?_
      exact W.iret (v := (x - x / y * y)) hx hb hr (fun t ht hW => eLI hS ht (by rw [hq])) hS.2.2 dJ9_floorMod_7cf53_19
    · have hq := hq.trans (if_neg c_2)
      refine lv_iload_n hx hb dJ9_floorMod_7cf53_14 rfl (lv_at hl 0 rfl) ?_
      refine lv_iload_n hx hb dJ9_floorMod_7cf53_15 rfl (lv_at hl 2 rfl) ?_
      refine lv_iadd hx hb dJ9_floorMod_7cf53_16 ?_
      exact W.iret (v := ((x - x / y * y) + y)) hx hb hr (fun t ht hW => eLI hS ht (by rw [hq])) hS.2.2 dJ9_floorMod_7cf53_17
def fX2_hasKeeper (v : (Nat → Nat → Int32)) (k : Int32) : Int32 := (if k < 0 then ((nI 0)) else (if (v 0 0) ≤ k then ((nI 0)) else (if (nI 8) ≤ k then ((nI 0)) else ((nI 1)))))
set_option maxHeartbeats 4000000 in
set_option maxRecDepth 100000 in
theorem kX2_hasKeeper (l : Launch) (Γ : wG) (a : Nat → Nat) (v : (Nat → Nat → Int32)) (k : Int32) : LI l Γ yX2_hasKeeper wsX2_hasKeeper ({ frames := 0, cells := 0, slots := 0, locals := 0 }) [.ref (a 0), .int k] [plB Γ a v] (fX2_hasKeeper v k) := by
  intro sz
  refine Met.ofW (cc := cX2_hasKeeper) (maxL := 2) (ret := (some .boolean)) (by decide) rfl ?_
  intro p e s m args below meth c s₁ B hml hv
  obtain ⟨rfl, hsz, hP, hK, hD0, hAm⟩ := hv
  have hx := B.exec
  have hb := B.bytes
  have hr := B.returns
  have hts := atoms_spec (ws := wsX2_hasKeeper) B.pre
  have hown : s.vm.findClass RX2 = some m.cls := findClass_of_methodNamed B.named
  have hlocks := B.notSynchronized
  subst hsz
  have hD := hD0.self (sz := s.heap.size)
  generalize hBe : va_A (wcat [plB Γ a v]) s.heap.size = B0 at hD hAm
  obtain ⟨A, hAe⟩ : ∃ A, A = va_A [] s.heap.size := ⟨_, rfl⟩
  rw [← hAe]
  have hA : ∀ q : Nat, s.heap.size ≤ q → A q := fun q h => by rw [hAe]; exact Or.inr h
  have hAB : ∀ q : Nat, A q → B0 q := fun q h => by rw [hAe] at h; rw [← hBe]; exact Or.inr (wnone h)
  have hS : va_S A s.heap s.heap [] := va_S.rf
  have hl := lv_entry ([.ref (a 0), .int k]) (n := 2) (Nat.le_of_ble_eq_true rfl)
  rw [lg_entry_eq]
  generalize (lg_sl ([.ref (a 0), .int k]) ++ List.replicate (2 - (lg_sl ([.ref (a 0), .int k])).length) Slot.unset).toArray = ls at hl ⊢
  have hl : lv_has ls 2 [(0, .ref (a 0)), (1, .int k)] := hl
  have hi2 : ∀ w ∈ wsX20, w ∈ wsX2_hasKeeper := by decide +kernel
  have kf34 := hts (.fieldLink RX2 34 "CapsuleKeepers$Place" "keepers" "I") (by decide +kernel)
  have hq : (fX2_hasKeeper v k) = (if k < 0 then ((nI 0)) else (if (v 0 0) ≤ k then ((nI 0)) else (if (nI 8) ≤ k then ((nI 0)) else ((nI 1))))) := rfl
  refine lv_iload_n hx hb dX2_hasKeeper_0 rfl (lv_at hl 1 rfl) ?_
  refine lv_if_lt (tgt := 22) hx hb dX2_hasKeeper_1 (by decide) (fun c_1 => ?_) (fun c_1 => ?_)
  · have hq := hq.trans (if_pos c_1)
    refine lv_iconst (v := (nI 0)) hx hb dX2_hasKeeper_22 (by decide) ?_
    exact W.zret (v := (nI 0)) hx hb hr (by first | rfl | decide) (fun t ht hW => eLI hS ht (by rw [hq])) hS.2.2 dX2_hasKeeper_23
  · have hq := hq.trans (if_neg c_1)
    refine lv_iload_n hx hb dX2_hasKeeper_4 rfl (lv_at hl 1 rfl) ?_
    refine lv_aload_n hx hb dX2_hasKeeper_5 rfl (lv_at hl 0 rfl) ?_
    refine va_get (D := Γ.1) (ci := 2) (v := .int (v 0 0)) (C := RX2) (T := TX2) (N := 16) hx hb hts hi2 hown hK hP 0 rfl rfl 0 (by decide) kf34 (fun _ h9 => h9) rfl dX2_hasKeeper_6 ?_
    refine lv_icmp_ge (tgt := 22) hx hb dX2_hasKeeper_9 (by decide) (fun c_2 => ?_) (fun c_2 => ?_)
    · have hq := hq.trans (if_pos c_2)
      refine lv_iconst (v := (nI 0)) hx hb dX2_hasKeeper_22 (by decide) ?_
      exact W.zret (v := (nI 0)) hx hb hr (by first | rfl | decide) (fun t ht hW => eLI hS ht (by rw [hq])) hS.2.2 dX2_hasKeeper_23
    · have hq := hq.trans (if_neg c_2)
      refine lv_iload_n hx hb dX2_hasKeeper_12 rfl (lv_at hl 1 rfl) ?_
      refine lv_bipush (v := (nI 8)) hx hb dX2_hasKeeper_13 (by decide) ?_
      refine lv_icmp_ge (tgt := 22) hx hb dX2_hasKeeper_15 (by decide) (fun c_3 => ?_) (fun c_3 => ?_)
      · have hq := hq.trans (if_pos c_3)
        refine lv_iconst (v := (nI 0)) hx hb dX2_hasKeeper_22 (by decide) ?_
        exact W.zret (v := (nI 0)) hx hb hr (by first | rfl | decide) (fun t ht hW => eLI hS ht (by rw [hq])) hS.2.2 dX2_hasKeeper_23
      · have hq := hq.trans (if_neg c_3)
        refine lv_iconst (v := (nI 1)) hx hb dX2_hasKeeper_18 (by decide) ?_
        refine lv_goto (tgt := 23) hx hb dX2_hasKeeper_19 (by decide) ?_
        exact W.zret (v := (nI 1)) hx hb hr (by first | rfl | decide) (fun t ht hW => eLI hS ht (by rw [hq])) hS.2.2 dX2_hasKeeper_23
def fX2_lives (v : (Nat → Nat → Int32)) (k : Int32) : Int32 := (if (fX2_hasKeeper v k) = 0 then ((nI 0)) else (if (((v 0 1) >>> (k &&& 31)) &&& (nI 1)) = (nI 1) then ((nI 1)) else ((nI 0))))
set_option maxHeartbeats 4000000 in
set_option maxRecDepth 100000 in
theorem kX2_lives (l : Launch) (Γ : wG) (a : Nat → Nat) (v : (Nat → Nat → Int32)) (k : Int32) : LI l Γ yX2_lives wsX2_lives ({ frames := 1, cells := 0, slots := 0, locals := 21 }) [.ref (a 0), .int k] [plB Γ a v] (fX2_lives v k) := by
  intro sz
  refine Met.ofW (cc := cX2_lives) (maxL := 2) (ret := (some .boolean)) (by decide) rfl ?_
  intro p e s m args below meth c s₁ B hml hv
  obtain ⟨rfl, hsz, hP, hK, hD0, hAm⟩ := hv
  have hx := B.exec
  have hb := B.bytes
  have hr := B.returns
  have hts := atoms_spec (ws := wsX2_lives) B.pre
  have hown : s.vm.findClass RX2 = some m.cls := findClass_of_methodNamed B.named
  have hlocks := B.notSynchronized
  subst hsz
  have hD := hD0.self (sz := s.heap.size)
  generalize hBe : va_A (wcat [plB Γ a v]) s.heap.size = B0 at hD hAm
  obtain ⟨A, hAe⟩ : ∃ A, A = va_A [] s.heap.size := ⟨_, rfl⟩
  rw [← hAe]
  have hA : ∀ q : Nat, s.heap.size ≤ q → A q := fun q h => by rw [hAe]; exact Or.inr h
  have hAB : ∀ q : Nat, A q → B0 q := fun q h => by rw [hAe] at h; rw [← hBe]; exact Or.inr (wnone h)
  have hS : va_S A s.heap s.heap [] := va_S.rf
  have hl := lv_entry ([.ref (a 0), .int k]) (n := 2) (Nat.le_of_ble_eq_true rfl)
  rw [lg_entry_eq]
  generalize (lg_sl ([.ref (a 0), .int k]) ++ List.replicate (2 - (lg_sl ([.ref (a 0), .int k])).length) Slot.unset).toArray = ls at hl ⊢
  have hl : lv_has ls 2 [(0, .ref (a 0)), (1, .int k)] := hl
  have hi2 : ∀ w ∈ wsX20, w ∈ wsX2_lives := by decide +kernel
  have kf37 := hts (.fieldLink RX2 37 "CapsuleKeepers$Place" "living" "I") (by decide +kernel)
  have hq : (fX2_lives v k) = (if (fX2_hasKeeper v k) = 0 then ((nI 0)) else (if (((v 0 1) >>> (k &&& 31)) &&& (nI 1)) = (nI 1) then ((nI 1)) else ((nI 0)))) := rfl
  refine lv_aload_n hx hb dX2_lives_0 rfl (lv_at hl 0 rfl) ?_
  refine lv_iload_n hx hb dX2_lives_1 rfl (lv_at hl 1 rfl) ?_
  refine cLI (va_runV (As := [.int k]) (rest := []) ⟨hx, hb, hml, hown, hts⟩ ((kX2_hasKeeper l Γ a v k) _) (cwV 1 hts gX2_lives_X2_hasKeeper rfl rfl rfl (by decide +kernel) ⟨Nat.le_of_ble_eq_true rfl, Nat.le_of_ble_eq_true rfl⟩) ⟨wPre_blind, va_recv hK hP (ci := 2) (q0 := 0) rfl rfl, wPre_mk hP hD hK hS hA hAB hAm [0] rfl rfl⟩ rfl rfl hl.1 rfl (lv_room (Nat.le_of_ble_eq_true rfl)) dX2_lives_2 ⟨Nat.zero_le _, Nat.zero_le _⟩) hP hS hA (fun H locs hP hS => ?_)
  refine lv_if_eq (tgt := 24) hx hb dX2_lives_5 (by decide) (fun c_1 => ?_) (fun c_1 => ?_)
  · have hq := hq.trans (if_pos c_1)
    refine lv_iconst (v := (nI 0)) hx hb dX2_lives_24 (by decide) ?_
    exact W.zret (v := (nI 0)) hx hb hr (by first | rfl | decide) (fun t ht hW => eLI hS ht (by rw [hq])) hS.2.2 dX2_lives_25
  · have hq := hq.trans (if_neg c_1)
    refine lv_aload_n hx hb dX2_lives_8 rfl (lv_at hl 0 rfl) ?_
    refine va_get (D := Γ.1) (ci := 2) (v := .int (v 0 1)) (C := RX2) (T := TX2) (N := 16) hx hb hts hi2 hown hK hP 0 rfl rfl 1 (by decide) kf37 (fun _ h9 => h9) rfl dX2_lives_9 ?_
    refine lv_iload_n hx hb dX2_lives_12 rfl (lv_at hl 1 rfl) ?_
    refine lv_ishr hx hb dX2_lives_13 ?_
    refine lv_iconst (v := (nI 1)) hx hb dX2_lives_14 (by decide) ?_
    refine lv_iand hx hb dX2_lives_15 ?_
    refine lv_iconst (v := (nI 1)) hx hb dX2_lives_16 (by decide) ?_
    refine lv_icmp_ne (tgt := 24) hx hb dX2_lives_17 (by decide) (fun c_2 => ?_) (fun c_2 => ?_)
    · have hq := hq.trans (if_neg c_2)
      refine lv_iconst (v := (nI 0)) hx hb dX2_lives_24 (by decide) ?_
      exact W.zret (v := (nI 0)) hx hb hr (by first | rfl | decide) (fun t ht hW => eLI hS ht (by rw [hq])) hS.2.2 dX2_lives_25
    · have hq := hq.trans (if_pos c_2)
      refine lv_iconst (v := (nI 1)) hx hb dX2_lives_20 (by decide) ?_
      refine lv_goto (tgt := 25) hx hb dX2_lives_21 (by decide) ?_
      exact W.zret (v := (nI 1)) hx hb hr (by first | rfl | decide) (fun t ht hW => eLI hS ht (by rw [hq])) hS.2.2 dX2_lives_25
def fX2_allLive (v : (Nat → Nat → Int32)) (g : Int32) : Int32 := (if (g &&& ((v 0 1) ^^^ (-1))) = 0 then ((nI 1)) else ((nI 0)))
set_option maxHeartbeats 4000000 in
set_option maxRecDepth 100000 in
theorem kX2_allLive (l : Launch) (Γ : wG) (a : Nat → Nat) (v : (Nat → Nat → Int32)) (g : Int32) : LI l Γ yX2_allLive wsX2_allLive ({ frames := 0, cells := 0, slots := 0, locals := 0 }) [.ref (a 0), .int g] [plB Γ a v] (fX2_allLive v g) := by
  intro sz
  refine Met.ofW (cc := cX2_allLive) (maxL := 2) (ret := (some .boolean)) (by decide) rfl ?_
  intro p e s m args below meth c s₁ B hml hv
  obtain ⟨rfl, hsz, hP, hK, hD0, hAm⟩ := hv
  have hx := B.exec
  have hb := B.bytes
  have hr := B.returns
  have hts := atoms_spec (ws := wsX2_allLive) B.pre
  have hown : s.vm.findClass RX2 = some m.cls := findClass_of_methodNamed B.named
  have hlocks := B.notSynchronized
  subst hsz
  have hD := hD0.self (sz := s.heap.size)
  generalize hBe : va_A (wcat [plB Γ a v]) s.heap.size = B0 at hD hAm
  obtain ⟨A, hAe⟩ : ∃ A, A = va_A [] s.heap.size := ⟨_, rfl⟩
  rw [← hAe]
  have hA : ∀ q : Nat, s.heap.size ≤ q → A q := fun q h => by rw [hAe]; exact Or.inr h
  have hAB : ∀ q : Nat, A q → B0 q := fun q h => by rw [hAe] at h; rw [← hBe]; exact Or.inr (wnone h)
  have hS : va_S A s.heap s.heap [] := va_S.rf
  have hl := lv_entry ([.ref (a 0), .int g]) (n := 2) (Nat.le_of_ble_eq_true rfl)
  rw [lg_entry_eq]
  generalize (lg_sl ([.ref (a 0), .int g]) ++ List.replicate (2 - (lg_sl ([.ref (a 0), .int g])).length) Slot.unset).toArray = ls at hl ⊢
  have hl : lv_has ls 2 [(0, .ref (a 0)), (1, .int g)] := hl
  have hi2 : ∀ w ∈ wsX20, w ∈ wsX2_allLive := by decide +kernel
  have kf37 := hts (.fieldLink RX2 37 "CapsuleKeepers$Place" "living" "I") (by decide +kernel)
  have hq : (fX2_allLive v g) = (if (g &&& ((v 0 1) ^^^ (-1))) = 0 then ((nI 1)) else ((nI 0))) := rfl
  refine lv_iload_n hx hb dX2_allLive_0 rfl (lv_at hl 1 rfl) ?_
  refine lv_aload_n hx hb dX2_allLive_1 rfl (lv_at hl 0 rfl) ?_
  refine va_get (D := Γ.1) (ci := 2) (v := .int (v 0 1)) (C := RX2) (T := TX2) (N := 16) hx hb hts hi2 hown hK hP 0 rfl rfl 1 (by decide) kf37 (fun _ h9 => h9) rfl dX2_allLive_2 ?_
  refine lv_iconst (v := (-1)) hx hb dX2_allLive_5 (by decide) ?_
  refine lv_ixor hx hb dX2_allLive_6 ?_
  refine lv_iand hx hb dX2_allLive_7 ?_
  refine lv_if_ne (tgt := 15) hx hb dX2_allLive_8 (by decide) (fun c_1 => ?_) (fun c_1 => ?_)
  · have hq := hq.trans (if_neg c_1)
    refine lv_iconst (v := (nI 0)) hx hb dX2_allLive_15 (by decide) ?_
    exact W.zret (v := (nI 0)) hx hb hr (by first | rfl | decide) (fun t ht hW => eLI hS ht (by rw [hq])) hS.2.2 dX2_allLive_16
  · have hq := hq.trans (if_pos c_1)
    refine lv_iconst (v := (nI 1)) hx hb dX2_allLive_11 (by decide) ?_
    refine lv_goto (tgt := 16) hx hb dX2_allLive_12 (by decide) ?_
    exact W.zret (v := (nI 1)) hx hb hr (by first | rfl | decide) (fun t ht hW => eLI hS ht (by rw [hq])) hS.2.2 dX2_allLive_16
def fX2_everybody (v : (Nat → Nat → Int32)) : Int32 := ((((nI 1) <<< ((v 0 0) &&& 31)) - (nI 1)))
set_option maxHeartbeats 4000000 in
set_option maxRecDepth 100000 in
theorem kX2_everybody (l : Launch) (Γ : wG) (a : Nat → Nat) (v : (Nat → Nat → Int32)) : LI l Γ yX2_everybody wsX2_everybody ({ frames := 0, cells := 0, slots := 0, locals := 0 }) [.ref (a 0)] [plB Γ a v] (fX2_everybody v) := by
  intro sz
  refine Met.ofW (cc := cX2_everybody) (maxL := 1) (ret := (some .int)) (by decide) rfl ?_
  intro p e s m args below meth c s₁ B hml hv
  obtain ⟨rfl, hsz, hP, hK, hD0, hAm⟩ := hv
  have hx := B.exec
  have hb := B.bytes
  have hr := B.returns
  have hts := atoms_spec (ws := wsX2_everybody) B.pre
  have hown : s.vm.findClass RX2 = some m.cls := findClass_of_methodNamed B.named
  have hlocks := B.notSynchronized
  subst hsz
  have hD := hD0.self (sz := s.heap.size)
  generalize hBe : va_A (wcat [plB Γ a v]) s.heap.size = B0 at hD hAm
  obtain ⟨A, hAe⟩ : ∃ A, A = va_A [] s.heap.size := ⟨_, rfl⟩
  rw [← hAe]
  have hA : ∀ q : Nat, s.heap.size ≤ q → A q := fun q h => by rw [hAe]; exact Or.inr h
  have hAB : ∀ q : Nat, A q → B0 q := fun q h => by rw [hAe] at h; rw [← hBe]; exact Or.inr (wnone h)
  have hS : va_S A s.heap s.heap [] := va_S.rf
  have hl := lv_entry ([.ref (a 0)]) (n := 1) (Nat.le_of_ble_eq_true rfl)
  rw [lg_entry_eq]
  generalize (lg_sl ([.ref (a 0)]) ++ List.replicate (1 - (lg_sl ([.ref (a 0)])).length) Slot.unset).toArray = ls at hl ⊢
  have hl : lv_has ls 1 [(0, .ref (a 0))] := hl
  have hi2 : ∀ w ∈ wsX20, w ∈ wsX2_everybody := by decide +kernel
  have kf34 := hts (.fieldLink RX2 34 "CapsuleKeepers$Place" "keepers" "I") (by decide +kernel)
  have hq : (fX2_everybody v) = ((((nI 1) <<< ((v 0 0) &&& 31)) - (nI 1))) := rfl
  refine lv_iconst (v := (nI 1)) hx hb dX2_everybody_0 (by decide) ?_
  refine lv_aload_n hx hb dX2_everybody_1 rfl (lv_at hl 0 rfl) ?_
  refine va_get (D := Γ.1) (ci := 2) (v := .int (v 0 0)) (C := RX2) (T := TX2) (N := 16) hx hb hts hi2 hown hK hP 0 rfl rfl 0 (by decide) kf34 (fun _ h9 => h9) rfl dX2_everybody_2 ?_
  refine lv_ishl hx hb dX2_everybody_5 ?_
  refine lv_iconst (v := (nI 1)) hx hb dX2_everybody_6 (by decide) ?_
  refine lv_isub hx hb dX2_everybody_7 ?_
  exact W.iret (v := (((nI 1) <<< ((v 0 0) &&& 31)) - (nI 1))) hx hb hr (fun t ht hW => eLI hS ht (by rw [hq])) hS.2.2 dX2_everybody_8
def fX2_livingCount (v : (Nat → Nat → Int32)) : Int32 := ((fbit (v 0 1)))
set_option maxHeartbeats 4000000 in
set_option maxRecDepth 100000 in
theorem kX2_livingCount (l : Launch) (Γ : wG) (a : Nat → Nat) (v : (Nat → Nat → Int32)) : LI l Γ yX2_livingCount wsX2_livingCount ({ frames := 1, cells := 0, slots := 0, locals := 20 }) [.ref (a 0)] [plB Γ a v] (fX2_livingCount v) := by
  intro sz
  refine Met.ofW (cc := cX2_livingCount) (maxL := 1) (ret := (some .int)) (by decide) rfl ?_
  intro p e s m args below meth c s₁ B hml hv
  obtain ⟨rfl, hsz, hP, hK, hD0, hAm⟩ := hv
  have hx := B.exec
  have hb := B.bytes
  have hr := B.returns
  have hts := atoms_spec (ws := wsX2_livingCount) B.pre
  have hown : s.vm.findClass RX2 = some m.cls := findClass_of_methodNamed B.named
  have hlocks := B.notSynchronized
  subst hsz
  have hD := hD0.self (sz := s.heap.size)
  generalize hBe : va_A (wcat [plB Γ a v]) s.heap.size = B0 at hD hAm
  obtain ⟨A, hAe⟩ : ∃ A, A = va_A [] s.heap.size := ⟨_, rfl⟩
  rw [← hAe]
  have hA : ∀ q : Nat, s.heap.size ≤ q → A q := fun q h => by rw [hAe]; exact Or.inr h
  have hAB : ∀ q : Nat, A q → B0 q := fun q h => by rw [hAe] at h; rw [← hBe]; exact Or.inr (wnone h)
  have hS : va_S A s.heap s.heap [] := va_S.rf
  have hl := lv_entry ([.ref (a 0)]) (n := 1) (Nat.le_of_ble_eq_true rfl)
  rw [lg_entry_eq]
  generalize (lg_sl ([.ref (a 0)]) ++ List.replicate (1 - (lg_sl ([.ref (a 0)])).length) Slot.unset).toArray = ls at hl ⊢
  have hl : lv_has ls 1 [(0, .ref (a 0))] := hl
  have hi2 : ∀ w ∈ wsX20, w ∈ wsX2_livingCount := by decide +kernel
  have kf37 := hts (.fieldLink RX2 37 "CapsuleKeepers$Place" "living" "I") (by decide +kernel)
  have hq : (fX2_livingCount v) = ((fbit (v 0 1))) := rfl
  refine lv_aload_n hx hb dX2_livingCount_0 rfl (lv_at hl 0 rfl) ?_
  refine va_get (D := Γ.1) (ci := 2) (v := .int (v 0 1)) (C := RX2) (T := TX2) (N := 16) hx hb hts hi2 hown hK hP 0 rfl rfl 1 (by decide) kf37 (fun _ h9 => h9) rfl dX2_livingCount_1 ?_
  refine cLI (va_runS (As := [.int (v 0 1)]) (rest := []) ⟨hx, hb, hml, hown, hts⟩ ((kJ6_bitCount_0f7a4 l Γ (v 0 1)) _) (va_cwS 1 hts gX2_livingCount_J6_bitCount_0f7a4 rfl rfl rfl (by decide +kernel) ⟨Nat.le_of_ble_eq_true rfl, Nat.le_of_ble_eq_true rfl⟩) ⟨wPre_blind, wPre_mk hP hD hK hS hA hAB hAm [] rfl rfl⟩ rfl rfl hl.1 rfl (lv_room (Nat.le_of_ble_eq_true rfl)) dX2_livingCount_4 ⟨Nat.zero_le _, Nat.zero_le _⟩) hP hS hA (fun H locs hP hS => ?_)
  exact W.iret (v := (fbit (v 0 1))) hx hb hr (fun t ht hW => eLI hS ht (by rw [hq])) hS.2.2 dX2_livingCount_7
def fX2_addKeeper (v : (Nat → Nat → Int32)) : Int32 × (Nat → Nat → Int32) := ((v 0 0), (sS (sS v 1 ((v 0 1) ||| ((nI 1) <<< ((v 0 0) &&& 31)))) 0 ((v 0 0) + (nI 1))))
set_option maxHeartbeats 4000000 in
set_option maxRecDepth 100000 in
theorem kX2_addKeeper (l : Launch) (Γ : wG) (a : Nat → Nat) (v : (Nat → Nat → Int32)) : MI l Γ yX2_addKeeper wsX2_addKeeper ({ frames := 0, cells := 0, slots := 0, locals := 0 }) [.ref (a 0)] [plB Γ a v] [plB Γ a (fX2_addKeeper v).2] (fX2_addKeeper v).1 := by
  intro sz
  refine Met.ofW (cc := cX2_addKeeper) (maxL := 2) (ret := (some .int)) (by decide) rfl ?_
  intro p e s m args below meth c s₁ B hml hv
  obtain ⟨rfl, hsz, hP, hK, hD0, hAm⟩ := hv
  have hx := B.exec
  have hb := B.bytes
  have hr := B.returns
  have hts := atoms_spec (ws := wsX2_addKeeper) B.pre
  have hown : s.vm.findClass RX2 = some m.cls := findClass_of_methodNamed B.named
  have hlocks := B.notSynchronized
  subst hsz
  have hD := hD0.self (sz := s.heap.size)
  generalize hAe : va_A (wcat [plB Γ a v]) s.heap.size = A at hD hAm ⊢
  have hA : ∀ q : Nat, s.heap.size ≤ q → A q := fun q h => by rw [← hAe]; exact Or.inr h
  have hAB : ∀ q : Nat, A q → A q := fun _ h => h
  have hS : va_S A s.heap s.heap [] := va_S.rf
  have hl := lv_entry ([.ref (a 0)]) (n := 2) (Nat.le_of_ble_eq_true rfl)
  rw [lg_entry_eq]
  generalize (lg_sl ([.ref (a 0)]) ++ List.replicate (2 - (lg_sl ([.ref (a 0)])).length) Slot.unset).toArray = ls at hl ⊢
  have hl : lv_has ls 2 [(0, .ref (a 0))] := hl
  have hi2 : ∀ w ∈ wsX20, w ∈ wsX2_addKeeper := by decide +kernel
  have kf34 := hts (.fieldLink RX2 34 "CapsuleKeepers$Place" "keepers" "I") (by decide +kernel)
  have kf37 := hts (.fieldLink RX2 37 "CapsuleKeepers$Place" "living" "I") (by decide +kernel)
  have hq : (fX2_addKeeper v) = ((v 0 0), (sS (sS v 1 ((v 0 1) ||| ((nI 1) <<< ((v 0 0) &&& 31)))) 0 ((v 0 0) + (nI 1)))) := rfl
  refine lv_aload_n hx hb dX2_addKeeper_0 rfl (lv_at hl 0 rfl) ?_
  refine va_get (D := Γ.1) (ci := 2) (v := .int (v 0 0)) (C := RX2) (T := TX2) (N := 16) hx hb hts hi2 hown hK hP 0 rfl rfl 0 (by decide) kf34 (fun _ h9 => h9) rfl dX2_addKeeper_1 ?_
  refine lv_istore_n (lv' := [(1, .int (v 0 0)), (0, .ref (a 0))]) hx hb dX2_addKeeper_4 rfl hl (by decide) rfl (fun ls hl => ?_)
  refine lv_aload_n hx hb dX2_addKeeper_5 rfl (lv_at hl 1 rfl) ?_
  refine lv_dup hx hb dX2_addKeeper_6 rfl ?_
  refine va_get (D := Γ.1) (ci := 2) (v := .int (v 0 1)) (C := RX2) (T := TX2) (N := 16) hx hb hts hi2 hown hK hP 0 rfl rfl 1 (by decide) kf37 (fun _ h9 => h9) rfl dX2_addKeeper_7 ?_
  refine lv_iconst (v := (nI 1)) hx hb dX2_addKeeper_10 (by decide) ?_
  refine lv_iload_n hx hb dX2_addKeeper_11 rfl (lv_at hl 0 rfl) ?_
  refine lv_ishl hx hb dX2_addKeeper_12 ?_
  refine lv_ior hx hb dX2_addKeeper_13 ?_
  refine va_put (D := Γ.1) (ci := 2) (v := .int ((v 0 1) ||| ((nI 1) <<< ((v 0 0) &&& 31)))) (ty := .int) (C := RX2) (T := TX2) (N := 16) hx hb hts hi2 tyX2 tyX2_ok nmX2 hown hK hP hD hS 0 rfl rfl 1 (by decide) kf37 (fun _ h9 => h9) rfl (by decide +kernel) rfl rfl (Nat.le_of_ble_eq_true rfl) dX2_addKeeper_14 (fun H locs hP hD hS => ?_)
  have hP : va_P Γ.1 vwCl (wcat [plB Γ a (sS v 1 ((v 0 1) ||| ((nI 1) <<< ((v 0 0) &&& 31))))]) H := hP
  have hD : va_D A (wcat [plB Γ a (sS v 1 ((v 0 1) ||| ((nI 1) <<< ((v 0 0) &&& 31))))]) := hD
  refine lv_aload_n hx hb dX2_addKeeper_17 rfl (lv_at hl 1 rfl) ?_
  refine lv_dup hx hb dX2_addKeeper_18 rfl ?_
  refine va_get (D := Γ.1) (ci := 2) (v := .int (v 0 0)) (C := RX2) (T := TX2) (N := 16) hx hb hts hi2 hown hK hP 0 rfl rfl 0 (by decide) kf34 (fun _ h9 => h9) rfl dX2_addKeeper_19 ?_
  refine lv_iconst (v := (nI 1)) hx hb dX2_addKeeper_22 (by decide) ?_
  refine lv_iadd hx hb dX2_addKeeper_23 ?_
  refine va_put (D := Γ.1) (ci := 2) (v := .int ((v 0 0) + (nI 1))) (ty := .int) (C := RX2) (T := TX2) (N := 16) hx hb hts hi2 tyX2 tyX2_ok nmX2 hown hK hP hD hS 0 rfl rfl 0 (by decide) kf34 (fun _ h9 => h9) rfl (by decide +kernel) rfl rfl (Nat.le_of_ble_eq_true rfl) dX2_addKeeper_24 (fun H locs hP hD hS => ?_)
  have hP : va_P Γ.1 vwCl (wcat [plB Γ a (sS (sS v 1 ((v 0 1) ||| ((nI 1) <<< ((v 0 0) &&& 31)))) 0 ((v 0 0) + (nI 1)))]) H := hP
  have hD : va_D A (wcat [plB Γ a (sS (sS v 1 ((v 0 1) ||| ((nI 1) <<< ((v 0 0) &&& 31)))) 0 ((v 0 0) + (nI 1)))]) := hD
  refine lv_iload_n hx hb dX2_addKeeper_27 rfl (lv_at hl 0 rfl) ?_
  exact W.iret (v := (v 0 0)) hx hb hr (fun t ht hW => eMI (by rw [hq]; exact hP) hS ht (by rw [hq])) hS.2.2 dX2_addKeeper_28
def fX2_ownedBy_L4 (v : (Nat → Nat → Int32)) (k : Int32) : Nat → Nat → Int32 → Int32
  | 0, i4, x2_4 => (x2_4)
  | n4 + 1, i4, x2_4 => (if ((v 4) i4) = k then (fX2_ownedBy_L4 v k n4 (i4 + 1) (x2_4 ||| ((nI 1) <<< ((nI i4) &&& 31)))) else (fX2_ownedBy_L4 v k n4 (i4 + 1) x2_4))
def fX2_ownedBy (v : (Nat → Nat → Int32)) (k : Int32) : Int32 := (fX2_ownedBy_L4 v k (8) 0 (nI 0))
set_option maxHeartbeats 4000000 in
set_option maxRecDepth 100000 in
theorem kX2_ownedBy (l : Launch) (Γ : wG) (a : Nat → Nat) (v : (Nat → Nat → Int32)) (k : Int32) : LI l Γ yX2_ownedBy wsX2_ownedBy ({ frames := 0, cells := 0, slots := 0, locals := 0 }) [.ref (a 0), .int k] [plB Γ a v] (fX2_ownedBy v k) := by
  intro sz
  refine Met.ofW (cc := cX2_ownedBy) (maxL := 4) (ret := (some .int)) (by decide) rfl ?_
  intro p e s m args below meth c s₁ B hml hv
  obtain ⟨rfl, hsz, hP, hK, hD0, hAm⟩ := hv
  have hx := B.exec
  have hb := B.bytes
  have hr := B.returns
  have hts := atoms_spec (ws := wsX2_ownedBy) B.pre
  have hown : s.vm.findClass RX2 = some m.cls := findClass_of_methodNamed B.named
  have hlocks := B.notSynchronized
  subst hsz
  have hD := hD0.self (sz := s.heap.size)
  generalize hBe : va_A (wcat [plB Γ a v]) s.heap.size = B0 at hD hAm
  obtain ⟨A, hAe⟩ : ∃ A, A = va_A [] s.heap.size := ⟨_, rfl⟩
  rw [← hAe]
  have hA : ∀ q : Nat, s.heap.size ≤ q → A q := fun q h => by rw [hAe]; exact Or.inr h
  have hAB : ∀ q : Nat, A q → B0 q := fun q h => by rw [hAe] at h; rw [← hBe]; exact Or.inr (wnone h)
  have hS : va_S A s.heap s.heap [] := va_S.rf
  have hl := lv_entry ([.ref (a 0), .int k]) (n := 4) (Nat.le_of_ble_eq_true rfl)
  rw [lg_entry_eq]
  generalize (lg_sl ([.ref (a 0), .int k]) ++ List.replicate (4 - (lg_sl ([.ref (a 0), .int k])).length) Slot.unset).toArray = ls at hl ⊢
  have hl : lv_has ls 4 [(0, .ref (a 0)), (1, .int k)] := hl
  have hi2 : ∀ w ∈ wsX20, w ∈ wsX2_ownedBy := by decide +kernel
  have kf21 := hts (.fieldLink RX2 21 "CapsuleKeepers$Place" "owners" "[I") (by decide +kernel)
  have hq : (fX2_ownedBy v k) = (fX2_ownedBy_L4 v k (8) 0 (nI 0)) := rfl
  refine lv_iconst (v := (nI 0)) hx hb dX2_ownedBy_0 (by decide) ?_
  refine lv_istore_n (lv' := [(2, .int (nI 0)), (0, .ref (a 0)), (1, .int k)]) hx hb dX2_ownedBy_1 rfl hl (by decide) rfl (fun ls hl => ?_)
  refine lv_iconst (v := (nI 0)) hx hb dX2_ownedBy_2 (by decide) ?_
  refine lv_istore_n (lv' := [(3, .int (nI 0)), (2, .int (nI 0)), (0, .ref (a 0)), (1, .int k)]) hx hb dX2_ownedBy_3 rfl hl (by decide) rfl (fun ls hl => ?_)
  refine wl (pc := 4) (σ := Nat × Int32) (fun n (i4, x2_4) H locs ls => (i4 + n = 8) ∧ (fX2_ownedBy v k) = fX2_ownedBy_L4 v k n i4 x2_4 ∧ va_P Γ.1 vwCl (wcat [plB Γ a v]) H ∧ va_S A s.heap H locs ∧ lv_has ls 4 [(3, .int (nI i4)), (2, .int x2_4), (0, .ref (a 0)), (1, .int k)]) ?_ ?_ (8) (0, (nI 0)) _ _ _ ⟨by omega, hq, hP, hS, lv_sub hl [0, 1, 2, 3] rfl⟩
  · intro ⟨i4, x2_4⟩ H locs ls h
    obtain ⟨hn4, hq, hP, hS, hl⟩ := h
    try dsimp only at hn4 hq hP hl
    replace hq : (fX2_ownedBy v k) = (x2_4) := hq
    refine lv_iload_n hx hb dX2_ownedBy_4 rfl (lv_at hl 0 rfl) ?_
    refine lv_bipush (v := (nI 8)) hx hb dX2_ownedBy_5 (by decide) ?_
    refine lv_icmp_ge (tgt := 32) hx hb dX2_ownedBy_7 (by decide) (fun c_7 => ?_) (fun c_7 => absurd (nI_le (by omega) (by omega)) c_7)
    refine lv_iload_n hx hb dX2_ownedBy_32 rfl (lv_at hl 1 rfl) ?_
    exact W.iret (v := x2_4) hx hb hr (fun t ht hW => eLI hS ht (by rw [hq])) hS.2.2 dX2_ownedBy_33
  · intro n4 ih4 ⟨i4, x2_4⟩ H locs ls h
    obtain ⟨hn4, hq, hP, hS, hl⟩ := h
    try dsimp only at hn4 hq hP hl
    replace hq : (fX2_ownedBy v k) = (if ((v 4) i4) = k then (fX2_ownedBy_L4 v k n4 (i4 + 1) (x2_4 ||| ((nI 1) <<< ((nI i4) &&& 31)))) else (fX2_ownedBy_L4 v k n4 (i4 + 1) x2_4)) := hq
    refine lv_iload_n hx hb dX2_ownedBy_4 rfl (lv_at hl 0 rfl) ?_
    refine lv_bipush (v := (nI 8)) hx hb dX2_ownedBy_5 (by decide) ?_
    refine lv_icmp_ge (tgt := 32) hx hb dX2_ownedBy_7 (by decide) (fun c_7 => absurd c_7 (nI_ge (by omega) (by omega))) (fun c_7 => ?_)
    refine lv_aload_n hx hb dX2_ownedBy_10 rfl (lv_at hl 2 rfl) ?_
    refine va_get (D := Γ.1) (ci := 2) (v := .ref (a 4)) (C := RX2) (T := TX2) (N := 16) hx hb hts hi2 hown hK hP 0 rfl rfl 5 (by decide) kf21 (fun _ h9 => h9) rfl dX2_ownedBy_11 ?_
    refine lv_iload_n hx hb dX2_ownedBy_14 rfl (lv_at hl 0 rfl) ?_
    refine va_iald_n (f := (v 4)) hx hb hK hP 4 0 rfl rfl (by omega) (Nat.le_of_ble_eq_true rfl) dX2_ownedBy_15 ?_
    refine lv_iload_n hx hb dX2_ownedBy_16 rfl (lv_at hl 3 rfl) ?_
    refine lv_icmp_ne (tgt := 26) hx hb dX2_ownedBy_17 (by decide) (fun c_1 => ?_) (fun c_1 => ?_)
    · have hq := hq.trans (if_neg c_1)
      refine lv_iinc (v := (nI (i4 + 1))) (lv' := [(3, .int (nI (i4 + 1))), (2, .int x2_4), (0, .ref (a 0)), (1, .int k)]) hx hb dX2_ownedBy_26 hl (k := 0) rfl (nI_1 _) (by decide) rfl (fun ls hl => ?_)
      refine lv_goto (tgt := 4) hx hb dX2_ownedBy_29 (by decide) ?_
      exact ih4 ((i4 + 1), x2_4) H locs ls ⟨by omega, hq, hP, hS, lv_sub hl [0, 1, 2, 3] rfl⟩
    · have hq := hq.trans (if_pos c_1)
      refine lv_iload_n hx hb dX2_ownedBy_20 rfl (lv_at hl 1 rfl) ?_
      refine lv_iconst (v := (nI 1)) hx hb dX2_ownedBy_21 (by decide) ?_
      refine lv_iload_n hx hb dX2_ownedBy_22 rfl (lv_at hl 0 rfl) ?_
      refine lv_ishl hx hb dX2_ownedBy_23 ?_
      refine lv_ior hx hb dX2_ownedBy_24 ?_
      refine lv_istore_n (lv' := [(2, .int (x2_4 ||| ((nI 1) <<< ((nI i4) &&& 31)))), (3, .int (nI i4)), (0, .ref (a 0)), (1, .int k)]) hx hb dX2_ownedBy_25 rfl hl (by decide) rfl (fun ls hl => ?_)
      refine lv_iinc (v := (nI (i4 + 1))) (lv' := [(3, .int (nI (i4 + 1))), (2, .int (x2_4 ||| ((nI 1) <<< ((nI i4) &&& 31)))), (0, .ref (a 0)), (1, .int k)]) hx hb dX2_ownedBy_26 hl (k := 1) rfl (nI_1 _) (by decide) rfl (fun ls hl => ?_)
      refine lv_goto (tgt := 4) hx hb dX2_ownedBy_29 (by decide) ?_
      exact ih4 ((i4 + 1), (x2_4 ||| ((nI 1) <<< ((nI i4) &&& 31)))) H locs ls ⟨by omega, hq, hP, hS, lv_sub hl [0, 1, 2, 3] rfl⟩
def fX2_bury_L33 (v : (Nat → Nat → Int32)) (k : Int32) : Nat → Nat → Int32 → (Nat → Nat → Int32) → Int32 × (Nat → Nat → Int32)
  | 0, i33, x4_33, v0_33 => (x4_33, v0_33)
  | n33 + 1, i33, x4_33, v0_33 => (if ((v0_33 4) i33) = k then (if (fX2_lives (sS v 1 ((v 0 1) &&& (((nI 1) <<< (k &&& 31)) ^^^ (-1)))) ((v 1) k.toNatClampNeg)) = 0 then (fX2_bury_L33 v k n33 (i33 + 1) (x4_33 + (nI 0)) (sR v0_33 4 (upd (v0_33 4) i33 (-1)))) else (fX2_bury_L33 v k n33 (i33 + 1) (x4_33 + (nI 1)) (sR v0_33 4 (upd (v0_33 4) i33 ((v 1) k.toNatClampNeg))))) else (fX2_bury_L33 v k n33 (i33 + 1) x4_33 v0_33))
def fX2_bury (v : (Nat → Nat → Int32)) (k : Int32) : Int32 × (Nat → Nat → Int32) := (fX2_bury_L33 v k (8) 0 (nI 0) (sS v 1 ((v 0 1) &&& (((nI 1) <<< (k &&& 31)) ^^^ (-1)))))
set_option maxHeartbeats 4000000 in
set_option maxRecDepth 100000 in
theorem kX2_bury (l : Launch) (Γ : wG) (a : Nat → Nat) (v : (Nat → Nat → Int32)) (k : Int32) (hk : vp_in k 8) : MI l Γ yX2_bury wsX2_bury ({ frames := 2, cells := 0, slots := 0, locals := 42 }) [.ref (a 0), .int k] [plB Γ a v] [plB Γ a (fX2_bury v k).2] (fX2_bury v k).1 := by
  intro sz
  refine Met.ofW (cc := cX2_bury) (maxL := 6) (ret := (some .int)) (by decide) rfl ?_
  intro p e s m args below meth c s₁ B hml hv
  obtain ⟨rfl, hsz, hP, hK, hD0, hAm⟩ := hv
  have hx := B.exec
  have hb := B.bytes
  have hr := B.returns
  have hts := atoms_spec (ws := wsX2_bury) B.pre
  have hown : s.vm.findClass RX2 = some m.cls := findClass_of_methodNamed B.named
  have hlocks := B.notSynchronized
  subst hsz
  have hD := hD0.self (sz := s.heap.size)
  generalize hAe : va_A (wcat [plB Γ a v]) s.heap.size = A at hD hAm ⊢
  have hA : ∀ q : Nat, s.heap.size ≤ q → A q := fun q h => by rw [← hAe]; exact Or.inr h
  have hAB : ∀ q : Nat, A q → A q := fun _ h => h
  have hS : va_S A s.heap s.heap [] := va_S.rf
  have hl := lv_entry ([.ref (a 0), .int k]) (n := 6) (Nat.le_of_ble_eq_true rfl)
  rw [lg_entry_eq]
  generalize (lg_sl ([.ref (a 0), .int k]) ++ List.replicate (6 - (lg_sl ([.ref (a 0), .int k])).length) Slot.unset).toArray = ls at hl ⊢
  have hl : lv_has ls 6 [(0, .ref (a 0)), (1, .int k)] := hl
  have hi2 : ∀ w ∈ wsX20, w ∈ wsX2_bury := by decide +kernel
  have kf21 := hts (.fieldLink RX2 21 "CapsuleKeepers$Place" "owners" "[I") (by decide +kernel)
  have kf37 := hts (.fieldLink RX2 37 "CapsuleKeepers$Place" "living" "I") (by decide +kernel)
  have kf9 := hts (.fieldLink RX2 9 "CapsuleKeepers$Place" "heirs" "[I") (by decide +kernel)
  have hq : (fX2_bury v k) = (fX2_bury_L33 v k (8) 0 (nI 0) (sS v 1 ((v 0 1) &&& (((nI 1) <<< (k &&& 31)) ^^^ (-1))))) := rfl
  refine lv_aload_n hx hb dX2_bury_0 rfl (lv_at hl 0 rfl) ?_
  refine lv_dup hx hb dX2_bury_1 rfl ?_
  refine va_get (D := Γ.1) (ci := 2) (v := .int (v 0 1)) (C := RX2) (T := TX2) (N := 16) hx hb hts hi2 hown hK hP 0 rfl rfl 1 (by decide) kf37 (fun _ h9 => h9) rfl dX2_bury_2 ?_
  refine lv_iconst (v := (nI 1)) hx hb dX2_bury_5 (by decide) ?_
  refine lv_iload_n hx hb dX2_bury_6 rfl (lv_at hl 1 rfl) ?_
  refine lv_ishl hx hb dX2_bury_7 ?_
  refine lv_iconst (v := (-1)) hx hb dX2_bury_8 (by decide) ?_
  refine lv_ixor hx hb dX2_bury_9 ?_
  refine lv_iand hx hb dX2_bury_10 ?_
  refine va_put (D := Γ.1) (ci := 2) (v := .int ((v 0 1) &&& (((nI 1) <<< (k &&& 31)) ^^^ (-1)))) (ty := .int) (C := RX2) (T := TX2) (N := 16) hx hb hts hi2 tyX2 tyX2_ok nmX2 hown hK hP hD hS 0 rfl rfl 1 (by decide) kf37 (fun _ h9 => h9) rfl (by decide +kernel) rfl rfl (Nat.le_of_ble_eq_true rfl) dX2_bury_11 (fun H locs hP hD hS => ?_)
  have hP : va_P Γ.1 vwCl (wcat [plB Γ a (sS v 1 ((v 0 1) &&& (((nI 1) <<< (k &&& 31)) ^^^ (-1))))]) H := hP
  have hD : va_D A (wcat [plB Γ a (sS v 1 ((v 0 1) &&& (((nI 1) <<< (k &&& 31)) ^^^ (-1))))]) := hD
  refine lv_aload_n hx hb dX2_bury_14 rfl (lv_at hl 0 rfl) ?_
  refine va_get (D := Γ.1) (ci := 2) (v := .ref (a 1)) (C := RX2) (T := TX2) (N := 16) hx hb hts hi2 hown hK hP 0 rfl rfl 2 (by decide) kf9 (fun _ h9 => h9) rfl dX2_bury_15 ?_
  refine lv_iload_n hx hb dX2_bury_18 rfl (lv_at hl 1 rfl) ?_
  refine va_iald (f := (v 1)) hx hb hK hP 1 0 rfl rfl (by assumption) dX2_bury_19 ?_
  refine lv_istore_n (lv' := [(2, .int ((v 1) k.toNatClampNeg)), (0, .ref (a 0)), (1, .int k)]) hx hb dX2_bury_20 rfl hl (by decide) rfl (fun ls hl => ?_)
  refine lv_aload_n hx hb dX2_bury_21 rfl (lv_at hl 1 rfl) ?_
  refine lv_iload_n hx hb dX2_bury_22 rfl (lv_at hl 0 rfl) ?_
  refine cLI (va_runV (As := [.int ((v 1) k.toNatClampNeg)]) (rest := []) ⟨hx, hb, hml, hown, hts⟩ ((kX2_lives l Γ a (sS v 1 ((v 0 1) &&& (((nI 1) <<< (k &&& 31)) ^^^ (-1)))) ((v 1) k.toNatClampNeg)) _) (cwV 1 hts gX2_bury_X2_lives rfl rfl rfl (by decide +kernel) ⟨Nat.le_of_ble_eq_true rfl, Nat.le_of_ble_eq_true rfl⟩) ⟨wPre_blind, va_recv hK hP (ci := 2) (q0 := 0) rfl rfl, wPre_mk hP hD hK hS hA hAB hAm [0] rfl rfl⟩ rfl rfl hl.1 rfl (lv_room (Nat.le_of_ble_eq_true rfl)) dX2_bury_23 ⟨Nat.zero_le _, Nat.zero_le _⟩) hP hS hA (fun H locs hP hS => ?_)
  refine lv_istore_n (lv' := [(3, .int (fX2_lives (sS v 1 ((v 0 1) &&& (((nI 1) <<< (k &&& 31)) ^^^ (-1)))) ((v 1) k.toNatClampNeg))), (2, .int ((v 1) k.toNatClampNeg)), (0, .ref (a 0)), (1, .int k)]) hx hb dX2_bury_26 rfl hl (by decide) rfl (fun ls hl => ?_)
  refine lv_iconst (v := (nI 0)) hx hb dX2_bury_27 (by decide) ?_
  refine lv_istore (lv' := [(4, .int (nI 0)), (3, .int (fX2_lives (sS v 1 ((v 0 1) &&& (((nI 1) <<< (k &&& 31)) ^^^ (-1)))) ((v 1) k.toNatClampNeg))), (2, .int ((v 1) k.toNatClampNeg)), (0, .ref (a 0)), (1, .int k)]) hx hb dX2_bury_28 hl (by decide) rfl (fun ls hl => ?_)
  refine lv_iconst (v := (nI 0)) hx hb dX2_bury_30 (by decide) ?_
  refine lv_istore (lv' := [(5, .int (nI 0)), (4, .int (nI 0)), (3, .int (fX2_lives (sS v 1 ((v 0 1) &&& (((nI 1) <<< (k &&& 31)) ^^^ (-1)))) ((v 1) k.toNatClampNeg))), (2, .int ((v 1) k.toNatClampNeg)), (0, .ref (a 0)), (1, .int k)]) hx hb dX2_bury_31 hl (by decide) rfl (fun ls hl => ?_)
  refine wl (pc := 33) (σ := Nat × Int32 × (Nat → Nat → Int32)) (fun n (i33, x4_33, v0_33) H locs ls => (i33 + n = 8) ∧ (fX2_bury v k) = fX2_bury_L33 v k n i33 x4_33 v0_33 ∧ va_P Γ.1 vwCl (wcat [plB Γ a v0_33]) H ∧ va_D A (wcat [plB Γ a v0_33]) ∧ va_S A s.heap H locs ∧ lv_has ls 6 [(5, .int (nI i33)), (4, .int x4_33), (3, .int (fX2_lives (sS v 1 ((v 0 1) &&& (((nI 1) <<< (k &&& 31)) ^^^ (-1)))) ((v 1) k.toNatClampNeg))), (2, .int ((v 1) k.toNatClampNeg)), (0, .ref (a 0)), (1, .int k)]) ?_ ?_ (8) (0, (nI 0), (sS v 1 ((v 0 1) &&& (((nI 1) <<< (k &&& 31)) ^^^ (-1))))) _ _ _ ⟨by omega, hq, hP, hD, hS, lv_sub hl [0, 1, 2, 3, 4, 5] rfl⟩
  · intro ⟨i33, x4_33, v0_33⟩ H locs ls h
    obtain ⟨hn33, hq, hP, hD, hS, hl⟩ := h
    try dsimp only at hn33 hq hP hD hl
    replace hq : (fX2_bury v k) = (x4_33, v0_33) := hq
    refine lv_iload hx hb dX2_bury_33 (lv_at hl 0 rfl) ?_
    refine lv_bipush (v := (nI 8)) hx hb dX2_bury_35 (by decide) ?_
    refine lv_icmp_ge (tgt := 87) hx hb dX2_bury_37 (by decide) (fun c_37 => ?_) (fun c_37 => absurd (nI_le (by omega) (by omega)) c_37)
    refine lv_iload hx hb dX2_bury_87 (lv_at hl 1 rfl) ?_
    exact W.iret (v := x4_33) hx hb hr (fun t ht hW => eMI (by rw [hq]; exact hP) hS ht (by rw [hq])) hS.2.2 dX2_bury_89
  · intro n33 ih33 ⟨i33, x4_33, v0_33⟩ H locs ls h
    obtain ⟨hn33, hq, hP, hD, hS, hl⟩ := h
    try dsimp only at hn33 hq hP hD hl
    replace hq : (fX2_bury v k) = (if ((v0_33 4) i33) = k then (if (fX2_lives (sS v 1 ((v 0 1) &&& (((nI 1) <<< (k &&& 31)) ^^^ (-1)))) ((v 1) k.toNatClampNeg)) = 0 then (fX2_bury_L33 v k n33 (i33 + 1) (x4_33 + (nI 0)) (sR v0_33 4 (upd (v0_33 4) i33 (-1)))) else (fX2_bury_L33 v k n33 (i33 + 1) (x4_33 + (nI 1)) (sR v0_33 4 (upd (v0_33 4) i33 ((v 1) k.toNatClampNeg))))) else (fX2_bury_L33 v k n33 (i33 + 1) x4_33 v0_33)) := hq
    refine lv_iload hx hb dX2_bury_33 (lv_at hl 0 rfl) ?_
    refine lv_bipush (v := (nI 8)) hx hb dX2_bury_35 (by decide) ?_
    refine lv_icmp_ge (tgt := 87) hx hb dX2_bury_37 (by decide) (fun c_37 => absurd c_37 (nI_ge (by omega) (by omega))) (fun c_37 => ?_)
    refine lv_aload_n hx hb dX2_bury_40 rfl (lv_at hl 4 rfl) ?_
    refine va_get (D := Γ.1) (ci := 2) (v := .ref (a 4)) (C := RX2) (T := TX2) (N := 16) hx hb hts hi2 hown hK hP 0 rfl rfl 5 (by decide) kf21 (fun _ h9 => h9) rfl dX2_bury_41 ?_
    refine lv_iload hx hb dX2_bury_44 (lv_at hl 0 rfl) ?_
    refine va_iald_n (f := (v0_33 4)) hx hb hK hP 4 0 rfl rfl (by omega) (Nat.le_of_ble_eq_true rfl) dX2_bury_46 ?_
    refine lv_iload_n hx hb dX2_bury_47 rfl (lv_at hl 5 rfl) ?_
    refine lv_icmp_ne (tgt := 81) hx hb dX2_bury_48 (by decide) (fun c_1 => ?_) (fun c_1 => ?_)
    · have hq := hq.trans (if_neg c_1)
      refine lv_iinc (v := (nI (i33 + 1))) (lv' := [(5, .int (nI (i33 + 1))), (4, .int x4_33), (3, .int (fX2_lives (sS v 1 ((v 0 1) &&& (((nI 1) <<< (k &&& 31)) ^^^ (-1)))) ((v 1) k.toNatClampNeg))), (2, .int ((v 1) k.toNatClampNeg)), (0, .ref (a 0)), (1, .int k)]) hx hb dX2_bury_81 hl (k := 0) rfl (nI_1 _) (by decide) rfl (fun ls hl => ?_)
      refine lv_goto (tgt := 33) hx hb dX2_bury_84 (by decide) ?_
      exact ih33 ((i33 + 1), x4_33, v0_33) H locs ls ⟨by omega, hq, hP, hD, hS, lv_sub hl [0, 1, 2, 3, 4, 5] rfl⟩
    · have hq := hq.trans (if_pos c_1)
      refine lv_aload_n hx hb dX2_bury_51 rfl (lv_at hl 4 rfl) ?_
      refine va_get (D := Γ.1) (ci := 2) (v := .ref (a 4)) (C := RX2) (T := TX2) (N := 16) hx hb hts hi2 hown hK hP 0 rfl rfl 5 (by decide) kf21 (fun _ h9 => h9) rfl dX2_bury_52 ?_
      refine lv_iload hx hb dX2_bury_55 (lv_at hl 0 rfl) ?_
      refine lv_iload_n hx hb dX2_bury_57 rfl (lv_at hl 2 rfl) ?_
      refine lv_if_eq (tgt := 65) hx hb dX2_bury_58 (by decide) (fun c_2 => ?_) (fun c_2 => ?_)
      · have hq := hq.trans (if_pos c_2)
        refine lv_iconst (v := (-1)) hx hb dX2_bury_65 (by decide) ?_
        refine va_iast_n (f := (v0_33 4)) hx hb hK hP hD hS 4 0 rfl rfl (by omega) (Nat.le_of_ble_eq_true rfl) dX2_bury_66 (fun H locs hP hD hS => ?_)
        have hP : va_P Γ.1 vwCl (wcat [plB Γ a (sR v0_33 4 (upd (v0_33 4) i33 (-1)))]) H := hP
        have hD : va_D A (wcat [plB Γ a (sR v0_33 4 (upd (v0_33 4) i33 (-1)))]) := hD
        refine lv_iload hx hb dX2_bury_67 (lv_at hl 1 rfl) ?_
        refine lv_iload_n hx hb dX2_bury_69 rfl (lv_at hl 2 rfl) ?_
        refine lv_if_eq (tgt := 77) hx hb dX2_bury_70 (by decide) (fun c_70 => ?_) (fun c_70 => absurd c_2 c_70)
        refine lv_iconst (v := (nI 0)) hx hb dX2_bury_77 (by decide) ?_
        refine lv_iadd hx hb dX2_bury_78 ?_
        refine lv_istore (lv' := [(4, .int (x4_33 + (nI 0))), (5, .int (nI i33)), (3, .int (fX2_lives (sS v 1 ((v 0 1) &&& (((nI 1) <<< (k &&& 31)) ^^^ (-1)))) ((v 1) k.toNatClampNeg))), (2, .int ((v 1) k.toNatClampNeg)), (0, .ref (a 0)), (1, .int k)]) hx hb dX2_bury_79 hl (by decide) rfl (fun ls hl => ?_)
        refine lv_iinc (v := (nI (i33 + 1))) (lv' := [(5, .int (nI (i33 + 1))), (4, .int (x4_33 + (nI 0))), (3, .int (fX2_lives (sS v 1 ((v 0 1) &&& (((nI 1) <<< (k &&& 31)) ^^^ (-1)))) ((v 1) k.toNatClampNeg))), (2, .int ((v 1) k.toNatClampNeg)), (0, .ref (a 0)), (1, .int k)]) hx hb dX2_bury_81 hl (k := 1) rfl (nI_1 _) (by decide) rfl (fun ls hl => ?_)
        refine lv_goto (tgt := 33) hx hb dX2_bury_84 (by decide) ?_
        exact ih33 ((i33 + 1), (x4_33 + (nI 0)), (sR v0_33 4 (upd (v0_33 4) i33 (-1)))) H locs ls ⟨by omega, hq, hP, hD, hS, lv_sub hl [0, 1, 2, 3, 4, 5] rfl⟩
      · have hq := hq.trans (if_neg c_2)
        refine lv_iload_n hx hb dX2_bury_61 rfl (lv_at hl 3 rfl) ?_
        refine lv_goto (tgt := 66) hx hb dX2_bury_62 (by decide) ?_
        refine va_iast_n (f := (v0_33 4)) hx hb hK hP hD hS 4 0 rfl rfl (by omega) (Nat.le_of_ble_eq_true rfl) dX2_bury_66 (fun H locs hP hD hS => ?_)
        have hP : va_P Γ.1 vwCl (wcat [plB Γ a (sR v0_33 4 (upd (v0_33 4) i33 ((v 1) k.toNatClampNeg)))]) H := hP
        have hD : va_D A (wcat [plB Γ a (sR v0_33 4 (upd (v0_33 4) i33 ((v 1) k.toNatClampNeg)))]) := hD
        refine lv_iload hx hb dX2_bury_67 (lv_at hl 1 rfl) ?_
        refine lv_iload_n hx hb dX2_bury_69 rfl (lv_at hl 2 rfl) ?_
        refine lv_if_eq (tgt := 77) hx hb dX2_bury_70 (by decide) (fun c_70 => absurd c_70 c_2) (fun c_70 => ?_)
        refine lv_iconst (v := (nI 1)) hx hb dX2_bury_73 (by decide) ?_
        refine lv_goto (tgt := 78) hx hb dX2_bury_74 (by decide) ?_
        refine lv_iadd hx hb dX2_bury_78 ?_
        refine lv_istore (lv' := [(4, .int (x4_33 + (nI 1))), (5, .int (nI i33)), (3, .int (fX2_lives (sS v 1 ((v 0 1) &&& (((nI 1) <<< (k &&& 31)) ^^^ (-1)))) ((v 1) k.toNatClampNeg))), (2, .int ((v 1) k.toNatClampNeg)), (0, .ref (a 0)), (1, .int k)]) hx hb dX2_bury_79 hl (by decide) rfl (fun ls hl => ?_)
        refine lv_iinc (v := (nI (i33 + 1))) (lv' := [(5, .int (nI (i33 + 1))), (4, .int (x4_33 + (nI 1))), (3, .int (fX2_lives (sS v 1 ((v 0 1) &&& (((nI 1) <<< (k &&& 31)) ^^^ (-1)))) ((v 1) k.toNatClampNeg))), (2, .int ((v 1) k.toNatClampNeg)), (0, .ref (a 0)), (1, .int k)]) hx hb dX2_bury_81 hl (k := 1) rfl (nI_1 _) (by decide) rfl (fun ls hl => ?_)
        refine lv_goto (tgt := 33) hx hb dX2_bury_84 (by decide) ?_
        exact ih33 ((i33 + 1), (x4_33 + (nI 1)), (sR v0_33 4 (upd (v0_33 4) i33 ((v 1) k.toNatClampNeg)))) H locs ls ⟨by omega, hq, hP, hD, hS, lv_sub hl [0, 1, 2, 3, 4, 5] rfl⟩
def fX2_mayName (v : (Nat → Nat → Int32)) (k : Int32) (h : Int32) : Int32 := (if k = h then ((nI 0)) else (if (fX2_lives v k) = 0 then ((nI 0)) else (if h = (-1) then ((nI 1)) else (if (fX2_lives v h) = 0 then ((nI 0)) else ((nI 1))))))
set_option maxHeartbeats 4000000 in
set_option maxRecDepth 100000 in
theorem kX2_mayName (l : Launch) (Γ : wG) (a : Nat → Nat) (v : (Nat → Nat → Int32)) (k : Int32) (h : Int32) : LI l Γ yX2_mayName wsX2_mayName ({ frames := 2, cells := 0, slots := 0, locals := 42 }) [.ref (a 0), .int k, .int h] [plB Γ a v] (fX2_mayName v k h) := by
  intro sz
  refine Met.ofW (cc := cX2_mayName) (maxL := 3) (ret := (some .boolean)) (by decide) rfl ?_
  intro p e s m args below meth c s₁ B hml hv
  obtain ⟨rfl, hsz, hP, hK, hD0, hAm⟩ := hv
  have hx := B.exec
  have hb := B.bytes
  have hr := B.returns
  have hts := atoms_spec (ws := wsX2_mayName) B.pre
  have hown : s.vm.findClass RX2 = some m.cls := findClass_of_methodNamed B.named
  have hlocks := B.notSynchronized
  subst hsz
  have hD := hD0.self (sz := s.heap.size)
  generalize hBe : va_A (wcat [plB Γ a v]) s.heap.size = B0 at hD hAm
  obtain ⟨A, hAe⟩ : ∃ A, A = va_A [] s.heap.size := ⟨_, rfl⟩
  rw [← hAe]
  have hA : ∀ q : Nat, s.heap.size ≤ q → A q := fun q h => by rw [hAe]; exact Or.inr h
  have hAB : ∀ q : Nat, A q → B0 q := fun q h => by rw [hAe] at h; rw [← hBe]; exact Or.inr (wnone h)
  have hS : va_S A s.heap s.heap [] := va_S.rf
  have hl := lv_entry ([.ref (a 0), .int k, .int h]) (n := 3) (Nat.le_of_ble_eq_true rfl)
  rw [lg_entry_eq]
  generalize (lg_sl ([.ref (a 0), .int k, .int h]) ++ List.replicate (3 - (lg_sl ([.ref (a 0), .int k, .int h])).length) Slot.unset).toArray = ls at hl ⊢
  have hl : lv_has ls 3 [(0, .ref (a 0)), (1, .int k), (2, .int h)] := hl
  have hq : (fX2_mayName v k h) = (if k = h then ((nI 0)) else (if (fX2_lives v k) = 0 then ((nI 0)) else (if h = (-1) then ((nI 1)) else (if (fX2_lives v h) = 0 then ((nI 0)) else ((nI 1)))))) := rfl
  refine lv_iload_n hx hb dX2_mayName_0 rfl (lv_at hl 1 rfl) ?_
  refine lv_iload_n hx hb dX2_mayName_1 rfl (lv_at hl 2 rfl) ?_
  refine lv_icmp_eq (tgt := 30) hx hb dX2_mayName_2 (by decide) (fun c_1 => ?_) (fun c_1 => ?_)
  · have hq := hq.trans (if_pos c_1)
    refine lv_iconst (v := (nI 0)) hx hb dX2_mayName_30 (by decide) ?_
    exact W.zret (v := (nI 0)) hx hb hr (by first | rfl | decide) (fun t ht hW => eLI hS ht (by rw [hq])) hS.2.2 dX2_mayName_31
  · have hq := hq.trans (if_neg c_1)
    refine lv_aload_n hx hb dX2_mayName_5 rfl (lv_at hl 0 rfl) ?_
    refine lv_iload_n hx hb dX2_mayName_6 rfl (lv_at hl 1 rfl) ?_
    refine cLI (va_runV (As := [.int k]) (rest := []) ⟨hx, hb, hml, hown, hts⟩ ((kX2_lives l Γ a v k) _) (cwV 1 hts gX2_mayName_X2_lives rfl rfl rfl (by decide +kernel) ⟨Nat.le_of_ble_eq_true rfl, Nat.le_of_ble_eq_true rfl⟩) ⟨wPre_blind, va_recv hK hP (ci := 2) (q0 := 0) rfl rfl, wPre_mk hP hD hK hS hA hAB hAm [0] rfl rfl⟩ rfl rfl hl.1 rfl (lv_room (Nat.le_of_ble_eq_true rfl)) dX2_mayName_7 ⟨Nat.zero_le _, Nat.zero_le _⟩) hP hS hA (fun H locs hP hS => ?_)
    refine lv_if_eq (tgt := 30) hx hb dX2_mayName_10 (by decide) (fun c_2 => ?_) (fun c_2 => ?_)
    · have hq := hq.trans (if_pos c_2)
      refine lv_iconst (v := (nI 0)) hx hb dX2_mayName_30 (by decide) ?_
      exact W.zret (v := (nI 0)) hx hb hr (by first | rfl | decide) (fun t ht hW => eLI hS ht (by rw [hq])) hS.2.2 dX2_mayName_31
    · have hq := hq.trans (if_neg c_2)
      refine lv_iload_n hx hb dX2_mayName_13 rfl (lv_at hl 2 rfl) ?_
      refine lv_iconst (v := (-1)) hx hb dX2_mayName_14 (by decide) ?_
      refine lv_icmp_eq (tgt := 26) hx hb dX2_mayName_15 (by decide) (fun c_3 => ?_) (fun c_3 => ?_)
      · have hq := hq.trans (if_pos c_3)
        refine lv_iconst (v := (nI 1)) hx hb dX2_mayName_26 (by decide) ?_
        refine lv_goto (tgt := 31) hx hb dX2_mayName_27 (by decide) ?_
        exact W.zret (v := (nI 1)) hx hb hr (by first | rfl | decide) (fun t ht hW => eLI hS ht (by rw [hq])) hS.2.2 dX2_mayName_31
      · have hq := hq.trans (if_neg c_3)
        refine lv_aload_n hx hb dX2_mayName_18 rfl (lv_at hl 0 rfl) ?_
        refine lv_iload_n hx hb dX2_mayName_19 rfl (lv_at hl 2 rfl) ?_
        refine cLI (va_runV (As := [.int h]) (rest := []) ⟨hx, hb, hml, hown, hts⟩ ((kX2_lives l Γ a v h) _) (cwV 1 hts gX2_mayName_X2_lives rfl rfl rfl (by decide +kernel) ⟨Nat.le_of_ble_eq_true rfl, Nat.le_of_ble_eq_true rfl⟩) ⟨wPre_blind, va_recv hK hP (ci := 2) (q0 := 0) rfl rfl, wPre_mk hP hD hK hS hA hAB hAm [0] rfl rfl⟩ rfl rfl hl.1 rfl (lv_room (Nat.le_of_ble_eq_true rfl)) dX2_mayName_20 ⟨Nat.zero_le _, Nat.zero_le _⟩) hP hS hA (fun H locs hP hS => ?_)
        refine lv_if_eq (tgt := 30) hx hb dX2_mayName_23 (by decide) (fun c_4 => ?_) (fun c_4 => ?_)
        · have hq := hq.trans (if_pos c_4)
          refine lv_iconst (v := (nI 0)) hx hb dX2_mayName_30 (by decide) ?_
          exact W.zret (v := (nI 0)) hx hb hr (by first | rfl | decide) (fun t ht hW => eLI hS ht (by rw [hq])) hS.2.2 dX2_mayName_31
        · have hq := hq.trans (if_neg c_4)
          refine lv_iconst (v := (nI 1)) hx hb dX2_mayName_26 (by decide) ?_
          refine lv_goto (tgt := 31) hx hb dX2_mayName_27 (by decide) ?_
          exact W.zret (v := (nI 1)) hx hb hr (by first | rfl | decide) (fun t ht hW => eLI hS ht (by rw [hq])) hS.2.2 dX2_mayName_31
def fX2_nameHeir (v : (Nat → Nat → Int32)) (k : Int32) (h : Int32) : Int32 × (Nat → Nat → Int32) := (((v 1) k.toNatClampNeg), (sR v 1 (upd (v 1) (k.toNatClampNeg) h)))
set_option maxHeartbeats 4000000 in
set_option maxRecDepth 100000 in
theorem kX2_nameHeir (l : Launch) (Γ : wG) (a : Nat → Nat) (v : (Nat → Nat → Int32)) (k : Int32) (h : Int32) (hk : vp_in k 8) : MI l Γ yX2_nameHeir wsX2_nameHeir ({ frames := 0, cells := 0, slots := 0, locals := 0 }) [.ref (a 0), .int k, .int h] [plB Γ a v] [plB Γ a (fX2_nameHeir v k h).2] (fX2_nameHeir v k h).1 := by
  intro sz
  refine Met.ofW (cc := cX2_nameHeir) (maxL := 4) (ret := (some .int)) (by decide) rfl ?_
  intro p e s m args below meth c s₁ B hml hv
  obtain ⟨rfl, hsz, hP, hK, hD0, hAm⟩ := hv
  have hx := B.exec
  have hb := B.bytes
  have hr := B.returns
  have hts := atoms_spec (ws := wsX2_nameHeir) B.pre
  have hown : s.vm.findClass RX2 = some m.cls := findClass_of_methodNamed B.named
  have hlocks := B.notSynchronized
  subst hsz
  have hD := hD0.self (sz := s.heap.size)
  generalize hAe : va_A (wcat [plB Γ a v]) s.heap.size = A at hD hAm ⊢
  have hA : ∀ q : Nat, s.heap.size ≤ q → A q := fun q h => by rw [← hAe]; exact Or.inr h
  have hAB : ∀ q : Nat, A q → A q := fun _ h => h
  have hS : va_S A s.heap s.heap [] := va_S.rf
  have hl := lv_entry ([.ref (a 0), .int k, .int h]) (n := 4) (Nat.le_of_ble_eq_true rfl)
  rw [lg_entry_eq]
  generalize (lg_sl ([.ref (a 0), .int k, .int h]) ++ List.replicate (4 - (lg_sl ([.ref (a 0), .int k, .int h])).length) Slot.unset).toArray = ls at hl ⊢
  have hl : lv_has ls 4 [(0, .ref (a 0)), (1, .int k), (2, .int h)] := hl
  have hi2 : ∀ w ∈ wsX20, w ∈ wsX2_nameHeir := by decide +kernel
  have kf9 := hts (.fieldLink RX2 9 "CapsuleKeepers$Place" "heirs" "[I") (by decide +kernel)
  have hq : (fX2_nameHeir v k h) = (((v 1) k.toNatClampNeg), (sR v 1 (upd (v 1) (k.toNatClampNeg) h))) := rfl
  refine lv_aload_n hx hb dX2_nameHeir_0 rfl (lv_at hl 0 rfl) ?_
  refine va_get (D := Γ.1) (ci := 2) (v := .ref (a 1)) (C := RX2) (T := TX2) (N := 16) hx hb hts hi2 hown hK hP 0 rfl rfl 2 (by decide) kf9 (fun _ h9 => h9) rfl dX2_nameHeir_1 ?_
  refine lv_iload_n hx hb dX2_nameHeir_4 rfl (lv_at hl 1 rfl) ?_
  refine va_iald (f := (v 1)) hx hb hK hP 1 0 rfl rfl (by assumption) dX2_nameHeir_5 ?_
  refine lv_istore_n (lv' := [(3, .int ((v 1) k.toNatClampNeg)), (0, .ref (a 0)), (1, .int k), (2, .int h)]) hx hb dX2_nameHeir_6 rfl hl (by decide) rfl (fun ls hl => ?_)
  refine lv_aload_n hx hb dX2_nameHeir_7 rfl (lv_at hl 1 rfl) ?_
  refine va_get (D := Γ.1) (ci := 2) (v := .ref (a 1)) (C := RX2) (T := TX2) (N := 16) hx hb hts hi2 hown hK hP 0 rfl rfl 2 (by decide) kf9 (fun _ h9 => h9) rfl dX2_nameHeir_8 ?_
  refine lv_iload_n hx hb dX2_nameHeir_11 rfl (lv_at hl 2 rfl) ?_
  refine lv_iload_n hx hb dX2_nameHeir_12 rfl (lv_at hl 3 rfl) ?_
  refine va_iast (f := (v 1)) hx hb hK hP hD hS 1 0 rfl rfl (by assumption) dX2_nameHeir_13 (fun H locs hP hD hS => ?_)
  have hP : va_P Γ.1 vwCl (wcat [plB Γ a (sR v 1 (upd (v 1) (k.toNatClampNeg) h))]) H := hP
  have hD : va_D A (wcat [plB Γ a (sR v 1 (upd (v 1) (k.toNatClampNeg) h))]) := hD
  refine lv_iload_n hx hb dX2_nameHeir_14 rfl (lv_at hl 0 rfl) ?_
  exact W.iret (v := ((v 1) k.toNatClampNeg)) hx hb hr (fun t ht hW => eMI (by rw [hq]; exact hP) hS ht (by rw [hq])) hS.2.2 dX2_nameHeir_15
def fX2_areAtOdds (v : (Nat → Nat → Int32)) (k : Int32) (o : Int32) : Int32 := (if ((((v 2) k.toNatClampNeg) >>> (o &&& 31)) &&& (nI 1)) = (nI 1) then ((nI 1)) else ((nI 0)))
set_option maxHeartbeats 4000000 in
set_option maxRecDepth 100000 in
theorem kX2_areAtOdds (l : Launch) (Γ : wG) (a : Nat → Nat) (v : (Nat → Nat → Int32)) (k : Int32) (o : Int32) (hk : vp_in k 8) : LI l Γ yX2_areAtOdds wsX2_areAtOdds ({ frames := 0, cells := 0, slots := 0, locals := 0 }) [.ref (a 0), .int k, .int o] [plB Γ a v] (fX2_areAtOdds v k o) := by
  intro sz
  refine Met.ofW (cc := cX2_areAtOdds) (maxL := 3) (ret := (some .boolean)) (by decide) rfl ?_
  intro p e s m args below meth c s₁ B hml hv
  obtain ⟨rfl, hsz, hP, hK, hD0, hAm⟩ := hv
  have hx := B.exec
  have hb := B.bytes
  have hr := B.returns
  have hts := atoms_spec (ws := wsX2_areAtOdds) B.pre
  have hown : s.vm.findClass RX2 = some m.cls := findClass_of_methodNamed B.named
  have hlocks := B.notSynchronized
  subst hsz
  have hD := hD0.self (sz := s.heap.size)
  generalize hBe : va_A (wcat [plB Γ a v]) s.heap.size = B0 at hD hAm
  obtain ⟨A, hAe⟩ : ∃ A, A = va_A [] s.heap.size := ⟨_, rfl⟩
  rw [← hAe]
  have hA : ∀ q : Nat, s.heap.size ≤ q → A q := fun q h => by rw [hAe]; exact Or.inr h
  have hAB : ∀ q : Nat, A q → B0 q := fun q h => by rw [hAe] at h; rw [← hBe]; exact Or.inr (wnone h)
  have hS : va_S A s.heap s.heap [] := va_S.rf
  have hl := lv_entry ([.ref (a 0), .int k, .int o]) (n := 3) (Nat.le_of_ble_eq_true rfl)
  rw [lg_entry_eq]
  generalize (lg_sl ([.ref (a 0), .int k, .int o]) ++ List.replicate (3 - (lg_sl ([.ref (a 0), .int k, .int o])).length) Slot.unset).toArray = ls at hl ⊢
  have hl : lv_has ls 3 [(0, .ref (a 0)), (1, .int k), (2, .int o)] := hl
  have hi2 : ∀ w ∈ wsX20, w ∈ wsX2_areAtOdds := by decide +kernel
  have kf15 := hts (.fieldLink RX2 15 "CapsuleKeepers$Place" "quarrels" "[I") (by decide +kernel)
  have hq : (fX2_areAtOdds v k o) = (if ((((v 2) k.toNatClampNeg) >>> (o &&& 31)) &&& (nI 1)) = (nI 1) then ((nI 1)) else ((nI 0))) := rfl
  refine lv_aload_n hx hb dX2_areAtOdds_0 rfl (lv_at hl 0 rfl) ?_
  refine va_get (D := Γ.1) (ci := 2) (v := .ref (a 2)) (C := RX2) (T := TX2) (N := 16) hx hb hts hi2 hown hK hP 0 rfl rfl 3 (by decide) kf15 (fun _ h9 => h9) rfl dX2_areAtOdds_1 ?_
  refine lv_iload_n hx hb dX2_areAtOdds_4 rfl (lv_at hl 1 rfl) ?_
  refine va_iald (f := (v 2)) hx hb hK hP 2 0 rfl rfl (by assumption) dX2_areAtOdds_5 ?_
  refine lv_iload_n hx hb dX2_areAtOdds_6 rfl (lv_at hl 2 rfl) ?_
  refine lv_ishr hx hb dX2_areAtOdds_7 ?_
  refine lv_iconst (v := (nI 1)) hx hb dX2_areAtOdds_8 (by decide) ?_
  refine lv_iand hx hb dX2_areAtOdds_9 ?_
  refine lv_iconst (v := (nI 1)) hx hb dX2_areAtOdds_10 (by decide) ?_
  refine lv_icmp_ne (tgt := 18) hx hb dX2_areAtOdds_11 (by decide) (fun c_1 => ?_) (fun c_1 => ?_)
  · have hq := hq.trans (if_neg c_1)
    refine lv_iconst (v := (nI 0)) hx hb dX2_areAtOdds_18 (by decide) ?_
    exact W.zret (v := (nI 0)) hx hb hr (by first | rfl | decide) (fun t ht hW => eLI hS ht (by rw [hq])) hS.2.2 dX2_areAtOdds_19
  · have hq := hq.trans (if_pos c_1)
    refine lv_iconst (v := (nI 1)) hx hb dX2_areAtOdds_14 (by decide) ?_
    refine lv_goto (tgt := 19) hx hb dX2_areAtOdds_15 (by decide) ?_
    exact W.zret (v := (nI 1)) hx hb hr (by first | rfl | decide) (fun t ht hW => eLI hS ht (by rw [hq])) hS.2.2 dX2_areAtOdds_19
def fX2_toggleQuarrel (v : (Nat → Nat → Int32)) (k : Nat) (o : Nat) : Int32 × (Nat → Nat → Int32) := ((fbit ((upd (upd (v 2) k (((v 2) k) ^^^ ((nI 1) <<< ((nI o) &&& 31)))) o (((upd (v 2) k (((v 2) k) ^^^ ((nI 1) <<< ((nI o) &&& 31)))) o) ^^^ ((nI 1) <<< ((nI k) &&& 31)))) k)), (sR v 2 (upd (upd (v 2) k (((v 2) k) ^^^ ((nI 1) <<< ((nI o) &&& 31)))) o (((upd (v 2) k (((v 2) k) ^^^ ((nI 1) <<< ((nI o) &&& 31)))) o) ^^^ ((nI 1) <<< ((nI k) &&& 31))))))
set_option maxHeartbeats 4000000 in
set_option maxRecDepth 100000 in
theorem kX2_toggleQuarrel (l : Launch) (Γ : wG) (a : Nat → Nat) (v : (Nat → Nat → Int32)) (k : Nat) (o : Nat) (hk : k < 8) (ho : o < 8) : MI l Γ yX2_toggleQuarrel wsX2_toggleQuarrel ({ frames := 1, cells := 0, slots := 0, locals := 20 }) [.ref (a 0), .int (nI k), .int (nI o)] [plB Γ a v] [plB Γ a (fX2_toggleQuarrel v k o).2] (fX2_toggleQuarrel v k o).1 := by
  intro sz
  refine Met.ofW (cc := cX2_toggleQuarrel) (maxL := 3) (ret := (some .int)) (by decide) rfl ?_
  intro p e s m args below meth c s₁ B hml hv
  obtain ⟨rfl, hsz, hP, hK, hD0, hAm⟩ := hv
  have hx := B.exec
  have hb := B.bytes
  have hr := B.returns
  have hts := atoms_spec (ws := wsX2_toggleQuarrel) B.pre
  have hown : s.vm.findClass RX2 = some m.cls := findClass_of_methodNamed B.named
  have hlocks := B.notSynchronized
  subst hsz
  have hD := hD0.self (sz := s.heap.size)
  generalize hAe : va_A (wcat [plB Γ a v]) s.heap.size = A at hD hAm ⊢
  have hA : ∀ q : Nat, s.heap.size ≤ q → A q := fun q h => by rw [← hAe]; exact Or.inr h
  have hAB : ∀ q : Nat, A q → A q := fun _ h => h
  have hS : va_S A s.heap s.heap [] := va_S.rf
  have hl := lv_entry ([.ref (a 0), .int (nI k), .int (nI o)]) (n := 3) (Nat.le_of_ble_eq_true rfl)
  rw [lg_entry_eq]
  generalize (lg_sl ([.ref (a 0), .int (nI k), .int (nI o)]) ++ List.replicate (3 - (lg_sl ([.ref (a 0), .int (nI k), .int (nI o)])).length) Slot.unset).toArray = ls at hl ⊢
  have hl : lv_has ls 3 [(0, .ref (a 0)), (1, .int (nI k)), (2, .int (nI o))] := hl
  have hi2 : ∀ w ∈ wsX20, w ∈ wsX2_toggleQuarrel := by decide +kernel
  have kf15 := hts (.fieldLink RX2 15 "CapsuleKeepers$Place" "quarrels" "[I") (by decide +kernel)
  have hq : (fX2_toggleQuarrel v k o) = ((fbit ((upd (upd (v 2) k (((v 2) k) ^^^ ((nI 1) <<< ((nI o) &&& 31)))) o (((upd (v 2) k (((v 2) k) ^^^ ((nI 1) <<< ((nI o) &&& 31)))) o) ^^^ ((nI 1) <<< ((nI k) &&& 31)))) k)), (sR v 2 (upd (upd (v 2) k (((v 2) k) ^^^ ((nI 1) <<< ((nI o) &&& 31)))) o (((upd (v 2) k (((v 2) k) ^^^ ((nI 1) <<< ((nI o) &&& 31)))) o) ^^^ ((nI 1) <<< ((nI k) &&& 31)))))) := rfl
  refine lv_aload_n hx hb dX2_toggleQuarrel_0 rfl (lv_at hl 0 rfl) ?_
  refine va_get (D := Γ.1) (ci := 2) (v := .ref (a 2)) (C := RX2) (T := TX2) (N := 16) hx hb hts hi2 hown hK hP 0 rfl rfl 3 (by decide) kf15 (fun _ h9 => h9) rfl dX2_toggleQuarrel_1 ?_
  refine lv_iload_n hx hb dX2_toggleQuarrel_4 rfl (lv_at hl 1 rfl) ?_
  refine lv_dup2_11 hx hb dX2_toggleQuarrel_5 rfl rfl ?_
  refine va_iald_n (f := (v 2)) hx hb hK hP 2 0 rfl rfl (by omega) (Nat.le_of_ble_eq_true rfl) dX2_toggleQuarrel_6 ?_
  refine lv_iconst (v := (nI 1)) hx hb dX2_toggleQuarrel_7 (by decide) ?_
  refine lv_iload_n hx hb dX2_toggleQuarrel_8 rfl (lv_at hl 2 rfl) ?_
  refine lv_ishl hx hb dX2_toggleQuarrel_9 ?_
  refine lv_ixor hx hb dX2_toggleQuarrel_10 ?_
  refine va_iast_n (f := (v 2)) hx hb hK hP hD hS 2 0 rfl rfl (by omega) (Nat.le_of_ble_eq_true rfl) dX2_toggleQuarrel_11 (fun H locs hP hD hS => ?_)
  have hP : va_P Γ.1 vwCl (wcat [plB Γ a (sR v 2 (upd (v 2) k (((v 2) k) ^^^ ((nI 1) <<< ((nI o) &&& 31)))))]) H := hP
  have hD : va_D A (wcat [plB Γ a (sR v 2 (upd (v 2) k (((v 2) k) ^^^ ((nI 1) <<< ((nI o) &&& 31)))))]) := hD
  refine lv_aload_n hx hb dX2_toggleQuarrel_12 rfl (lv_at hl 0 rfl) ?_
  refine va_get (D := Γ.1) (ci := 2) (v := .ref (a 2)) (C := RX2) (T := TX2) (N := 16) hx hb hts hi2 hown hK hP 0 rfl rfl 3 (by decide) kf15 (fun _ h9 => h9) rfl dX2_toggleQuarrel_13 ?_
  refine lv_iload_n hx hb dX2_toggleQuarrel_16 rfl (lv_at hl 2 rfl) ?_
  refine lv_dup2_11 hx hb dX2_toggleQuarrel_17 rfl rfl ?_
  refine va_iald_n (f := (upd (v 2) k (((v 2) k) ^^^ ((nI 1) <<< ((nI o) &&& 31))))) hx hb hK hP 2 0 rfl rfl (by omega) (Nat.le_of_ble_eq_true rfl) dX2_toggleQuarrel_18 ?_
  refine lv_iconst (v := (nI 1)) hx hb dX2_toggleQuarrel_19 (by decide) ?_
  refine lv_iload_n hx hb dX2_toggleQuarrel_20 rfl (lv_at hl 1 rfl) ?_
  refine lv_ishl hx hb dX2_toggleQuarrel_21 ?_
  refine lv_ixor hx hb dX2_toggleQuarrel_22 ?_
  refine va_iast_n (f := (upd (v 2) k (((v 2) k) ^^^ ((nI 1) <<< ((nI o) &&& 31))))) hx hb hK hP hD hS 2 0 rfl rfl (by omega) (Nat.le_of_ble_eq_true rfl) dX2_toggleQuarrel_23 (fun H locs hP hD hS => ?_)
  have hP : va_P Γ.1 vwCl (wcat [plB Γ a (sR v 2 (upd (upd (v 2) k (((v 2) k) ^^^ ((nI 1) <<< ((nI o) &&& 31)))) o (((upd (v 2) k (((v 2) k) ^^^ ((nI 1) <<< ((nI o) &&& 31)))) o) ^^^ ((nI 1) <<< ((nI k) &&& 31)))))]) H := hP
  have hD : va_D A (wcat [plB Γ a (sR v 2 (upd (upd (v 2) k (((v 2) k) ^^^ ((nI 1) <<< ((nI o) &&& 31)))) o (((upd (v 2) k (((v 2) k) ^^^ ((nI 1) <<< ((nI o) &&& 31)))) o) ^^^ ((nI 1) <<< ((nI k) &&& 31)))))]) := hD
  refine lv_aload_n hx hb dX2_toggleQuarrel_24 rfl (lv_at hl 0 rfl) ?_
  refine va_get (D := Γ.1) (ci := 2) (v := .ref (a 2)) (C := RX2) (T := TX2) (N := 16) hx hb hts hi2 hown hK hP 0 rfl rfl 3 (by decide) kf15 (fun _ h9 => h9) rfl dX2_toggleQuarrel_25 ?_
  refine lv_iload_n hx hb dX2_toggleQuarrel_28 rfl (lv_at hl 1 rfl) ?_
  refine va_iald_n (f := (upd (upd (v 2) k (((v 2) k) ^^^ ((nI 1) <<< ((nI o) &&& 31)))) o (((upd (v 2) k (((v 2) k) ^^^ ((nI 1) <<< ((nI o) &&& 31)))) o) ^^^ ((nI 1) <<< ((nI k) &&& 31))))) hx hb hK hP 2 0 rfl rfl (by omega) (Nat.le_of_ble_eq_true rfl) dX2_toggleQuarrel_29 ?_
  refine cLI (va_runS (As := [.int ((upd (upd (v 2) k (((v 2) k) ^^^ ((nI 1) <<< ((nI o) &&& 31)))) o (((upd (v 2) k (((v 2) k) ^^^ ((nI 1) <<< ((nI o) &&& 31)))) o) ^^^ ((nI 1) <<< ((nI k) &&& 31)))) k)]) (rest := []) ⟨hx, hb, hml, hown, hts⟩ ((kJ6_bitCount_0f7a4 l Γ ((upd (upd (v 2) k (((v 2) k) ^^^ ((nI 1) <<< ((nI o) &&& 31)))) o (((upd (v 2) k (((v 2) k) ^^^ ((nI 1) <<< ((nI o) &&& 31)))) o) ^^^ ((nI 1) <<< ((nI k) &&& 31)))) k)) _) (va_cwS 1 hts gX2_toggleQuarrel_J6_bitCount_0f7a4 rfl rfl rfl (by decide +kernel) ⟨Nat.le_of_ble_eq_true rfl, Nat.le_of_ble_eq_true rfl⟩) ⟨wPre_blind, wPre_mk hP hD hK hS hA hAB hAm [] rfl rfl⟩ rfl rfl hl.1 rfl (lv_room (Nat.le_of_ble_eq_true rfl)) dX2_toggleQuarrel_30 ⟨Nat.zero_le _, Nat.zero_le _⟩) hP hS hA (fun H locs hP hS => ?_)
  exact W.iret (v := (fbit ((upd (upd (v 2) k (((v 2) k) ^^^ ((nI 1) <<< ((nI o) &&& 31)))) o (((upd (v 2) k (((v 2) k) ^^^ ((nI 1) <<< ((nI o) &&& 31)))) o) ^^^ ((nI 1) <<< ((nI k) &&& 31)))) k))) hx hb hr (fun t ht hW => eMI (by rw [hq]; exact hP) hS ht (by rw [hq])) hS.2.2 dX2_toggleQuarrel_33
def fX2_quarrellingPairs_L4 (v : (Nat → Nat → Int32)) : Nat → Nat → Int32 → Int32
  | 0, i4, x1_4 => ((x1_4 / (nI 2)))
  | n4 + 1, i4, x1_4 => (fX2_quarrellingPairs_L4 v n4 (i4 + 1) (x1_4 + (fbit ((v 2) i4))))
def fX2_quarrellingPairs (v : (Nat → Nat → Int32)) : Int32 := (fX2_quarrellingPairs_L4 v (8) 0 (nI 0))
set_option maxHeartbeats 4000000 in
set_option maxRecDepth 100000 in
theorem kX2_quarrellingPairs (l : Launch) (Γ : wG) (a : Nat → Nat) (v : (Nat → Nat → Int32)) : LI l Γ yX2_quarrellingPairs wsX2_quarrellingPairs ({ frames := 1, cells := 0, slots := 0, locals := 20 }) [.ref (a 0)] [plB Γ a v] (fX2_quarrellingPairs v) := by
  intro sz
  refine Met.ofW (cc := cX2_quarrellingPairs) (maxL := 3) (ret := (some .int)) (by decide) rfl ?_
  intro p e s m args below meth c s₁ B hml hv
  obtain ⟨rfl, hsz, hP, hK, hD0, hAm⟩ := hv
  have hx := B.exec
  have hb := B.bytes
  have hr := B.returns
  have hts := atoms_spec (ws := wsX2_quarrellingPairs) B.pre
  have hown : s.vm.findClass RX2 = some m.cls := findClass_of_methodNamed B.named
  have hlocks := B.notSynchronized
  subst hsz
  have hD := hD0.self (sz := s.heap.size)
  generalize hBe : va_A (wcat [plB Γ a v]) s.heap.size = B0 at hD hAm
  obtain ⟨A, hAe⟩ : ∃ A, A = va_A [] s.heap.size := ⟨_, rfl⟩
  rw [← hAe]
  have hA : ∀ q : Nat, s.heap.size ≤ q → A q := fun q h => by rw [hAe]; exact Or.inr h
  have hAB : ∀ q : Nat, A q → B0 q := fun q h => by rw [hAe] at h; rw [← hBe]; exact Or.inr (wnone h)
  have hS : va_S A s.heap s.heap [] := va_S.rf
  have hl := lv_entry ([.ref (a 0)]) (n := 3) (Nat.le_of_ble_eq_true rfl)
  rw [lg_entry_eq]
  generalize (lg_sl ([.ref (a 0)]) ++ List.replicate (3 - (lg_sl ([.ref (a 0)])).length) Slot.unset).toArray = ls at hl ⊢
  have hl : lv_has ls 3 [(0, .ref (a 0))] := hl
  have hi2 : ∀ w ∈ wsX20, w ∈ wsX2_quarrellingPairs := by decide +kernel
  have kf15 := hts (.fieldLink RX2 15 "CapsuleKeepers$Place" "quarrels" "[I") (by decide +kernel)
  have hq : (fX2_quarrellingPairs v) = (fX2_quarrellingPairs_L4 v (8) 0 (nI 0)) := rfl
  refine lv_iconst (v := (nI 0)) hx hb dX2_quarrellingPairs_0 (by decide) ?_
  refine lv_istore_n (lv' := [(1, .int (nI 0)), (0, .ref (a 0))]) hx hb dX2_quarrellingPairs_1 rfl hl (by decide) rfl (fun ls hl => ?_)
  refine lv_iconst (v := (nI 0)) hx hb dX2_quarrellingPairs_2 (by decide) ?_
  refine lv_istore_n (lv' := [(2, .int (nI 0)), (1, .int (nI 0)), (0, .ref (a 0))]) hx hb dX2_quarrellingPairs_3 rfl hl (by decide) rfl (fun ls hl => ?_)
  refine wl (pc := 4) (σ := Nat × Int32) (fun n (i4, x1_4) H locs ls => (i4 + n = 8) ∧ (fX2_quarrellingPairs v) = fX2_quarrellingPairs_L4 v n i4 x1_4 ∧ va_P Γ.1 vwCl (wcat [plB Γ a v]) H ∧ va_S A s.heap H locs ∧ lv_has ls 3 [(2, .int (nI i4)), (1, .int x1_4), (0, .ref (a 0))]) ?_ ?_ (8) (0, (nI 0)) _ _ _ ⟨by omega, hq, hP, hS, lv_sub hl [0, 1, 2] rfl⟩
  · intro ⟨i4, x1_4⟩ H locs ls h
    obtain ⟨hn4, hq, hP, hS, hl⟩ := h
    try dsimp only at hn4 hq hP hl
    replace hq : (fX2_quarrellingPairs v) = ((x1_4 / (nI 2))) := hq
    refine lv_iload_n hx hb dX2_quarrellingPairs_4 rfl (lv_at hl 0 rfl) ?_
    refine lv_bipush (v := (nI 8)) hx hb dX2_quarrellingPairs_5 (by decide) ?_
    refine lv_icmp_ge (tgt := 28) hx hb dX2_quarrellingPairs_7 (by decide) (fun c_7 => ?_) (fun c_7 => absurd (nI_le (by omega) (by omega)) c_7)
    refine lv_iload_n hx hb dX2_quarrellingPairs_28 rfl (lv_at hl 1 rfl) ?_
    refine lv_iconst (v := (nI 2)) hx hb dX2_quarrellingPairs_29 (by decide) ?_
    refine lv_idiv hx hb dX2_quarrellingPairs_30 (by decide) ?_
    exact W.iret (v := (x1_4 / (nI 2))) hx hb hr (fun t ht hW => eLI hS ht (by rw [hq])) hS.2.2 dX2_quarrellingPairs_31
  · intro n4 ih4 ⟨i4, x1_4⟩ H locs ls h
    obtain ⟨hn4, hq, hP, hS, hl⟩ := h
    try dsimp only at hn4 hq hP hl
    replace hq : (fX2_quarrellingPairs v) = (fX2_quarrellingPairs_L4 v n4 (i4 + 1) (x1_4 + (fbit ((v 2) i4)))) := hq
    refine lv_iload_n hx hb dX2_quarrellingPairs_4 rfl (lv_at hl 0 rfl) ?_
    refine lv_bipush (v := (nI 8)) hx hb dX2_quarrellingPairs_5 (by decide) ?_
    refine lv_icmp_ge (tgt := 28) hx hb dX2_quarrellingPairs_7 (by decide) (fun c_7 => absurd c_7 (nI_ge (by omega) (by omega))) (fun c_7 => ?_)
    refine lv_iload_n hx hb dX2_quarrellingPairs_10 rfl (lv_at hl 1 rfl) ?_
    refine lv_aload_n hx hb dX2_quarrellingPairs_11 rfl (lv_at hl 2 rfl) ?_
    refine va_get (D := Γ.1) (ci := 2) (v := .ref (a 2)) (C := RX2) (T := TX2) (N := 16) hx hb hts hi2 hown hK hP 0 rfl rfl 3 (by decide) kf15 (fun _ h9 => h9) rfl dX2_quarrellingPairs_12 ?_
    refine lv_iload_n hx hb dX2_quarrellingPairs_15 rfl (lv_at hl 0 rfl) ?_
    refine va_iald_n (f := (v 2)) hx hb hK hP 2 0 rfl rfl (by omega) (Nat.le_of_ble_eq_true rfl) dX2_quarrellingPairs_16 ?_
    refine cLI (va_runS (As := [.int ((v 2) i4)]) (rest := [.int x1_4]) ⟨hx, hb, hml, hown, hts⟩ ((kJ6_bitCount_0f7a4 l Γ ((v 2) i4)) _) (va_cwS 1 hts gX2_quarrellingPairs_J6_bitCount_0f7a4 rfl rfl rfl (by decide +kernel) ⟨Nat.le_of_ble_eq_true rfl, Nat.le_of_ble_eq_true rfl⟩) ⟨wPre_blind, wPre_mk hP hD hK hS hA hAB hAm [] rfl rfl⟩ rfl rfl hl.1 rfl (lv_room (Nat.le_of_ble_eq_true rfl)) dX2_quarrellingPairs_17 ⟨Nat.zero_le _, Nat.zero_le _⟩) hP hS hA (fun H locs hP hS => ?_)
    refine lv_iadd hx hb dX2_quarrellingPairs_20 ?_
    refine lv_istore_n (lv' := [(1, .int (x1_4 + (fbit ((v 2) i4)))), (2, .int (nI i4)), (0, .ref (a 0))]) hx hb dX2_quarrellingPairs_21 rfl hl (by decide) rfl (fun ls hl => ?_)
    refine lv_iinc (v := (nI (i4 + 1))) (lv' := [(2, .int (nI (i4 + 1))), (1, .int (x1_4 + (fbit ((v 2) i4)))), (0, .ref (a 0))]) hx hb dX2_quarrellingPairs_22 hl (k := 1) rfl (nI_1 _) (by decide) rfl (fun ls hl => ?_)
    refine lv_goto (tgt := 4) hx hb dX2_quarrellingPairs_25 (by decide) ?_
    exact ih4 ((i4 + 1), (x1_4 + (fbit ((v 2) i4)))) H locs ls ⟨by omega, hq, hP, hS, lv_sub hl [0, 1, 2] rfl⟩
def fX2_hasShare (v : (Nat → Nat → Int32)) (k : Int32) : Int32 := (if k < 0 then ((nI 0)) else (if (nI 8) ≤ k then ((nI 0)) else (if ((v 4) k.toNatClampNeg) = (-1) then ((nI 0)) else ((nI 1)))))
set_option maxHeartbeats 4000000 in
set_option maxRecDepth 100000 in
theorem kX2_hasShare (l : Launch) (Γ : wG) (a : Nat → Nat) (v : (Nat → Nat → Int32)) (k : Int32) : LI l Γ yX2_hasShare wsX2_hasShare ({ frames := 0, cells := 0, slots := 0, locals := 0 }) [.ref (a 0), .int k] [plB Γ a v] (fX2_hasShare v k) := by
  intro sz
  refine Met.ofW (cc := cX2_hasShare) (maxL := 2) (ret := (some .boolean)) (by decide) rfl ?_
  intro p e s m args below meth c s₁ B hml hv
  obtain ⟨rfl, hsz, hP, hK, hD0, hAm⟩ := hv
  have hx := B.exec
  have hb := B.bytes
  have hr := B.returns
  have hts := atoms_spec (ws := wsX2_hasShare) B.pre
  have hown : s.vm.findClass RX2 = some m.cls := findClass_of_methodNamed B.named
  have hlocks := B.notSynchronized
  subst hsz
  have hD := hD0.self (sz := s.heap.size)
  generalize hBe : va_A (wcat [plB Γ a v]) s.heap.size = B0 at hD hAm
  obtain ⟨A, hAe⟩ : ∃ A, A = va_A [] s.heap.size := ⟨_, rfl⟩
  rw [← hAe]
  have hA : ∀ q : Nat, s.heap.size ≤ q → A q := fun q h => by rw [hAe]; exact Or.inr h
  have hAB : ∀ q : Nat, A q → B0 q := fun q h => by rw [hAe] at h; rw [← hBe]; exact Or.inr (wnone h)
  have hS : va_S A s.heap s.heap [] := va_S.rf
  have hl := lv_entry ([.ref (a 0), .int k]) (n := 2) (Nat.le_of_ble_eq_true rfl)
  rw [lg_entry_eq]
  generalize (lg_sl ([.ref (a 0), .int k]) ++ List.replicate (2 - (lg_sl ([.ref (a 0), .int k])).length) Slot.unset).toArray = ls at hl ⊢
  have hl : lv_has ls 2 [(0, .ref (a 0)), (1, .int k)] := hl
  have hi2 : ∀ w ∈ wsX20, w ∈ wsX2_hasShare := by decide +kernel
  have kf21 := hts (.fieldLink RX2 21 "CapsuleKeepers$Place" "owners" "[I") (by decide +kernel)
  have hq : (fX2_hasShare v k) = (if k < 0 then ((nI 0)) else (if (nI 8) ≤ k then ((nI 0)) else (if ((v 4) k.toNatClampNeg) = (-1) then ((nI 0)) else ((nI 1))))) := rfl
  refine lv_iload_n hx hb dX2_hasShare_0 rfl (lv_at hl 1 rfl) ?_
  refine lv_if_lt (tgt := 24) hx hb dX2_hasShare_1 (by decide) (fun c_1 => ?_) (fun c_1 => ?_)
  · have hq := hq.trans (if_pos c_1)
    refine lv_iconst (v := (nI 0)) hx hb dX2_hasShare_24 (by decide) ?_
    exact W.zret (v := (nI 0)) hx hb hr (by first | rfl | decide) (fun t ht hW => eLI hS ht (by rw [hq])) hS.2.2 dX2_hasShare_25
  · have hq := hq.trans (if_neg c_1)
    refine lv_iload_n hx hb dX2_hasShare_4 rfl (lv_at hl 1 rfl) ?_
    refine lv_bipush (v := (nI 8)) hx hb dX2_hasShare_5 (by decide) ?_
    refine lv_icmp_ge (tgt := 24) hx hb dX2_hasShare_7 (by decide) (fun c_2 => ?_) (fun c_2 => ?_)
    · have hq := hq.trans (if_pos c_2)
      refine lv_iconst (v := (nI 0)) hx hb dX2_hasShare_24 (by decide) ?_
      exact W.zret (v := (nI 0)) hx hb hr (by first | rfl | decide) (fun t ht hW => eLI hS ht (by rw [hq])) hS.2.2 dX2_hasShare_25
    · have hq := hq.trans (if_neg c_2)
      refine lv_aload_n hx hb dX2_hasShare_10 rfl (lv_at hl 0 rfl) ?_
      refine va_get (D := Γ.1) (ci := 2) (v := .ref (a 4)) (C := RX2) (T := TX2) (N := 16) hx hb hts hi2 hown hK hP 0 rfl rfl 5 (by decide) kf21 (fun _ h9 => h9) rfl dX2_hasShare_11 ?_
      refine lv_iload_n hx hb dX2_hasShare_14 rfl (lv_at hl 1 rfl) ?_
      refine va_iald (f := (v 4)) hx hb hK hP 4 0 rfl rfl (vp8 (by assumption) (by assumption)) dX2_hasShare_15 ?_
      refine lv_iconst (v := (-1)) hx hb dX2_hasShare_16 (by decide) ?_
      refine lv_icmp_eq (tgt := 24) hx hb dX2_hasShare_17 (by decide) (fun c_3 => ?_) (fun c_3 => ?_)
      · have hq := hq.trans (if_pos c_3)
        refine lv_iconst (v := (nI 0)) hx hb dX2_hasShare_24 (by decide) ?_
        exact W.zret (v := (nI 0)) hx hb hr (by first | rfl | decide) (fun t ht hW => eLI hS ht (by rw [hq])) hS.2.2 dX2_hasShare_25
      · have hq := hq.trans (if_neg c_3)
        refine lv_iconst (v := (nI 1)) hx hb dX2_hasShare_20 (by decide) ?_
        refine lv_goto (tgt := 25) hx hb dX2_hasShare_21 (by decide) ?_
        exact W.zret (v := (nI 1)) hx hb hr (by first | rfl | decide) (fun t ht hW => eLI hS ht (by rw [hq])) hS.2.2 dX2_hasShare_25
def fX2_sharesThere_L4 (v : (Nat → Nat → Int32)) : Nat → Nat → Int32 → Int32
  | 0, i4, x1_4 => (x1_4)
  | n4 + 1, i4, x1_4 => (if ((v 4) i4) = (-1) then (fX2_sharesThere_L4 v n4 (i4 + 1) x1_4) else (fX2_sharesThere_L4 v n4 (i4 + 1) (x1_4 ||| ((nI 1) <<< ((nI i4) &&& 31)))))
def fX2_sharesThere (v : (Nat → Nat → Int32)) : Int32 := (fX2_sharesThere_L4 v (8) 0 (nI 0))
set_option maxHeartbeats 4000000 in
set_option maxRecDepth 100000 in
theorem kX2_sharesThere (l : Launch) (Γ : wG) (a : Nat → Nat) (v : (Nat → Nat → Int32)) : LI l Γ yX2_sharesThere wsX2_sharesThere ({ frames := 0, cells := 0, slots := 0, locals := 0 }) [.ref (a 0)] [plB Γ a v] (fX2_sharesThere v) := by
  intro sz
  refine Met.ofW (cc := cX2_sharesThere) (maxL := 3) (ret := (some .int)) (by decide) rfl ?_
  intro p e s m args below meth c s₁ B hml hv
  obtain ⟨rfl, hsz, hP, hK, hD0, hAm⟩ := hv
  have hx := B.exec
  have hb := B.bytes
  have hr := B.returns
  have hts := atoms_spec (ws := wsX2_sharesThere) B.pre
  have hown : s.vm.findClass RX2 = some m.cls := findClass_of_methodNamed B.named
  have hlocks := B.notSynchronized
  subst hsz
  have hD := hD0.self (sz := s.heap.size)
  generalize hBe : va_A (wcat [plB Γ a v]) s.heap.size = B0 at hD hAm
  obtain ⟨A, hAe⟩ : ∃ A, A = va_A [] s.heap.size := ⟨_, rfl⟩
  rw [← hAe]
  have hA : ∀ q : Nat, s.heap.size ≤ q → A q := fun q h => by rw [hAe]; exact Or.inr h
  have hAB : ∀ q : Nat, A q → B0 q := fun q h => by rw [hAe] at h; rw [← hBe]; exact Or.inr (wnone h)
  have hS : va_S A s.heap s.heap [] := va_S.rf
  have hl := lv_entry ([.ref (a 0)]) (n := 3) (Nat.le_of_ble_eq_true rfl)
  rw [lg_entry_eq]
  generalize (lg_sl ([.ref (a 0)]) ++ List.replicate (3 - (lg_sl ([.ref (a 0)])).length) Slot.unset).toArray = ls at hl ⊢
  have hl : lv_has ls 3 [(0, .ref (a 0))] := hl
  have hi2 : ∀ w ∈ wsX20, w ∈ wsX2_sharesThere := by decide +kernel
  have kf21 := hts (.fieldLink RX2 21 "CapsuleKeepers$Place" "owners" "[I") (by decide +kernel)
  have hq : (fX2_sharesThere v) = (fX2_sharesThere_L4 v (8) 0 (nI 0)) := rfl
  refine lv_iconst (v := (nI 0)) hx hb dX2_sharesThere_0 (by decide) ?_
  refine lv_istore_n (lv' := [(1, .int (nI 0)), (0, .ref (a 0))]) hx hb dX2_sharesThere_1 rfl hl (by decide) rfl (fun ls hl => ?_)
  refine lv_iconst (v := (nI 0)) hx hb dX2_sharesThere_2 (by decide) ?_
  refine lv_istore_n (lv' := [(2, .int (nI 0)), (1, .int (nI 0)), (0, .ref (a 0))]) hx hb dX2_sharesThere_3 rfl hl (by decide) rfl (fun ls hl => ?_)
  refine wl (pc := 4) (σ := Nat × Int32) (fun n (i4, x1_4) H locs ls => (i4 + n = 8) ∧ (fX2_sharesThere v) = fX2_sharesThere_L4 v n i4 x1_4 ∧ va_P Γ.1 vwCl (wcat [plB Γ a v]) H ∧ va_S A s.heap H locs ∧ lv_has ls 3 [(2, .int (nI i4)), (1, .int x1_4), (0, .ref (a 0))]) ?_ ?_ (8) (0, (nI 0)) _ _ _ ⟨by omega, hq, hP, hS, lv_sub hl [0, 1, 2] rfl⟩
  · intro ⟨i4, x1_4⟩ H locs ls h
    obtain ⟨hn4, hq, hP, hS, hl⟩ := h
    try dsimp only at hn4 hq hP hl
    replace hq : (fX2_sharesThere v) = (x1_4) := hq
    refine lv_iload_n hx hb dX2_sharesThere_4 rfl (lv_at hl 0 rfl) ?_
    refine lv_bipush (v := (nI 8)) hx hb dX2_sharesThere_5 (by decide) ?_
    refine lv_icmp_ge (tgt := 32) hx hb dX2_sharesThere_7 (by decide) (fun c_7 => ?_) (fun c_7 => absurd (nI_le (by omega) (by omega)) c_7)
    refine lv_iload_n hx hb dX2_sharesThere_32 rfl (lv_at hl 1 rfl) ?_
    exact W.iret (v := x1_4) hx hb hr (fun t ht hW => eLI hS ht (by rw [hq])) hS.2.2 dX2_sharesThere_33
  · intro n4 ih4 ⟨i4, x1_4⟩ H locs ls h
    obtain ⟨hn4, hq, hP, hS, hl⟩ := h
    try dsimp only at hn4 hq hP hl
    replace hq : (fX2_sharesThere v) = (if ((v 4) i4) = (-1) then (fX2_sharesThere_L4 v n4 (i4 + 1) x1_4) else (fX2_sharesThere_L4 v n4 (i4 + 1) (x1_4 ||| ((nI 1) <<< ((nI i4) &&& 31))))) := hq
    refine lv_iload_n hx hb dX2_sharesThere_4 rfl (lv_at hl 0 rfl) ?_
    refine lv_bipush (v := (nI 8)) hx hb dX2_sharesThere_5 (by decide) ?_
    refine lv_icmp_ge (tgt := 32) hx hb dX2_sharesThere_7 (by decide) (fun c_7 => absurd c_7 (nI_ge (by omega) (by omega))) (fun c_7 => ?_)
    refine lv_aload_n hx hb dX2_sharesThere_10 rfl (lv_at hl 2 rfl) ?_
    refine va_get (D := Γ.1) (ci := 2) (v := .ref (a 4)) (C := RX2) (T := TX2) (N := 16) hx hb hts hi2 hown hK hP 0 rfl rfl 5 (by decide) kf21 (fun _ h9 => h9) rfl dX2_sharesThere_11 ?_
    refine lv_iload_n hx hb dX2_sharesThere_14 rfl (lv_at hl 0 rfl) ?_
    refine va_iald_n (f := (v 4)) hx hb hK hP 4 0 rfl rfl (by omega) (Nat.le_of_ble_eq_true rfl) dX2_sharesThere_15 ?_
    refine lv_iconst (v := (-1)) hx hb dX2_sharesThere_16 (by decide) ?_
    refine lv_icmp_eq (tgt := 26) hx hb dX2_sharesThere_17 (by decide) (fun c_1 => ?_) (fun c_1 => ?_)
    · have hq := hq.trans (if_pos c_1)
      refine lv_iinc (v := (nI (i4 + 1))) (lv' := [(2, .int (nI (i4 + 1))), (1, .int x1_4), (0, .ref (a 0))]) hx hb dX2_sharesThere_26 hl (k := 0) rfl (nI_1 _) (by decide) rfl (fun ls hl => ?_)
      refine lv_goto (tgt := 4) hx hb dX2_sharesThere_29 (by decide) ?_
      exact ih4 ((i4 + 1), x1_4) H locs ls ⟨by omega, hq, hP, hS, lv_sub hl [0, 1, 2] rfl⟩
    · have hq := hq.trans (if_neg c_1)
      refine lv_iload_n hx hb dX2_sharesThere_20 rfl (lv_at hl 1 rfl) ?_
      refine lv_iconst (v := (nI 1)) hx hb dX2_sharesThere_21 (by decide) ?_
      refine lv_iload_n hx hb dX2_sharesThere_22 rfl (lv_at hl 0 rfl) ?_
      refine lv_ishl hx hb dX2_sharesThere_23 ?_
      refine lv_ior hx hb dX2_sharesThere_24 ?_
      refine lv_istore_n (lv' := [(1, .int (x1_4 ||| ((nI 1) <<< ((nI i4) &&& 31)))), (2, .int (nI i4)), (0, .ref (a 0))]) hx hb dX2_sharesThere_25 rfl hl (by decide) rfl (fun ls hl => ?_)
      refine lv_iinc (v := (nI (i4 + 1))) (lv' := [(2, .int (nI (i4 + 1))), (1, .int (x1_4 ||| ((nI 1) <<< ((nI i4) &&& 31)))), (0, .ref (a 0))]) hx hb dX2_sharesThere_26 hl (k := 1) rfl (nI_1 _) (by decide) rfl (fun ls hl => ?_)
      refine lv_goto (tgt := 4) hx hb dX2_sharesThere_29 (by decide) ?_
      exact ih4 ((i4 + 1), (x1_4 ||| ((nI 1) <<< ((nI i4) &&& 31)))) H locs ls ⟨by omega, hq, hP, hS, lv_sub hl [0, 1, 2] rfl⟩
def fX2_hasCapsuleWith (v : (Nat → Nat → Int32)) (g : Int32) : Int32 := (if (v 0 4) = 0 then ((nI 0)) else (if (g &&& ((fX2_sharesThere v) ^^^ (-1))) = 0 then ((nI 1)) else ((nI 0))))
set_option maxHeartbeats 4000000 in
set_option maxRecDepth 100000 in
theorem kX2_hasCapsuleWith (l : Launch) (Γ : wG) (a : Nat → Nat) (v : (Nat → Nat → Int32)) (g : Int32) : LI l Γ yX2_hasCapsuleWith wsX2_hasCapsuleWith ({ frames := 1, cells := 0, slots := 0, locals := 22 }) [.ref (a 0), .int g] [plB Γ a v] (fX2_hasCapsuleWith v g) := by
  intro sz
  refine Met.ofW (cc := cX2_hasCapsuleWith) (maxL := 2) (ret := (some .boolean)) (by decide) rfl ?_
  intro p e s m args below meth c s₁ B hml hv
  obtain ⟨rfl, hsz, hP, hK, hD0, hAm⟩ := hv
  have hx := B.exec
  have hb := B.bytes
  have hr := B.returns
  have hts := atoms_spec (ws := wsX2_hasCapsuleWith) B.pre
  have hown : s.vm.findClass RX2 = some m.cls := findClass_of_methodNamed B.named
  have hlocks := B.notSynchronized
  subst hsz
  have hD := hD0.self (sz := s.heap.size)
  generalize hBe : va_A (wcat [plB Γ a v]) s.heap.size = B0 at hD hAm
  obtain ⟨A, hAe⟩ : ∃ A, A = va_A [] s.heap.size := ⟨_, rfl⟩
  rw [← hAe]
  have hA : ∀ q : Nat, s.heap.size ≤ q → A q := fun q h => by rw [hAe]; exact Or.inr h
  have hAB : ∀ q : Nat, A q → B0 q := fun q h => by rw [hAe] at h; rw [← hBe]; exact Or.inr (wnone h)
  have hS : va_S A s.heap s.heap [] := va_S.rf
  have hl := lv_entry ([.ref (a 0), .int g]) (n := 2) (Nat.le_of_ble_eq_true rfl)
  rw [lg_entry_eq]
  generalize (lg_sl ([.ref (a 0), .int g]) ++ List.replicate (2 - (lg_sl ([.ref (a 0), .int g])).length) Slot.unset).toArray = ls at hl ⊢
  have hl : lv_has ls 2 [(0, .ref (a 0)), (1, .int g)] := hl
  have hi2 : ∀ w ∈ wsX20, w ∈ wsX2_hasCapsuleWith := by decide +kernel
  have kf27 := hts (.fieldLink RX2 27 "CapsuleKeepers$Place" "stage" "I") (by decide +kernel)
  have hq : (fX2_hasCapsuleWith v g) = (if (v 0 4) = 0 then ((nI 0)) else (if (g &&& ((fX2_sharesThere v) ^^^ (-1))) = 0 then ((nI 1)) else ((nI 0)))) := rfl
  refine lv_aload_n hx hb dX2_hasCapsuleWith_0 rfl (lv_at hl 0 rfl) ?_
  refine va_get (D := Γ.1) (ci := 2) (v := .int (v 0 4)) (C := RX2) (T := TX2) (N := 16) hx hb hts hi2 hown hK hP 0 rfl rfl 9 (by decide) kf27 (fun _ h9 => h9) rfl dX2_hasCapsuleWith_1 ?_
  refine lv_if_eq (tgt := 22) hx hb dX2_hasCapsuleWith_4 (by decide) (fun c_1 => ?_) (fun c_1 => ?_)
  · have hq := hq.trans (if_pos c_1)
    refine lv_iconst (v := (nI 0)) hx hb dX2_hasCapsuleWith_22 (by decide) ?_
    exact W.zret (v := (nI 0)) hx hb hr (by first | rfl | decide) (fun t ht hW => eLI hS ht (by rw [hq])) hS.2.2 dX2_hasCapsuleWith_23
  · have hq := hq.trans (if_neg c_1)
    refine lv_iload_n hx hb dX2_hasCapsuleWith_7 rfl (lv_at hl 1 rfl) ?_
    refine lv_aload_n hx hb dX2_hasCapsuleWith_8 rfl (lv_at hl 0 rfl) ?_
    refine cLI (va_runV (As := []) (rest := [.int g]) ⟨hx, hb, hml, hown, hts⟩ ((kX2_sharesThere l Γ a v) _) (cwV 0 hts gX2_hasCapsuleWith_X2_sharesThere rfl rfl rfl (by decide +kernel) ⟨Nat.le_of_ble_eq_true rfl, Nat.le_of_ble_eq_true rfl⟩) ⟨wPre_blind, va_recv hK hP (ci := 2) (q0 := 0) rfl rfl, wPre_mk hP hD hK hS hA hAB hAm [0] rfl rfl⟩ rfl rfl hl.1 rfl (lv_room (Nat.le_of_ble_eq_true rfl)) dX2_hasCapsuleWith_9 ⟨Nat.zero_le _, Nat.zero_le _⟩) hP hS hA (fun H locs hP hS => ?_)
    refine lv_iconst (v := (-1)) hx hb dX2_hasCapsuleWith_12 (by decide) ?_
    refine lv_ixor hx hb dX2_hasCapsuleWith_13 ?_
    refine lv_iand hx hb dX2_hasCapsuleWith_14 ?_
    refine lv_if_ne (tgt := 22) hx hb dX2_hasCapsuleWith_15 (by decide) (fun c_2 => ?_) (fun c_2 => ?_)
    · have hq := hq.trans (if_neg c_2)
      refine lv_iconst (v := (nI 0)) hx hb dX2_hasCapsuleWith_22 (by decide) ?_
      exact W.zret (v := (nI 0)) hx hb hr (by first | rfl | decide) (fun t ht hW => eLI hS ht (by rw [hq])) hS.2.2 dX2_hasCapsuleWith_23
    · have hq := hq.trans (if_pos c_2)
      refine lv_iconst (v := (nI 1)) hx hb dX2_hasCapsuleWith_18 (by decide) ?_
      refine lv_goto (tgt := 23) hx hb dX2_hasCapsuleWith_19 (by decide) ?_
      exact W.zret (v := (nI 1)) hx hb hr (by first | rfl | decide) (fun t ht hW => eLI hS ht (by rw [hq])) hS.2.2 dX2_hasCapsuleWith_23
def fX2_sharesAtHome_L4 (v : (Nat → Nat → Int32)) : Nat → Nat → Int32 → Int32
  | 0, i4, x1_4 => (x1_4)
  | n4 + 1, i4, x1_4 => (if ((v 4) i4) = (nI i4) then (fX2_sharesAtHome_L4 v n4 (i4 + 1) (x1_4 + (nI 1))) else (fX2_sharesAtHome_L4 v n4 (i4 + 1) x1_4))
def fX2_sharesAtHome (v : (Nat → Nat → Int32)) : Int32 := (fX2_sharesAtHome_L4 v (8) 0 (nI 0))
set_option maxHeartbeats 4000000 in
set_option maxRecDepth 100000 in
theorem kX2_sharesAtHome (l : Launch) (Γ : wG) (a : Nat → Nat) (v : (Nat → Nat → Int32)) : LI l Γ yX2_sharesAtHome wsX2_sharesAtHome ({ frames := 0, cells := 0, slots := 0, locals := 0 }) [.ref (a 0)] [plB Γ a v] (fX2_sharesAtHome v) := by
  intro sz
  refine Met.ofW (cc := cX2_sharesAtHome) (maxL := 3) (ret := (some .int)) (by decide) rfl ?_
  intro p e s m args below meth c s₁ B hml hv
  obtain ⟨rfl, hsz, hP, hK, hD0, hAm⟩ := hv
  have hx := B.exec
  have hb := B.bytes
  have hr := B.returns
  have hts := atoms_spec (ws := wsX2_sharesAtHome) B.pre
  have hown : s.vm.findClass RX2 = some m.cls := findClass_of_methodNamed B.named
  have hlocks := B.notSynchronized
  subst hsz
  have hD := hD0.self (sz := s.heap.size)
  generalize hBe : va_A (wcat [plB Γ a v]) s.heap.size = B0 at hD hAm
  obtain ⟨A, hAe⟩ : ∃ A, A = va_A [] s.heap.size := ⟨_, rfl⟩
  rw [← hAe]
  have hA : ∀ q : Nat, s.heap.size ≤ q → A q := fun q h => by rw [hAe]; exact Or.inr h
  have hAB : ∀ q : Nat, A q → B0 q := fun q h => by rw [hAe] at h; rw [← hBe]; exact Or.inr (wnone h)
  have hS : va_S A s.heap s.heap [] := va_S.rf
  have hl := lv_entry ([.ref (a 0)]) (n := 3) (Nat.le_of_ble_eq_true rfl)
  rw [lg_entry_eq]
  generalize (lg_sl ([.ref (a 0)]) ++ List.replicate (3 - (lg_sl ([.ref (a 0)])).length) Slot.unset).toArray = ls at hl ⊢
  have hl : lv_has ls 3 [(0, .ref (a 0))] := hl
  have hi2 : ∀ w ∈ wsX20, w ∈ wsX2_sharesAtHome := by decide +kernel
  have kf21 := hts (.fieldLink RX2 21 "CapsuleKeepers$Place" "owners" "[I") (by decide +kernel)
  have hq : (fX2_sharesAtHome v) = (fX2_sharesAtHome_L4 v (8) 0 (nI 0)) := rfl
  refine lv_iconst (v := (nI 0)) hx hb dX2_sharesAtHome_0 (by decide) ?_
  refine lv_istore_n (lv' := [(1, .int (nI 0)), (0, .ref (a 0))]) hx hb dX2_sharesAtHome_1 rfl hl (by decide) rfl (fun ls hl => ?_)
  refine lv_iconst (v := (nI 0)) hx hb dX2_sharesAtHome_2 (by decide) ?_
  refine lv_istore_n (lv' := [(2, .int (nI 0)), (1, .int (nI 0)), (0, .ref (a 0))]) hx hb dX2_sharesAtHome_3 rfl hl (by decide) rfl (fun ls hl => ?_)
  refine wl (pc := 4) (σ := Nat × Int32) (fun n (i4, x1_4) H locs ls => (i4 + n = 8) ∧ (fX2_sharesAtHome v) = fX2_sharesAtHome_L4 v n i4 x1_4 ∧ va_P Γ.1 vwCl (wcat [plB Γ a v]) H ∧ va_S A s.heap H locs ∧ lv_has ls 3 [(2, .int (nI i4)), (1, .int x1_4), (0, .ref (a 0))]) ?_ ?_ (8) (0, (nI 0)) _ _ _ ⟨by omega, hq, hP, hS, lv_sub hl [0, 1, 2] rfl⟩
  · intro ⟨i4, x1_4⟩ H locs ls h
    obtain ⟨hn4, hq, hP, hS, hl⟩ := h
    try dsimp only at hn4 hq hP hl
    replace hq : (fX2_sharesAtHome v) = (x1_4) := hq
    refine lv_iload_n hx hb dX2_sharesAtHome_4 rfl (lv_at hl 0 rfl) ?_
    refine lv_bipush (v := (nI 8)) hx hb dX2_sharesAtHome_5 (by decide) ?_
    refine lv_icmp_ge (tgt := 29) hx hb dX2_sharesAtHome_7 (by decide) (fun c_7 => ?_) (fun c_7 => absurd (nI_le (by omega) (by omega)) c_7)
    refine lv_iload_n hx hb dX2_sharesAtHome_29 rfl (lv_at hl 1 rfl) ?_
    exact W.iret (v := x1_4) hx hb hr (fun t ht hW => eLI hS ht (by rw [hq])) hS.2.2 dX2_sharesAtHome_30
  · intro n4 ih4 ⟨i4, x1_4⟩ H locs ls h
    obtain ⟨hn4, hq, hP, hS, hl⟩ := h
    try dsimp only at hn4 hq hP hl
    replace hq : (fX2_sharesAtHome v) = (if ((v 4) i4) = (nI i4) then (fX2_sharesAtHome_L4 v n4 (i4 + 1) (x1_4 + (nI 1))) else (fX2_sharesAtHome_L4 v n4 (i4 + 1) x1_4)) := hq
    refine lv_iload_n hx hb dX2_sharesAtHome_4 rfl (lv_at hl 0 rfl) ?_
    refine lv_bipush (v := (nI 8)) hx hb dX2_sharesAtHome_5 (by decide) ?_
    refine lv_icmp_ge (tgt := 29) hx hb dX2_sharesAtHome_7 (by decide) (fun c_7 => absurd c_7 (nI_ge (by omega) (by omega))) (fun c_7 => ?_)
    refine lv_aload_n hx hb dX2_sharesAtHome_10 rfl (lv_at hl 2 rfl) ?_
    refine va_get (D := Γ.1) (ci := 2) (v := .ref (a 4)) (C := RX2) (T := TX2) (N := 16) hx hb hts hi2 hown hK hP 0 rfl rfl 5 (by decide) kf21 (fun _ h9 => h9) rfl dX2_sharesAtHome_11 ?_
    refine lv_iload_n hx hb dX2_sharesAtHome_14 rfl (lv_at hl 0 rfl) ?_
    refine va_iald_n (f := (v 4)) hx hb hK hP 4 0 rfl rfl (by omega) (Nat.le_of_ble_eq_true rfl) dX2_sharesAtHome_15 ?_
    refine lv_iload_n hx hb dX2_sharesAtHome_16 rfl (lv_at hl 0 rfl) ?_
    refine lv_icmp_ne (tgt := 23) hx hb dX2_sharesAtHome_17 (by decide) (fun c_1 => ?_) (fun c_1 => ?_)
    · have hq := hq.trans (if_neg c_1)
      refine lv_iinc (v := (nI (i4 + 1))) (lv' := [(2, .int (nI (i4 + 1))), (1, .int x1_4), (0, .ref (a 0))]) hx hb dX2_sharesAtHome_23 hl (k := 0) rfl (nI_1 _) (by decide) rfl (fun ls hl => ?_)
      refine lv_goto (tgt := 4) hx hb dX2_sharesAtHome_26 (by decide) ?_
      exact ih4 ((i4 + 1), x1_4) H locs ls ⟨by omega, hq, hP, hS, lv_sub hl [0, 1, 2] rfl⟩
    · have hq := hq.trans (if_pos c_1)
      refine lv_iinc (v := (x1_4 + (nI 1))) (lv' := [(1, .int (x1_4 + (nI 1))), (2, .int (nI i4)), (0, .ref (a 0))]) hx hb dX2_sharesAtHome_20 hl (k := 1) rfl (rfl) (by decide) rfl (fun ls hl => ?_)
      refine lv_iinc (v := (nI (i4 + 1))) (lv' := [(2, .int (nI (i4 + 1))), (1, .int (x1_4 + (nI 1))), (0, .ref (a 0))]) hx hb dX2_sharesAtHome_23 hl (k := 1) rfl (nI_1 _) (by decide) rfl (fun ls hl => ?_)
      refine lv_goto (tgt := 4) hx hb dX2_sharesAtHome_26 (by decide) ?_
      exact ih4 ((i4 + 1), (x1_4 + (nI 1))) H locs ls ⟨by omega, hq, hP, hS, lv_sub hl [0, 1, 2] rfl⟩
def fX2_replaceShare (v : (Nat → Nat → Int32)) (k : Int32) (x : Int32) : Int32 × (Nat → Nat → Int32) := (((v 5) k.toNatClampNeg), (sS (sR v 5 (upd (v 5) (k.toNatClampNeg) x)) 2 ((v 0 2) ||| ((nI 1) <<< (k &&& 31)))))
set_option maxHeartbeats 4000000 in
set_option maxRecDepth 100000 in
theorem kX2_replaceShare (l : Launch) (Γ : wG) (a : Nat → Nat) (v : (Nat → Nat → Int32)) (k : Int32) (x : Int32) (hk : vp_in k 8) : MI l Γ yX2_replaceShare wsX2_replaceShare ({ frames := 0, cells := 0, slots := 0, locals := 0 }) [.ref (a 0), .int k, .int x] [plB Γ a v] [plB Γ a (fX2_replaceShare v k x).2] (fX2_replaceShare v k x).1 := by
  intro sz
  refine Met.ofW (cc := cX2_replaceShare) (maxL := 4) (ret := (some .int)) (by decide) rfl ?_
  intro p e s m args below meth c s₁ B hml hv
  obtain ⟨rfl, hsz, hP, hK, hD0, hAm⟩ := hv
  have hx := B.exec
  have hb := B.bytes
  have hr := B.returns
  have hts := atoms_spec (ws := wsX2_replaceShare) B.pre
  have hown : s.vm.findClass RX2 = some m.cls := findClass_of_methodNamed B.named
  have hlocks := B.notSynchronized
  subst hsz
  have hD := hD0.self (sz := s.heap.size)
  generalize hAe : va_A (wcat [plB Γ a v]) s.heap.size = A at hD hAm ⊢
  have hA : ∀ q : Nat, s.heap.size ≤ q → A q := fun q h => by rw [← hAe]; exact Or.inr h
  have hAB : ∀ q : Nat, A q → A q := fun _ h => h
  have hS : va_S A s.heap s.heap [] := va_S.rf
  have hl := lv_entry ([.ref (a 0), .int k, .int x]) (n := 4) (Nat.le_of_ble_eq_true rfl)
  rw [lg_entry_eq]
  generalize (lg_sl ([.ref (a 0), .int k, .int x]) ++ List.replicate (4 - (lg_sl ([.ref (a 0), .int k, .int x])).length) Slot.unset).toArray = ls at hl ⊢
  have hl : lv_has ls 4 [(0, .ref (a 0)), (1, .int k), (2, .int x)] := hl
  have hi2 : ∀ w ∈ wsX20, w ∈ wsX2_replaceShare := by decide +kernel
  have kf24 := hts (.fieldLink RX2 24 "CapsuleKeepers$Place" "values" "[I") (by decide +kernel)
  have kf40 := hts (.fieldLink RX2 40 "CapsuleKeepers$Place" "forged" "I") (by decide +kernel)
  have hq : (fX2_replaceShare v k x) = (((v 5) k.toNatClampNeg), (sS (sR v 5 (upd (v 5) (k.toNatClampNeg) x)) 2 ((v 0 2) ||| ((nI 1) <<< (k &&& 31))))) := rfl
  refine lv_aload_n hx hb dX2_replaceShare_0 rfl (lv_at hl 0 rfl) ?_
  refine va_get (D := Γ.1) (ci := 2) (v := .ref (a 5)) (C := RX2) (T := TX2) (N := 16) hx hb hts hi2 hown hK hP 0 rfl rfl 6 (by decide) kf24 (fun _ h9 => h9) rfl dX2_replaceShare_1 ?_
  refine lv_iload_n hx hb dX2_replaceShare_4 rfl (lv_at hl 1 rfl) ?_
  refine va_iald (f := (v 5)) hx hb hK hP 5 0 rfl rfl (by assumption) dX2_replaceShare_5 ?_
  refine lv_istore_n (lv' := [(3, .int ((v 5) k.toNatClampNeg)), (0, .ref (a 0)), (1, .int k), (2, .int x)]) hx hb dX2_replaceShare_6 rfl hl (by decide) rfl (fun ls hl => ?_)
  refine lv_aload_n hx hb dX2_replaceShare_7 rfl (lv_at hl 1 rfl) ?_
  refine va_get (D := Γ.1) (ci := 2) (v := .ref (a 5)) (C := RX2) (T := TX2) (N := 16) hx hb hts hi2 hown hK hP 0 rfl rfl 6 (by decide) kf24 (fun _ h9 => h9) rfl dX2_replaceShare_8 ?_
  refine lv_iload_n hx hb dX2_replaceShare_11 rfl (lv_at hl 2 rfl) ?_
  refine lv_iload_n hx hb dX2_replaceShare_12 rfl (lv_at hl 3 rfl) ?_
  refine va_iast (f := (v 5)) hx hb hK hP hD hS 5 0 rfl rfl (by assumption) dX2_replaceShare_13 (fun H locs hP hD hS => ?_)
  have hP : va_P Γ.1 vwCl (wcat [plB Γ a (sR v 5 (upd (v 5) (k.toNatClampNeg) x))]) H := hP
  have hD : va_D A (wcat [plB Γ a (sR v 5 (upd (v 5) (k.toNatClampNeg) x))]) := hD
  refine lv_aload_n hx hb dX2_replaceShare_14 rfl (lv_at hl 1 rfl) ?_
  refine lv_dup hx hb dX2_replaceShare_15 rfl ?_
  refine va_get (D := Γ.1) (ci := 2) (v := .int (v 0 2)) (C := RX2) (T := TX2) (N := 16) hx hb hts hi2 hown hK hP 0 rfl rfl 7 (by decide) kf40 (fun _ h9 => h9) rfl dX2_replaceShare_16 ?_
  refine lv_iconst (v := (nI 1)) hx hb dX2_replaceShare_19 (by decide) ?_
  refine lv_iload_n hx hb dX2_replaceShare_20 rfl (lv_at hl 2 rfl) ?_
  refine lv_ishl hx hb dX2_replaceShare_21 ?_
  refine lv_ior hx hb dX2_replaceShare_22 ?_
  refine va_put (D := Γ.1) (ci := 2) (v := .int ((v 0 2) ||| ((nI 1) <<< (k &&& 31)))) (ty := .int) (C := RX2) (T := TX2) (N := 16) hx hb hts hi2 tyX2 tyX2_ok nmX2 hown hK hP hD hS 0 rfl rfl 7 (by decide) kf40 (fun _ h9 => h9) rfl (by decide +kernel) rfl rfl (Nat.le_of_ble_eq_true rfl) dX2_replaceShare_23 (fun H locs hP hD hS => ?_)
  have hP : va_P Γ.1 vwCl (wcat [plB Γ a (sS (sR v 5 (upd (v 5) (k.toNatClampNeg) x)) 2 ((v 0 2) ||| ((nI 1) <<< (k &&& 31))))]) H := hP
  have hD : va_D A (wcat [plB Γ a (sS (sR v 5 (upd (v 5) (k.toNatClampNeg) x)) 2 ((v 0 2) ||| ((nI 1) <<< (k &&& 31))))]) := hD
  refine lv_iload_n hx hb dX2_replaceShare_26 rfl (lv_at hl 0 rfl) ?_
  exact W.iret (v := ((v 5) k.toNatClampNeg)) hx hb hr (fun t ht hW => eMI (by rw [hq]; exact hP) hS ht (by rw [hq])) hS.2.2 dX2_replaceShare_27
def fX2_mayPass (v : (Nat → Nat → Int32)) (d : Int32) : Int32 := (if (nI 99999) < ((v 0 3) + d) then ((nI 0)) else ((nI 1)))
set_option maxHeartbeats 4000000 in
set_option maxRecDepth 100000 in
theorem kX2_mayPass (l : Launch) (Γ : wG) (a : Nat → Nat) (v : (Nat → Nat → Int32)) (d : Int32) : LI l Γ yX2_mayPass wsX2_mayPass ({ frames := 0, cells := 0, slots := 0, locals := 0 }) [.ref (a 0), .int d] [plB Γ a v] (fX2_mayPass v d) := by
  intro sz
  refine Met.ofW (cc := cX2_mayPass) (maxL := 2) (ret := (some .boolean)) (by decide) rfl ?_
  intro p e s m args below meth c s₁ B hml hv
  obtain ⟨rfl, hsz, hP, hK, hD0, hAm⟩ := hv
  have hx := B.exec
  have hb := B.bytes
  have hr := B.returns
  have hts := atoms_spec (ws := wsX2_mayPass) B.pre
  have hown : s.vm.findClass RX2 = some m.cls := findClass_of_methodNamed B.named
  have hlocks := B.notSynchronized
  subst hsz
  have hD := hD0.self (sz := s.heap.size)
  generalize hBe : va_A (wcat [plB Γ a v]) s.heap.size = B0 at hD hAm
  obtain ⟨A, hAe⟩ : ∃ A, A = va_A [] s.heap.size := ⟨_, rfl⟩
  rw [← hAe]
  have hA : ∀ q : Nat, s.heap.size ≤ q → A q := fun q h => by rw [hAe]; exact Or.inr h
  have hAB : ∀ q : Nat, A q → B0 q := fun q h => by rw [hAe] at h; rw [← hBe]; exact Or.inr (wnone h)
  have hS : va_S A s.heap s.heap [] := va_S.rf
  have hl := lv_entry ([.ref (a 0), .int d]) (n := 2) (Nat.le_of_ble_eq_true rfl)
  rw [lg_entry_eq]
  generalize (lg_sl ([.ref (a 0), .int d]) ++ List.replicate (2 - (lg_sl ([.ref (a 0), .int d])).length) Slot.unset).toArray = ls at hl ⊢
  have hl : lv_has ls 2 [(0, .ref (a 0)), (1, .int d)] := hl
  have hi2 : ∀ w ∈ wsX20, w ∈ wsX2_mayPass := by decide +kernel
  have kc78 := hts (.constant RX2 78 (99999)) (by decide +kernel)
  have kf43 := hts (.fieldLink RX2 43 "CapsuleKeepers$Place" "day" "I") (by decide +kernel)
  have hq : (fX2_mayPass v d) = (if (nI 99999) < ((v 0 3) + d) then ((nI 0)) else ((nI 1))) := rfl
  refine lv_aload_n hx hb dX2_mayPass_0 rfl (lv_at hl 0 rfl) ?_
  refine va_get (D := Γ.1) (ci := 2) (v := .int (v 0 3)) (C := RX2) (T := TX2) (N := 16) hx hb hts hi2 hown hK hP 0 rfl rfl 8 (by decide) kf43 (fun _ h9 => h9) rfl dX2_mayPass_1 ?_
  refine lv_iload_n hx hb dX2_mayPass_4 rfl (lv_at hl 1 rfl) ?_
  refine lv_iadd hx hb dX2_mayPass_5 ?_
  refine lv_ldc (v := (nI 99999)) hx hb hown kc78 dX2_mayPass_6 ?_
  refine lv_icmp_gt (tgt := 15) hx hb dX2_mayPass_8 (by decide) (fun c_1 => ?_) (fun c_1 => ?_)
  · have hq := hq.trans (if_pos c_1)
    refine lv_iconst (v := (nI 0)) hx hb dX2_mayPass_15 (by decide) ?_
    exact W.zret (v := (nI 0)) hx hb hr (by first | rfl | decide) (fun t ht hW => eLI hS ht (by rw [hq])) hS.2.2 dX2_mayPass_16
  · have hq := hq.trans (if_neg c_1)
    refine lv_iconst (v := (nI 1)) hx hb dX2_mayPass_11 (by decide) ?_
    refine lv_goto (tgt := 16) hx hb dX2_mayPass_12 (by decide) ?_
    exact W.zret (v := (nI 1)) hx hb hr (by first | rfl | decide) (fun t ht hW => eLI hS ht (by rw [hq])) hS.2.2 dX2_mayPass_16
def fX2_shut (v : (Nat → Nat → Int32)) (nk : Int32) (nq : Int32) (nd : Int32) : (Nat → Nat → Int32) := ((sS (sS (sS (sS v 4 (nI 1)) 5 nk) 6 nq) 7 nd))
set_option maxHeartbeats 4000000 in
set_option maxRecDepth 100000 in
theorem kX2_shut (l : Launch) (Γ : wG) (a : Nat → Nat) (v : (Nat → Nat → Int32)) (nk : Int32) (nq : Int32) (nd : Int32) : MV l Γ yX2_shut wsX2_shut ({ frames := 0, cells := 0, slots := 0, locals := 0 }) [.ref (a 0), .int nk, .int nq, .int nd] [plB Γ a v] [plB Γ a (fX2_shut v nk nq nd)] := by
  intro sz
  refine Met.ofW (cc := cX2_shut) (maxL := 4) (ret := none) (by decide) rfl ?_
  intro p e s m args below meth c s₁ B hml hv
  obtain ⟨rfl, hsz, hP, hK, hD0, hAm⟩ := hv
  have hx := B.exec
  have hb := B.bytes
  have hr := B.returns
  have hts := atoms_spec (ws := wsX2_shut) B.pre
  have hown : s.vm.findClass RX2 = some m.cls := findClass_of_methodNamed B.named
  have hlocks := B.notSynchronized
  subst hsz
  have hD := hD0.self (sz := s.heap.size)
  generalize hAe : va_A (wcat [plB Γ a v]) s.heap.size = A at hD hAm ⊢
  have hA : ∀ q : Nat, s.heap.size ≤ q → A q := fun q h => by rw [← hAe]; exact Or.inr h
  have hAB : ∀ q : Nat, A q → A q := fun _ h => h
  have hS : va_S A s.heap s.heap [] := va_S.rf
  have hl := lv_entry ([.ref (a 0), .int nk, .int nq, .int nd]) (n := 4) (Nat.le_of_ble_eq_true rfl)
  rw [lg_entry_eq]
  generalize (lg_sl ([.ref (a 0), .int nk, .int nq, .int nd]) ++ List.replicate (4 - (lg_sl ([.ref (a 0), .int nk, .int nq, .int nd])).length) Slot.unset).toArray = ls at hl ⊢
  have hl : lv_has ls 4 [(0, .ref (a 0)), (1, .int nk), (2, .int nq), (3, .int nd)] := hl
  have hi2 : ∀ w ∈ wsX20, w ∈ wsX2_shut := by decide +kernel
  have kf27 := hts (.fieldLink RX2 27 "CapsuleKeepers$Place" "stage" "I") (by decide +kernel)
  have kf46 := hts (.fieldLink RX2 46 "CapsuleKeepers$Place" "key" "I") (by decide +kernel)
  have kf49 := hts (.fieldLink RX2 49 "CapsuleKeepers$Place" "quorum" "I") (by decide +kernel)
  have kf52 := hts (.fieldLink RX2 52 "CapsuleKeepers$Place" "date" "I") (by decide +kernel)
  have hq : (fX2_shut v nk nq nd) = ((sS (sS (sS (sS v 4 (nI 1)) 5 nk) 6 nq) 7 nd)) := rfl
  refine lv_aload_n hx hb dX2_shut_0 rfl (lv_at hl 0 rfl) ?_
  refine lv_iconst (v := (nI 1)) hx hb dX2_shut_1 (by decide) ?_
  refine va_put (D := Γ.1) (ci := 2) (v := .int (nI 1)) (ty := .int) (C := RX2) (T := TX2) (N := 16) hx hb hts hi2 tyX2 tyX2_ok nmX2 hown hK hP hD hS 0 rfl rfl 9 (by decide) kf27 (fun _ h9 => h9) rfl (by decide +kernel) rfl rfl (Nat.le_of_ble_eq_true rfl) dX2_shut_2 (fun H locs hP hD hS => ?_)
  have hP : va_P Γ.1 vwCl (wcat [plB Γ a (sS v 4 (nI 1))]) H := hP
  have hD : va_D A (wcat [plB Γ a (sS v 4 (nI 1))]) := hD
  refine lv_aload_n hx hb dX2_shut_5 rfl (lv_at hl 0 rfl) ?_
  refine lv_iload_n hx hb dX2_shut_6 rfl (lv_at hl 1 rfl) ?_
  refine va_put (D := Γ.1) (ci := 2) (v := .int nk) (ty := .int) (C := RX2) (T := TX2) (N := 16) hx hb hts hi2 tyX2 tyX2_ok nmX2 hown hK hP hD hS 0 rfl rfl 10 (by decide) kf46 (fun _ h9 => h9) rfl (by decide +kernel) rfl rfl (Nat.le_of_ble_eq_true rfl) dX2_shut_7 (fun H locs hP hD hS => ?_)
  have hP : va_P Γ.1 vwCl (wcat [plB Γ a (sS (sS v 4 (nI 1)) 5 nk)]) H := hP
  have hD : va_D A (wcat [plB Γ a (sS (sS v 4 (nI 1)) 5 nk)]) := hD
  refine lv_aload_n hx hb dX2_shut_10 rfl (lv_at hl 0 rfl) ?_
  refine lv_iload_n hx hb dX2_shut_11 rfl (lv_at hl 2 rfl) ?_
  refine va_put (D := Γ.1) (ci := 2) (v := .int nq) (ty := .int) (C := RX2) (T := TX2) (N := 16) hx hb hts hi2 tyX2 tyX2_ok nmX2 hown hK hP hD hS 0 rfl rfl 11 (by decide) kf49 (fun _ h9 => h9) rfl (by decide +kernel) rfl rfl (Nat.le_of_ble_eq_true rfl) dX2_shut_12 (fun H locs hP hD hS => ?_)
  have hP : va_P Γ.1 vwCl (wcat [plB Γ a (sS (sS (sS v 4 (nI 1)) 5 nk) 6 nq)]) H := hP
  have hD : va_D A (wcat [plB Γ a (sS (sS (sS v 4 (nI 1)) 5 nk) 6 nq)]) := hD
  refine lv_aload_n hx hb dX2_shut_15 rfl (lv_at hl 0 rfl) ?_
  refine lv_iload_n hx hb dX2_shut_16 rfl (lv_at hl 3 rfl) ?_
  refine va_put (D := Γ.1) (ci := 2) (v := .int nd) (ty := .int) (C := RX2) (T := TX2) (N := 16) hx hb hts hi2 tyX2 tyX2_ok nmX2 hown hK hP hD hS 0 rfl rfl 12 (by decide) kf52 (fun _ h9 => h9) rfl (by decide +kernel) rfl rfl (Nat.le_of_ble_eq_true rfl) dX2_shut_17 (fun H locs hP hD hS => ?_)
  have hP : va_P Γ.1 vwCl (wcat [plB Γ a (sS (sS (sS (sS v 4 (nI 1)) 5 nk) 6 nq) 7 nd)]) H := hP
  have hD : va_D A (wcat [plB Γ a (sS (sS (sS (sS v 4 (nI 1)) 5 nk) 6 nq) 7 nd)]) := hD
  exact W.vret hx hb hr (fun t ht hW => eMV (by rw [hq]; exact hP) hS ht) hS.2.2 dX2_shut_20
def fX2_mayRenew (v : (Nat → Nat → Int32)) : Int32 := (if (v 0 4) = (nI 1) then (if (fX2_livingCount v) < (v 0 6) then ((nI 0)) else ((nI 1))) else ((nI 0)))
set_option maxHeartbeats 4000000 in
set_option maxRecDepth 100000 in
theorem kX2_mayRenew (l : Launch) (Γ : wG) (a : Nat → Nat) (v : (Nat → Nat → Int32)) : LI l Γ yX2_mayRenew wsX2_mayRenew ({ frames := 2, cells := 0, slots := 0, locals := 40 }) [.ref (a 0)] [plB Γ a v] (fX2_mayRenew v) := by
  intro sz
  refine Met.ofW (cc := cX2_mayRenew) (maxL := 1) (ret := (some .boolean)) (by decide) rfl ?_
  intro p e s m args below meth c s₁ B hml hv
  obtain ⟨rfl, hsz, hP, hK, hD0, hAm⟩ := hv
  have hx := B.exec
  have hb := B.bytes
  have hr := B.returns
  have hts := atoms_spec (ws := wsX2_mayRenew) B.pre
  have hown : s.vm.findClass RX2 = some m.cls := findClass_of_methodNamed B.named
  have hlocks := B.notSynchronized
  subst hsz
  have hD := hD0.self (sz := s.heap.size)
  generalize hBe : va_A (wcat [plB Γ a v]) s.heap.size = B0 at hD hAm
  obtain ⟨A, hAe⟩ : ∃ A, A = va_A [] s.heap.size := ⟨_, rfl⟩
  rw [← hAe]
  have hA : ∀ q : Nat, s.heap.size ≤ q → A q := fun q h => by rw [hAe]; exact Or.inr h
  have hAB : ∀ q : Nat, A q → B0 q := fun q h => by rw [hAe] at h; rw [← hBe]; exact Or.inr (wnone h)
  have hS : va_S A s.heap s.heap [] := va_S.rf
  have hl := lv_entry ([.ref (a 0)]) (n := 1) (Nat.le_of_ble_eq_true rfl)
  rw [lg_entry_eq]
  generalize (lg_sl ([.ref (a 0)]) ++ List.replicate (1 - (lg_sl ([.ref (a 0)])).length) Slot.unset).toArray = ls at hl ⊢
  have hl : lv_has ls 1 [(0, .ref (a 0))] := hl
  have hi2 : ∀ w ∈ wsX20, w ∈ wsX2_mayRenew := by decide +kernel
  have kf27 := hts (.fieldLink RX2 27 "CapsuleKeepers$Place" "stage" "I") (by decide +kernel)
  have kf49 := hts (.fieldLink RX2 49 "CapsuleKeepers$Place" "quorum" "I") (by decide +kernel)
  have hq : (fX2_mayRenew v) = (if (v 0 4) = (nI 1) then (if (fX2_livingCount v) < (v 0 6) then ((nI 0)) else ((nI 1))) else ((nI 0))) := rfl
  refine lv_aload_n hx hb dX2_mayRenew_0 rfl (lv_at hl 0 rfl) ?_
  refine va_get (D := Γ.1) (ci := 2) (v := .int (v 0 4)) (C := RX2) (T := TX2) (N := 16) hx hb hts hi2 hown hK hP 0 rfl rfl 9 (by decide) kf27 (fun _ h9 => h9) rfl dX2_mayRenew_1 ?_
  refine lv_iconst (v := (nI 1)) hx hb dX2_mayRenew_4 (by decide) ?_
  refine lv_icmp_ne (tgt := 23) hx hb dX2_mayRenew_5 (by decide) (fun c_1 => ?_) (fun c_1 => ?_)
  · have hq := hq.trans (if_neg c_1)
    refine lv_iconst (v := (nI 0)) hx hb dX2_mayRenew_23 (by decide) ?_
    exact W.zret (v := (nI 0)) hx hb hr (by first | rfl | decide) (fun t ht hW => eLI hS ht (by rw [hq])) hS.2.2 dX2_mayRenew_24
  · have hq := hq.trans (if_pos c_1)
    refine lv_aload_n hx hb dX2_mayRenew_8 rfl (lv_at hl 0 rfl) ?_
    refine cLI (va_runV (As := []) (rest := []) ⟨hx, hb, hml, hown, hts⟩ ((kX2_livingCount l Γ a v) _) (cwV 0 hts gX2_mayRenew_X2_livingCount rfl rfl rfl (by decide +kernel) ⟨Nat.le_of_ble_eq_true rfl, Nat.le_of_ble_eq_true rfl⟩) ⟨wPre_blind, va_recv hK hP (ci := 2) (q0 := 0) rfl rfl, wPre_mk hP hD hK hS hA hAB hAm [0] rfl rfl⟩ rfl rfl hl.1 rfl (lv_room (Nat.le_of_ble_eq_true rfl)) dX2_mayRenew_9 ⟨Nat.zero_le _, Nat.zero_le _⟩) hP hS hA (fun H locs hP hS => ?_)
    refine lv_aload_n hx hb dX2_mayRenew_12 rfl (lv_at hl 0 rfl) ?_
    refine va_get (D := Γ.1) (ci := 2) (v := .int (v 0 6)) (C := RX2) (T := TX2) (N := 16) hx hb hts hi2 hown hK hP 0 rfl rfl 11 (by decide) kf49 (fun _ h9 => h9) rfl dX2_mayRenew_13 ?_
    refine lv_icmp_lt (tgt := 23) hx hb dX2_mayRenew_16 (by decide) (fun c_2 => ?_) (fun c_2 => ?_)
    · have hq := hq.trans (if_pos c_2)
      refine lv_iconst (v := (nI 0)) hx hb dX2_mayRenew_23 (by decide) ?_
      exact W.zret (v := (nI 0)) hx hb hr (by first | rfl | decide) (fun t ht hW => eLI hS ht (by rw [hq])) hS.2.2 dX2_mayRenew_24
    · have hq := hq.trans (if_neg c_2)
      refine lv_iconst (v := (nI 1)) hx hb dX2_mayRenew_19 (by decide) ?_
      refine lv_goto (tgt := 24) hx hb dX2_mayRenew_20 (by decide) ?_
      exact W.zret (v := (nI 1)) hx hb hr (by first | rfl | decide) (fun t ht hW => eLI hS ht (by rw [hq])) hS.2.2 dX2_mayRenew_24
def fX2_draw (v : (Nat → Nat → Int32)) : Int32 × (Nat → Nat → Int32) := ((((((nI 171) * (v 0 10)) + (nI 11213)) - (((nI 171) * (v 0 10)) + (nI 11213)) / (nI 53125) * (nI 53125)) - ((((nI 171) * (v 0 10)) + (nI 11213)) - (((nI 171) * (v 0 10)) + (nI 11213)) / (nI 53125) * (nI 53125)) / (nI 251) * (nI 251)), (sS v 10 ((((nI 171) * (v 0 10)) + (nI 11213)) - (((nI 171) * (v 0 10)) + (nI 11213)) / (nI 53125) * (nI 53125))))
set_option maxHeartbeats 4000000 in
set_option maxRecDepth 100000 in
theorem kX2_draw (l : Launch) (Γ : wG) (a : Nat → Nat) (v : (Nat → Nat → Int32)) : MI l Γ yX2_draw wsX2_draw ({ frames := 0, cells := 0, slots := 0, locals := 0 }) [.ref (a 0)] [plB Γ a v] [plB Γ a (fX2_draw v).2] (fX2_draw v).1 := by
  intro sz
  refine Met.ofW (cc := cX2_draw) (maxL := 1) (ret := (some .int)) (by decide) rfl ?_
  intro p e s m args below meth c s₁ B hml hv
  obtain ⟨rfl, hsz, hP, hK, hD0, hAm⟩ := hv
  have hx := B.exec
  have hb := B.bytes
  have hr := B.returns
  have hts := atoms_spec (ws := wsX2_draw) B.pre
  have hown : s.vm.findClass RX2 = some m.cls := findClass_of_methodNamed B.named
  have hlocks := B.notSynchronized
  subst hsz
  have hD := hD0.self (sz := s.heap.size)
  generalize hAe : va_A (wcat [plB Γ a v]) s.heap.size = A at hD hAm ⊢
  have hA : ∀ q : Nat, s.heap.size ≤ q → A q := fun q h => by rw [← hAe]; exact Or.inr h
  have hAB : ∀ q : Nat, A q → A q := fun _ h => h
  have hS : va_S A s.heap s.heap [] := va_S.rf
  have hl := lv_entry ([.ref (a 0)]) (n := 1) (Nat.le_of_ble_eq_true rfl)
  rw [lg_entry_eq]
  generalize (lg_sl ([.ref (a 0)]) ++ List.replicate (1 - (lg_sl ([.ref (a 0)])).length) Slot.unset).toArray = ls at hl ⊢
  have hl : lv_has ls 1 [(0, .ref (a 0))] := hl
  have hi2 : ∀ w ∈ wsX20, w ∈ wsX2_draw := by decide +kernel
  have kc89 := hts (.constant RX2 89 (53125)) (by decide +kernel)
  have kf31 := hts (.fieldLink RX2 31 "CapsuleKeepers$Place" "x" "I") (by decide +kernel)
  have hq : (fX2_draw v) = ((((((nI 171) * (v 0 10)) + (nI 11213)) - (((nI 171) * (v 0 10)) + (nI 11213)) / (nI 53125) * (nI 53125)) - ((((nI 171) * (v 0 10)) + (nI 11213)) - (((nI 171) * (v 0 10)) + (nI 11213)) / (nI 53125) * (nI 53125)) / (nI 251) * (nI 251)), (sS v 10 ((((nI 171) * (v 0 10)) + (nI 11213)) - (((nI 171) * (v 0 10)) + (nI 11213)) / (nI 53125) * (nI 53125)))) := rfl
  refine lv_aload_n hx hb dX2_draw_0 rfl (lv_at hl 0 rfl) ?_
  refine lv_sipush (v := (nI 171)) hx hb dX2_draw_1 (by decide) ?_
  refine lv_aload_n hx hb dX2_draw_4 rfl (lv_at hl 0 rfl) ?_
  refine va_get (D := Γ.1) (ci := 2) (v := .int (v 0 10)) (C := RX2) (T := TX2) (N := 16) hx hb hts hi2 hown hK hP 0 rfl rfl 15 (by decide) kf31 (fun _ h9 => h9) rfl dX2_draw_5 ?_
  refine lv_imul hx hb dX2_draw_8 ?_
  refine lv_sipush (v := (nI 11213)) hx hb dX2_draw_9 (by decide) ?_
  refine lv_iadd hx hb dX2_draw_12 ?_
  refine lv_ldc (v := (nI 53125)) hx hb hown kc89 dX2_draw_13 ?_
  refine lv_irem hx hb dX2_draw_15 (by decide) ?_
  refine va_put (D := Γ.1) (ci := 2) (v := .int ((((nI 171) * (v 0 10)) + (nI 11213)) - (((nI 171) * (v 0 10)) + (nI 11213)) / (nI 53125) * (nI 53125))) (ty := .int) (C := RX2) (T := TX2) (N := 16) hx hb hts hi2 tyX2 tyX2_ok nmX2 hown hK hP hD hS 0 rfl rfl 15 (by decide) kf31 (fun _ h9 => h9) rfl (by decide +kernel) rfl rfl (Nat.le_of_ble_eq_true rfl) dX2_draw_16 (fun H locs hP hD hS => ?_)
  have hP : va_P Γ.1 vwCl (wcat [plB Γ a (sS v 10 ((((nI 171) * (v 0 10)) + (nI 11213)) - (((nI 171) * (v 0 10)) + (nI 11213)) / (nI 53125) * (nI 53125)))]) H := hP
  have hD : va_D A (wcat [plB Γ a (sS v 10 ((((nI 171) * (v 0 10)) + (nI 11213)) - (((nI 171) * (v 0 10)) + (nI 11213)) / (nI 53125) * (nI 53125)))]) := hD
  refine lv_aload_n hx hb dX2_draw_19 rfl (lv_at hl 0 rfl) ?_
  refine va_get (D := Γ.1) (ci := 2) (v := .int ((((nI 171) * (v 0 10)) + (nI 11213)) - (((nI 171) * (v 0 10)) + (nI 11213)) / (nI 53125) * (nI 53125))) (C := RX2) (T := TX2) (N := 16) hx hb hts hi2 hown hK hP 0 rfl rfl 15 (by decide) kf31 (fun _ h9 => h9) rfl dX2_draw_20 ?_
  refine lv_sipush (v := (nI 251)) hx hb dX2_draw_23 (by decide) ?_
  refine lv_irem hx hb dX2_draw_26 (by decide) ?_
  exact W.iret (v := (((((nI 171) * (v 0 10)) + (nI 11213)) - (((nI 171) * (v 0 10)) + (nI 11213)) / (nI 53125) * (nI 53125)) - ((((nI 171) * (v 0 10)) + (nI 11213)) - (((nI 171) * (v 0 10)) + (nI 11213)) / (nI 53125) * (nI 53125)) / (nI 251) * (nI 251))) hx hb hr (fun t ht hW => eMI (by rw [hq]; exact hP) hS ht (by rw [hq])) hS.2.2 dX2_draw_27
def fX2_powerOf_L4 (b : Nat) : Nat → Nat → Int32 → Int32
  | 0, i4, x2_4 => (x2_4)
  | n4 + 1, i4, x2_4 => (fX2_powerOf_L4 b n4 (i4 + 1) ((x2_4 * (nI b)) - (x2_4 * (nI b)) / (nI 251) * (nI 251)))
def fX2_powerOf (b : Nat) (w : Nat) : Int32 := (fX2_powerOf_L4 b (w) 0 (nI 1))
set_option maxHeartbeats 4000000 in
set_option maxRecDepth 100000 in
theorem kX2_powerOf (l : Launch) (Γ : wG) (b : Nat) (w : Nat) (hw : w < 2 ^ 31) : LI l Γ yX2_powerOf wsX2_powerOf ({ frames := 0, cells := 0, slots := 0, locals := 0 }) [.int (nI b), .int (nI w)] [] (fX2_powerOf b w) := by
  intro sz
  refine Met.ofW (cc := cX2_powerOf) (maxL := 4) (ret := (some .int)) (by decide) rfl ?_
  intro p e s m args below meth c s₁ B hml hv
  obtain ⟨rfl, hsz, hP, hK, hD0, hAm⟩ := hv
  have hx := B.exec
  have hb := B.bytes
  have hr := B.returns
  have hts := atoms_spec (ws := wsX2_powerOf) B.pre
  have hown : s.vm.findClass RX2 = some m.cls := findClass_of_methodNamed B.named
  have hlocks := B.notSynchronized
  subst hsz
  have hD := hD0.self (sz := s.heap.size)
  generalize hBe : va_A (wcat []) s.heap.size = B0 at hD hAm
  obtain ⟨A, hAe⟩ : ∃ A, A = va_A [] s.heap.size := ⟨_, rfl⟩
  rw [← hAe]
  have hA : ∀ q : Nat, s.heap.size ≤ q → A q := fun q h => by rw [hAe]; exact Or.inr h
  have hAB : ∀ q : Nat, A q → B0 q := fun q h => by rw [hAe] at h; rw [← hBe]; exact Or.inr (wnone h)
  have hS : va_S A s.heap s.heap [] := va_S.rf
  have hl := lv_entry ([.int (nI b), .int (nI w)]) (n := 4) (Nat.le_of_ble_eq_true rfl)
  rw [lg_entry_eq]
  generalize (lg_sl ([.int (nI b), .int (nI w)]) ++ List.replicate (4 - (lg_sl ([.int (nI b), .int (nI w)])).length) Slot.unset).toArray = ls at hl ⊢
  have hl : lv_has ls 4 [(0, .int (nI b)), (1, .int (nI w))] := hl
  have hq : (fX2_powerOf b w) = (fX2_powerOf_L4 b (w) 0 (nI 1)) := rfl
  refine lv_iconst (v := (nI 1)) hx hb dX2_powerOf_0 (by decide) ?_
  refine lv_istore_n (lv' := [(2, .int (nI 1)), (0, .int (nI b)), (1, .int (nI w))]) hx hb dX2_powerOf_1 rfl hl (by decide) rfl (fun ls hl => ?_)
  refine lv_iconst (v := (nI 0)) hx hb dX2_powerOf_2 (by decide) ?_
  refine lv_istore_n (lv' := [(3, .int (nI 0)), (2, .int (nI 1)), (0, .int (nI b)), (1, .int (nI w))]) hx hb dX2_powerOf_3 rfl hl (by decide) rfl (fun ls hl => ?_)
  refine wl (pc := 4) (σ := Nat × Int32) (fun n (i4, x2_4) H locs ls => (i4 + n = w) ∧ (fX2_powerOf b w) = fX2_powerOf_L4 b n i4 x2_4 ∧ va_P Γ.1 vwCl (wcat []) H ∧ va_S A s.heap H locs ∧ lv_has ls 4 [(3, .int (nI i4)), (2, .int x2_4), (0, .int (nI b)), (1, .int (nI w))]) ?_ ?_ (w) (0, (nI 1)) _ _ _ ⟨by omega, hq, hP, hS, lv_sub hl [0, 1, 2, 3] rfl⟩
  · intro ⟨i4, x2_4⟩ H locs ls h
    obtain ⟨hn4, hq, hP, hS, hl⟩ := h
    try dsimp only at hn4 hq hP hl
    replace hq : (fX2_powerOf b w) = (x2_4) := hq
    refine lv_iload_n hx hb dX2_powerOf_4 rfl (lv_at hl 0 rfl) ?_
    refine lv_iload_n hx hb dX2_powerOf_5 rfl (lv_at hl 3 rfl) ?_
    refine lv_icmp_ge (tgt := 23) hx hb dX2_powerOf_6 (by decide) (fun c_6 => ?_) (fun c_6 => absurd (nI_le (by omega) (by omega)) c_6)
    refine lv_iload_n hx hb dX2_powerOf_23 rfl (lv_at hl 1 rfl) ?_
    exact W.iret (v := x2_4) hx hb hr (fun t ht hW => eLI hS ht (by rw [hq])) hS.2.2 dX2_powerOf_24
  · intro n4 ih4 ⟨i4, x2_4⟩ H locs ls h
    obtain ⟨hn4, hq, hP, hS, hl⟩ := h
    try dsimp only at hn4 hq hP hl
    replace hq : (fX2_powerOf b w) = (fX2_powerOf_L4 b n4 (i4 + 1) ((x2_4 * (nI b)) - (x2_4 * (nI b)) / (nI 251) * (nI 251))) := hq
    refine lv_iload_n hx hb dX2_powerOf_4 rfl (lv_at hl 0 rfl) ?_
    refine lv_iload_n hx hb dX2_powerOf_5 rfl (lv_at hl 3 rfl) ?_
    refine lv_icmp_ge (tgt := 23) hx hb dX2_powerOf_6 (by decide) (fun c_6 => absurd c_6 (nI_ge (by omega) (by omega))) (fun c_6 => ?_)
    refine lv_iload_n hx hb dX2_powerOf_9 rfl (lv_at hl 1 rfl) ?_
    refine lv_iload_n hx hb dX2_powerOf_10 rfl (lv_at hl 2 rfl) ?_
    refine lv_imul hx hb dX2_powerOf_11 ?_
    refine lv_sipush (v := (nI 251)) hx hb dX2_powerOf_12 (by decide) ?_
    refine lv_irem hx hb dX2_powerOf_15 (by decide) ?_
    refine lv_istore_n (lv' := [(2, .int ((x2_4 * (nI b)) - (x2_4 * (nI b)) / (nI 251) * (nI 251))), (3, .int (nI i4)), (0, .int (nI b)), (1, .int (nI w))]) hx hb dX2_powerOf_16 rfl hl (by decide) rfl (fun ls hl => ?_)
    refine lv_iinc (v := (nI (i4 + 1))) (lv' := [(3, .int (nI (i4 + 1))), (2, .int ((x2_4 * (nI b)) - (x2_4 * (nI b)) / (nI 251) * (nI 251))), (0, .int (nI b)), (1, .int (nI w))]) hx hb dX2_powerOf_17 hl (k := 1) rfl (nI_1 _) (by decide) rfl (fun ls hl => ?_)
    refine lv_goto (tgt := 4) hx hb dX2_powerOf_20 (by decide) ?_
    exact ih4 ((i4 + 1), ((x2_4 * (nI b)) - (x2_4 * (nI b)) / (nI 251) * (nI 251))) H locs ls ⟨by omega, hq, hP, hS, lv_sub hl [0, 1, 2, 3] rfl⟩
def fX2_drawShares_L65 (k50 : Nat → (Nat → Nat → Int32) → Int32 × (Nat → Nat → Int32)) (i50 : Nat) (v0_50 : (Nat → Nat → Int32)) : Nat → Nat → (Nat → Nat → Int32) → Int32 × (Nat → Nat → Int32)
  | 0, i65, v0_65 => (k50 (i50 + 1) v0_65)
  | n65 + 1, i65, v0_65 => (fX2_drawShares_L65 k50 i50 v0_50 n65 (i65 + 1) (sR v0_65 5 (upd (v0_65 5) i65 ((((v0_65 5) i65) + ((fX2_draw v0_50).1 * (fX2_powerOf (i65 + 1) (i50)))) - (((v0_65 5) i65) + ((fX2_draw v0_50).1 * (fX2_powerOf (i65 + 1) (i50)))) / (nI 251) * (nI 251)))))
def fX2_drawShares_L50 : Nat → Nat → (Nat → Nat → Int32) → Int32 × (Nat → Nat → Int32)
  | 0, i50, v0_50 => ((fX2_livingCount (sS v0_50 8 ((v0_50 0 8) + (nI 1)))), (sS v0_50 8 ((v0_50 0 8) + (nI 1))))
  | n50 + 1, i50, v0_50 => (fX2_drawShares_L65 (fX2_drawShares_L50 n50) i50 v0_50 (8) 0 (fX2_draw v0_50).2)
def fX2_drawShares_L7 (q : Nat) : Nat → Nat → (Nat → Nat → Int32) → Int32 × (Nat → Nat → Int32)
  | 0, i7, v0_7 => (fX2_drawShares_L50 (q - 1) 1 v0_7)
  | n7 + 1, i7, v0_7 => (if (fX2_lives v0_7 (nI i7)) = 0 then (fX2_drawShares_L7 q n7 (i7 + 1) (sR (sR v0_7 4 (upd (v0_7 4) i7 (-1))) 5 (upd (v0_7 5) i7 (v0_7 0 5)))) else (fX2_drawShares_L7 q n7 (i7 + 1) (sR (sR v0_7 4 (upd (v0_7 4) i7 (nI i7))) 5 (upd (v0_7 5) i7 (v0_7 0 5)))))
def fX2_drawShares (q : Nat) (v : (Nat → Nat → Int32)) : Int32 × (Nat → Nat → Int32) := (fX2_drawShares_L7 q (8) 0 (sS v 2 (nI 0)))
set_option maxHeartbeats 4000000 in
set_option maxRecDepth 100000 in
theorem kX2_drawShares (l : Launch) (Γ : wG) (a : Nat → Nat) (q : Nat) (v : (Nat → Nat → Int32)) (hqv : v 0 6 = nI q) (hq1 : 1 ≤ q) (hq8 : q ≤ 8) : MI l Γ yX2_drawShares wsX2_drawShares ({ frames := 2, cells := 0, slots := 0, locals := 42 }) [.ref (a 0)] [plB Γ a v] [plB Γ a (fX2_drawShares q v).2] (fX2_drawShares q v).1 := by
  intro sz
  refine Met.ofW (cc := cX2_drawShares) (maxL := 4) (ret := (some .int)) (by decide) rfl ?_
  intro p e s m args below meth c s₁ B hml hv
  obtain ⟨rfl, hsz, hP, hK, hD0, hAm⟩ := hv
  have hx := B.exec
  have hb := B.bytes
  have hr := B.returns
  have hts := atoms_spec (ws := wsX2_drawShares) B.pre
  have hown : s.vm.findClass RX2 = some m.cls := findClass_of_methodNamed B.named
  have hlocks := B.notSynchronized
  subst hsz
  have hD := hD0.self (sz := s.heap.size)
  generalize hAe : va_A (wcat [plB Γ a v]) s.heap.size = A at hD hAm ⊢
  have hA : ∀ q : Nat, s.heap.size ≤ q → A q := fun q h => by rw [← hAe]; exact Or.inr h
  have hAB : ∀ q : Nat, A q → A q := fun _ h => h
  have hS : va_S A s.heap s.heap [] := va_S.rf
  have hl := lv_entry ([.ref (a 0)]) (n := 4) (Nat.le_of_ble_eq_true rfl)
  rw [lg_entry_eq]
  generalize (lg_sl ([.ref (a 0)]) ++ List.replicate (4 - (lg_sl ([.ref (a 0)])).length) Slot.unset).toArray = ls at hl ⊢
  have hl : lv_has ls 4 [(0, .ref (a 0))] := hl
  have hi2 : ∀ w ∈ wsX20, w ∈ wsX2_drawShares := by decide +kernel
  have kf21 := hts (.fieldLink RX2 21 "CapsuleKeepers$Place" "owners" "[I") (by decide +kernel)
  have kf24 := hts (.fieldLink RX2 24 "CapsuleKeepers$Place" "values" "[I") (by decide +kernel)
  have kf40 := hts (.fieldLink RX2 40 "CapsuleKeepers$Place" "forged" "I") (by decide +kernel)
  have kf46 := hts (.fieldLink RX2 46 "CapsuleKeepers$Place" "key" "I") (by decide +kernel)
  have kf49 := hts (.fieldLink RX2 49 "CapsuleKeepers$Place" "quorum" "I") (by decide +kernel)
  have kf55 := hts (.fieldLink RX2 55 "CapsuleKeepers$Place" "dealings" "I") (by decide +kernel)
  have hq : (fX2_drawShares q v) = (fX2_drawShares_L7 q (8) 0 (sS v 2 (nI 0))) := rfl
  refine lv_aload_n hx hb dX2_drawShares_0 rfl (lv_at hl 0 rfl) ?_
  refine lv_iconst (v := (nI 0)) hx hb dX2_drawShares_1 (by decide) ?_
  refine va_put (D := Γ.1) (ci := 2) (v := .int (nI 0)) (ty := .int) (C := RX2) (T := TX2) (N := 16) hx hb hts hi2 tyX2 tyX2_ok nmX2 hown hK hP hD hS 0 rfl rfl 7 (by decide) kf40 (fun _ h9 => h9) rfl (by decide +kernel) rfl rfl (Nat.le_of_ble_eq_true rfl) dX2_drawShares_2 (fun H locs hP hD hS => ?_)
  have hP : va_P Γ.1 vwCl (wcat [plB Γ a (sS v 2 (nI 0))]) H := hP
  have hD : va_D A (wcat [plB Γ a (sS v 2 (nI 0))]) := hD
  refine lv_iconst (v := (nI 0)) hx hb dX2_drawShares_5 (by decide) ?_
  refine lv_istore_n (lv' := [(1, .int (nI 0)), (0, .ref (a 0))]) hx hb dX2_drawShares_6 rfl hl (by decide) rfl (fun ls hl => ?_)
  refine wl (pc := 7) (σ := Nat × (Nat → Nat → Int32)) (fun n (i7, v0_7) H locs ls => (i7 + n = 8 ∧ v0_7 0 6 = nI q) ∧ (fX2_drawShares q v) = fX2_drawShares_L7 q n i7 v0_7 ∧ va_P Γ.1 vwCl (wcat [plB Γ a v0_7]) H ∧ va_D A (wcat [plB Γ a v0_7]) ∧ va_S A s.heap H locs ∧ lv_has ls 4 [(1, .int (nI i7)), (0, .ref (a 0))]) ?_ ?_ (8) (0, (sS v 2 (nI 0))) _ _ _ ⟨⟨by omega, hqv⟩, hq, hP, hD, hS, lv_sub hl [0, 1] rfl⟩
  · intro ⟨i7, v0_7⟩ H locs ls h
    obtain ⟨hn7, hq, hP, hD, hS, hl⟩ := h
    try dsimp only at hn7 hq hP hD hl
    obtain ⟨hn7, hv7⟩ := hn7
    replace hq : (fX2_drawShares q v) = (fX2_drawShares_L50 (q - 1) 1 v0_7) := hq
    refine lv_iload_n hx hb dX2_drawShares_7 rfl (lv_at hl 0 rfl) ?_
    refine lv_bipush (v := (nI 8)) hx hb dX2_drawShares_8 (by decide) ?_
    refine lv_icmp_ge (tgt := 48) hx hb dX2_drawShares_10 (by decide) (fun c_10 => ?_) (fun c_10 => absurd (nI_le (by omega) (by omega)) c_10)
    refine lv_iconst (v := (nI 1)) hx hb dX2_drawShares_48 (by decide) ?_
    refine lv_istore_n (lv' := [(1, .int (nI 1)), (0, .ref (a 0))]) hx hb dX2_drawShares_49 rfl hl (by decide) rfl (fun ls hl => ?_)
    refine wl (pc := 50) (σ := Nat × (Nat → Nat → Int32)) (fun n (i50, v0_50) H locs ls => (i50 + n = q ∧ v0_50 0 6 = nI q) ∧ (fX2_drawShares q v) = fX2_drawShares_L50 n i50 v0_50 ∧ va_P Γ.1 vwCl (wcat [plB Γ a v0_50]) H ∧ va_D A (wcat [plB Γ a v0_50]) ∧ va_S A s.heap H locs ∧ lv_has ls 4 [(1, .int (nI i50)), (0, .ref (a 0))]) ?_ ?_ (q - 1) (1, v0_7) _ _ _ ⟨⟨by omega, hv7⟩, hq, hP, hD, hS, lv_sub hl [0, 1] rfl⟩
    · intro ⟨i50, v0_50⟩ H locs ls h
      obtain ⟨hn50, hq, hP, hD, hS, hl⟩ := h
      try dsimp only at hn50 hq hP hD hl
      obtain ⟨hn50, hv50⟩ := hn50
      replace hq : (fX2_drawShares q v) = ((fX2_livingCount (sS v0_50 8 ((v0_50 0 8) + (nI 1)))), (sS v0_50 8 ((v0_50 0 8) + (nI 1)))) := hq
      refine lv_iload_n hx hb dX2_drawShares_50 rfl (lv_at hl 0 rfl) ?_
      refine lv_aload_n hx hb dX2_drawShares_51 rfl (lv_at hl 1 rfl) ?_
      refine va_get (D := Γ.1) (ci := 2) (v := .int (v0_50 0 6)) (C := RX2) (T := TX2) (N := 16) hx hb hts hi2 hown hK hP 0 rfl rfl 11 (by decide) kf49 (fun _ h9 => h9) rfl dX2_drawShares_52 ?_
      refine lv_eqi (y := (nI q)) (hv50) ?_
      refine lv_icmp_ge (tgt := 109) hx hb dX2_drawShares_55 (by decide) (fun c_55 => ?_) (fun c_55 => absurd (nI_le (by omega) (by omega)) c_55)
      refine lv_aload_n hx hb dX2_drawShares_109 rfl (lv_at hl 1 rfl) ?_
      refine lv_dup hx hb dX2_drawShares_110 rfl ?_
      refine va_get (D := Γ.1) (ci := 2) (v := .int (v0_50 0 8)) (C := RX2) (T := TX2) (N := 16) hx hb hts hi2 hown hK hP 0 rfl rfl 13 (by decide) kf55 (fun _ h9 => h9) rfl dX2_drawShares_111 ?_
      refine lv_iconst (v := (nI 1)) hx hb dX2_drawShares_114 (by decide) ?_
      refine lv_iadd hx hb dX2_drawShares_115 ?_
      refine va_put (D := Γ.1) (ci := 2) (v := .int ((v0_50 0 8) + (nI 1))) (ty := .int) (C := RX2) (T := TX2) (N := 16) hx hb hts hi2 tyX2 tyX2_ok nmX2 hown hK hP hD hS 0 rfl rfl 13 (by decide) kf55 (fun _ h9 => h9) rfl (by decide +kernel) rfl rfl (Nat.le_of_ble_eq_true rfl) dX2_drawShares_116 (fun H locs hP hD hS => ?_)
      have hP : va_P Γ.1 vwCl (wcat [plB Γ a (sS v0_50 8 ((v0_50 0 8) + (nI 1)))]) H := hP
      have hD : va_D A (wcat [plB Γ a (sS v0_50 8 ((v0_50 0 8) + (nI 1)))]) := hD
      refine lv_aload_n hx hb dX2_drawShares_119 rfl (lv_at hl 1 rfl) ?_
      refine cLI (va_runV (As := []) (rest := []) ⟨hx, hb, hml, hown, hts⟩ ((kX2_livingCount l Γ a (sS v0_50 8 ((v0_50 0 8) + (nI 1)))) _) (cwV 0 hts gX2_drawShares_X2_livingCount rfl rfl rfl (by decide +kernel) ⟨Nat.le_of_ble_eq_true rfl, Nat.le_of_ble_eq_true rfl⟩) ⟨wPre_blind, va_recv hK hP (ci := 2) (q0 := 0) rfl rfl, wPre_mk hP hD hK hS hA hAB hAm [0] rfl rfl⟩ rfl rfl hl.1 rfl (lv_room (Nat.le_of_ble_eq_true rfl)) dX2_drawShares_120 ⟨Nat.zero_le _, Nat.zero_le _⟩) hP hS hA (fun H locs hP hS => ?_)
      exact W.iret (v := (fX2_livingCount (sS v0_50 8 ((v0_50 0 8) + (nI 1))))) hx hb hr (fun t ht hW => eMI (by rw [hq]; exact hP) hS ht (by rw [hq])) hS.2.2 dX2_drawShares_123
    · intro n50 ih50 ⟨i50, v0_50⟩ H locs ls h
      obtain ⟨hn50, hq, hP, hD, hS, hl⟩ := h
      try dsimp only at hn50 hq hP hD hl
      obtain ⟨hn50, hv50⟩ := hn50
      replace hq : (fX2_drawShares q v) = (fX2_drawShares_L65 (fX2_drawShares_L50 n50) i50 v0_50 (8) 0 (fX2_draw v0_50).2) := hq
      refine lv_iload_n hx hb dX2_drawShares_50 rfl (lv_at hl 0 rfl) ?_
      refine lv_aload_n hx hb dX2_drawShares_51 rfl (lv_at hl 1 rfl) ?_
      refine va_get (D := Γ.1) (ci := 2) (v := .int (v0_50 0 6)) (C := RX2) (T := TX2) (N := 16) hx hb hts hi2 hown hK hP 0 rfl rfl 11 (by decide) kf49 (fun _ h9 => h9) rfl dX2_drawShares_52 ?_
      refine lv_eqi (y := (nI q)) (hv50) ?_
      refine lv_icmp_ge (tgt := 109) hx hb dX2_drawShares_55 (by decide) (fun c_55 => absurd c_55 (nI_ge (by omega) (by omega))) (fun c_55 => ?_)
      refine lv_aload_n hx hb dX2_drawShares_58 rfl (lv_at hl 1 rfl) ?_
      refine cMI (va_runV (As := []) (rest := []) ⟨hx, hb, hml, hown, hts⟩ ((kX2_draw l Γ a v0_50) _) (cwV 0 hts gX2_drawShares_X2_draw rfl rfl rfl (by decide +kernel) ⟨Nat.le_of_ble_eq_true rfl, Nat.le_of_ble_eq_true rfl⟩) ⟨wPre_blind, va_recv hK hP (ci := 2) (q0 := 0) rfl rfl, wPre_mk hP hD hK hS hA hAB hAm [0] rfl rfl⟩ rfl rfl hl.1 rfl (lv_room (Nat.le_of_ble_eq_true rfl)) dX2_drawShares_59 ⟨Nat.zero_le _, Nat.zero_le _⟩) hP hD hS hA [0] rfl rfl (bs' := [plB Γ a (fX2_draw v0_50).2]) rfl (fun H locs hP hD hS => ?_)
      refine lv_istore_n (lv' := [(2, .int (fX2_draw v0_50).1), (1, .int (nI i50)), (0, .ref (a 0))]) hx hb dX2_drawShares_62 rfl hl (by decide) rfl (fun ls hl => ?_)
      refine lv_iconst (v := (nI 0)) hx hb dX2_drawShares_63 (by decide) ?_
      refine lv_istore_n (lv' := [(3, .int (nI 0)), (2, .int (fX2_draw v0_50).1), (1, .int (nI i50)), (0, .ref (a 0))]) hx hb dX2_drawShares_64 rfl hl (by decide) rfl (fun ls hl => ?_)
      obtain ⟨k50, ek50⟩ : ∃ k, k = (fX2_drawShares_L50 n50) := ⟨_, rfl⟩
      replace hq : (fX2_drawShares q v) = (fX2_drawShares_L65 k50 i50 v0_50 (8) 0 (fX2_draw v0_50).2) := hq.trans (by rw [ek50])
      refine wl (pc := 65) (σ := Nat × (Nat → Nat → Int32)) (fun n (i65, v0_65) H locs ls => (i65 + n = 8 ∧ v0_65 0 6 = nI q) ∧ (fX2_drawShares q v) = fX2_drawShares_L65 k50 i50 v0_50 n i65 v0_65 ∧ va_P Γ.1 vwCl (wcat [plB Γ a v0_65]) H ∧ va_D A (wcat [plB Γ a v0_65]) ∧ va_S A s.heap H locs ∧ lv_has ls 4 [(3, .int (nI i65)), (2, .int (fX2_draw v0_50).1), (1, .int (nI i50)), (0, .ref (a 0))]) ?_ ?_ (8) (0, (fX2_draw v0_50).2) _ _ _ ⟨⟨by omega, hv50⟩, hq, hP, hD, hS, lv_sub hl [0, 1, 2, 3] rfl⟩
      · intro ⟨i65, v0_65⟩ H locs ls h
        obtain ⟨hn65, hq, hP, hD, hS, hl⟩ := h
        try dsimp only at hn65 hq hP hD hl
        obtain ⟨hn65, hv65⟩ := hn65
        replace hq : (fX2_drawShares q v) = (k50 (i50 + 1) v0_65) := hq
        refine lv_iload_n hx hb dX2_drawShares_65 rfl (lv_at hl 0 rfl) ?_
        refine lv_bipush (v := (nI 8)) hx hb dX2_drawShares_66 (by decide) ?_
        refine lv_icmp_ge (tgt := 103) hx hb dX2_drawShares_68 (by decide) (fun c_68 => ?_) (fun c_68 => absurd (nI_le (by omega) (by omega)) c_68)
        refine lv_iinc (v := (nI (i50 + 1))) (lv' := [(1, .int (nI (i50 + 1))), (3, .int (nI i65)), (2, .int (fX2_draw v0_50).1), (0, .ref (a 0))]) hx hb dX2_drawShares_103 hl (k := 2) rfl (nI_1 _) (by decide) rfl (fun ls hl => ?_)
        refine lv_goto (tgt := 50) hx hb dX2_drawShares_106 (by decide) ?_
        exact ih50 ((i50 + 1), v0_65) H locs ls ⟨⟨by omega, hv65⟩, (hq.trans (by rw [ek50])), hP, hD, hS, lv_sub hl [0, 3] rfl⟩
      · intro n65 ih65 ⟨i65, v0_65⟩ H locs ls h
        obtain ⟨hn65, hq, hP, hD, hS, hl⟩ := h
        try dsimp only at hn65 hq hP hD hl
        obtain ⟨hn65, hv65⟩ := hn65
        replace hq : (fX2_drawShares q v) = (fX2_drawShares_L65 k50 i50 v0_50 n65 (i65 + 1) (sR v0_65 5 (upd (v0_65 5) i65 ((((v0_65 5) i65) + ((fX2_draw v0_50).1 * (fX2_powerOf (i65 + 1) (i50)))) - (((v0_65 5) i65) + ((fX2_draw v0_50).1 * (fX2_powerOf (i65 + 1) (i50)))) / (nI 251) * (nI 251))))) := hq
        refine lv_iload_n hx hb dX2_drawShares_65 rfl (lv_at hl 0 rfl) ?_
        refine lv_bipush (v := (nI 8)) hx hb dX2_drawShares_66 (by decide) ?_
        refine lv_icmp_ge (tgt := 103) hx hb dX2_drawShares_68 (by decide) (fun c_68 => absurd c_68 (nI_ge (by omega) (by omega))) (fun c_68 => ?_)
        refine lv_aload_n hx hb dX2_drawShares_71 rfl (lv_at hl 3 rfl) ?_
        refine va_get (D := Γ.1) (ci := 2) (v := .ref (a 5)) (C := RX2) (T := TX2) (N := 16) hx hb hts hi2 hown hK hP 0 rfl rfl 6 (by decide) kf24 (fun _ h9 => h9) rfl dX2_drawShares_72 ?_
        refine lv_iload_n hx hb dX2_drawShares_75 rfl (lv_at hl 0 rfl) ?_
        refine lv_aload_n hx hb dX2_drawShares_76 rfl (lv_at hl 3 rfl) ?_
        refine va_get (D := Γ.1) (ci := 2) (v := .ref (a 5)) (C := RX2) (T := TX2) (N := 16) hx hb hts hi2 hown hK hP 0 rfl rfl 6 (by decide) kf24 (fun _ h9 => h9) rfl dX2_drawShares_77 ?_
        refine lv_iload_n hx hb dX2_drawShares_80 rfl (lv_at hl 0 rfl) ?_
        refine va_iald_n (f := (v0_65 5)) hx hb hK hP 5 0 rfl rfl (by omega) (Nat.le_of_ble_eq_true rfl) dX2_drawShares_81 ?_
        refine lv_iload_n hx hb dX2_drawShares_82 rfl (lv_at hl 1 rfl) ?_
        refine lv_iload_n hx hb dX2_drawShares_83 rfl (lv_at hl 0 rfl) ?_
        refine lv_iconst (v := (nI 1)) hx hb dX2_drawShares_84 (by decide) ?_
        refine lv_iadd hx hb dX2_drawShares_85 ?_
        refine lv_eqi (y := (nI (i65 + 1))) (nI_add _ _) ?_
        refine lv_iload_n hx hb dX2_drawShares_86 rfl (lv_at hl 2 rfl) ?_
        refine cLI (va_runS (As := [.int (nI (i65 + 1)), .int (nI i50)]) (rest := [.int (fX2_draw v0_50).1, .int ((v0_65 5) i65), .int (nI i65), .ref (a 5)]) ⟨hx, hb, hml, hown, hts⟩ ((kX2_powerOf l Γ (i65 + 1) (i50) (by first | assumption | omega)) _) (va_cwS 2 hts gX2_drawShares_X2_powerOf rfl rfl rfl (by decide +kernel) ⟨Nat.le_of_ble_eq_true rfl, Nat.le_of_ble_eq_true rfl⟩) ⟨wPre_blind, wPre_mk hP hD hK hS hA hAB hAm [] rfl rfl⟩ rfl rfl hl.1 rfl (lv_room (Nat.le_of_ble_eq_true rfl)) dX2_drawShares_87 ⟨Nat.zero_le _, Nat.zero_le _⟩) hP hS hA (fun H locs hP hS => ?_)
        refine lv_imul hx hb dX2_drawShares_90 ?_
        refine lv_iadd hx hb dX2_drawShares_91 ?_
        refine lv_sipush (v := (nI 251)) hx hb dX2_drawShares_92 (by decide) ?_
        refine lv_irem hx hb dX2_drawShares_95 (by decide) ?_
        refine va_iast_n (f := (v0_65 5)) hx hb hK hP hD hS 5 0 rfl rfl (by omega) (Nat.le_of_ble_eq_true rfl) dX2_drawShares_96 (fun H locs hP hD hS => ?_)
        have hP : va_P Γ.1 vwCl (wcat [plB Γ a (sR v0_65 5 (upd (v0_65 5) i65 ((((v0_65 5) i65) + ((fX2_draw v0_50).1 * (fX2_powerOf (i65 + 1) (i50)))) - (((v0_65 5) i65) + ((fX2_draw v0_50).1 * (fX2_powerOf (i65 + 1) (i50)))) / (nI 251) * (nI 251))))]) H := hP
        have hD : va_D A (wcat [plB Γ a (sR v0_65 5 (upd (v0_65 5) i65 ((((v0_65 5) i65) + ((fX2_draw v0_50).1 * (fX2_powerOf (i65 + 1) (i50)))) - (((v0_65 5) i65) + ((fX2_draw v0_50).1 * (fX2_powerOf (i65 + 1) (i50)))) / (nI 251) * (nI 251))))]) := hD
        refine lv_iinc (v := (nI (i65 + 1))) (lv' := [(3, .int (nI (i65 + 1))), (2, .int (fX2_draw v0_50).1), (1, .int (nI i50)), (0, .ref (a 0))]) hx hb dX2_drawShares_97 hl (k := 0) rfl (nI_1 _) (by decide) rfl (fun ls hl => ?_)
        refine lv_goto (tgt := 65) hx hb dX2_drawShares_100 (by decide) ?_
        exact ih65 ((i65 + 1), (sR v0_65 5 (upd (v0_65 5) i65 ((((v0_65 5) i65) + ((fX2_draw v0_50).1 * (fX2_powerOf (i65 + 1) (i50)))) - (((v0_65 5) i65) + ((fX2_draw v0_50).1 * (fX2_powerOf (i65 + 1) (i50)))) / (nI 251) * (nI 251))))) H locs ls ⟨⟨by omega, hv65⟩, hq, hP, hD, hS, lv_sub hl [0, 1, 2, 3] rfl⟩
  · intro n7 ih7 ⟨i7, v0_7⟩ H locs ls h
    obtain ⟨hn7, hq, hP, hD, hS, hl⟩ := h
    try dsimp only at hn7 hq hP hD hl
    obtain ⟨hn7, hv7⟩ := hn7
    replace hq : (fX2_drawShares q v) = (if (fX2_lives v0_7 (nI i7)) = 0 then (fX2_drawShares_L7 q n7 (i7 + 1) (sR (sR v0_7 4 (upd (v0_7 4) i7 (-1))) 5 (upd (v0_7 5) i7 (v0_7 0 5)))) else (fX2_drawShares_L7 q n7 (i7 + 1) (sR (sR v0_7 4 (upd (v0_7 4) i7 (nI i7))) 5 (upd (v0_7 5) i7 (v0_7 0 5))))) := hq
    refine lv_iload_n hx hb dX2_drawShares_7 rfl (lv_at hl 0 rfl) ?_
    refine lv_bipush (v := (nI 8)) hx hb dX2_drawShares_8 (by decide) ?_
    refine lv_icmp_ge (tgt := 48) hx hb dX2_drawShares_10 (by decide) (fun c_10 => absurd c_10 (nI_ge (by omega) (by omega))) (fun c_10 => ?_)
    refine lv_aload_n hx hb dX2_drawShares_13 rfl (lv_at hl 1 rfl) ?_
    refine va_get (D := Γ.1) (ci := 2) (v := .ref (a 4)) (C := RX2) (T := TX2) (N := 16) hx hb hts hi2 hown hK hP 0 rfl rfl 5 (by decide) kf21 (fun _ h9 => h9) rfl dX2_drawShares_14 ?_
    refine lv_iload_n hx hb dX2_drawShares_17 rfl (lv_at hl 0 rfl) ?_
    refine lv_aload_n hx hb dX2_drawShares_18 rfl (lv_at hl 1 rfl) ?_
    refine lv_iload_n hx hb dX2_drawShares_19 rfl (lv_at hl 0 rfl) ?_
    refine cLI (va_runV (As := [.int (nI i7)]) (rest := [.int (nI i7), .ref (a 4)]) ⟨hx, hb, hml, hown, hts⟩ ((kX2_lives l Γ a v0_7 (nI i7)) _) (cwV 1 hts gX2_drawShares_X2_lives rfl rfl rfl (by decide +kernel) ⟨Nat.le_of_ble_eq_true rfl, Nat.le_of_ble_eq_true rfl⟩) ⟨wPre_blind, va_recv hK hP (ci := 2) (q0 := 0) rfl rfl, wPre_mk hP hD hK hS hA hAB hAm [0] rfl rfl⟩ rfl rfl hl.1 rfl (lv_room (Nat.le_of_ble_eq_true rfl)) dX2_drawShares_20 ⟨Nat.zero_le _, Nat.zero_le _⟩) hP hS hA (fun H locs hP hS => ?_)
    refine lv_if_eq (tgt := 30) hx hb dX2_drawShares_23 (by decide) (fun c_1 => ?_) (fun c_1 => ?_)
    · have hq := hq.trans (if_pos c_1)
      refine lv_iconst (v := (-1)) hx hb dX2_drawShares_30 (by decide) ?_
      refine va_iast_n (f := (v0_7 4)) hx hb hK hP hD hS 4 0 rfl rfl (by omega) (Nat.le_of_ble_eq_true rfl) dX2_drawShares_31 (fun H locs hP hD hS => ?_)
      have hP : va_P Γ.1 vwCl (wcat [plB Γ a (sR v0_7 4 (upd (v0_7 4) i7 (-1)))]) H := hP
      have hD : va_D A (wcat [plB Γ a (sR v0_7 4 (upd (v0_7 4) i7 (-1)))]) := hD
      refine lv_aload_n hx hb dX2_drawShares_32 rfl (lv_at hl 1 rfl) ?_
      refine va_get (D := Γ.1) (ci := 2) (v := .ref (a 5)) (C := RX2) (T := TX2) (N := 16) hx hb hts hi2 hown hK hP 0 rfl rfl 6 (by decide) kf24 (fun _ h9 => h9) rfl dX2_drawShares_33 ?_
      refine lv_iload_n hx hb dX2_drawShares_36 rfl (lv_at hl 0 rfl) ?_
      refine lv_aload_n hx hb dX2_drawShares_37 rfl (lv_at hl 1 rfl) ?_
      refine va_get (D := Γ.1) (ci := 2) (v := .int (v0_7 0 5)) (C := RX2) (T := TX2) (N := 16) hx hb hts hi2 hown hK hP 0 rfl rfl 10 (by decide) kf46 (fun _ h9 => h9) rfl dX2_drawShares_38 ?_
      refine va_iast_n (f := (v0_7 5)) hx hb hK hP hD hS 5 0 rfl rfl (by omega) (Nat.le_of_ble_eq_true rfl) dX2_drawShares_41 (fun H locs hP hD hS => ?_)
      have hP : va_P Γ.1 vwCl (wcat [plB Γ a (sR (sR v0_7 4 (upd (v0_7 4) i7 (-1))) 5 (upd (v0_7 5) i7 (v0_7 0 5)))]) H := hP
      have hD : va_D A (wcat [plB Γ a (sR (sR v0_7 4 (upd (v0_7 4) i7 (-1))) 5 (upd (v0_7 5) i7 (v0_7 0 5)))]) := hD
      refine lv_iinc (v := (nI (i7 + 1))) (lv' := [(1, .int (nI (i7 + 1))), (0, .ref (a 0))]) hx hb dX2_drawShares_42 hl (k := 0) rfl (nI_1 _) (by decide) rfl (fun ls hl => ?_)
      refine lv_goto (tgt := 7) hx hb dX2_drawShares_45 (by decide) ?_
      exact ih7 ((i7 + 1), (sR (sR v0_7 4 (upd (v0_7 4) i7 (-1))) 5 (upd (v0_7 5) i7 (v0_7 0 5)))) H locs ls ⟨⟨by omega, hv7⟩, hq, hP, hD, hS, lv_sub hl [0, 1] rfl⟩
    · have hq := hq.trans (if_neg c_1)
      refine lv_iload_n hx hb dX2_drawShares_26 rfl (lv_at hl 0 rfl) ?_
      refine lv_goto (tgt := 31) hx hb dX2_drawShares_27 (by decide) ?_
      refine va_iast_n (f := (v0_7 4)) hx hb hK hP hD hS 4 0 rfl rfl (by omega) (Nat.le_of_ble_eq_true rfl) dX2_drawShares_31 (fun H locs hP hD hS => ?_)
      have hP : va_P Γ.1 vwCl (wcat [plB Γ a (sR v0_7 4 (upd (v0_7 4) i7 (nI i7)))]) H := hP
      have hD : va_D A (wcat [plB Γ a (sR v0_7 4 (upd (v0_7 4) i7 (nI i7)))]) := hD
      refine lv_aload_n hx hb dX2_drawShares_32 rfl (lv_at hl 1 rfl) ?_
      refine va_get (D := Γ.1) (ci := 2) (v := .ref (a 5)) (C := RX2) (T := TX2) (N := 16) hx hb hts hi2 hown hK hP 0 rfl rfl 6 (by decide) kf24 (fun _ h9 => h9) rfl dX2_drawShares_33 ?_
      refine lv_iload_n hx hb dX2_drawShares_36 rfl (lv_at hl 0 rfl) ?_
      refine lv_aload_n hx hb dX2_drawShares_37 rfl (lv_at hl 1 rfl) ?_
      refine va_get (D := Γ.1) (ci := 2) (v := .int (v0_7 0 5)) (C := RX2) (T := TX2) (N := 16) hx hb hts hi2 hown hK hP 0 rfl rfl 10 (by decide) kf46 (fun _ h9 => h9) rfl dX2_drawShares_38 ?_
      refine va_iast_n (f := (v0_7 5)) hx hb hK hP hD hS 5 0 rfl rfl (by omega) (Nat.le_of_ble_eq_true rfl) dX2_drawShares_41 (fun H locs hP hD hS => ?_)
      have hP : va_P Γ.1 vwCl (wcat [plB Γ a (sR (sR v0_7 4 (upd (v0_7 4) i7 (nI i7))) 5 (upd (v0_7 5) i7 (v0_7 0 5)))]) H := hP
      have hD : va_D A (wcat [plB Γ a (sR (sR v0_7 4 (upd (v0_7 4) i7 (nI i7))) 5 (upd (v0_7 5) i7 (v0_7 0 5)))]) := hD
      refine lv_iinc (v := (nI (i7 + 1))) (lv' := [(1, .int (nI (i7 + 1))), (0, .ref (a 0))]) hx hb dX2_drawShares_42 hl (k := 0) rfl (nI_1 _) (by decide) rfl (fun ls hl => ?_)
      refine lv_goto (tgt := 7) hx hb dX2_drawShares_45 (by decide) ?_
      exact ih7 ((i7 + 1), (sR (sR v0_7 4 (upd (v0_7 4) i7 (nI i7))) 5 (upd (v0_7 5) i7 (v0_7 0 5)))) H locs ls ⟨⟨by omega, hv7⟩, hq, hP, hD, hS, lv_sub hl [0, 1] rfl⟩
def fX2_countTry_L2 (g : Int32) (op : Int32) : Nat → Nat → (Nat → Nat → Int32) → (Nat → Nat → Int32)
  | 0, i2, v0_2 => (if op = 0 then ((sS v0_2 9 ((v0_2 0 9) + (nI 1)))) else ((sS v0_2 4 (nI 2))))
  | n2 + 1, i2, v0_2 => (fX2_countTry_L2 g op n2 (i2 + 1) (sR v0_2 3 (upd (v0_2 3) i2 (((v0_2 3) i2) + ((g >>> ((nI i2) &&& 31)) &&& (nI 1))))))
def fX2_countTry (v : (Nat → Nat → Int32)) (g : Int32) (op : Int32) : (Nat → Nat → Int32) := (fX2_countTry_L2 g op (8) 0 v)
set_option maxHeartbeats 4000000 in
set_option maxRecDepth 100000 in
theorem kX2_countTry (l : Launch) (Γ : wG) (a : Nat → Nat) (v : (Nat → Nat → Int32)) (g : Int32) (op : Int32) : MV l Γ yX2_countTry wsX2_countTry ({ frames := 0, cells := 0, slots := 0, locals := 0 }) [.ref (a 0), .int g, .int op] [plB Γ a v] [plB Γ a (fX2_countTry v g op)] := by
  intro sz
  refine Met.ofW (cc := cX2_countTry) (maxL := 4) (ret := none) (by decide) rfl ?_
  intro p e s m args below meth c s₁ B hml hv
  obtain ⟨rfl, hsz, hP, hK, hD0, hAm⟩ := hv
  have hx := B.exec
  have hb := B.bytes
  have hr := B.returns
  have hts := atoms_spec (ws := wsX2_countTry) B.pre
  have hown : s.vm.findClass RX2 = some m.cls := findClass_of_methodNamed B.named
  have hlocks := B.notSynchronized
  subst hsz
  have hD := hD0.self (sz := s.heap.size)
  generalize hAe : va_A (wcat [plB Γ a v]) s.heap.size = A at hD hAm ⊢
  have hA : ∀ q : Nat, s.heap.size ≤ q → A q := fun q h => by rw [← hAe]; exact Or.inr h
  have hAB : ∀ q : Nat, A q → A q := fun _ h => h
  have hS : va_S A s.heap s.heap [] := va_S.rf
  have hl := lv_entry ([.ref (a 0), .int g, .int op]) (n := 4) (Nat.le_of_ble_eq_true rfl)
  rw [lg_entry_eq]
  generalize (lg_sl ([.ref (a 0), .int g, .int op]) ++ List.replicate (4 - (lg_sl ([.ref (a 0), .int g, .int op])).length) Slot.unset).toArray = ls at hl ⊢
  have hl : lv_has ls 4 [(0, .ref (a 0)), (1, .int g), (2, .int op)] := hl
  have hi2 : ∀ w ∈ wsX20, w ∈ wsX2_countTry := by decide +kernel
  have kf18 := hts (.fieldLink RX2 18 "CapsuleKeepers$Place" "tries" "[I") (by decide +kernel)
  have kf27 := hts (.fieldLink RX2 27 "CapsuleKeepers$Place" "stage" "I") (by decide +kernel)
  have kf58 := hts (.fieldLink RX2 58 "CapsuleKeepers$Place" "refusals" "I") (by decide +kernel)
  have hq : (fX2_countTry v g op) = (fX2_countTry_L2 g op (8) 0 v) := rfl
  refine lv_iconst (v := (nI 0)) hx hb dX2_countTry_0 (by decide) ?_
  refine lv_istore_n (lv' := [(3, .int (nI 0)), (0, .ref (a 0)), (1, .int g), (2, .int op)]) hx hb dX2_countTry_1 rfl hl (by decide) rfl (fun ls hl => ?_)
  refine wl (pc := 2) (σ := Nat × (Nat → Nat → Int32)) (fun n (i2, v0_2) H locs ls => (i2 + n = 8) ∧ (fX2_countTry v g op) = fX2_countTry_L2 g op n i2 v0_2 ∧ va_P Γ.1 vwCl (wcat [plB Γ a v0_2]) H ∧ va_D A (wcat [plB Γ a v0_2]) ∧ va_S A s.heap H locs ∧ lv_has ls 4 [(3, .int (nI i2)), (0, .ref (a 0)), (1, .int g), (2, .int op)]) ?_ ?_ (8) (0, v) _ _ _ ⟨by omega, hq, hP, hD, hS, lv_sub hl [0, 1, 2, 3] rfl⟩
  · intro ⟨i2, v0_2⟩ H locs ls h
    obtain ⟨hn2, hq, hP, hD, hS, hl⟩ := h
    try dsimp only at hn2 hq hP hD hl
    replace hq : (fX2_countTry v g op) = (if op = 0 then ((sS v0_2 9 ((v0_2 0 9) + (nI 1)))) else ((sS v0_2 4 (nI 2)))) := hq
    refine lv_iload_n hx hb dX2_countTry_2 rfl (lv_at hl 0 rfl) ?_
    refine lv_bipush (v := (nI 8)) hx hb dX2_countTry_3 (by decide) ?_
    refine lv_icmp_ge (tgt := 28) hx hb dX2_countTry_5 (by decide) (fun c_5 => ?_) (fun c_5 => absurd (nI_le (by omega) (by omega)) c_5)
    refine lv_iload_n hx hb dX2_countTry_28 rfl (lv_at hl 3 rfl) ?_
    refine lv_if_eq (tgt := 40) hx hb dX2_countTry_29 (by decide) (fun c_1 => ?_) (fun c_1 => ?_)
    · have hq := hq.trans (if_pos c_1)
      refine lv_aload_n hx hb dX2_countTry_40 rfl (lv_at hl 1 rfl) ?_
      refine lv_dup hx hb dX2_countTry_41 rfl ?_
      refine va_get (D := Γ.1) (ci := 2) (v := .int (v0_2 0 9)) (C := RX2) (T := TX2) (N := 16) hx hb hts hi2 hown hK hP 0 rfl rfl 14 (by decide) kf58 (fun _ h9 => h9) rfl dX2_countTry_42 ?_
      refine lv_iconst (v := (nI 1)) hx hb dX2_countTry_45 (by decide) ?_
      refine lv_iadd hx hb dX2_countTry_46 ?_
      refine va_put (D := Γ.1) (ci := 2) (v := .int ((v0_2 0 9) + (nI 1))) (ty := .int) (C := RX2) (T := TX2) (N := 16) hx hb hts hi2 tyX2 tyX2_ok nmX2 hown hK hP hD hS 0 rfl rfl 14 (by decide) kf58 (fun _ h9 => h9) rfl (by decide +kernel) rfl rfl (Nat.le_of_ble_eq_true rfl) dX2_countTry_47 (fun H locs hP hD hS => ?_)
      have hP : va_P Γ.1 vwCl (wcat [plB Γ a (sS v0_2 9 ((v0_2 0 9) + (nI 1)))]) H := hP
      have hD : va_D A (wcat [plB Γ a (sS v0_2 9 ((v0_2 0 9) + (nI 1)))]) := hD
      exact W.vret hx hb hr (fun t ht hW => eMV (by rw [hq]; exact hP) hS ht) hS.2.2 dX2_countTry_50
    · have hq := hq.trans (if_neg c_1)
      refine lv_aload_n hx hb dX2_countTry_32 rfl (lv_at hl 1 rfl) ?_
      refine lv_iconst (v := (nI 2)) hx hb dX2_countTry_33 (by decide) ?_
      refine va_put (D := Γ.1) (ci := 2) (v := .int (nI 2)) (ty := .int) (C := RX2) (T := TX2) (N := 16) hx hb hts hi2 tyX2 tyX2_ok nmX2 hown hK hP hD hS 0 rfl rfl 9 (by decide) kf27 (fun _ h9 => h9) rfl (by decide +kernel) rfl rfl (Nat.le_of_ble_eq_true rfl) dX2_countTry_34 (fun H locs hP hD hS => ?_)
      have hP : va_P Γ.1 vwCl (wcat [plB Γ a (sS v0_2 4 (nI 2))]) H := hP
      have hD : va_D A (wcat [plB Γ a (sS v0_2 4 (nI 2))]) := hD
      refine lv_goto (tgt := 50) hx hb dX2_countTry_37 (by decide) ?_
      exact W.vret hx hb hr (fun t ht hW => eMV (by rw [hq]; exact hP) hS ht) hS.2.2 dX2_countTry_50
  · intro n2 ih2 ⟨i2, v0_2⟩ H locs ls h
    obtain ⟨hn2, hq, hP, hD, hS, hl⟩ := h
    try dsimp only at hn2 hq hP hD hl
    replace hq : (fX2_countTry v g op) = (fX2_countTry_L2 g op n2 (i2 + 1) (sR v0_2 3 (upd (v0_2 3) i2 (((v0_2 3) i2) + ((g >>> ((nI i2) &&& 31)) &&& (nI 1)))))) := hq
    refine lv_iload_n hx hb dX2_countTry_2 rfl (lv_at hl 0 rfl) ?_
    refine lv_bipush (v := (nI 8)) hx hb dX2_countTry_3 (by decide) ?_
    refine lv_icmp_ge (tgt := 28) hx hb dX2_countTry_5 (by decide) (fun c_5 => absurd c_5 (nI_ge (by omega) (by omega))) (fun c_5 => ?_)
    refine lv_aload_n hx hb dX2_countTry_8 rfl (lv_at hl 1 rfl) ?_
    refine va_get (D := Γ.1) (ci := 2) (v := .ref (a 3)) (C := RX2) (T := TX2) (N := 16) hx hb hts hi2 hown hK hP 0 rfl rfl 4 (by decide) kf18 (fun _ h9 => h9) rfl dX2_countTry_9 ?_
    refine lv_iload_n hx hb dX2_countTry_12 rfl (lv_at hl 0 rfl) ?_
    refine lv_dup2_11 hx hb dX2_countTry_13 rfl rfl ?_
    refine va_iald_n (f := (v0_2 3)) hx hb hK hP 3 0 rfl rfl (by omega) (Nat.le_of_ble_eq_true rfl) dX2_countTry_14 ?_
    refine lv_iload_n hx hb dX2_countTry_15 rfl (lv_at hl 2 rfl) ?_
    refine lv_iload_n hx hb dX2_countTry_16 rfl (lv_at hl 0 rfl) ?_
    refine lv_ishr hx hb dX2_countTry_17 ?_
    refine lv_iconst (v := (nI 1)) hx hb dX2_countTry_18 (by decide) ?_
    refine lv_iand hx hb dX2_countTry_19 ?_
    refine lv_iadd hx hb dX2_countTry_20 ?_
    refine va_iast_n (f := (v0_2 3)) hx hb hK hP hD hS 3 0 rfl rfl (by omega) (Nat.le_of_ble_eq_true rfl) dX2_countTry_21 (fun H locs hP hD hS => ?_)
    have hP : va_P Γ.1 vwCl (wcat [plB Γ a (sR v0_2 3 (upd (v0_2 3) i2 (((v0_2 3) i2) + ((g >>> ((nI i2) &&& 31)) &&& (nI 1)))))]) H := hP
    have hD : va_D A (wcat [plB Γ a (sR v0_2 3 (upd (v0_2 3) i2 (((v0_2 3) i2) + ((g >>> ((nI i2) &&& 31)) &&& (nI 1)))))]) := hD
    refine lv_iinc (v := (nI (i2 + 1))) (lv' := [(3, .int (nI (i2 + 1))), (0, .ref (a 0)), (1, .int g), (2, .int op)]) hx hb dX2_countTry_22 hl (k := 0) rfl (nI_1 _) (by decide) rfl (fun ls hl => ?_)
    refine lv_goto (tgt := 2) hx hb dX2_countTry_25 (by decide) ?_
    exact ih2 ((i2 + 1), (sR v0_2 3 (upd (v0_2 3) i2 (((v0_2 3) i2) + ((g >>> ((nI i2) &&& 31)) &&& (nI 1)))))) H locs ls ⟨by omega, hq, hP, hD, hS, lv_sub hl [0, 1, 2, 3] rfl⟩
def fX2_copyFrom_L18 (w : (Nat → Nat → Int32)) : Nat → Nat → (Nat → Nat → Int32) → (Nat → Nat → Int32)
  | 0, i18, v0_18 => ((sS (sS (sS (sS (sS (sS (sS (sS (sS v0_18 2 (w 0 2)) 3 (w 0 3)) 4 (w 0 4)) 5 (w 0 5)) 6 (w 0 6)) 7 (w 0 7)) 8 (w 0 8)) 9 (w 0 9)) 10 (w 0 10)))
  | n18 + 1, i18, v0_18 => (fX2_copyFrom_L18 w n18 (i18 + 1) (sR (sR (sR (sR (sR v0_18 1 (upd (v0_18 1) i18 ((w 1) i18))) 2 (upd (v0_18 2) i18 ((w 2) i18))) 3 (upd (v0_18 3) i18 ((w 3) i18))) 4 (upd (v0_18 4) i18 ((w 4) i18))) 5 (upd (v0_18 5) i18 ((w 5) i18))))
def fX2_copyFrom (v : (Nat → Nat → Int32)) (w : (Nat → Nat → Int32)) : (Nat → Nat → Int32) := (fX2_copyFrom_L18 w (8) 0 (sS (sS v 0 (w 0 0)) 1 (w 0 1)))
set_option maxHeartbeats 4000000 in
set_option maxRecDepth 100000 in
theorem kX2_copyFrom (l : Launch) (Γ : wG) (a : Nat → Nat) (b : Nat → Nat) (v : (Nat → Nat → Int32)) (w : (Nat → Nat → Int32)) : MV l Γ yX2_copyFrom wsX2_copyFrom ({ frames := 0, cells := 0, slots := 0, locals := 0 }) [.ref (a 0), .ref (b 0)] [plB Γ a v, plB Γ b w] [plB Γ a (fX2_copyFrom v w), plB Γ b w] := by
  intro sz
  refine Met.ofW (cc := cX2_copyFrom) (maxL := 3) (ret := none) (by decide) rfl ?_
  intro p e s m args below meth c s₁ B hml hv
  obtain ⟨rfl, hsz, hP, hK, hD0, hAm⟩ := hv
  have hx := B.exec
  have hb := B.bytes
  have hr := B.returns
  have hts := atoms_spec (ws := wsX2_copyFrom) B.pre
  have hown : s.vm.findClass RX2 = some m.cls := findClass_of_methodNamed B.named
  have hlocks := B.notSynchronized
  subst hsz
  have hD := hD0.self (sz := s.heap.size)
  generalize hAe : va_A (wcat [plB Γ a v, plB Γ b w]) s.heap.size = A at hD hAm ⊢
  have hA : ∀ q : Nat, s.heap.size ≤ q → A q := fun q h => by rw [← hAe]; exact Or.inr h
  have hAB : ∀ q : Nat, A q → A q := fun _ h => h
  have hS : va_S A s.heap s.heap [] := va_S.rf
  have hl := lv_entry ([.ref (a 0), .ref (b 0)]) (n := 3) (Nat.le_of_ble_eq_true rfl)
  rw [lg_entry_eq]
  generalize (lg_sl ([.ref (a 0), .ref (b 0)]) ++ List.replicate (3 - (lg_sl ([.ref (a 0), .ref (b 0)])).length) Slot.unset).toArray = ls at hl ⊢
  have hl : lv_has ls 3 [(0, .ref (a 0)), (1, .ref (b 0))] := hl
  have hi2 : ∀ w ∈ wsX20, w ∈ wsX2_copyFrom := by decide +kernel
  have kf15 := hts (.fieldLink RX2 15 "CapsuleKeepers$Place" "quarrels" "[I") (by decide +kernel)
  have kf18 := hts (.fieldLink RX2 18 "CapsuleKeepers$Place" "tries" "[I") (by decide +kernel)
  have kf21 := hts (.fieldLink RX2 21 "CapsuleKeepers$Place" "owners" "[I") (by decide +kernel)
  have kf24 := hts (.fieldLink RX2 24 "CapsuleKeepers$Place" "values" "[I") (by decide +kernel)
  have kf27 := hts (.fieldLink RX2 27 "CapsuleKeepers$Place" "stage" "I") (by decide +kernel)
  have kf31 := hts (.fieldLink RX2 31 "CapsuleKeepers$Place" "x" "I") (by decide +kernel)
  have kf34 := hts (.fieldLink RX2 34 "CapsuleKeepers$Place" "keepers" "I") (by decide +kernel)
  have kf37 := hts (.fieldLink RX2 37 "CapsuleKeepers$Place" "living" "I") (by decide +kernel)
  have kf40 := hts (.fieldLink RX2 40 "CapsuleKeepers$Place" "forged" "I") (by decide +kernel)
  have kf43 := hts (.fieldLink RX2 43 "CapsuleKeepers$Place" "day" "I") (by decide +kernel)
  have kf46 := hts (.fieldLink RX2 46 "CapsuleKeepers$Place" "key" "I") (by decide +kernel)
  have kf49 := hts (.fieldLink RX2 49 "CapsuleKeepers$Place" "quorum" "I") (by decide +kernel)
  have kf52 := hts (.fieldLink RX2 52 "CapsuleKeepers$Place" "date" "I") (by decide +kernel)
  have kf55 := hts (.fieldLink RX2 55 "CapsuleKeepers$Place" "dealings" "I") (by decide +kernel)
  have kf58 := hts (.fieldLink RX2 58 "CapsuleKeepers$Place" "refusals" "I") (by decide +kernel)
  have kf9 := hts (.fieldLink RX2 9 "CapsuleKeepers$Place" "heirs" "[I") (by decide +kernel)
  have hq : (fX2_copyFrom v w) = (fX2_copyFrom_L18 w (8) 0 (sS (sS v 0 (w 0 0)) 1 (w 0 1))) := rfl
  refine lv_aload_n hx hb dX2_copyFrom_0 rfl (lv_at hl 0 rfl) ?_
  refine lv_aload_n hx hb dX2_copyFrom_1 rfl (lv_at hl 1 rfl) ?_
  refine va_get (D := Γ.1) (ci := 2) (v := .int (w 0 0)) (C := RX2) (T := TX2) (N := 16) hx hb hts hi2 hown hK hP 6 rfl rfl 0 (by decide) kf34 (fun _ h9 => h9) rfl dX2_copyFrom_2 ?_
  refine va_put (D := Γ.1) (ci := 2) (v := .int (w 0 0)) (ty := .int) (C := RX2) (T := TX2) (N := 16) hx hb hts hi2 tyX2 tyX2_ok nmX2 hown hK hP hD hS 0 rfl rfl 0 (by decide) kf34 (fun _ h9 => h9) rfl (by decide +kernel) rfl rfl (Nat.le_of_ble_eq_true rfl) dX2_copyFrom_5 (fun H locs hP hD hS => ?_)
  have hP : va_P Γ.1 vwCl (wcat [plB Γ a (sS v 0 (w 0 0)), plB Γ b w]) H := hP
  have hD : va_D A (wcat [plB Γ a (sS v 0 (w 0 0)), plB Γ b w]) := hD
  refine lv_aload_n hx hb dX2_copyFrom_8 rfl (lv_at hl 0 rfl) ?_
  refine lv_aload_n hx hb dX2_copyFrom_9 rfl (lv_at hl 1 rfl) ?_
  refine va_get (D := Γ.1) (ci := 2) (v := .int (w 0 1)) (C := RX2) (T := TX2) (N := 16) hx hb hts hi2 hown hK hP 6 rfl rfl 1 (by decide) kf37 (fun _ h9 => h9) rfl dX2_copyFrom_10 ?_
  refine va_put (D := Γ.1) (ci := 2) (v := .int (w 0 1)) (ty := .int) (C := RX2) (T := TX2) (N := 16) hx hb hts hi2 tyX2 tyX2_ok nmX2 hown hK hP hD hS 0 rfl rfl 1 (by decide) kf37 (fun _ h9 => h9) rfl (by decide +kernel) rfl rfl (Nat.le_of_ble_eq_true rfl) dX2_copyFrom_13 (fun H locs hP hD hS => ?_)
  have hP : va_P Γ.1 vwCl (wcat [plB Γ a (sS (sS v 0 (w 0 0)) 1 (w 0 1)), plB Γ b w]) H := hP
  have hD : va_D A (wcat [plB Γ a (sS (sS v 0 (w 0 0)) 1 (w 0 1)), plB Γ b w]) := hD
  refine lv_iconst (v := (nI 0)) hx hb dX2_copyFrom_16 (by decide) ?_
  refine lv_istore_n (lv' := [(2, .int (nI 0)), (0, .ref (a 0)), (1, .ref (b 0))]) hx hb dX2_copyFrom_17 rfl hl (by decide) rfl (fun ls hl => ?_)
  refine wl (pc := 18) (σ := Nat × (Nat → Nat → Int32)) (fun n (i18, v0_18) H locs ls => (i18 + n = 8) ∧ (fX2_copyFrom v w) = fX2_copyFrom_L18 w n i18 v0_18 ∧ va_P Γ.1 vwCl (wcat [plB Γ a v0_18, plB Γ b w]) H ∧ va_D A (wcat [plB Γ a v0_18, plB Γ b w]) ∧ va_S A s.heap H locs ∧ lv_has ls 3 [(2, .int (nI i18)), (0, .ref (a 0)), (1, .ref (b 0))]) ?_ ?_ (8) (0, (sS (sS v 0 (w 0 0)) 1 (w 0 1))) _ _ _ ⟨by omega, hq, hP, hD, hS, lv_sub hl [0, 1, 2] rfl⟩
  · intro ⟨i18, v0_18⟩ H locs ls h
    obtain ⟨hn18, hq, hP, hD, hS, hl⟩ := h
    try dsimp only at hn18 hq hP hD hl
    replace hq : (fX2_copyFrom v w) = ((sS (sS (sS (sS (sS (sS (sS (sS (sS v0_18 2 (w 0 2)) 3 (w 0 3)) 4 (w 0 4)) 5 (w 0 5)) 6 (w 0 6)) 7 (w 0 7)) 8 (w 0 8)) 9 (w 0 9)) 10 (w 0 10))) := hq
    refine lv_iload_n hx hb dX2_copyFrom_18 rfl (lv_at hl 0 rfl) ?_
    refine lv_bipush (v := (nI 8)) hx hb dX2_copyFrom_19 (by decide) ?_
    refine lv_icmp_ge (tgt := 90) hx hb dX2_copyFrom_21 (by decide) (fun c_21 => ?_) (fun c_21 => absurd (nI_le (by omega) (by omega)) c_21)
    refine lv_aload_n hx hb dX2_copyFrom_90 rfl (lv_at hl 1 rfl) ?_
    refine lv_aload_n hx hb dX2_copyFrom_91 rfl (lv_at hl 2 rfl) ?_
    refine va_get (D := Γ.1) (ci := 2) (v := .int (w 0 2)) (C := RX2) (T := TX2) (N := 16) hx hb hts hi2 hown hK hP 6 rfl rfl 7 (by decide) kf40 (fun _ h9 => h9) rfl dX2_copyFrom_92 ?_
    refine va_put (D := Γ.1) (ci := 2) (v := .int (w 0 2)) (ty := .int) (C := RX2) (T := TX2) (N := 16) hx hb hts hi2 tyX2 tyX2_ok nmX2 hown hK hP hD hS 0 rfl rfl 7 (by decide) kf40 (fun _ h9 => h9) rfl (by decide +kernel) rfl rfl (Nat.le_of_ble_eq_true rfl) dX2_copyFrom_95 (fun H locs hP hD hS => ?_)
    have hP : va_P Γ.1 vwCl (wcat [plB Γ a (sS v0_18 2 (w 0 2)), plB Γ b w]) H := hP
    have hD : va_D A (wcat [plB Γ a (sS v0_18 2 (w 0 2)), plB Γ b w]) := hD
    refine lv_aload_n hx hb dX2_copyFrom_98 rfl (lv_at hl 1 rfl) ?_
    refine lv_aload_n hx hb dX2_copyFrom_99 rfl (lv_at hl 2 rfl) ?_
    refine va_get (D := Γ.1) (ci := 2) (v := .int (w 0 3)) (C := RX2) (T := TX2) (N := 16) hx hb hts hi2 hown hK hP 6 rfl rfl 8 (by decide) kf43 (fun _ h9 => h9) rfl dX2_copyFrom_100 ?_
    refine va_put (D := Γ.1) (ci := 2) (v := .int (w 0 3)) (ty := .int) (C := RX2) (T := TX2) (N := 16) hx hb hts hi2 tyX2 tyX2_ok nmX2 hown hK hP hD hS 0 rfl rfl 8 (by decide) kf43 (fun _ h9 => h9) rfl (by decide +kernel) rfl rfl (Nat.le_of_ble_eq_true rfl) dX2_copyFrom_103 (fun H locs hP hD hS => ?_)
    have hP : va_P Γ.1 vwCl (wcat [plB Γ a (sS (sS v0_18 2 (w 0 2)) 3 (w 0 3)), plB Γ b w]) H := hP
    have hD : va_D A (wcat [plB Γ a (sS (sS v0_18 2 (w 0 2)) 3 (w 0 3)), plB Γ b w]) := hD
    refine lv_aload_n hx hb dX2_copyFrom_106 rfl (lv_at hl 1 rfl) ?_
    refine lv_aload_n hx hb dX2_copyFrom_107 rfl (lv_at hl 2 rfl) ?_
    refine va_get (D := Γ.1) (ci := 2) (v := .int (w 0 4)) (C := RX2) (T := TX2) (N := 16) hx hb hts hi2 hown hK hP 6 rfl rfl 9 (by decide) kf27 (fun _ h9 => h9) rfl dX2_copyFrom_108 ?_
    refine va_put (D := Γ.1) (ci := 2) (v := .int (w 0 4)) (ty := .int) (C := RX2) (T := TX2) (N := 16) hx hb hts hi2 tyX2 tyX2_ok nmX2 hown hK hP hD hS 0 rfl rfl 9 (by decide) kf27 (fun _ h9 => h9) rfl (by decide +kernel) rfl rfl (Nat.le_of_ble_eq_true rfl) dX2_copyFrom_111 (fun H locs hP hD hS => ?_)
    have hP : va_P Γ.1 vwCl (wcat [plB Γ a (sS (sS (sS v0_18 2 (w 0 2)) 3 (w 0 3)) 4 (w 0 4)), plB Γ b w]) H := hP
    have hD : va_D A (wcat [plB Γ a (sS (sS (sS v0_18 2 (w 0 2)) 3 (w 0 3)) 4 (w 0 4)), plB Γ b w]) := hD
    refine lv_aload_n hx hb dX2_copyFrom_114 rfl (lv_at hl 1 rfl) ?_
    refine lv_aload_n hx hb dX2_copyFrom_115 rfl (lv_at hl 2 rfl) ?_
    refine va_get (D := Γ.1) (ci := 2) (v := .int (w 0 5)) (C := RX2) (T := TX2) (N := 16) hx hb hts hi2 hown hK hP 6 rfl rfl 10 (by decide) kf46 (fun _ h9 => h9) rfl dX2_copyFrom_116 ?_
    refine va_put (D := Γ.1) (ci := 2) (v := .int (w 0 5)) (ty := .int) (C := RX2) (T := TX2) (N := 16) hx hb hts hi2 tyX2 tyX2_ok nmX2 hown hK hP hD hS 0 rfl rfl 10 (by decide) kf46 (fun _ h9 => h9) rfl (by decide +kernel) rfl rfl (Nat.le_of_ble_eq_true rfl) dX2_copyFrom_119 (fun H locs hP hD hS => ?_)
    have hP : va_P Γ.1 vwCl (wcat [plB Γ a (sS (sS (sS (sS v0_18 2 (w 0 2)) 3 (w 0 3)) 4 (w 0 4)) 5 (w 0 5)), plB Γ b w]) H := hP
    have hD : va_D A (wcat [plB Γ a (sS (sS (sS (sS v0_18 2 (w 0 2)) 3 (w 0 3)) 4 (w 0 4)) 5 (w 0 5)), plB Γ b w]) := hD
    refine lv_aload_n hx hb dX2_copyFrom_122 rfl (lv_at hl 1 rfl) ?_
    refine lv_aload_n hx hb dX2_copyFrom_123 rfl (lv_at hl 2 rfl) ?_
    refine va_get (D := Γ.1) (ci := 2) (v := .int (w 0 6)) (C := RX2) (T := TX2) (N := 16) hx hb hts hi2 hown hK hP 6 rfl rfl 11 (by decide) kf49 (fun _ h9 => h9) rfl dX2_copyFrom_124 ?_
    refine va_put (D := Γ.1) (ci := 2) (v := .int (w 0 6)) (ty := .int) (C := RX2) (T := TX2) (N := 16) hx hb hts hi2 tyX2 tyX2_ok nmX2 hown hK hP hD hS 0 rfl rfl 11 (by decide) kf49 (fun _ h9 => h9) rfl (by decide +kernel) rfl rfl (Nat.le_of_ble_eq_true rfl) dX2_copyFrom_127 (fun H locs hP hD hS => ?_)
    have hP : va_P Γ.1 vwCl (wcat [plB Γ a (sS (sS (sS (sS (sS v0_18 2 (w 0 2)) 3 (w 0 3)) 4 (w 0 4)) 5 (w 0 5)) 6 (w 0 6)), plB Γ b w]) H := hP
    have hD : va_D A (wcat [plB Γ a (sS (sS (sS (sS (sS v0_18 2 (w 0 2)) 3 (w 0 3)) 4 (w 0 4)) 5 (w 0 5)) 6 (w 0 6)), plB Γ b w]) := hD
    refine lv_aload_n hx hb dX2_copyFrom_130 rfl (lv_at hl 1 rfl) ?_
    refine lv_aload_n hx hb dX2_copyFrom_131 rfl (lv_at hl 2 rfl) ?_
    refine va_get (D := Γ.1) (ci := 2) (v := .int (w 0 7)) (C := RX2) (T := TX2) (N := 16) hx hb hts hi2 hown hK hP 6 rfl rfl 12 (by decide) kf52 (fun _ h9 => h9) rfl dX2_copyFrom_132 ?_
    refine va_put (D := Γ.1) (ci := 2) (v := .int (w 0 7)) (ty := .int) (C := RX2) (T := TX2) (N := 16) hx hb hts hi2 tyX2 tyX2_ok nmX2 hown hK hP hD hS 0 rfl rfl 12 (by decide) kf52 (fun _ h9 => h9) rfl (by decide +kernel) rfl rfl (Nat.le_of_ble_eq_true rfl) dX2_copyFrom_135 (fun H locs hP hD hS => ?_)
    have hP : va_P Γ.1 vwCl (wcat [plB Γ a (sS (sS (sS (sS (sS (sS v0_18 2 (w 0 2)) 3 (w 0 3)) 4 (w 0 4)) 5 (w 0 5)) 6 (w 0 6)) 7 (w 0 7)), plB Γ b w]) H := hP
    have hD : va_D A (wcat [plB Γ a (sS (sS (sS (sS (sS (sS v0_18 2 (w 0 2)) 3 (w 0 3)) 4 (w 0 4)) 5 (w 0 5)) 6 (w 0 6)) 7 (w 0 7)), plB Γ b w]) := hD
    refine lv_aload_n hx hb dX2_copyFrom_138 rfl (lv_at hl 1 rfl) ?_
    refine lv_aload_n hx hb dX2_copyFrom_139 rfl (lv_at hl 2 rfl) ?_
    refine va_get (D := Γ.1) (ci := 2) (v := .int (w 0 8)) (C := RX2) (T := TX2) (N := 16) hx hb hts hi2 hown hK hP 6 rfl rfl 13 (by decide) kf55 (fun _ h9 => h9) rfl dX2_copyFrom_140 ?_
    refine va_put (D := Γ.1) (ci := 2) (v := .int (w 0 8)) (ty := .int) (C := RX2) (T := TX2) (N := 16) hx hb hts hi2 tyX2 tyX2_ok nmX2 hown hK hP hD hS 0 rfl rfl 13 (by decide) kf55 (fun _ h9 => h9) rfl (by decide +kernel) rfl rfl (Nat.le_of_ble_eq_true rfl) dX2_copyFrom_143 (fun H locs hP hD hS => ?_)
    have hP : va_P Γ.1 vwCl (wcat [plB Γ a (sS (sS (sS (sS (sS (sS (sS v0_18 2 (w 0 2)) 3 (w 0 3)) 4 (w 0 4)) 5 (w 0 5)) 6 (w 0 6)) 7 (w 0 7)) 8 (w 0 8)), plB Γ b w]) H := hP
    have hD : va_D A (wcat [plB Γ a (sS (sS (sS (sS (sS (sS (sS v0_18 2 (w 0 2)) 3 (w 0 3)) 4 (w 0 4)) 5 (w 0 5)) 6 (w 0 6)) 7 (w 0 7)) 8 (w 0 8)), plB Γ b w]) := hD
    refine lv_aload_n hx hb dX2_copyFrom_146 rfl (lv_at hl 1 rfl) ?_
    refine lv_aload_n hx hb dX2_copyFrom_147 rfl (lv_at hl 2 rfl) ?_
    refine va_get (D := Γ.1) (ci := 2) (v := .int (w 0 9)) (C := RX2) (T := TX2) (N := 16) hx hb hts hi2 hown hK hP 6 rfl rfl 14 (by decide) kf58 (fun _ h9 => h9) rfl dX2_copyFrom_148 ?_
    refine va_put (D := Γ.1) (ci := 2) (v := .int (w 0 9)) (ty := .int) (C := RX2) (T := TX2) (N := 16) hx hb hts hi2 tyX2 tyX2_ok nmX2 hown hK hP hD hS 0 rfl rfl 14 (by decide) kf58 (fun _ h9 => h9) rfl (by decide +kernel) rfl rfl (Nat.le_of_ble_eq_true rfl) dX2_copyFrom_151 (fun H locs hP hD hS => ?_)
    have hP : va_P Γ.1 vwCl (wcat [plB Γ a (sS (sS (sS (sS (sS (sS (sS (sS v0_18 2 (w 0 2)) 3 (w 0 3)) 4 (w 0 4)) 5 (w 0 5)) 6 (w 0 6)) 7 (w 0 7)) 8 (w 0 8)) 9 (w 0 9)), plB Γ b w]) H := hP
    have hD : va_D A (wcat [plB Γ a (sS (sS (sS (sS (sS (sS (sS (sS v0_18 2 (w 0 2)) 3 (w 0 3)) 4 (w 0 4)) 5 (w 0 5)) 6 (w 0 6)) 7 (w 0 7)) 8 (w 0 8)) 9 (w 0 9)), plB Γ b w]) := hD
    refine lv_aload_n hx hb dX2_copyFrom_154 rfl (lv_at hl 1 rfl) ?_
    refine lv_aload_n hx hb dX2_copyFrom_155 rfl (lv_at hl 2 rfl) ?_
    refine va_get (D := Γ.1) (ci := 2) (v := .int (w 0 10)) (C := RX2) (T := TX2) (N := 16) hx hb hts hi2 hown hK hP 6 rfl rfl 15 (by decide) kf31 (fun _ h9 => h9) rfl dX2_copyFrom_156 ?_
    refine va_put (D := Γ.1) (ci := 2) (v := .int (w 0 10)) (ty := .int) (C := RX2) (T := TX2) (N := 16) hx hb hts hi2 tyX2 tyX2_ok nmX2 hown hK hP hD hS 0 rfl rfl 15 (by decide) kf31 (fun _ h9 => h9) rfl (by decide +kernel) rfl rfl (Nat.le_of_ble_eq_true rfl) dX2_copyFrom_159 (fun H locs hP hD hS => ?_)
    have hP : va_P Γ.1 vwCl (wcat [plB Γ a (sS (sS (sS (sS (sS (sS (sS (sS (sS v0_18 2 (w 0 2)) 3 (w 0 3)) 4 (w 0 4)) 5 (w 0 5)) 6 (w 0 6)) 7 (w 0 7)) 8 (w 0 8)) 9 (w 0 9)) 10 (w 0 10)), plB Γ b w]) H := hP
    have hD : va_D A (wcat [plB Γ a (sS (sS (sS (sS (sS (sS (sS (sS (sS v0_18 2 (w 0 2)) 3 (w 0 3)) 4 (w 0 4)) 5 (w 0 5)) 6 (w 0 6)) 7 (w 0 7)) 8 (w 0 8)) 9 (w 0 9)) 10 (w 0 10)), plB Γ b w]) := hD
    exact W.vret hx hb hr (fun t ht hW => eMV (by rw [hq]; exact hP) hS ht) hS.2.2 dX2_copyFrom_162
  · intro n18 ih18 ⟨i18, v0_18⟩ H locs ls h
    obtain ⟨hn18, hq, hP, hD, hS, hl⟩ := h
    try dsimp only at hn18 hq hP hD hl
    replace hq : (fX2_copyFrom v w) = (fX2_copyFrom_L18 w n18 (i18 + 1) (sR (sR (sR (sR (sR v0_18 1 (upd (v0_18 1) i18 ((w 1) i18))) 2 (upd (v0_18 2) i18 ((w 2) i18))) 3 (upd (v0_18 3) i18 ((w 3) i18))) 4 (upd (v0_18 4) i18 ((w 4) i18))) 5 (upd (v0_18 5) i18 ((w 5) i18)))) := hq
    refine lv_iload_n hx hb dX2_copyFrom_18 rfl (lv_at hl 0 rfl) ?_
    refine lv_bipush (v := (nI 8)) hx hb dX2_copyFrom_19 (by decide) ?_
    refine lv_icmp_ge (tgt := 90) hx hb dX2_copyFrom_21 (by decide) (fun c_21 => absurd c_21 (nI_ge (by omega) (by omega))) (fun c_21 => ?_)
    refine lv_aload_n hx hb dX2_copyFrom_24 rfl (lv_at hl 1 rfl) ?_
    refine va_get (D := Γ.1) (ci := 2) (v := .ref (a 1)) (C := RX2) (T := TX2) (N := 16) hx hb hts hi2 hown hK hP 0 rfl rfl 2 (by decide) kf9 (fun _ h9 => h9) rfl dX2_copyFrom_25 ?_
    refine lv_iload_n hx hb dX2_copyFrom_28 rfl (lv_at hl 0 rfl) ?_
    refine lv_aload_n hx hb dX2_copyFrom_29 rfl (lv_at hl 2 rfl) ?_
    refine va_get (D := Γ.1) (ci := 2) (v := .ref (b 1)) (C := RX2) (T := TX2) (N := 16) hx hb hts hi2 hown hK hP 6 rfl rfl 2 (by decide) kf9 (fun _ h9 => h9) rfl dX2_copyFrom_30 ?_
    refine lv_iload_n hx hb dX2_copyFrom_33 rfl (lv_at hl 0 rfl) ?_
    refine va_iald_n (f := (w 1)) hx hb hK hP 7 0 rfl rfl (by omega) (Nat.le_of_ble_eq_true rfl) dX2_copyFrom_34 ?_
    refine va_iast_n (f := (v0_18 1)) hx hb hK hP hD hS 1 0 rfl rfl (by omega) (Nat.le_of_ble_eq_true rfl) dX2_copyFrom_35 (fun H locs hP hD hS => ?_)
    have hP : va_P Γ.1 vwCl (wcat [plB Γ a (sR v0_18 1 (upd (v0_18 1) i18 ((w 1) i18))), plB Γ b w]) H := hP
    have hD : va_D A (wcat [plB Γ a (sR v0_18 1 (upd (v0_18 1) i18 ((w 1) i18))), plB Γ b w]) := hD
    refine lv_aload_n hx hb dX2_copyFrom_36 rfl (lv_at hl 1 rfl) ?_
    refine va_get (D := Γ.1) (ci := 2) (v := .ref (a 2)) (C := RX2) (T := TX2) (N := 16) hx hb hts hi2 hown hK hP 0 rfl rfl 3 (by decide) kf15 (fun _ h9 => h9) rfl dX2_copyFrom_37 ?_
    refine lv_iload_n hx hb dX2_copyFrom_40 rfl (lv_at hl 0 rfl) ?_
    refine lv_aload_n hx hb dX2_copyFrom_41 rfl (lv_at hl 2 rfl) ?_
    refine va_get (D := Γ.1) (ci := 2) (v := .ref (b 2)) (C := RX2) (T := TX2) (N := 16) hx hb hts hi2 hown hK hP 6 rfl rfl 3 (by decide) kf15 (fun _ h9 => h9) rfl dX2_copyFrom_42 ?_
    refine lv_iload_n hx hb dX2_copyFrom_45 rfl (lv_at hl 0 rfl) ?_
    refine va_iald_n (f := (w 2)) hx hb hK hP 8 0 rfl rfl (by omega) (Nat.le_of_ble_eq_true rfl) dX2_copyFrom_46 ?_
    refine va_iast_n (f := (v0_18 2)) hx hb hK hP hD hS 2 0 rfl rfl (by omega) (Nat.le_of_ble_eq_true rfl) dX2_copyFrom_47 (fun H locs hP hD hS => ?_)
    have hP : va_P Γ.1 vwCl (wcat [plB Γ a (sR (sR v0_18 1 (upd (v0_18 1) i18 ((w 1) i18))) 2 (upd (v0_18 2) i18 ((w 2) i18))), plB Γ b w]) H := hP
    have hD : va_D A (wcat [plB Γ a (sR (sR v0_18 1 (upd (v0_18 1) i18 ((w 1) i18))) 2 (upd (v0_18 2) i18 ((w 2) i18))), plB Γ b w]) := hD
    refine lv_aload_n hx hb dX2_copyFrom_48 rfl (lv_at hl 1 rfl) ?_
    refine va_get (D := Γ.1) (ci := 2) (v := .ref (a 3)) (C := RX2) (T := TX2) (N := 16) hx hb hts hi2 hown hK hP 0 rfl rfl 4 (by decide) kf18 (fun _ h9 => h9) rfl dX2_copyFrom_49 ?_
    refine lv_iload_n hx hb dX2_copyFrom_52 rfl (lv_at hl 0 rfl) ?_
    refine lv_aload_n hx hb dX2_copyFrom_53 rfl (lv_at hl 2 rfl) ?_
    refine va_get (D := Γ.1) (ci := 2) (v := .ref (b 3)) (C := RX2) (T := TX2) (N := 16) hx hb hts hi2 hown hK hP 6 rfl rfl 4 (by decide) kf18 (fun _ h9 => h9) rfl dX2_copyFrom_54 ?_
    refine lv_iload_n hx hb dX2_copyFrom_57 rfl (lv_at hl 0 rfl) ?_
    refine va_iald_n (f := (w 3)) hx hb hK hP 9 0 rfl rfl (by omega) (Nat.le_of_ble_eq_true rfl) dX2_copyFrom_58 ?_
    refine va_iast_n (f := (v0_18 3)) hx hb hK hP hD hS 3 0 rfl rfl (by omega) (Nat.le_of_ble_eq_true rfl) dX2_copyFrom_59 (fun H locs hP hD hS => ?_)
    have hP : va_P Γ.1 vwCl (wcat [plB Γ a (sR (sR (sR v0_18 1 (upd (v0_18 1) i18 ((w 1) i18))) 2 (upd (v0_18 2) i18 ((w 2) i18))) 3 (upd (v0_18 3) i18 ((w 3) i18))), plB Γ b w]) H := hP
    have hD : va_D A (wcat [plB Γ a (sR (sR (sR v0_18 1 (upd (v0_18 1) i18 ((w 1) i18))) 2 (upd (v0_18 2) i18 ((w 2) i18))) 3 (upd (v0_18 3) i18 ((w 3) i18))), plB Γ b w]) := hD
    refine lv_aload_n hx hb dX2_copyFrom_60 rfl (lv_at hl 1 rfl) ?_
    refine va_get (D := Γ.1) (ci := 2) (v := .ref (a 4)) (C := RX2) (T := TX2) (N := 16) hx hb hts hi2 hown hK hP 0 rfl rfl 5 (by decide) kf21 (fun _ h9 => h9) rfl dX2_copyFrom_61 ?_
    refine lv_iload_n hx hb dX2_copyFrom_64 rfl (lv_at hl 0 rfl) ?_
    refine lv_aload_n hx hb dX2_copyFrom_65 rfl (lv_at hl 2 rfl) ?_
    refine va_get (D := Γ.1) (ci := 2) (v := .ref (b 4)) (C := RX2) (T := TX2) (N := 16) hx hb hts hi2 hown hK hP 6 rfl rfl 5 (by decide) kf21 (fun _ h9 => h9) rfl dX2_copyFrom_66 ?_
    refine lv_iload_n hx hb dX2_copyFrom_69 rfl (lv_at hl 0 rfl) ?_
    refine va_iald_n (f := (w 4)) hx hb hK hP 10 0 rfl rfl (by omega) (Nat.le_of_ble_eq_true rfl) dX2_copyFrom_70 ?_
    refine va_iast_n (f := (v0_18 4)) hx hb hK hP hD hS 4 0 rfl rfl (by omega) (Nat.le_of_ble_eq_true rfl) dX2_copyFrom_71 (fun H locs hP hD hS => ?_)
    have hP : va_P Γ.1 vwCl (wcat [plB Γ a (sR (sR (sR (sR v0_18 1 (upd (v0_18 1) i18 ((w 1) i18))) 2 (upd (v0_18 2) i18 ((w 2) i18))) 3 (upd (v0_18 3) i18 ((w 3) i18))) 4 (upd (v0_18 4) i18 ((w 4) i18))), plB Γ b w]) H := hP
    have hD : va_D A (wcat [plB Γ a (sR (sR (sR (sR v0_18 1 (upd (v0_18 1) i18 ((w 1) i18))) 2 (upd (v0_18 2) i18 ((w 2) i18))) 3 (upd (v0_18 3) i18 ((w 3) i18))) 4 (upd (v0_18 4) i18 ((w 4) i18))), plB Γ b w]) := hD
    refine lv_aload_n hx hb dX2_copyFrom_72 rfl (lv_at hl 1 rfl) ?_
    refine va_get (D := Γ.1) (ci := 2) (v := .ref (a 5)) (C := RX2) (T := TX2) (N := 16) hx hb hts hi2 hown hK hP 0 rfl rfl 6 (by decide) kf24 (fun _ h9 => h9) rfl dX2_copyFrom_73 ?_
    refine lv_iload_n hx hb dX2_copyFrom_76 rfl (lv_at hl 0 rfl) ?_
    refine lv_aload_n hx hb dX2_copyFrom_77 rfl (lv_at hl 2 rfl) ?_
    refine va_get (D := Γ.1) (ci := 2) (v := .ref (b 5)) (C := RX2) (T := TX2) (N := 16) hx hb hts hi2 hown hK hP 6 rfl rfl 6 (by decide) kf24 (fun _ h9 => h9) rfl dX2_copyFrom_78 ?_
    refine lv_iload_n hx hb dX2_copyFrom_81 rfl (lv_at hl 0 rfl) ?_
    refine va_iald_n (f := (w 5)) hx hb hK hP 11 0 rfl rfl (by omega) (Nat.le_of_ble_eq_true rfl) dX2_copyFrom_82 ?_
    refine va_iast_n (f := (v0_18 5)) hx hb hK hP hD hS 5 0 rfl rfl (by omega) (Nat.le_of_ble_eq_true rfl) dX2_copyFrom_83 (fun H locs hP hD hS => ?_)
    have hP : va_P Γ.1 vwCl (wcat [plB Γ a (sR (sR (sR (sR (sR v0_18 1 (upd (v0_18 1) i18 ((w 1) i18))) 2 (upd (v0_18 2) i18 ((w 2) i18))) 3 (upd (v0_18 3) i18 ((w 3) i18))) 4 (upd (v0_18 4) i18 ((w 4) i18))) 5 (upd (v0_18 5) i18 ((w 5) i18))), plB Γ b w]) H := hP
    have hD : va_D A (wcat [plB Γ a (sR (sR (sR (sR (sR v0_18 1 (upd (v0_18 1) i18 ((w 1) i18))) 2 (upd (v0_18 2) i18 ((w 2) i18))) 3 (upd (v0_18 3) i18 ((w 3) i18))) 4 (upd (v0_18 4) i18 ((w 4) i18))) 5 (upd (v0_18 5) i18 ((w 5) i18))), plB Γ b w]) := hD
    refine lv_iinc (v := (nI (i18 + 1))) (lv' := [(2, .int (nI (i18 + 1))), (0, .ref (a 0)), (1, .ref (b 0))]) hx hb dX2_copyFrom_84 hl (k := 0) rfl (nI_1 _) (by decide) rfl (fun ls hl => ?_)
    refine lv_goto (tgt := 18) hx hb dX2_copyFrom_87 (by decide) ?_
    exact ih18 ((i18 + 1), (sR (sR (sR (sR (sR v0_18 1 (upd (v0_18 1) i18 ((w 1) i18))) 2 (upd (v0_18 2) i18 ((w 2) i18))) 3 (upd (v0_18 3) i18 ((w 3) i18))) 4 (upd (v0_18 4) i18 ((w 4) i18))) 5 (upd (v0_18 5) i18 ((w 5) i18)))) H locs ls ⟨by omega, hq, hP, hD, hS, lv_sub hl [0, 1, 2] rfl⟩
