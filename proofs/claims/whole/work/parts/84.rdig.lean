theorem rfs_dS (ms : Nat → Int32) : fX5_firsts ms ∈ dS := by
  have key : ∀ n i x y, i + n = 8 → x ≤ i → y ≤ i → fX5_firsts_L6 ms n i x y ∈ dS := by
    intro n
    induction n with
    | zero =>
      intro i x y hi hx hy
      simp only [fX5_firsts_L6]
      split
      · exact dS_one
      · rename_i h
        exact dS_quo _ (by omega) _ (by omega) (fun z => h (by rw [z]; decide))
    | succ n ih =>
      intro i x y hi hx hy
      simp only [fX5_firsts_L6]
      (repeat' split) <;> exact ih _ _ _ (by omega) (by omega) (by omega)
  exact key 8 0 0 0 rfl (by omega) (by omega)
theorem dS_nan : ∀ d ∈ dS, Op.cmpValue (FP.dcmp d d) .l = 0 := by decide +kernel
def fNaN (dd : UInt64) : Int32 := (if (Op.cmpValue (FP.dcmp dd dd) .l) = 0 then ((nI 0)) else ((nI 1)))
set_option maxHeartbeats 4000000 in
set_option maxRecDepth 100000 in
theorem kJxe99ae_isNaN_b9ae7 (l : Launch) (Γ : wG) (dd : UInt64) : LI l Γ yJxe99ae_isNaN_b9ae7 wsJxe99ae_isNaN_b9ae7 ({ frames := 0, cells := 0, slots := 0, locals := 0 }) [.double dd] [] (fNaN dd) := by
  intro sz
  refine Met.ofW (cc := cJxe99ae_isNaN_b9ae7) (maxL := 2) (ret := (some .boolean)) (by decide) rfl ?_
  intro p e s m args below meth c s₁ B hml hv
  obtain ⟨rfl, hsz, hP, hK, hD0, hAm⟩ := hv
  have hx := B.exec
  have hb := B.bytes
  have hr := B.returns
  have hts := atoms_spec (ws := wsJxe99ae_isNaN_b9ae7) B.pre
  have hown : s.vm.findClass RJxe99ae = some m.cls := findClass_of_methodNamed B.named
  have hlocks := B.notSynchronized
  subst hsz
  have hD := hD0.self (sz := s.heap.size)
  generalize hBe : va_A (wcat []) s.heap.size = B0 at hD hAm
  obtain ⟨A, hAe⟩ : ∃ A, A = va_A [] s.heap.size := ⟨_, rfl⟩
  rw [← hAe]
  have hA : ∀ q : Nat, s.heap.size ≤ q → A q := fun q h => by rw [hAe]; exact Or.inr h
  have hAB : ∀ q : Nat, A q → B0 q := fun q h => by rw [hAe] at h; rw [← hBe]; exact Or.inr (wnone h)
  have hS : va_S A s.heap s.heap [] := va_S.rf
  have hl := lv_entry ([.double dd]) (n := 2) (Nat.le_of_ble_eq_true rfl)
  rw [lg_entry_eq]
  generalize (lg_sl ([.double dd]) ++ List.replicate (2 - (lg_sl ([.double dd])).length) Slot.unset).toArray = ls at hl ⊢
  have hl : lv_has ls 2 [(0, .double dd)] := hl
  have hq : (fNaN dd) = (if (Op.cmpValue (FP.dcmp dd dd) .l) = 0 then ((nI 0)) else ((nI 1))) := rfl
  refine lv_dload_n hx hb dJxe99ae_isNaN_b9ae7_0 rfl (lv_at hl 0 rfl) ?_
  refine lv_dload_n hx hb dJxe99ae_isNaN_b9ae7_1 rfl (lv_at hl 0 rfl) ?_
  refine lv_dcmp hx hb dJxe99ae_isNaN_b9ae7_2 ?_
  refine lv_if_eq (tgt := 10) hx hb dJxe99ae_isNaN_b9ae7_3 (by decide) (fun c_1 => ?_) (fun c_1 => ?_)
  · have hq := hq.trans (if_pos c_1)
    refine lv_iconst (v := (nI 0)) hx hb dJxe99ae_isNaN_b9ae7_10 (by decide) ?_
    exact W.zret (v := (nI 0)) hx hb hr (by first | rfl | decide) (fun t ht hW => eLI hS ht (by rw [hq])) hS.2.2 dJxe99ae_isNaN_b9ae7_11
  · have hq := hq.trans (if_neg c_1)
    refine lv_iconst (v := (nI 1)) hx hb dJxe99ae_isNaN_b9ae7_6 (by decide) ?_
    refine lv_goto (tgt := 11) hx hb dJxe99ae_isNaN_b9ae7_7 (by decide) ?_
    exact W.zret (v := (nI 1)) hx hb hr (by first | rfl | decide) (fun t ht hW => eLI hS ht (by rw [hq])) hS.2.2 dJxe99ae_isNaN_b9ae7_11
def fD2L (dd : UInt64) : Int64 := ((dd.toInt64))
set_option maxHeartbeats 4000000 in
set_option maxRecDepth 100000 in
theorem kJxe99ae_doubleToLongBits_ccdee (l : Launch) (Γ : wG) (dd : UInt64) (hd : Op.cmpValue (FP.dcmp dd dd) .l = 0) : LL l Γ yJxe99ae_doubleToLongBits_ccdee wsJxe99ae_doubleToLongBits_ccdee ({ frames := 1, cells := 0, slots := 0, locals := 30 }) [.double dd] [] (fD2L dd) := by
  intro sz
  refine Met.ofW (cc := cJxe99ae_doubleToLongBits_ccdee) (maxL := 2) (ret := (some .long)) (by decide) rfl ?_
  intro p e s m args below meth c s₁ B hml hv
  obtain ⟨rfl, hsz, hP, hK, hD0, hAm⟩ := hv
  have hx := B.exec
  have hb := B.bytes
  have hr := B.returns
  have hts := atoms_spec (ws := wsJxe99ae_doubleToLongBits_ccdee) B.pre
  have hown : s.vm.findClass RJxe99ae = some m.cls := findClass_of_methodNamed B.named
  have hlocks := B.notSynchronized
  subst hsz
  have hD := hD0.self (sz := s.heap.size)
  generalize hBe : va_A (wcat []) s.heap.size = B0 at hD hAm
  obtain ⟨A, hAe⟩ : ∃ A, A = va_A [] s.heap.size := ⟨_, rfl⟩
  rw [← hAe]
  have hA : ∀ q : Nat, s.heap.size ≤ q → A q := fun q h => by rw [hAe]; exact Or.inr h
  have hAB : ∀ q : Nat, A q → B0 q := fun q h => by rw [hAe] at h; rw [← hBe]; exact Or.inr (wnone h)
  have hS : va_S A s.heap s.heap [] := va_S.rf
  have hl := lv_entry ([.double dd]) (n := 2) (Nat.le_of_ble_eq_true rfl)
  rw [lg_entry_eq]
  generalize (lg_sl ([.double dd]) ++ List.replicate (2 - (lg_sl ([.double dd])).length) Slot.unset).toArray = ls at hl ⊢
  have hl : lv_has ls 2 [(0, .double dd)] := hl
  have hq : (fD2L dd) = ((dd.toInt64)) := rfl
  refine lv_dload_n hx hb dJxe99ae_doubleToLongBits_ccdee_0 rfl (lv_at hl 0 rfl) ?_
  refine cLI (va_runS (As := [.double dd]) (rest := []) ⟨hx, hb, hml, hown, hts⟩ ((kJxe99ae_isNaN_b9ae7 l Γ dd) _) (va_cwS 1 hts gJxe99ae_doubleToLongBits_ccdee_Jxe99ae_isNaN_b9ae7 rfl rfl rfl (by decide +kernel) ⟨Nat.le_of_ble_eq_true rfl, Nat.le_of_ble_eq_true rfl⟩) ⟨wPre_blind, wPre_mk hP hD hK hS hA hAB hAm [] rfl rfl⟩ rfl rfl hl.1 rfl (lv_room (Nat.le_of_ble_eq_true rfl)) dJxe99ae_doubleToLongBits_ccdee_1 ⟨Nat.zero_le _, Nat.zero_le _⟩) hP hS hA (fun H locs hP hS => ?_)
  refine lv_if_ne (tgt := 12) hx hb dJxe99ae_doubleToLongBits_ccdee_4 (by decide) (fun c_4 => absurd (show fNaN dd = 0 by unfold fNaN; rw [if_pos hd]; decide) c_4) (fun c_4 => ?_)
  refine lv_dload_n hx hb dJxe99ae_doubleToLongBits_ccdee_7 rfl (lv_at hl 0 rfl) ?_
  refine vn_d2l hx hb (hml.trans hl.1.symm) hown (hts (.methodLink RJxe99ae 134 ⟨"java/lang/Double", "doubleToRawLongBits", "(D)J"⟩) (by decide +kernel)) (hts (.native ⟨"java/lang/Double", "doubleToRawLongBits", "(D)J"⟩) (by decide +kernel)) (hts (.static ⟨"java/lang/Double", "doubleToRawLongBits", "(D)J"⟩) (by decide +kernel)) (hts (.initialized "java/lang/Double") (by decide +kernel)) (Nat.le_of_ble_eq_true rfl) (Nat.le_of_ble_eq_true rfl) dJxe99ae_doubleToLongBits_ccdee_8 ?_
  exact W.lret (v := (dd.toInt64)) hx hb hr (fun t ht hW => eLL hS ht (by rw [hq])) hS.2.2 dJxe99ae_doubleToLongBits_ccdee_11
def fX5_digest_L361 (mt : (Nat → Int32)) (r_15 : Int32 × (Nat → Int32)) : Nat → Nat → Int64 → Int64 × (Nat → Int32) × Int32
  | 0, i361, x1_361 => (x1_361, r_15.2, (nI 0))
  | n361 + 1, i361, x1_361 => (fX5_digest_L361 mt r_15 n361 (i361 + 1) (((31 : Int64) * x1_361) + ((mt i361).toInt64)))
def fX5_digest_L76 (T : Nat) (K : Nat) (ms : (Nat → Int32)) (mt : (Nat → Int32)) : Nat → Nat → Int64 → Int64 × (Nat → Int32) × Int32
  | 0, i76, x1_76 => (let r_1 := (fX5_tells ms (nI 7)); (let r_2 := (fX5_tells ms (nI 14)); (let r_3 := (fX5_tells ms (nI 56)); (let r_4 := (fX5_tells ms (nI 255)); (let r_5 := (fX5_keys ms (nI 0)); (let r_6 := (fX5_keys ms (nI 3)); (let r_7 := (fX5_keys ms (nI 7)); (let r_8 := (fX5_keys ms (nI 24)); (let r_9 := (fX5_keys ms (nI 255)); (let r_10 := (fX5_reason ms (0) (((nI 1) <<< ((ms 1) &&& 31)) - (nI 1)) (nI 0)); (let r_11 := (fX5_least ms (nI 0)); (let r_12 := (fX5_groupsOf ms (0)); (let r_13 := (fX5_needs K ms); (let r_14 := (fX5_makesPeace K r_13.2 (nI 0)); (let r_15 := (fX5_makesPeace K r_14.2 (nI 1)); (let r_16 := (fX5_firsts r_15.2); (let r_17 := (fD2L r_16); (fX5_digest_L361 mt r_15 (T) 0 (((31 : Int64) * (((31 : Int64) * (((31 : Int64) * (((31 : Int64) * (((31 : Int64) * (((31 : Int64) * (((31 : Int64) * (((31 : Int64) * (((31 : Int64) * (((31 : Int64) * (((31 : Int64) * (((31 : Int64) * (((31 : Int64) * (((31 : Int64) * (((31 : Int64) * (((31 : Int64) * (((31 : Int64) * (((31 : Int64) * x1_76) + (r_1.toInt64))) + (r_2.toInt64))) + (r_3.toInt64))) + (r_4.toInt64))) + (r_5.toInt64))) + (r_6.toInt64))) + (r_7.toInt64))) + (r_8.toInt64))) + (r_9.toInt64))) + (r_10.toInt64))) + (r_11.toInt64))) + ((fX5_least ms (nI 1)).toInt64))) + (r_12.toInt64))) + (r_13.1.toInt64))) + (r_14.1.toInt64))) + (r_15.1.toInt64))) + r_17)) + ((nI T).toInt64))))))))))))))))))))
  | n76 + 1, i76, x1_76 => (let r_18 := (fX5_shareOf ms (i76 / 3) (nI (i76 % 3))); (fX5_digest_L76 T K ms mt n76 (i76 + 1) (((31 : Int64) * x1_76) + (r_18.toInt64))))
def fX5_digest_L38 (T : Nat) (K : Nat) (ms : (Nat → Int32)) (mt : (Nat → Int32)) : Nat → Nat → Int64 → Int64 × (Nat → Int32) × Int32
  | 0, i38, x1_38 => (fX5_digest_L76 T K ms mt (24) 0 x1_38)
  | n38 + 1, i38, x1_38 => (let r_19 := (fX5_keepers ms (i38 / 5) (nI (i38 % 5))); (fX5_digest_L38 T K ms mt n38 (i38 + 1) (((31 : Int64) * x1_38) + (r_19.toInt64))))
def fX5_digest_L11 (S : Nat) (T : Nat) (K : Nat) (ms : (Nat → Int32)) (mt : (Nat → Int32)) : Nat → Nat → Int64 → Int64 × (Nat → Int32) × Int32
  | 0, i11, x1_11 => (fX5_digest_L38 T K ms mt (5 * K) 0 x1_11)
  | n11 + 1, i11, x1_11 => (let r_20 := (fX5_counted ms (nI S) (nI i11)); (fX5_digest_L11 S T K ms mt n11 (i11 + 1) (((31 : Int64) * x1_11) + (r_20.toInt64))))
def fX5_digest (S : Nat) (T : Nat) (K : Nat) (ms : (Nat → Int32)) (mt : (Nat → Int32)) : Int64 × (Nat → Int32) × Int32 := (fX5_digest_L11 S T K ms mt (12) 0 (3019 : Int64))
set_option maxHeartbeats 4000000 in
set_option maxRecDepth 100000 in
theorem kX5_digest (l : Launch) (Γ : wG) (a : Nat → Nat) (S : Nat) (T : Nat) (K : Nat) (ms : (Nat → Int32)) (mt : (Nat → Int32)) (mc : (Nat → Int32)) (md : (Nat → Int32)) (m1 : Int32) (m3 : Int32) (m4 : Int32) (m5 : Int32) (hT : T ≤ 60) (hMK : ms 1 = nI K) (hK8 : K ≤ 8) : ML l Γ yX5_digest wsX5_digest ({ frames := 6, cells := 0, slots := 0, locals := 147 }) [.ref (a 0)] [moB Γ a ms mt mc md (nI S) m1 (nI T) m3 m4 m5] [moB Γ a (fX5_digest S T K ms mt).2.1 mt mc md (nI S) (fX5_digest S T K ms mt).2.2 (nI T) m3 m4 m5] (fX5_digest S T K ms mt).1 := by
  intro sz
  refine Met.ofW (cc := cX5_digest) (maxL := 4) (ret := (some .long)) (by decide) rfl ?_
  intro p e s m args below meth c s₁ B hml hv
  obtain ⟨rfl, hsz, hP, hK, hD0, hAm⟩ := hv
  have hx := B.exec
  have hb := B.bytes
  have hr := B.returns
  have hts := atoms_spec (ws := wsX5_digest) B.pre
  have hown : s.vm.findClass RX5 = some m.cls := findClass_of_methodNamed B.named
  have hlocks := B.notSynchronized
  subst hsz
  have hD := hD0.self (sz := s.heap.size)
  generalize hAe : va_A (wcat [moB Γ a ms mt mc md (nI S) m1 (nI T) m3 m4 m5]) s.heap.size = A at hD hAm ⊢
  have hA : ∀ q : Nat, s.heap.size ≤ q → A q := fun q h => by rw [← hAe]; exact Or.inr h
  have hAB : ∀ q : Nat, A q → A q := fun _ h => h
  have hS : va_S A s.heap s.heap [] := va_S.rf
  have hl := lv_entry ([.ref (a 0)]) (n := 4) (Nat.le_of_ble_eq_true rfl)
  rw [lg_entry_eq]
  generalize (lg_sl ([.ref (a 0)]) ++ List.replicate (4 - (lg_sl ([.ref (a 0)])).length) Slot.unset).toArray = ls at hl ⊢
  have hl : lv_has ls 4 [(0, .ref (a 0))] := hl
  have hi5 : ∀ w ∈ wsX50, w ∈ wsX5_digest := by decide +kernel
  have kc173 := hts (.constantLong RX5 173 (3019)) (by decide +kernel)
  have kc175 := hts (.constantLong RX5 175 (31)) (by decide +kernel)
  have kf101 := hts (.fieldLink RX5 101 "CapsuleKeepersModel" "typed" "I") (by decide +kernel)
  have kf13 := hts (.fieldLink RX5 13 "CapsuleKeepersModel" "text" "[C") (by decide +kernel)
  have kf23 := hts (.fieldLink RX5 23 "CapsuleKeepersModel" "thrown" "I") (by decide +kernel)
  have kf7 := hts (.fieldLink RX5 7 "CapsuleKeepersModel" "s" "[I") (by decide +kernel)
  have hq : (fX5_digest S T K ms mt) = (fX5_digest_L11 S T K ms mt (12) 0 (3019 : Int64)) := rfl
  refine lv_aload_n hx hb dX5_digest_0 rfl (lv_at hl 0 rfl) ?_
  refine lv_iconst (v := (nI 0)) hx hb dX5_digest_1 (by decide) ?_
  refine va_put (D := Γ.1) (ci := 5) (v := .int (nI 0)) (ty := .int) (C := RX5) (T := TX5) (N := 10) hx hb hts hi5 tyX5 tyX5_ok nmX5 hown hK hP hD hS 0 rfl rfl 2 (by decide) kf23 (fun _ h9 => h9) rfl (by decide +kernel) rfl rfl (Nat.le_of_ble_eq_true rfl) dX5_digest_2 (fun H locs hP hD hS => ?_)
  have hP : va_P Γ.1 vwCl (wcat [moB Γ a ms mt mc md (nI S) (nI 0) (nI T) m3 m4 m5]) H := hP
  have hD : va_D A (wcat [moB Γ a ms mt mc md (nI S) (nI 0) (nI T) m3 m4 m5]) := hD
  refine lv_ldc2 (v := 3019) hx hb hown kc173 dX5_digest_5 ?_
  refine lv_lstore_n (lv' := [(1, .long (3019 : Int64)), (0, .ref (a 0))]) hx hb dX5_digest_8 rfl hl (by decide) rfl (fun ls hl => ?_)
  refine lv_iconst (v := (nI 0)) hx hb dX5_digest_9 (by decide) ?_
  refine lv_istore_n (lv' := [(3, .int (nI 0)), (1, .long (3019 : Int64)), (0, .ref (a 0))]) hx hb dX5_digest_10 rfl hl (by decide) rfl (fun ls hl => ?_)
  refine wl (pc := 11) (σ := Nat × Int64) (fun n (i11, x1_11) H locs ls => (i11 + n = 12) ∧ (fX5_digest S T K ms mt) = fX5_digest_L11 S T K ms mt n i11 x1_11 ∧ va_P Γ.1 vwCl (wcat [moB Γ a ms mt mc md (nI S) (nI 0) (nI T) m3 m4 m5]) H ∧ va_D A (wcat [moB Γ a ms mt mc md (nI S) (nI 0) (nI T) m3 m4 m5]) ∧ va_S A s.heap H locs ∧ lv_has ls 4 [(3, .int (nI i11)), (1, .long x1_11), (0, .ref (a 0))]) ?_ ?_ (12) (0, (3019 : Int64)) _ _ _ ⟨by omega, hq, hP, hD, hS, lv_sub hl [0, 1, 2] rfl⟩
  · intro ⟨i11, x1_11⟩ H locs ls h
    obtain ⟨hn11, hq, hP, hD, hS, hl⟩ := h
    try dsimp only at hn11 hq hP hD hl
    replace hq : (fX5_digest S T K ms mt) = (fX5_digest_L38 T K ms mt (5 * K) 0 x1_11) := hq
    refine lv_iload_n hx hb dX5_digest_11 rfl (lv_at hl 0 rfl) ?_
    refine lv_bipush (v := (nI 12)) hx hb dX5_digest_12 (by decide) ?_
    refine lv_icmp_ge (tgt := 36) hx hb dX5_digest_14 (by decide) (fun c_14 => ?_) (fun c_14 => absurd (nI_le (by omega) (by omega)) c_14)
    refine lv_iconst (v := (nI 0)) hx hb dX5_digest_36 (by decide) ?_
    refine lv_istore_n (lv' := [(3, .int (nI 0)), (1, .long x1_11), (0, .ref (a 0))]) hx hb dX5_digest_37 rfl hl (by decide) rfl (fun ls hl => ?_)
    refine wl (pc := 38) (σ := Nat × Int64) (fun n (i38, x1_38) H locs ls => (i38 + n = 5 * K) ∧ (fX5_digest S T K ms mt) = fX5_digest_L38 T K ms mt n i38 x1_38 ∧ va_P Γ.1 vwCl (wcat [moB Γ a ms mt mc md (nI S) (nI 0) (nI T) m3 m4 m5]) H ∧ va_D A (wcat [moB Γ a ms mt mc md (nI S) (nI 0) (nI T) m3 m4 m5]) ∧ va_S A s.heap H locs ∧ lv_has ls 4 [(3, .int (nI i38)), (1, .long x1_38), (0, .ref (a 0))]) ?_ ?_ (5 * K) (0, x1_11) _ _ _ ⟨by omega, hq, hP, hD, hS, lv_sub hl [0, 1, 2] rfl⟩
    · intro ⟨i38, x1_38⟩ H locs ls h
      obtain ⟨hn38, hq, hP, hD, hS, hl⟩ := h
      try dsimp only at hn38 hq hP hD hl
      replace hq : (fX5_digest S T K ms mt) = (fX5_digest_L76 T K ms mt (24) 0 x1_38) := hq
      refine lv_iload_n hx hb dX5_digest_38 rfl (lv_at hl 0 rfl) ?_
      refine lv_iconst (v := (nI 5)) hx hb dX5_digest_39 (by decide) ?_
      refine lv_aload_n hx hb dX5_digest_40 rfl (lv_at hl 2 rfl) ?_
      refine va_get (D := Γ.1) (ci := 5) (v := .ref (a 1)) (C := RX5) (T := TX5) (N := 10) hx hb hts hi5 hown hK hP 0 rfl rfl 0 (by decide) kf7 (fun _ h9 => h9) rfl dX5_digest_41 ?_
      refine lv_iconst (v := (nI 1)) hx hb dX5_digest_44 (by decide) ?_
      refine va_iald_n (f := ms) hx hb hK hP 1 0 rfl rfl (by omega) (Nat.le_of_ble_eq_true rfl) dX5_digest_45 ?_
      refine lv_eqi (y := (nI K)) (hMK) ?_
      refine lv_imul hx hb dX5_digest_46 ?_
      refine lv_eqi (y := (nI (5 * K))) (pk_mul _ _) ?_
      refine lv_icmp_ge (tgt := 74) hx hb dX5_digest_47 (by decide) (fun c_47 => ?_) (fun c_47 => absurd (nI_le (by omega) (by omega)) c_47)
      refine lv_iconst (v := (nI 0)) hx hb dX5_digest_74 (by decide) ?_
      refine lv_istore_n (lv' := [(3, .int (nI 0)), (1, .long x1_38), (0, .ref (a 0))]) hx hb dX5_digest_75 rfl hl (by decide) rfl (fun ls hl => ?_)
      refine wl (pc := 76) (σ := Nat × Int64) (fun n (i76, x1_76) H locs ls => (i76 + n = 24) ∧ (fX5_digest S T K ms mt) = fX5_digest_L76 T K ms mt n i76 x1_76 ∧ va_P Γ.1 vwCl (wcat [moB Γ a ms mt mc md (nI S) (nI 0) (nI T) m3 m4 m5]) H ∧ va_D A (wcat [moB Γ a ms mt mc md (nI S) (nI 0) (nI T) m3 m4 m5]) ∧ va_S A s.heap H locs ∧ lv_has ls 4 [(3, .int (nI i76)), (1, .long x1_76), (0, .ref (a 0))]) ?_ ?_ (24) (0, x1_38) _ _ _ ⟨by omega, hq, hP, hD, hS, lv_sub hl [0, 1, 2] rfl⟩
      · intro ⟨i76, x1_76⟩ H locs ls h
        obtain ⟨hn76, hq, hP, hD, hS, hl⟩ := h
        try dsimp only at hn76 hq hP hD hl
        replace hq : (fX5_digest S T K ms mt) = (let r_1 := (fX5_tells ms (nI 7)); (let r_2 := (fX5_tells ms (nI 14)); (let r_3 := (fX5_tells ms (nI 56)); (let r_4 := (fX5_tells ms (nI 255)); (let r_5 := (fX5_keys ms (nI 0)); (let r_6 := (fX5_keys ms (nI 3)); (let r_7 := (fX5_keys ms (nI 7)); (let r_8 := (fX5_keys ms (nI 24)); (let r_9 := (fX5_keys ms (nI 255)); (let r_10 := (fX5_reason ms (0) (((nI 1) <<< ((ms 1) &&& 31)) - (nI 1)) (nI 0)); (let r_11 := (fX5_least ms (nI 0)); (let r_12 := (fX5_groupsOf ms (0)); (let r_13 := (fX5_needs K ms); (let r_14 := (fX5_makesPeace K r_13.2 (nI 0)); (let r_15 := (fX5_makesPeace K r_14.2 (nI 1)); (let r_16 := (fX5_firsts r_15.2); (let r_17 := (fD2L r_16); (fX5_digest_L361 mt r_15 (T) 0 (((31 : Int64) * (((31 : Int64) * (((31 : Int64) * (((31 : Int64) * (((31 : Int64) * (((31 : Int64) * (((31 : Int64) * (((31 : Int64) * (((31 : Int64) * (((31 : Int64) * (((31 : Int64) * (((31 : Int64) * (((31 : Int64) * (((31 : Int64) * (((31 : Int64) * (((31 : Int64) * (((31 : Int64) * (((31 : Int64) * x1_76) + (r_1.toInt64))) + (r_2.toInt64))) + (r_3.toInt64))) + (r_4.toInt64))) + (r_5.toInt64))) + (r_6.toInt64))) + (r_7.toInt64))) + (r_8.toInt64))) + (r_9.toInt64))) + (r_10.toInt64))) + (r_11.toInt64))) + ((fX5_least ms (nI 1)).toInt64))) + (r_12.toInt64))) + (r_13.1.toInt64))) + (r_14.1.toInt64))) + (r_15.1.toInt64))) + r_17)) + ((nI T).toInt64)))))))))))))))))))) := hq
        refine lv_iload_n hx hb dX5_digest_76 rfl (lv_at hl 0 rfl) ?_
        refine lv_bipush (v := (nI 24)) hx hb dX5_digest_77 (by decide) ?_
        refine lv_icmp_ge (tgt := 106) hx hb dX5_digest_79 (by decide) (fun c_79 => ?_) (fun c_79 => absurd (nI_le (by omega) (by omega)) c_79)
        refine lv_ldc2 (v := 31) hx hb hown kc175 dX5_digest_106 ?_
        refine lv_lload_n hx hb dX5_digest_109 rfl (lv_at hl 1 rfl) ?_
        refine lv_lmul hx hb dX5_digest_110 ?_
        refine lv_aload_n hx hb dX5_digest_111 rfl (lv_at hl 2 rfl) ?_
        refine lv_bipush (v := (nI 7)) hx hb dX5_digest_112 (by decide) ?_
        have kc := (kX5_tells l Γ a ms mt mc md (nI S) (nI 0) (nI T) m3 m4 m5 (nI 7))
        generalize hr_1 : (fX5_tells ms (nI 7)) = r_1 at kc hq
        replace hq : (fX5_digest S T K ms mt) = (let r_2 := (fX5_tells ms (nI 14)); (let r_3 := (fX5_tells ms (nI 56)); (let r_4 := (fX5_tells ms (nI 255)); (let r_5 := (fX5_keys ms (nI 0)); (let r_6 := (fX5_keys ms (nI 3)); (let r_7 := (fX5_keys ms (nI 7)); (let r_8 := (fX5_keys ms (nI 24)); (let r_9 := (fX5_keys ms (nI 255)); (let r_10 := (fX5_reason ms (0) (((nI 1) <<< ((ms 1) &&& 31)) - (nI 1)) (nI 0)); (let r_11 := (fX5_least ms (nI 0)); (let r_12 := (fX5_groupsOf ms (0)); (let r_13 := (fX5_needs K ms); (let r_14 := (fX5_makesPeace K r_13.2 (nI 0)); (let r_15 := (fX5_makesPeace K r_14.2 (nI 1)); (let r_16 := (fX5_firsts r_15.2); (let r_17 := (fD2L r_16); (fX5_digest_L361 mt r_15 (T) 0 (((31 : Int64) * (((31 : Int64) * (((31 : Int64) * (((31 : Int64) * (((31 : Int64) * (((31 : Int64) * (((31 : Int64) * (((31 : Int64) * (((31 : Int64) * (((31 : Int64) * (((31 : Int64) * (((31 : Int64) * (((31 : Int64) * (((31 : Int64) * (((31 : Int64) * (((31 : Int64) * (((31 : Int64) * (((31 : Int64) * x1_76) + (r_1.toInt64))) + (r_2.toInt64))) + (r_3.toInt64))) + (r_4.toInt64))) + (r_5.toInt64))) + (r_6.toInt64))) + (r_7.toInt64))) + (r_8.toInt64))) + (r_9.toInt64))) + (r_10.toInt64))) + (r_11.toInt64))) + ((fX5_least ms (nI 1)).toInt64))) + (r_12.toInt64))) + (r_13.1.toInt64))) + (r_14.1.toInt64))) + (r_15.1.toInt64))) + r_17)) + ((nI T).toInt64))))))))))))))))))) := hq
        refine cLI (va_runV (As := [.int (nI 7)]) (rest := [.long ((31 : Int64) * x1_76)]) ⟨hx, hb, hml, hown, hts⟩ (kc _) (cwV 1 hts gX5_digest_X5_tells rfl rfl rfl (by decide +kernel) ⟨Nat.le_of_ble_eq_true rfl, Nat.le_of_ble_eq_true rfl⟩) ⟨wPre_blind, va_recv hK hP (ci := 5) (q0 := 0) rfl rfl, wPre_mk hP hD hK hS hA hAB hAm [0] rfl rfl⟩ rfl rfl hl.1 rfl (lv_room (Nat.le_of_ble_eq_true rfl)) dX5_digest_114 ⟨Nat.zero_le _, Nat.zero_le _⟩) hP hS hA (fun H locs hP hS => ?_)
        refine lv_i2l (v := r_1.toInt64) hx hb dX5_digest_117 rfl ?_
        refine lv_ladd hx hb dX5_digest_118 ?_
        refine lv_lstore_n (lv' := [(1, .long (((31 : Int64) * x1_76) + (r_1.toInt64))), (3, .int (nI i76)), (0, .ref (a 0))]) hx hb dX5_digest_119 rfl hl (by decide) rfl (fun ls hl => ?_)
        refine lv_ldc2 (v := 31) hx hb hown kc175 dX5_digest_120 ?_
        refine lv_lload_n hx hb dX5_digest_123 rfl (lv_at hl 0 rfl) ?_
        refine lv_lmul hx hb dX5_digest_124 ?_
        refine lv_aload_n hx hb dX5_digest_125 rfl (lv_at hl 2 rfl) ?_
        refine lv_bipush (v := (nI 14)) hx hb dX5_digest_126 (by decide) ?_
        have kc := (kX5_tells l Γ a ms mt mc md (nI S) (nI 0) (nI T) m3 m4 m5 (nI 14))
        generalize hr_2 : (fX5_tells ms (nI 14)) = r_2 at kc hq
        replace hq : (fX5_digest S T K ms mt) = (let r_3 := (fX5_tells ms (nI 56)); (let r_4 := (fX5_tells ms (nI 255)); (let r_5 := (fX5_keys ms (nI 0)); (let r_6 := (fX5_keys ms (nI 3)); (let r_7 := (fX5_keys ms (nI 7)); (let r_8 := (fX5_keys ms (nI 24)); (let r_9 := (fX5_keys ms (nI 255)); (let r_10 := (fX5_reason ms (0) (((nI 1) <<< ((ms 1) &&& 31)) - (nI 1)) (nI 0)); (let r_11 := (fX5_least ms (nI 0)); (let r_12 := (fX5_groupsOf ms (0)); (let r_13 := (fX5_needs K ms); (let r_14 := (fX5_makesPeace K r_13.2 (nI 0)); (let r_15 := (fX5_makesPeace K r_14.2 (nI 1)); (let r_16 := (fX5_firsts r_15.2); (let r_17 := (fD2L r_16); (fX5_digest_L361 mt r_15 (T) 0 (((31 : Int64) * (((31 : Int64) * (((31 : Int64) * (((31 : Int64) * (((31 : Int64) * (((31 : Int64) * (((31 : Int64) * (((31 : Int64) * (((31 : Int64) * (((31 : Int64) * (((31 : Int64) * (((31 : Int64) * (((31 : Int64) * (((31 : Int64) * (((31 : Int64) * (((31 : Int64) * (((31 : Int64) * (((31 : Int64) * x1_76) + (r_1.toInt64))) + (r_2.toInt64))) + (r_3.toInt64))) + (r_4.toInt64))) + (r_5.toInt64))) + (r_6.toInt64))) + (r_7.toInt64))) + (r_8.toInt64))) + (r_9.toInt64))) + (r_10.toInt64))) + (r_11.toInt64))) + ((fX5_least ms (nI 1)).toInt64))) + (r_12.toInt64))) + (r_13.1.toInt64))) + (r_14.1.toInt64))) + (r_15.1.toInt64))) + r_17)) + ((nI T).toInt64)))))))))))))))))) := hq
        refine cLI (va_runV (As := [.int (nI 14)]) (rest := [.long ((31 : Int64) * (((31 : Int64) * x1_76) + (r_1.toInt64)))]) ⟨hx, hb, hml, hown, hts⟩ (kc _) (cwV 1 hts gX5_digest_X5_tells rfl rfl rfl (by decide +kernel) ⟨Nat.le_of_ble_eq_true rfl, Nat.le_of_ble_eq_true rfl⟩) ⟨wPre_blind, va_recv hK hP (ci := 5) (q0 := 0) rfl rfl, wPre_mk hP hD hK hS hA hAB hAm [0] rfl rfl⟩ rfl rfl hl.1 rfl (lv_room (Nat.le_of_ble_eq_true rfl)) dX5_digest_128 ⟨Nat.zero_le _, Nat.zero_le _⟩) hP hS hA (fun H locs hP hS => ?_)
        refine lv_i2l (v := r_2.toInt64) hx hb dX5_digest_131 rfl ?_
        refine lv_ladd hx hb dX5_digest_132 ?_
        refine lv_lstore_n (lv' := [(1, .long (((31 : Int64) * (((31 : Int64) * x1_76) + (r_1.toInt64))) + (r_2.toInt64))), (3, .int (nI i76)), (0, .ref (a 0))]) hx hb dX5_digest_133 rfl hl (by decide) rfl (fun ls hl => ?_)
        refine lv_ldc2 (v := 31) hx hb hown kc175 dX5_digest_134 ?_
        refine lv_lload_n hx hb dX5_digest_137 rfl (lv_at hl 0 rfl) ?_
        refine lv_lmul hx hb dX5_digest_138 ?_
        refine lv_aload_n hx hb dX5_digest_139 rfl (lv_at hl 2 rfl) ?_
        refine lv_bipush (v := (nI 56)) hx hb dX5_digest_140 (by decide) ?_
        have kc := (kX5_tells l Γ a ms mt mc md (nI S) (nI 0) (nI T) m3 m4 m5 (nI 56))
        generalize hr_3 : (fX5_tells ms (nI 56)) = r_3 at kc hq
        replace hq : (fX5_digest S T K ms mt) = (let r_4 := (fX5_tells ms (nI 255)); (let r_5 := (fX5_keys ms (nI 0)); (let r_6 := (fX5_keys ms (nI 3)); (let r_7 := (fX5_keys ms (nI 7)); (let r_8 := (fX5_keys ms (nI 24)); (let r_9 := (fX5_keys ms (nI 255)); (let r_10 := (fX5_reason ms (0) (((nI 1) <<< ((ms 1) &&& 31)) - (nI 1)) (nI 0)); (let r_11 := (fX5_least ms (nI 0)); (let r_12 := (fX5_groupsOf ms (0)); (let r_13 := (fX5_needs K ms); (let r_14 := (fX5_makesPeace K r_13.2 (nI 0)); (let r_15 := (fX5_makesPeace K r_14.2 (nI 1)); (let r_16 := (fX5_firsts r_15.2); (let r_17 := (fD2L r_16); (fX5_digest_L361 mt r_15 (T) 0 (((31 : Int64) * (((31 : Int64) * (((31 : Int64) * (((31 : Int64) * (((31 : Int64) * (((31 : Int64) * (((31 : Int64) * (((31 : Int64) * (((31 : Int64) * (((31 : Int64) * (((31 : Int64) * (((31 : Int64) * (((31 : Int64) * (((31 : Int64) * (((31 : Int64) * (((31 : Int64) * (((31 : Int64) * (((31 : Int64) * x1_76) + (r_1.toInt64))) + (r_2.toInt64))) + (r_3.toInt64))) + (r_4.toInt64))) + (r_5.toInt64))) + (r_6.toInt64))) + (r_7.toInt64))) + (r_8.toInt64))) + (r_9.toInt64))) + (r_10.toInt64))) + (r_11.toInt64))) + ((fX5_least ms (nI 1)).toInt64))) + (r_12.toInt64))) + (r_13.1.toInt64))) + (r_14.1.toInt64))) + (r_15.1.toInt64))) + r_17)) + ((nI T).toInt64))))))))))))))))) := hq
        refine cLI (va_runV (As := [.int (nI 56)]) (rest := [.long ((31 : Int64) * (((31 : Int64) * (((31 : Int64) * x1_76) + (r_1.toInt64))) + (r_2.toInt64)))]) ⟨hx, hb, hml, hown, hts⟩ (kc _) (cwV 1 hts gX5_digest_X5_tells rfl rfl rfl (by decide +kernel) ⟨Nat.le_of_ble_eq_true rfl, Nat.le_of_ble_eq_true rfl⟩) ⟨wPre_blind, va_recv hK hP (ci := 5) (q0 := 0) rfl rfl, wPre_mk hP hD hK hS hA hAB hAm [0] rfl rfl⟩ rfl rfl hl.1 rfl (lv_room (Nat.le_of_ble_eq_true rfl)) dX5_digest_142 ⟨Nat.zero_le _, Nat.zero_le _⟩) hP hS hA (fun H locs hP hS => ?_)
        refine lv_i2l (v := r_3.toInt64) hx hb dX5_digest_145 rfl ?_
        refine lv_ladd hx hb dX5_digest_146 ?_
        refine lv_lstore_n (lv' := [(1, .long (((31 : Int64) * (((31 : Int64) * (((31 : Int64) * x1_76) + (r_1.toInt64))) + (r_2.toInt64))) + (r_3.toInt64))), (3, .int (nI i76)), (0, .ref (a 0))]) hx hb dX5_digest_147 rfl hl (by decide) rfl (fun ls hl => ?_)
        refine lv_ldc2 (v := 31) hx hb hown kc175 dX5_digest_148 ?_
        refine lv_lload_n hx hb dX5_digest_151 rfl (lv_at hl 0 rfl) ?_
        refine lv_lmul hx hb dX5_digest_152 ?_
        refine lv_aload_n hx hb dX5_digest_153 rfl (lv_at hl 2 rfl) ?_
        refine lv_sipush (v := (nI 255)) hx hb dX5_digest_154 (by decide) ?_
        have kc := (kX5_tells l Γ a ms mt mc md (nI S) (nI 0) (nI T) m3 m4 m5 (nI 255))
        generalize hr_4 : (fX5_tells ms (nI 255)) = r_4 at kc hq
        replace hq : (fX5_digest S T K ms mt) = (let r_5 := (fX5_keys ms (nI 0)); (let r_6 := (fX5_keys ms (nI 3)); (let r_7 := (fX5_keys ms (nI 7)); (let r_8 := (fX5_keys ms (nI 24)); (let r_9 := (fX5_keys ms (nI 255)); (let r_10 := (fX5_reason ms (0) (((nI 1) <<< ((ms 1) &&& 31)) - (nI 1)) (nI 0)); (let r_11 := (fX5_least ms (nI 0)); (let r_12 := (fX5_groupsOf ms (0)); (let r_13 := (fX5_needs K ms); (let r_14 := (fX5_makesPeace K r_13.2 (nI 0)); (let r_15 := (fX5_makesPeace K r_14.2 (nI 1)); (let r_16 := (fX5_firsts r_15.2); (let r_17 := (fD2L r_16); (fX5_digest_L361 mt r_15 (T) 0 (((31 : Int64) * (((31 : Int64) * (((31 : Int64) * (((31 : Int64) * (((31 : Int64) * (((31 : Int64) * (((31 : Int64) * (((31 : Int64) * (((31 : Int64) * (((31 : Int64) * (((31 : Int64) * (((31 : Int64) * (((31 : Int64) * (((31 : Int64) * (((31 : Int64) * (((31 : Int64) * (((31 : Int64) * (((31 : Int64) * x1_76) + (r_1.toInt64))) + (r_2.toInt64))) + (r_3.toInt64))) + (r_4.toInt64))) + (r_5.toInt64))) + (r_6.toInt64))) + (r_7.toInt64))) + (r_8.toInt64))) + (r_9.toInt64))) + (r_10.toInt64))) + (r_11.toInt64))) + ((fX5_least ms (nI 1)).toInt64))) + (r_12.toInt64))) + (r_13.1.toInt64))) + (r_14.1.toInt64))) + (r_15.1.toInt64))) + r_17)) + ((nI T).toInt64)))))))))))))))) := hq
        refine cLI (va_runV (As := [.int (nI 255)]) (rest := [.long ((31 : Int64) * (((31 : Int64) * (((31 : Int64) * (((31 : Int64) * x1_76) + (r_1.toInt64))) + (r_2.toInt64))) + (r_3.toInt64)))]) ⟨hx, hb, hml, hown, hts⟩ (kc _) (cwV 1 hts gX5_digest_X5_tells rfl rfl rfl (by decide +kernel) ⟨Nat.le_of_ble_eq_true rfl, Nat.le_of_ble_eq_true rfl⟩) ⟨wPre_blind, va_recv hK hP (ci := 5) (q0 := 0) rfl rfl, wPre_mk hP hD hK hS hA hAB hAm [0] rfl rfl⟩ rfl rfl hl.1 rfl (lv_room (Nat.le_of_ble_eq_true rfl)) dX5_digest_157 ⟨Nat.zero_le _, Nat.zero_le _⟩) hP hS hA (fun H locs hP hS => ?_)
        refine lv_i2l (v := r_4.toInt64) hx hb dX5_digest_160 rfl ?_
        refine lv_ladd hx hb dX5_digest_161 ?_
        refine lv_lstore_n (lv' := [(1, .long (((31 : Int64) * (((31 : Int64) * (((31 : Int64) * (((31 : Int64) * x1_76) + (r_1.toInt64))) + (r_2.toInt64))) + (r_3.toInt64))) + (r_4.toInt64))), (3, .int (nI i76)), (0, .ref (a 0))]) hx hb dX5_digest_162 rfl hl (by decide) rfl (fun ls hl => ?_)
        refine lv_ldc2 (v := 31) hx hb hown kc175 dX5_digest_163 ?_
        refine lv_lload_n hx hb dX5_digest_166 rfl (lv_at hl 0 rfl) ?_
        refine lv_lmul hx hb dX5_digest_167 ?_
        refine lv_aload_n hx hb dX5_digest_168 rfl (lv_at hl 2 rfl) ?_
        refine lv_iconst (v := (nI 0)) hx hb dX5_digest_169 (by decide) ?_
        have kc := (kX5_keys l Γ a ms mt mc md (nI S) (nI 0) (nI T) m3 m4 m5 (nI 0))
        generalize hr_5 : (fX5_keys ms (nI 0)) = r_5 at kc hq
        replace hq : (fX5_digest S T K ms mt) = (let r_6 := (fX5_keys ms (nI 3)); (let r_7 := (fX5_keys ms (nI 7)); (let r_8 := (fX5_keys ms (nI 24)); (let r_9 := (fX5_keys ms (nI 255)); (let r_10 := (fX5_reason ms (0) (((nI 1) <<< ((ms 1) &&& 31)) - (nI 1)) (nI 0)); (let r_11 := (fX5_least ms (nI 0)); (let r_12 := (fX5_groupsOf ms (0)); (let r_13 := (fX5_needs K ms); (let r_14 := (fX5_makesPeace K r_13.2 (nI 0)); (let r_15 := (fX5_makesPeace K r_14.2 (nI 1)); (let r_16 := (fX5_firsts r_15.2); (let r_17 := (fD2L r_16); (fX5_digest_L361 mt r_15 (T) 0 (((31 : Int64) * (((31 : Int64) * (((31 : Int64) * (((31 : Int64) * (((31 : Int64) * (((31 : Int64) * (((31 : Int64) * (((31 : Int64) * (((31 : Int64) * (((31 : Int64) * (((31 : Int64) * (((31 : Int64) * (((31 : Int64) * (((31 : Int64) * (((31 : Int64) * (((31 : Int64) * (((31 : Int64) * (((31 : Int64) * x1_76) + (r_1.toInt64))) + (r_2.toInt64))) + (r_3.toInt64))) + (r_4.toInt64))) + (r_5.toInt64))) + (r_6.toInt64))) + (r_7.toInt64))) + (r_8.toInt64))) + (r_9.toInt64))) + (r_10.toInt64))) + (r_11.toInt64))) + ((fX5_least ms (nI 1)).toInt64))) + (r_12.toInt64))) + (r_13.1.toInt64))) + (r_14.1.toInt64))) + (r_15.1.toInt64))) + r_17)) + ((nI T).toInt64))))))))))))))) := hq
        refine cLI (va_runV (As := [.int (nI 0)]) (rest := [.long ((31 : Int64) * (((31 : Int64) * (((31 : Int64) * (((31 : Int64) * (((31 : Int64) * x1_76) + (r_1.toInt64))) + (r_2.toInt64))) + (r_3.toInt64))) + (r_4.toInt64)))]) ⟨hx, hb, hml, hown, hts⟩ (kc _) (cwV 1 hts gX5_digest_X5_keys rfl rfl rfl (by decide +kernel) ⟨Nat.le_of_ble_eq_true rfl, Nat.le_of_ble_eq_true rfl⟩) ⟨wPre_blind, va_recv hK hP (ci := 5) (q0 := 0) rfl rfl, wPre_mk hP hD hK hS hA hAB hAm [0] rfl rfl⟩ rfl rfl hl.1 rfl (lv_room (Nat.le_of_ble_eq_true rfl)) dX5_digest_170 ⟨Nat.zero_le _, Nat.zero_le _⟩) hP hS hA (fun H locs hP hS => ?_)
        refine lv_i2l (v := r_5.toInt64) hx hb dX5_digest_173 rfl ?_
        refine lv_ladd hx hb dX5_digest_174 ?_
        refine lv_lstore_n (lv' := [(1, .long (((31 : Int64) * (((31 : Int64) * (((31 : Int64) * (((31 : Int64) * (((31 : Int64) * x1_76) + (r_1.toInt64))) + (r_2.toInt64))) + (r_3.toInt64))) + (r_4.toInt64))) + (r_5.toInt64))), (3, .int (nI i76)), (0, .ref (a 0))]) hx hb dX5_digest_175 rfl hl (by decide) rfl (fun ls hl => ?_)
        refine lv_ldc2 (v := 31) hx hb hown kc175 dX5_digest_176 ?_
        refine lv_lload_n hx hb dX5_digest_179 rfl (lv_at hl 0 rfl) ?_
        refine lv_lmul hx hb dX5_digest_180 ?_
        refine lv_aload_n hx hb dX5_digest_181 rfl (lv_at hl 2 rfl) ?_
        refine lv_iconst (v := (nI 3)) hx hb dX5_digest_182 (by decide) ?_
        have kc := (kX5_keys l Γ a ms mt mc md (nI S) (nI 0) (nI T) m3 m4 m5 (nI 3))
        generalize hr_6 : (fX5_keys ms (nI 3)) = r_6 at kc hq
        replace hq : (fX5_digest S T K ms mt) = (let r_7 := (fX5_keys ms (nI 7)); (let r_8 := (fX5_keys ms (nI 24)); (let r_9 := (fX5_keys ms (nI 255)); (let r_10 := (fX5_reason ms (0) (((nI 1) <<< ((ms 1) &&& 31)) - (nI 1)) (nI 0)); (let r_11 := (fX5_least ms (nI 0)); (let r_12 := (fX5_groupsOf ms (0)); (let r_13 := (fX5_needs K ms); (let r_14 := (fX5_makesPeace K r_13.2 (nI 0)); (let r_15 := (fX5_makesPeace K r_14.2 (nI 1)); (let r_16 := (fX5_firsts r_15.2); (let r_17 := (fD2L r_16); (fX5_digest_L361 mt r_15 (T) 0 (((31 : Int64) * (((31 : Int64) * (((31 : Int64) * (((31 : Int64) * (((31 : Int64) * (((31 : Int64) * (((31 : Int64) * (((31 : Int64) * (((31 : Int64) * (((31 : Int64) * (((31 : Int64) * (((31 : Int64) * (((31 : Int64) * (((31 : Int64) * (((31 : Int64) * (((31 : Int64) * (((31 : Int64) * (((31 : Int64) * x1_76) + (r_1.toInt64))) + (r_2.toInt64))) + (r_3.toInt64))) + (r_4.toInt64))) + (r_5.toInt64))) + (r_6.toInt64))) + (r_7.toInt64))) + (r_8.toInt64))) + (r_9.toInt64))) + (r_10.toInt64))) + (r_11.toInt64))) + ((fX5_least ms (nI 1)).toInt64))) + (r_12.toInt64))) + (r_13.1.toInt64))) + (r_14.1.toInt64))) + (r_15.1.toInt64))) + r_17)) + ((nI T).toInt64)))))))))))))) := hq
        refine cLI (va_runV (As := [.int (nI 3)]) (rest := [.long ((31 : Int64) * (((31 : Int64) * (((31 : Int64) * (((31 : Int64) * (((31 : Int64) * (((31 : Int64) * x1_76) + (r_1.toInt64))) + (r_2.toInt64))) + (r_3.toInt64))) + (r_4.toInt64))) + (r_5.toInt64)))]) ⟨hx, hb, hml, hown, hts⟩ (kc _) (cwV 1 hts gX5_digest_X5_keys rfl rfl rfl (by decide +kernel) ⟨Nat.le_of_ble_eq_true rfl, Nat.le_of_ble_eq_true rfl⟩) ⟨wPre_blind, va_recv hK hP (ci := 5) (q0 := 0) rfl rfl, wPre_mk hP hD hK hS hA hAB hAm [0] rfl rfl⟩ rfl rfl hl.1 rfl (lv_room (Nat.le_of_ble_eq_true rfl)) dX5_digest_183 ⟨Nat.zero_le _, Nat.zero_le _⟩) hP hS hA (fun H locs hP hS => ?_)
        refine lv_i2l (v := r_6.toInt64) hx hb dX5_digest_186 rfl ?_
        refine lv_ladd hx hb dX5_digest_187 ?_
        refine lv_lstore_n (lv' := [(1, .long (((31 : Int64) * (((31 : Int64) * (((31 : Int64) * (((31 : Int64) * (((31 : Int64) * (((31 : Int64) * x1_76) + (r_1.toInt64))) + (r_2.toInt64))) + (r_3.toInt64))) + (r_4.toInt64))) + (r_5.toInt64))) + (r_6.toInt64))), (3, .int (nI i76)), (0, .ref (a 0))]) hx hb dX5_digest_188 rfl hl (by decide) rfl (fun ls hl => ?_)
        refine lv_ldc2 (v := 31) hx hb hown kc175 dX5_digest_189 ?_
        refine lv_lload_n hx hb dX5_digest_192 rfl (lv_at hl 0 rfl) ?_
        refine lv_lmul hx hb dX5_digest_193 ?_
        refine lv_aload_n hx hb dX5_digest_194 rfl (lv_at hl 2 rfl) ?_
        refine lv_bipush (v := (nI 7)) hx hb dX5_digest_195 (by decide) ?_
        have kc := (kX5_keys l Γ a ms mt mc md (nI S) (nI 0) (nI T) m3 m4 m5 (nI 7))
        generalize hr_7 : (fX5_keys ms (nI 7)) = r_7 at kc hq
        replace hq : (fX5_digest S T K ms mt) = (let r_8 := (fX5_keys ms (nI 24)); (let r_9 := (fX5_keys ms (nI 255)); (let r_10 := (fX5_reason ms (0) (((nI 1) <<< ((ms 1) &&& 31)) - (nI 1)) (nI 0)); (let r_11 := (fX5_least ms (nI 0)); (let r_12 := (fX5_groupsOf ms (0)); (let r_13 := (fX5_needs K ms); (let r_14 := (fX5_makesPeace K r_13.2 (nI 0)); (let r_15 := (fX5_makesPeace K r_14.2 (nI 1)); (let r_16 := (fX5_firsts r_15.2); (let r_17 := (fD2L r_16); (fX5_digest_L361 mt r_15 (T) 0 (((31 : Int64) * (((31 : Int64) * (((31 : Int64) * (((31 : Int64) * (((31 : Int64) * (((31 : Int64) * (((31 : Int64) * (((31 : Int64) * (((31 : Int64) * (((31 : Int64) * (((31 : Int64) * (((31 : Int64) * (((31 : Int64) * (((31 : Int64) * (((31 : Int64) * (((31 : Int64) * (((31 : Int64) * (((31 : Int64) * x1_76) + (r_1.toInt64))) + (r_2.toInt64))) + (r_3.toInt64))) + (r_4.toInt64))) + (r_5.toInt64))) + (r_6.toInt64))) + (r_7.toInt64))) + (r_8.toInt64))) + (r_9.toInt64))) + (r_10.toInt64))) + (r_11.toInt64))) + ((fX5_least ms (nI 1)).toInt64))) + (r_12.toInt64))) + (r_13.1.toInt64))) + (r_14.1.toInt64))) + (r_15.1.toInt64))) + r_17)) + ((nI T).toInt64))))))))))))) := hq
        refine cLI (va_runV (As := [.int (nI 7)]) (rest := [.long ((31 : Int64) * (((31 : Int64) * (((31 : Int64) * (((31 : Int64) * (((31 : Int64) * (((31 : Int64) * (((31 : Int64) * x1_76) + (r_1.toInt64))) + (r_2.toInt64))) + (r_3.toInt64))) + (r_4.toInt64))) + (r_5.toInt64))) + (r_6.toInt64)))]) ⟨hx, hb, hml, hown, hts⟩ (kc _) (cwV 1 hts gX5_digest_X5_keys rfl rfl rfl (by decide +kernel) ⟨Nat.le_of_ble_eq_true rfl, Nat.le_of_ble_eq_true rfl⟩) ⟨wPre_blind, va_recv hK hP (ci := 5) (q0 := 0) rfl rfl, wPre_mk hP hD hK hS hA hAB hAm [0] rfl rfl⟩ rfl rfl hl.1 rfl (lv_room (Nat.le_of_ble_eq_true rfl)) dX5_digest_197 ⟨Nat.zero_le _, Nat.zero_le _⟩) hP hS hA (fun H locs hP hS => ?_)
        refine lv_i2l (v := r_7.toInt64) hx hb dX5_digest_200 rfl ?_
        refine lv_ladd hx hb dX5_digest_201 ?_
        refine lv_lstore_n (lv' := [(1, .long (((31 : Int64) * (((31 : Int64) * (((31 : Int64) * (((31 : Int64) * (((31 : Int64) * (((31 : Int64) * (((31 : Int64) * x1_76) + (r_1.toInt64))) + (r_2.toInt64))) + (r_3.toInt64))) + (r_4.toInt64))) + (r_5.toInt64))) + (r_6.toInt64))) + (r_7.toInt64))), (3, .int (nI i76)), (0, .ref (a 0))]) hx hb dX5_digest_202 rfl hl (by decide) rfl (fun ls hl => ?_)
        refine lv_ldc2 (v := 31) hx hb hown kc175 dX5_digest_203 ?_
        refine lv_lload_n hx hb dX5_digest_206 rfl (lv_at hl 0 rfl) ?_
        refine lv_lmul hx hb dX5_digest_207 ?_
        refine lv_aload_n hx hb dX5_digest_208 rfl (lv_at hl 2 rfl) ?_
        refine lv_bipush (v := (nI 24)) hx hb dX5_digest_209 (by decide) ?_
        have kc := (kX5_keys l Γ a ms mt mc md (nI S) (nI 0) (nI T) m3 m4 m5 (nI 24))
        generalize hr_8 : (fX5_keys ms (nI 24)) = r_8 at kc hq
        replace hq : (fX5_digest S T K ms mt) = (let r_9 := (fX5_keys ms (nI 255)); (let r_10 := (fX5_reason ms (0) (((nI 1) <<< ((ms 1) &&& 31)) - (nI 1)) (nI 0)); (let r_11 := (fX5_least ms (nI 0)); (let r_12 := (fX5_groupsOf ms (0)); (let r_13 := (fX5_needs K ms); (let r_14 := (fX5_makesPeace K r_13.2 (nI 0)); (let r_15 := (fX5_makesPeace K r_14.2 (nI 1)); (let r_16 := (fX5_firsts r_15.2); (let r_17 := (fD2L r_16); (fX5_digest_L361 mt r_15 (T) 0 (((31 : Int64) * (((31 : Int64) * (((31 : Int64) * (((31 : Int64) * (((31 : Int64) * (((31 : Int64) * (((31 : Int64) * (((31 : Int64) * (((31 : Int64) * (((31 : Int64) * (((31 : Int64) * (((31 : Int64) * (((31 : Int64) * (((31 : Int64) * (((31 : Int64) * (((31 : Int64) * (((31 : Int64) * (((31 : Int64) * x1_76) + (r_1.toInt64))) + (r_2.toInt64))) + (r_3.toInt64))) + (r_4.toInt64))) + (r_5.toInt64))) + (r_6.toInt64))) + (r_7.toInt64))) + (r_8.toInt64))) + (r_9.toInt64))) + (r_10.toInt64))) + (r_11.toInt64))) + ((fX5_least ms (nI 1)).toInt64))) + (r_12.toInt64))) + (r_13.1.toInt64))) + (r_14.1.toInt64))) + (r_15.1.toInt64))) + r_17)) + ((nI T).toInt64)))))))))))) := hq
        refine cLI (va_runV (As := [.int (nI 24)]) (rest := [.long ((31 : Int64) * (((31 : Int64) * (((31 : Int64) * (((31 : Int64) * (((31 : Int64) * (((31 : Int64) * (((31 : Int64) * (((31 : Int64) * x1_76) + (r_1.toInt64))) + (r_2.toInt64))) + (r_3.toInt64))) + (r_4.toInt64))) + (r_5.toInt64))) + (r_6.toInt64))) + (r_7.toInt64)))]) ⟨hx, hb, hml, hown, hts⟩ (kc _) (cwV 1 hts gX5_digest_X5_keys rfl rfl rfl (by decide +kernel) ⟨Nat.le_of_ble_eq_true rfl, Nat.le_of_ble_eq_true rfl⟩) ⟨wPre_blind, va_recv hK hP (ci := 5) (q0 := 0) rfl rfl, wPre_mk hP hD hK hS hA hAB hAm [0] rfl rfl⟩ rfl rfl hl.1 rfl (lv_room (Nat.le_of_ble_eq_true rfl)) dX5_digest_211 ⟨Nat.zero_le _, Nat.zero_le _⟩) hP hS hA (fun H locs hP hS => ?_)
        refine lv_i2l (v := r_8.toInt64) hx hb dX5_digest_214 rfl ?_
        refine lv_ladd hx hb dX5_digest_215 ?_
        refine lv_lstore_n (lv' := [(1, .long (((31 : Int64) * (((31 : Int64) * (((31 : Int64) * (((31 : Int64) * (((31 : Int64) * (((31 : Int64) * (((31 : Int64) * (((31 : Int64) * x1_76) + (r_1.toInt64))) + (r_2.toInt64))) + (r_3.toInt64))) + (r_4.toInt64))) + (r_5.toInt64))) + (r_6.toInt64))) + (r_7.toInt64))) + (r_8.toInt64))), (3, .int (nI i76)), (0, .ref (a 0))]) hx hb dX5_digest_216 rfl hl (by decide) rfl (fun ls hl => ?_)
        refine lv_ldc2 (v := 31) hx hb hown kc175 dX5_digest_217 ?_
        refine lv_lload_n hx hb dX5_digest_220 rfl (lv_at hl 0 rfl) ?_
        refine lv_lmul hx hb dX5_digest_221 ?_
        refine lv_aload_n hx hb dX5_digest_222 rfl (lv_at hl 2 rfl) ?_
        refine lv_sipush (v := (nI 255)) hx hb dX5_digest_223 (by decide) ?_
        have kc := (kX5_keys l Γ a ms mt mc md (nI S) (nI 0) (nI T) m3 m4 m5 (nI 255))
        generalize hr_9 : (fX5_keys ms (nI 255)) = r_9 at kc hq
        replace hq : (fX5_digest S T K ms mt) = (let r_10 := (fX5_reason ms (0) (((nI 1) <<< ((ms 1) &&& 31)) - (nI 1)) (nI 0)); (let r_11 := (fX5_least ms (nI 0)); (let r_12 := (fX5_groupsOf ms (0)); (let r_13 := (fX5_needs K ms); (let r_14 := (fX5_makesPeace K r_13.2 (nI 0)); (let r_15 := (fX5_makesPeace K r_14.2 (nI 1)); (let r_16 := (fX5_firsts r_15.2); (let r_17 := (fD2L r_16); (fX5_digest_L361 mt r_15 (T) 0 (((31 : Int64) * (((31 : Int64) * (((31 : Int64) * (((31 : Int64) * (((31 : Int64) * (((31 : Int64) * (((31 : Int64) * (((31 : Int64) * (((31 : Int64) * (((31 : Int64) * (((31 : Int64) * (((31 : Int64) * (((31 : Int64) * (((31 : Int64) * (((31 : Int64) * (((31 : Int64) * (((31 : Int64) * (((31 : Int64) * x1_76) + (r_1.toInt64))) + (r_2.toInt64))) + (r_3.toInt64))) + (r_4.toInt64))) + (r_5.toInt64))) + (r_6.toInt64))) + (r_7.toInt64))) + (r_8.toInt64))) + (r_9.toInt64))) + (r_10.toInt64))) + (r_11.toInt64))) + ((fX5_least ms (nI 1)).toInt64))) + (r_12.toInt64))) + (r_13.1.toInt64))) + (r_14.1.toInt64))) + (r_15.1.toInt64))) + r_17)) + ((nI T).toInt64))))))))))) := hq
        refine cLI (va_runV (As := [.int (nI 255)]) (rest := [.long ((31 : Int64) * (((31 : Int64) * (((31 : Int64) * (((31 : Int64) * (((31 : Int64) * (((31 : Int64) * (((31 : Int64) * (((31 : Int64) * (((31 : Int64) * x1_76) + (r_1.toInt64))) + (r_2.toInt64))) + (r_3.toInt64))) + (r_4.toInt64))) + (r_5.toInt64))) + (r_6.toInt64))) + (r_7.toInt64))) + (r_8.toInt64)))]) ⟨hx, hb, hml, hown, hts⟩ (kc _) (cwV 1 hts gX5_digest_X5_keys rfl rfl rfl (by decide +kernel) ⟨Nat.le_of_ble_eq_true rfl, Nat.le_of_ble_eq_true rfl⟩) ⟨wPre_blind, va_recv hK hP (ci := 5) (q0 := 0) rfl rfl, wPre_mk hP hD hK hS hA hAB hAm [0] rfl rfl⟩ rfl rfl hl.1 rfl (lv_room (Nat.le_of_ble_eq_true rfl)) dX5_digest_226 ⟨Nat.zero_le _, Nat.zero_le _⟩) hP hS hA (fun H locs hP hS => ?_)
        refine lv_i2l (v := r_9.toInt64) hx hb dX5_digest_229 rfl ?_
        refine lv_ladd hx hb dX5_digest_230 ?_
        refine lv_lstore_n (lv' := [(1, .long (((31 : Int64) * (((31 : Int64) * (((31 : Int64) * (((31 : Int64) * (((31 : Int64) * (((31 : Int64) * (((31 : Int64) * (((31 : Int64) * (((31 : Int64) * x1_76) + (r_1.toInt64))) + (r_2.toInt64))) + (r_3.toInt64))) + (r_4.toInt64))) + (r_5.toInt64))) + (r_6.toInt64))) + (r_7.toInt64))) + (r_8.toInt64))) + (r_9.toInt64))), (3, .int (nI i76)), (0, .ref (a 0))]) hx hb dX5_digest_231 rfl hl (by decide) rfl (fun ls hl => ?_)
        refine lv_ldc2 (v := 31) hx hb hown kc175 dX5_digest_232 ?_
        refine lv_lload_n hx hb dX5_digest_235 rfl (lv_at hl 0 rfl) ?_
        refine lv_lmul hx hb dX5_digest_236 ?_
        refine lv_aload_n hx hb dX5_digest_237 rfl (lv_at hl 2 rfl) ?_
        refine lv_iconst (v := (nI 0)) hx hb dX5_digest_238 (by decide) ?_
        refine lv_iconst (v := (nI 1)) hx hb dX5_digest_239 (by decide) ?_
        refine lv_aload_n hx hb dX5_digest_240 rfl (lv_at hl 2 rfl) ?_
        refine va_get (D := Γ.1) (ci := 5) (v := .ref (a 1)) (C := RX5) (T := TX5) (N := 10) hx hb hts hi5 hown hK hP 0 rfl rfl 0 (by decide) kf7 (fun _ h9 => h9) rfl dX5_digest_241 ?_
        refine lv_iconst (v := (nI 1)) hx hb dX5_digest_244 (by decide) ?_
        refine va_iald_n (f := ms) hx hb hK hP 1 0 rfl rfl (by omega) (Nat.le_of_ble_eq_true rfl) dX5_digest_245 ?_
        refine lv_ishl hx hb dX5_digest_246 ?_
        refine lv_iconst (v := (nI 1)) hx hb dX5_digest_247 (by decide) ?_
        refine lv_isub hx hb dX5_digest_248 ?_
        refine lv_iconst (v := (nI 0)) hx hb dX5_digest_249 (by decide) ?_
        have kc := (kX5_reason l Γ a ms mt mc md (nI S) (nI 0) (nI T) m3 m4 m5 (0) (((nI 1) <<< ((ms 1) &&& 31)) - (nI 1)) (nI 0) (by first | decide | assumption | omega))
        generalize hr_10 : (fX5_reason ms (0) (((nI 1) <<< ((ms 1) &&& 31)) - (nI 1)) (nI 0)) = r_10 at kc hq
        replace hq : (fX5_digest S T K ms mt) = (let r_11 := (fX5_least ms (nI 0)); (let r_12 := (fX5_groupsOf ms (0)); (let r_13 := (fX5_needs K ms); (let r_14 := (fX5_makesPeace K r_13.2 (nI 0)); (let r_15 := (fX5_makesPeace K r_14.2 (nI 1)); (let r_16 := (fX5_firsts r_15.2); (let r_17 := (fD2L r_16); (fX5_digest_L361 mt r_15 (T) 0 (((31 : Int64) * (((31 : Int64) * (((31 : Int64) * (((31 : Int64) * (((31 : Int64) * (((31 : Int64) * (((31 : Int64) * (((31 : Int64) * (((31 : Int64) * (((31 : Int64) * (((31 : Int64) * (((31 : Int64) * (((31 : Int64) * (((31 : Int64) * (((31 : Int64) * (((31 : Int64) * (((31 : Int64) * (((31 : Int64) * x1_76) + (r_1.toInt64))) + (r_2.toInt64))) + (r_3.toInt64))) + (r_4.toInt64))) + (r_5.toInt64))) + (r_6.toInt64))) + (r_7.toInt64))) + (r_8.toInt64))) + (r_9.toInt64))) + (r_10.toInt64))) + (r_11.toInt64))) + ((fX5_least ms (nI 1)).toInt64))) + (r_12.toInt64))) + (r_13.1.toInt64))) + (r_14.1.toInt64))) + (r_15.1.toInt64))) + r_17)) + ((nI T).toInt64)))))))))) := hq
        refine cLI (va_runV (As := [.int (nI 0), .int (((nI 1) <<< ((ms 1) &&& 31)) - (nI 1)), .int (nI 0)]) (rest := [.long ((31 : Int64) * (((31 : Int64) * (((31 : Int64) * (((31 : Int64) * (((31 : Int64) * (((31 : Int64) * (((31 : Int64) * (((31 : Int64) * (((31 : Int64) * (((31 : Int64) * x1_76) + (r_1.toInt64))) + (r_2.toInt64))) + (r_3.toInt64))) + (r_4.toInt64))) + (r_5.toInt64))) + (r_6.toInt64))) + (r_7.toInt64))) + (r_8.toInt64))) + (r_9.toInt64)))]) ⟨hx, hb, hml, hown, hts⟩ (kc _) (cwV 3 hts gX5_digest_X5_reason rfl rfl rfl (by decide +kernel) ⟨Nat.le_of_ble_eq_true rfl, Nat.le_of_ble_eq_true rfl⟩) ⟨wPre_blind, va_recv hK hP (ci := 5) (q0 := 0) rfl rfl, wPre_mk hP hD hK hS hA hAB hAm [0] rfl rfl⟩ rfl rfl hl.1 rfl (lv_room (Nat.le_of_ble_eq_true rfl)) dX5_digest_250 ⟨Nat.zero_le _, Nat.zero_le _⟩) hP hS hA (fun H locs hP hS => ?_)
        refine lv_i2l (v := r_10.toInt64) hx hb dX5_digest_253 rfl ?_
        refine lv_ladd hx hb dX5_digest_254 ?_
        refine lv_lstore_n (lv' := [(1, .long (((31 : Int64) * (((31 : Int64) * (((31 : Int64) * (((31 : Int64) * (((31 : Int64) * (((31 : Int64) * (((31 : Int64) * (((31 : Int64) * (((31 : Int64) * (((31 : Int64) * x1_76) + (r_1.toInt64))) + (r_2.toInt64))) + (r_3.toInt64))) + (r_4.toInt64))) + (r_5.toInt64))) + (r_6.toInt64))) + (r_7.toInt64))) + (r_8.toInt64))) + (r_9.toInt64))) + (r_10.toInt64))), (3, .int (nI i76)), (0, .ref (a 0))]) hx hb dX5_digest_255 rfl hl (by decide) rfl (fun ls hl => ?_)
        refine lv_ldc2 (v := 31) hx hb hown kc175 dX5_digest_256 ?_
        refine lv_lload_n hx hb dX5_digest_259 rfl (lv_at hl 0 rfl) ?_
        refine lv_lmul hx hb dX5_digest_260 ?_
        refine lv_aload_n hx hb dX5_digest_261 rfl (lv_at hl 2 rfl) ?_
        refine lv_iconst (v := (nI 0)) hx hb dX5_digest_262 (by decide) ?_
        have kc := (kX5_least l Γ a ms mt mc md (nI S) (nI 0) (nI T) m3 m4 m5 (nI 0))
        generalize hr_11 : (fX5_least ms (nI 0)) = r_11 at kc hq
        replace hq : (fX5_digest S T K ms mt) = (let r_12 := (fX5_groupsOf ms (0)); (let r_13 := (fX5_needs K ms); (let r_14 := (fX5_makesPeace K r_13.2 (nI 0)); (let r_15 := (fX5_makesPeace K r_14.2 (nI 1)); (let r_16 := (fX5_firsts r_15.2); (let r_17 := (fD2L r_16); (fX5_digest_L361 mt r_15 (T) 0 (((31 : Int64) * (((31 : Int64) * (((31 : Int64) * (((31 : Int64) * (((31 : Int64) * (((31 : Int64) * (((31 : Int64) * (((31 : Int64) * (((31 : Int64) * (((31 : Int64) * (((31 : Int64) * (((31 : Int64) * (((31 : Int64) * (((31 : Int64) * (((31 : Int64) * (((31 : Int64) * (((31 : Int64) * (((31 : Int64) * x1_76) + (r_1.toInt64))) + (r_2.toInt64))) + (r_3.toInt64))) + (r_4.toInt64))) + (r_5.toInt64))) + (r_6.toInt64))) + (r_7.toInt64))) + (r_8.toInt64))) + (r_9.toInt64))) + (r_10.toInt64))) + (r_11.toInt64))) + ((fX5_least ms (nI 1)).toInt64))) + (r_12.toInt64))) + (r_13.1.toInt64))) + (r_14.1.toInt64))) + (r_15.1.toInt64))) + r_17)) + ((nI T).toInt64))))))))) := hq
        refine cLI (va_runV (As := [.int (nI 0)]) (rest := [.long ((31 : Int64) * (((31 : Int64) * (((31 : Int64) * (((31 : Int64) * (((31 : Int64) * (((31 : Int64) * (((31 : Int64) * (((31 : Int64) * (((31 : Int64) * (((31 : Int64) * (((31 : Int64) * x1_76) + (r_1.toInt64))) + (r_2.toInt64))) + (r_3.toInt64))) + (r_4.toInt64))) + (r_5.toInt64))) + (r_6.toInt64))) + (r_7.toInt64))) + (r_8.toInt64))) + (r_9.toInt64))) + (r_10.toInt64)))]) ⟨hx, hb, hml, hown, hts⟩ (kc _) (cwV 1 hts gX5_digest_X5_least rfl rfl rfl (by decide +kernel) ⟨Nat.le_of_ble_eq_true rfl, Nat.le_of_ble_eq_true rfl⟩) ⟨wPre_blind, va_recv hK hP (ci := 5) (q0 := 0) rfl rfl, wPre_mk hP hD hK hS hA hAB hAm [0] rfl rfl⟩ rfl rfl hl.1 rfl (lv_room (Nat.le_of_ble_eq_true rfl)) dX5_digest_263 ⟨Nat.zero_le _, Nat.zero_le _⟩) hP hS hA (fun H locs hP hS => ?_)
        refine lv_i2l (v := r_11.toInt64) hx hb dX5_digest_266 rfl ?_
        refine lv_ladd hx hb dX5_digest_267 ?_
        refine lv_lstore_n (lv' := [(1, .long (((31 : Int64) * (((31 : Int64) * (((31 : Int64) * (((31 : Int64) * (((31 : Int64) * (((31 : Int64) * (((31 : Int64) * (((31 : Int64) * (((31 : Int64) * (((31 : Int64) * (((31 : Int64) * x1_76) + (r_1.toInt64))) + (r_2.toInt64))) + (r_3.toInt64))) + (r_4.toInt64))) + (r_5.toInt64))) + (r_6.toInt64))) + (r_7.toInt64))) + (r_8.toInt64))) + (r_9.toInt64))) + (r_10.toInt64))) + (r_11.toInt64))), (3, .int (nI i76)), (0, .ref (a 0))]) hx hb dX5_digest_268 rfl hl (by decide) rfl (fun ls hl => ?_)
        refine lv_ldc2 (v := 31) hx hb hown kc175 dX5_digest_269 ?_
        refine lv_lload_n hx hb dX5_digest_272 rfl (lv_at hl 0 rfl) ?_
        refine lv_lmul hx hb dX5_digest_273 ?_
        refine lv_aload_n hx hb dX5_digest_274 rfl (lv_at hl 2 rfl) ?_
        refine lv_iconst (v := (nI 1)) hx hb dX5_digest_275 (by decide) ?_
        refine cLI (va_runV (As := [.int (nI 1)]) (rest := [.long ((31 : Int64) * (((31 : Int64) * (((31 : Int64) * (((31 : Int64) * (((31 : Int64) * (((31 : Int64) * (((31 : Int64) * (((31 : Int64) * (((31 : Int64) * (((31 : Int64) * (((31 : Int64) * (((31 : Int64) * x1_76) + (r_1.toInt64))) + (r_2.toInt64))) + (r_3.toInt64))) + (r_4.toInt64))) + (r_5.toInt64))) + (r_6.toInt64))) + (r_7.toInt64))) + (r_8.toInt64))) + (r_9.toInt64))) + (r_10.toInt64))) + (r_11.toInt64)))]) ⟨hx, hb, hml, hown, hts⟩ ((kX5_least l Γ a ms mt mc md (nI S) (nI 0) (nI T) m3 m4 m5 (nI 1)) _) (cwV 1 hts gX5_digest_X5_least rfl rfl rfl (by decide +kernel) ⟨Nat.le_of_ble_eq_true rfl, Nat.le_of_ble_eq_true rfl⟩) ⟨wPre_blind, va_recv hK hP (ci := 5) (q0 := 0) rfl rfl, wPre_mk hP hD hK hS hA hAB hAm [0] rfl rfl⟩ rfl rfl hl.1 rfl (lv_room (Nat.le_of_ble_eq_true rfl)) dX5_digest_276 ⟨Nat.zero_le _, Nat.zero_le _⟩) hP hS hA (fun H locs hP hS => ?_)
        refine lv_i2l (v := (fX5_least ms (nI 1)).toInt64) hx hb dX5_digest_279 rfl ?_
        refine lv_ladd hx hb dX5_digest_280 ?_
        refine lv_lstore_n (lv' := [(1, .long (((31 : Int64) * (((31 : Int64) * (((31 : Int64) * (((31 : Int64) * (((31 : Int64) * (((31 : Int64) * (((31 : Int64) * (((31 : Int64) * (((31 : Int64) * (((31 : Int64) * (((31 : Int64) * (((31 : Int64) * x1_76) + (r_1.toInt64))) + (r_2.toInt64))) + (r_3.toInt64))) + (r_4.toInt64))) + (r_5.toInt64))) + (r_6.toInt64))) + (r_7.toInt64))) + (r_8.toInt64))) + (r_9.toInt64))) + (r_10.toInt64))) + (r_11.toInt64))) + ((fX5_least ms (nI 1)).toInt64))), (3, .int (nI i76)), (0, .ref (a 0))]) hx hb dX5_digest_281 rfl hl (by decide) rfl (fun ls hl => ?_)
        refine lv_ldc2 (v := 31) hx hb hown kc175 dX5_digest_282 ?_
        refine lv_lload_n hx hb dX5_digest_285 rfl (lv_at hl 0 rfl) ?_
        refine lv_lmul hx hb dX5_digest_286 ?_
        refine lv_aload_n hx hb dX5_digest_287 rfl (lv_at hl 2 rfl) ?_
        refine lv_iconst (v := (nI 0)) hx hb dX5_digest_288 (by decide) ?_
        have kc := (kX5_groupsOf l Γ a ms mt mc md (nI S) (nI 0) (nI T) m3 m4 m5 (0) (by first | decide | assumption | omega))
        generalize hr_12 : (fX5_groupsOf ms (0)) = r_12 at kc hq
        replace hq : (fX5_digest S T K ms mt) = (let r_13 := (fX5_needs K ms); (let r_14 := (fX5_makesPeace K r_13.2 (nI 0)); (let r_15 := (fX5_makesPeace K r_14.2 (nI 1)); (let r_16 := (fX5_firsts r_15.2); (let r_17 := (fD2L r_16); (fX5_digest_L361 mt r_15 (T) 0 (((31 : Int64) * (((31 : Int64) * (((31 : Int64) * (((31 : Int64) * (((31 : Int64) * (((31 : Int64) * (((31 : Int64) * (((31 : Int64) * (((31 : Int64) * (((31 : Int64) * (((31 : Int64) * (((31 : Int64) * (((31 : Int64) * (((31 : Int64) * (((31 : Int64) * (((31 : Int64) * (((31 : Int64) * (((31 : Int64) * x1_76) + (r_1.toInt64))) + (r_2.toInt64))) + (r_3.toInt64))) + (r_4.toInt64))) + (r_5.toInt64))) + (r_6.toInt64))) + (r_7.toInt64))) + (r_8.toInt64))) + (r_9.toInt64))) + (r_10.toInt64))) + (r_11.toInt64))) + ((fX5_least ms (nI 1)).toInt64))) + (r_12.toInt64))) + (r_13.1.toInt64))) + (r_14.1.toInt64))) + (r_15.1.toInt64))) + r_17)) + ((nI T).toInt64)))))))) := hq
        refine cLI (va_runV (As := [.int (nI 0)]) (rest := [.long ((31 : Int64) * (((31 : Int64) * (((31 : Int64) * (((31 : Int64) * (((31 : Int64) * (((31 : Int64) * (((31 : Int64) * (((31 : Int64) * (((31 : Int64) * (((31 : Int64) * (((31 : Int64) * (((31 : Int64) * (((31 : Int64) * x1_76) + (r_1.toInt64))) + (r_2.toInt64))) + (r_3.toInt64))) + (r_4.toInt64))) + (r_5.toInt64))) + (r_6.toInt64))) + (r_7.toInt64))) + (r_8.toInt64))) + (r_9.toInt64))) + (r_10.toInt64))) + (r_11.toInt64))) + ((fX5_least ms (nI 1)).toInt64)))]) ⟨hx, hb, hml, hown, hts⟩ (kc _) (cwV 1 hts gX5_digest_X5_groupsOf rfl rfl rfl (by decide +kernel) ⟨Nat.le_of_ble_eq_true rfl, Nat.le_of_ble_eq_true rfl⟩) ⟨wPre_blind, va_recv hK hP (ci := 5) (q0 := 0) rfl rfl, wPre_mk hP hD hK hS hA hAB hAm [0] rfl rfl⟩ rfl rfl hl.1 rfl (lv_room (Nat.le_of_ble_eq_true rfl)) dX5_digest_289 ⟨Nat.zero_le _, Nat.zero_le _⟩) hP hS hA (fun H locs hP hS => ?_)
        refine lv_i2l (v := r_12.toInt64) hx hb dX5_digest_292 rfl ?_
        refine lv_ladd hx hb dX5_digest_293 ?_
        refine lv_lstore_n (lv' := [(1, .long (((31 : Int64) * (((31 : Int64) * (((31 : Int64) * (((31 : Int64) * (((31 : Int64) * (((31 : Int64) * (((31 : Int64) * (((31 : Int64) * (((31 : Int64) * (((31 : Int64) * (((31 : Int64) * (((31 : Int64) * (((31 : Int64) * x1_76) + (r_1.toInt64))) + (r_2.toInt64))) + (r_3.toInt64))) + (r_4.toInt64))) + (r_5.toInt64))) + (r_6.toInt64))) + (r_7.toInt64))) + (r_8.toInt64))) + (r_9.toInt64))) + (r_10.toInt64))) + (r_11.toInt64))) + ((fX5_least ms (nI 1)).toInt64))) + (r_12.toInt64))), (3, .int (nI i76)), (0, .ref (a 0))]) hx hb dX5_digest_294 rfl hl (by decide) rfl (fun ls hl => ?_)
        refine lv_ldc2 (v := 31) hx hb hown kc175 dX5_digest_295 ?_
        refine lv_lload_n hx hb dX5_digest_298 rfl (lv_at hl 0 rfl) ?_
        refine lv_lmul hx hb dX5_digest_299 ?_
        refine lv_aload_n hx hb dX5_digest_300 rfl (lv_at hl 2 rfl) ?_
        have kc := (kX5_needs l Γ a K ms mt mc md (nI S) (nI 0) (nI T) m3 m4 m5 (by first | decide | assumption | omega) (by first | decide | assumption | omega))
        have hfr_13 : (fX5_needs K ms).2 1 = nI K := (needs_low (by decide)).trans hMK
        generalize hr_13 : (fX5_needs K ms) = r_13 at hfr_13 kc hq
        replace hq : (fX5_digest S T K ms mt) = (let r_14 := (fX5_makesPeace K r_13.2 (nI 0)); (let r_15 := (fX5_makesPeace K r_14.2 (nI 1)); (let r_16 := (fX5_firsts r_15.2); (let r_17 := (fD2L r_16); (fX5_digest_L361 mt r_15 (T) 0 (((31 : Int64) * (((31 : Int64) * (((31 : Int64) * (((31 : Int64) * (((31 : Int64) * (((31 : Int64) * (((31 : Int64) * (((31 : Int64) * (((31 : Int64) * (((31 : Int64) * (((31 : Int64) * (((31 : Int64) * (((31 : Int64) * (((31 : Int64) * (((31 : Int64) * (((31 : Int64) * (((31 : Int64) * (((31 : Int64) * x1_76) + (r_1.toInt64))) + (r_2.toInt64))) + (r_3.toInt64))) + (r_4.toInt64))) + (r_5.toInt64))) + (r_6.toInt64))) + (r_7.toInt64))) + (r_8.toInt64))) + (r_9.toInt64))) + (r_10.toInt64))) + (r_11.toInt64))) + ((fX5_least ms (nI 1)).toInt64))) + (r_12.toInt64))) + (r_13.1.toInt64))) + (r_14.1.toInt64))) + (r_15.1.toInt64))) + r_17)) + ((nI T).toInt64))))))) := hq
        refine cMI (bc' := [moB Γ a r_13.2 mt mc md (nI S) (nI 0) (nI T) m3 m4 m5]) (va_runV (As := []) (rest := [.long ((31 : Int64) * (((31 : Int64) * (((31 : Int64) * (((31 : Int64) * (((31 : Int64) * (((31 : Int64) * (((31 : Int64) * (((31 : Int64) * (((31 : Int64) * (((31 : Int64) * (((31 : Int64) * (((31 : Int64) * (((31 : Int64) * (((31 : Int64) * x1_76) + (r_1.toInt64))) + (r_2.toInt64))) + (r_3.toInt64))) + (r_4.toInt64))) + (r_5.toInt64))) + (r_6.toInt64))) + (r_7.toInt64))) + (r_8.toInt64))) + (r_9.toInt64))) + (r_10.toInt64))) + (r_11.toInt64))) + ((fX5_least ms (nI 1)).toInt64))) + (r_12.toInt64)))]) ⟨hx, hb, hml, hown, hts⟩ (kc _) (cwV 0 hts gX5_digest_X5_needs rfl rfl rfl (by decide +kernel) ⟨Nat.le_of_ble_eq_true rfl, Nat.le_of_ble_eq_true rfl⟩) ⟨wPre_blind, va_recv hK hP (ci := 5) (q0 := 0) rfl rfl, wPre_mk hP hD hK hS hA hAB hAm [0] rfl rfl⟩ rfl rfl hl.1 rfl (lv_room (Nat.le_of_ble_eq_true rfl)) dX5_digest_301 ⟨Nat.zero_le _, Nat.zero_le _⟩) hP hD hS hA [0] rfl (by simp only [List.map_cons, List.map_nil, suB_w, plB_w, cuB_w, txB_w, mnC_w, moB_w, ouB_w, saB_w]) (bs' := [moB Γ a r_13.2 mt mc md (nI S) (nI 0) (nI T) m3 m4 m5]) rfl (fun H locs hP hD hS => ?_)
        refine lv_i2l (v := r_13.1.toInt64) hx hb dX5_digest_304 rfl ?_
        refine lv_ladd hx hb dX5_digest_305 ?_
        refine lv_lstore_n (lv' := [(1, .long (((31 : Int64) * (((31 : Int64) * (((31 : Int64) * (((31 : Int64) * (((31 : Int64) * (((31 : Int64) * (((31 : Int64) * (((31 : Int64) * (((31 : Int64) * (((31 : Int64) * (((31 : Int64) * (((31 : Int64) * (((31 : Int64) * (((31 : Int64) * x1_76) + (r_1.toInt64))) + (r_2.toInt64))) + (r_3.toInt64))) + (r_4.toInt64))) + (r_5.toInt64))) + (r_6.toInt64))) + (r_7.toInt64))) + (r_8.toInt64))) + (r_9.toInt64))) + (r_10.toInt64))) + (r_11.toInt64))) + ((fX5_least ms (nI 1)).toInt64))) + (r_12.toInt64))) + (r_13.1.toInt64))), (3, .int (nI i76)), (0, .ref (a 0))]) hx hb dX5_digest_306 rfl hl (by decide) rfl (fun ls hl => ?_)
        refine lv_ldc2 (v := 31) hx hb hown kc175 dX5_digest_307 ?_
        refine lv_lload_n hx hb dX5_digest_310 rfl (lv_at hl 0 rfl) ?_
        refine lv_lmul hx hb dX5_digest_311 ?_
        refine lv_aload_n hx hb dX5_digest_312 rfl (lv_at hl 2 rfl) ?_
        refine lv_iconst (v := (nI 0)) hx hb dX5_digest_313 (by decide) ?_
        have kc := (kX5_makesPeace l Γ a K r_13.2 mt mc md (nI S) (nI 0) (nI T) m3 m4 m5 (nI 0) (by first | decide | assumption | omega) (by first | decide | assumption | omega))
        have hfr_14 : (fX5_makesPeace K r_13.2 (nI 0)).2 1 = nI K := (peace_low (by decide)).trans (by assumption)
        generalize hr_14 : (fX5_makesPeace K r_13.2 (nI 0)) = r_14 at hfr_14 kc hq
        replace hq : (fX5_digest S T K ms mt) = (let r_15 := (fX5_makesPeace K r_14.2 (nI 1)); (let r_16 := (fX5_firsts r_15.2); (let r_17 := (fD2L r_16); (fX5_digest_L361 mt r_15 (T) 0 (((31 : Int64) * (((31 : Int64) * (((31 : Int64) * (((31 : Int64) * (((31 : Int64) * (((31 : Int64) * (((31 : Int64) * (((31 : Int64) * (((31 : Int64) * (((31 : Int64) * (((31 : Int64) * (((31 : Int64) * (((31 : Int64) * (((31 : Int64) * (((31 : Int64) * (((31 : Int64) * (((31 : Int64) * (((31 : Int64) * x1_76) + (r_1.toInt64))) + (r_2.toInt64))) + (r_3.toInt64))) + (r_4.toInt64))) + (r_5.toInt64))) + (r_6.toInt64))) + (r_7.toInt64))) + (r_8.toInt64))) + (r_9.toInt64))) + (r_10.toInt64))) + (r_11.toInt64))) + ((fX5_least ms (nI 1)).toInt64))) + (r_12.toInt64))) + (r_13.1.toInt64))) + (r_14.1.toInt64))) + (r_15.1.toInt64))) + r_17)) + ((nI T).toInt64)))))) := hq
        refine cMI (bc' := [moB Γ a r_14.2 mt mc md (nI S) (nI 0) (nI T) m3 m4 m5]) (va_runV (As := [.int (nI 0)]) (rest := [.long ((31 : Int64) * (((31 : Int64) * (((31 : Int64) * (((31 : Int64) * (((31 : Int64) * (((31 : Int64) * (((31 : Int64) * (((31 : Int64) * (((31 : Int64) * (((31 : Int64) * (((31 : Int64) * (((31 : Int64) * (((31 : Int64) * (((31 : Int64) * (((31 : Int64) * x1_76) + (r_1.toInt64))) + (r_2.toInt64))) + (r_3.toInt64))) + (r_4.toInt64))) + (r_5.toInt64))) + (r_6.toInt64))) + (r_7.toInt64))) + (r_8.toInt64))) + (r_9.toInt64))) + (r_10.toInt64))) + (r_11.toInt64))) + ((fX5_least ms (nI 1)).toInt64))) + (r_12.toInt64))) + (r_13.1.toInt64)))]) ⟨hx, hb, hml, hown, hts⟩ (kc _) (cwV 1 hts gX5_digest_X5_makesPeace rfl rfl rfl (by decide +kernel) ⟨Nat.le_of_ble_eq_true rfl, Nat.le_of_ble_eq_true rfl⟩) ⟨wPre_blind, va_recv hK hP (ci := 5) (q0 := 0) rfl rfl, wPre_mk hP hD hK hS hA hAB hAm [0] rfl rfl⟩ rfl rfl hl.1 rfl (lv_room (Nat.le_of_ble_eq_true rfl)) dX5_digest_314 ⟨Nat.zero_le _, Nat.zero_le _⟩) hP hD hS hA [0] rfl (by simp only [List.map_cons, List.map_nil, suB_w, plB_w, cuB_w, txB_w, mnC_w, moB_w, ouB_w, saB_w]) (bs' := [moB Γ a r_14.2 mt mc md (nI S) (nI 0) (nI T) m3 m4 m5]) rfl (fun H locs hP hD hS => ?_)
        refine lv_i2l (v := r_14.1.toInt64) hx hb dX5_digest_317 rfl ?_
        refine lv_ladd hx hb dX5_digest_318 ?_
        refine lv_lstore_n (lv' := [(1, .long (((31 : Int64) * (((31 : Int64) * (((31 : Int64) * (((31 : Int64) * (((31 : Int64) * (((31 : Int64) * (((31 : Int64) * (((31 : Int64) * (((31 : Int64) * (((31 : Int64) * (((31 : Int64) * (((31 : Int64) * (((31 : Int64) * (((31 : Int64) * (((31 : Int64) * x1_76) + (r_1.toInt64))) + (r_2.toInt64))) + (r_3.toInt64))) + (r_4.toInt64))) + (r_5.toInt64))) + (r_6.toInt64))) + (r_7.toInt64))) + (r_8.toInt64))) + (r_9.toInt64))) + (r_10.toInt64))) + (r_11.toInt64))) + ((fX5_least ms (nI 1)).toInt64))) + (r_12.toInt64))) + (r_13.1.toInt64))) + (r_14.1.toInt64))), (3, .int (nI i76)), (0, .ref (a 0))]) hx hb dX5_digest_319 rfl hl (by decide) rfl (fun ls hl => ?_)
        refine lv_ldc2 (v := 31) hx hb hown kc175 dX5_digest_320 ?_
        refine lv_lload_n hx hb dX5_digest_323 rfl (lv_at hl 0 rfl) ?_
        refine lv_lmul hx hb dX5_digest_324 ?_
        refine lv_aload_n hx hb dX5_digest_325 rfl (lv_at hl 2 rfl) ?_
        refine lv_iconst (v := (nI 1)) hx hb dX5_digest_326 (by decide) ?_
        have kc := (kX5_makesPeace l Γ a K r_14.2 mt mc md (nI S) (nI 0) (nI T) m3 m4 m5 (nI 1) (by first | decide | assumption | omega) (by first | decide | assumption | omega))
        have hfr_15 : (fX5_makesPeace K r_14.2 (nI 1)).2 1 = nI K := (peace_low (by decide)).trans (by assumption)
        generalize hr_15 : (fX5_makesPeace K r_14.2 (nI 1)) = r_15 at hfr_15 kc hq
        replace hq : (fX5_digest S T K ms mt) = (let r_16 := (fX5_firsts r_15.2); (let r_17 := (fD2L r_16); (fX5_digest_L361 mt r_15 (T) 0 (((31 : Int64) * (((31 : Int64) * (((31 : Int64) * (((31 : Int64) * (((31 : Int64) * (((31 : Int64) * (((31 : Int64) * (((31 : Int64) * (((31 : Int64) * (((31 : Int64) * (((31 : Int64) * (((31 : Int64) * (((31 : Int64) * (((31 : Int64) * (((31 : Int64) * (((31 : Int64) * (((31 : Int64) * (((31 : Int64) * x1_76) + (r_1.toInt64))) + (r_2.toInt64))) + (r_3.toInt64))) + (r_4.toInt64))) + (r_5.toInt64))) + (r_6.toInt64))) + (r_7.toInt64))) + (r_8.toInt64))) + (r_9.toInt64))) + (r_10.toInt64))) + (r_11.toInt64))) + ((fX5_least ms (nI 1)).toInt64))) + (r_12.toInt64))) + (r_13.1.toInt64))) + (r_14.1.toInt64))) + (r_15.1.toInt64))) + r_17)) + ((nI T).toInt64))))) := hq
        refine cMI (bc' := [moB Γ a r_15.2 mt mc md (nI S) (nI 0) (nI T) m3 m4 m5]) (va_runV (As := [.int (nI 1)]) (rest := [.long ((31 : Int64) * (((31 : Int64) * (((31 : Int64) * (((31 : Int64) * (((31 : Int64) * (((31 : Int64) * (((31 : Int64) * (((31 : Int64) * (((31 : Int64) * (((31 : Int64) * (((31 : Int64) * (((31 : Int64) * (((31 : Int64) * (((31 : Int64) * (((31 : Int64) * (((31 : Int64) * x1_76) + (r_1.toInt64))) + (r_2.toInt64))) + (r_3.toInt64))) + (r_4.toInt64))) + (r_5.toInt64))) + (r_6.toInt64))) + (r_7.toInt64))) + (r_8.toInt64))) + (r_9.toInt64))) + (r_10.toInt64))) + (r_11.toInt64))) + ((fX5_least ms (nI 1)).toInt64))) + (r_12.toInt64))) + (r_13.1.toInt64))) + (r_14.1.toInt64)))]) ⟨hx, hb, hml, hown, hts⟩ (kc _) (cwV 1 hts gX5_digest_X5_makesPeace rfl rfl rfl (by decide +kernel) ⟨Nat.le_of_ble_eq_true rfl, Nat.le_of_ble_eq_true rfl⟩) ⟨wPre_blind, va_recv hK hP (ci := 5) (q0 := 0) rfl rfl, wPre_mk hP hD hK hS hA hAB hAm [0] rfl rfl⟩ rfl rfl hl.1 rfl (lv_room (Nat.le_of_ble_eq_true rfl)) dX5_digest_327 ⟨Nat.zero_le _, Nat.zero_le _⟩) hP hD hS hA [0] rfl (by simp only [List.map_cons, List.map_nil, suB_w, plB_w, cuB_w, txB_w, mnC_w, moB_w, ouB_w, saB_w]) (bs' := [moB Γ a r_15.2 mt mc md (nI S) (nI 0) (nI T) m3 m4 m5]) rfl (fun H locs hP hD hS => ?_)
        refine lv_i2l (v := r_15.1.toInt64) hx hb dX5_digest_330 rfl ?_
        refine lv_ladd hx hb dX5_digest_331 ?_
        refine lv_lstore_n (lv' := [(1, .long (((31 : Int64) * (((31 : Int64) * (((31 : Int64) * (((31 : Int64) * (((31 : Int64) * (((31 : Int64) * (((31 : Int64) * (((31 : Int64) * (((31 : Int64) * (((31 : Int64) * (((31 : Int64) * (((31 : Int64) * (((31 : Int64) * (((31 : Int64) * (((31 : Int64) * (((31 : Int64) * x1_76) + (r_1.toInt64))) + (r_2.toInt64))) + (r_3.toInt64))) + (r_4.toInt64))) + (r_5.toInt64))) + (r_6.toInt64))) + (r_7.toInt64))) + (r_8.toInt64))) + (r_9.toInt64))) + (r_10.toInt64))) + (r_11.toInt64))) + ((fX5_least ms (nI 1)).toInt64))) + (r_12.toInt64))) + (r_13.1.toInt64))) + (r_14.1.toInt64))) + (r_15.1.toInt64))), (3, .int (nI i76)), (0, .ref (a 0))]) hx hb dX5_digest_332 rfl hl (by decide) rfl (fun ls hl => ?_)
        refine lv_ldc2 (v := 31) hx hb hown kc175 dX5_digest_333 ?_
        refine lv_lload_n hx hb dX5_digest_336 rfl (lv_at hl 0 rfl) ?_
        refine lv_lmul hx hb dX5_digest_337 ?_
        refine lv_aload_n hx hb dX5_digest_338 rfl (lv_at hl 2 rfl) ?_
        have kc := (kX5_firsts l Γ a r_15.2 mt mc md (nI S) (nI 0) (nI T) m3 m4 m5)
        have hfr_16 : Op.cmpValue (FP.dcmp (fX5_firsts r_15.2) (fX5_firsts r_15.2)) .l = 0 := dS_nan _ (rfs_dS _)
        generalize hr_16 : (fX5_firsts r_15.2) = r_16 at hfr_16 kc hq
        replace hq : (fX5_digest S T K ms mt) = (let r_17 := (fD2L r_16); (fX5_digest_L361 mt r_15 (T) 0 (((31 : Int64) * (((31 : Int64) * (((31 : Int64) * (((31 : Int64) * (((31 : Int64) * (((31 : Int64) * (((31 : Int64) * (((31 : Int64) * (((31 : Int64) * (((31 : Int64) * (((31 : Int64) * (((31 : Int64) * (((31 : Int64) * (((31 : Int64) * (((31 : Int64) * (((31 : Int64) * (((31 : Int64) * (((31 : Int64) * x1_76) + (r_1.toInt64))) + (r_2.toInt64))) + (r_3.toInt64))) + (r_4.toInt64))) + (r_5.toInt64))) + (r_6.toInt64))) + (r_7.toInt64))) + (r_8.toInt64))) + (r_9.toInt64))) + (r_10.toInt64))) + (r_11.toInt64))) + ((fX5_least ms (nI 1)).toInt64))) + (r_12.toInt64))) + (r_13.1.toInt64))) + (r_14.1.toInt64))) + (r_15.1.toInt64))) + r_17)) + ((nI T).toInt64)))) := hq
        refine cLD (va_runV (As := []) (rest := [.long ((31 : Int64) * (((31 : Int64) * (((31 : Int64) * (((31 : Int64) * (((31 : Int64) * (((31 : Int64) * (((31 : Int64) * (((31 : Int64) * (((31 : Int64) * (((31 : Int64) * (((31 : Int64) * (((31 : Int64) * (((31 : Int64) * (((31 : Int64) * (((31 : Int64) * (((31 : Int64) * (((31 : Int64) * x1_76) + (r_1.toInt64))) + (r_2.toInt64))) + (r_3.toInt64))) + (r_4.toInt64))) + (r_5.toInt64))) + (r_6.toInt64))) + (r_7.toInt64))) + (r_8.toInt64))) + (r_9.toInt64))) + (r_10.toInt64))) + (r_11.toInt64))) + ((fX5_least ms (nI 1)).toInt64))) + (r_12.toInt64))) + (r_13.1.toInt64))) + (r_14.1.toInt64))) + (r_15.1.toInt64)))]) ⟨hx, hb, hml, hown, hts⟩ (kc _) (cwV 0 hts gX5_digest_X5_firsts rfl rfl rfl (by decide +kernel) ⟨Nat.le_of_ble_eq_true rfl, Nat.le_of_ble_eq_true rfl⟩) ⟨wPre_blind, va_recv hK hP (ci := 5) (q0 := 0) rfl rfl, wPre_mk hP hD hK hS hA hAB hAm [0] rfl rfl⟩ rfl rfl hl.1 rfl (lv_room (Nat.le_of_ble_eq_true rfl)) dX5_digest_339 ⟨Nat.zero_le _, Nat.zero_le _⟩) hP hS hA (fun H locs hP hS => ?_)
        have kc := (kJxe99ae_doubleToLongBits_ccdee l Γ r_16 (by first | decide | assumption | omega))
        generalize hr_17 : (fD2L r_16) = r_17 at kc hq
        replace hq : (fX5_digest S T K ms mt) = (fX5_digest_L361 mt r_15 (T) 0 (((31 : Int64) * (((31 : Int64) * (((31 : Int64) * (((31 : Int64) * (((31 : Int64) * (((31 : Int64) * (((31 : Int64) * (((31 : Int64) * (((31 : Int64) * (((31 : Int64) * (((31 : Int64) * (((31 : Int64) * (((31 : Int64) * (((31 : Int64) * (((31 : Int64) * (((31 : Int64) * (((31 : Int64) * (((31 : Int64) * x1_76) + (r_1.toInt64))) + (r_2.toInt64))) + (r_3.toInt64))) + (r_4.toInt64))) + (r_5.toInt64))) + (r_6.toInt64))) + (r_7.toInt64))) + (r_8.toInt64))) + (r_9.toInt64))) + (r_10.toInt64))) + (r_11.toInt64))) + ((fX5_least ms (nI 1)).toInt64))) + (r_12.toInt64))) + (r_13.1.toInt64))) + (r_14.1.toInt64))) + (r_15.1.toInt64))) + r_17)) + ((nI T).toInt64))) := hq
        refine cLL (va_runS (As := [.double r_16]) (rest := [.long ((31 : Int64) * (((31 : Int64) * (((31 : Int64) * (((31 : Int64) * (((31 : Int64) * (((31 : Int64) * (((31 : Int64) * (((31 : Int64) * (((31 : Int64) * (((31 : Int64) * (((31 : Int64) * (((31 : Int64) * (((31 : Int64) * (((31 : Int64) * (((31 : Int64) * (((31 : Int64) * (((31 : Int64) * x1_76) + (r_1.toInt64))) + (r_2.toInt64))) + (r_3.toInt64))) + (r_4.toInt64))) + (r_5.toInt64))) + (r_6.toInt64))) + (r_7.toInt64))) + (r_8.toInt64))) + (r_9.toInt64))) + (r_10.toInt64))) + (r_11.toInt64))) + ((fX5_least ms (nI 1)).toInt64))) + (r_12.toInt64))) + (r_13.1.toInt64))) + (r_14.1.toInt64))) + (r_15.1.toInt64)))]) ⟨hx, hb, hml, hown, hts⟩ (kc _) (va_cwS 1 hts gX5_digest_Jxe99ae_doubleToLongBits_ccdee rfl rfl rfl (by decide +kernel) ⟨Nat.le_of_ble_eq_true rfl, Nat.le_of_ble_eq_true rfl⟩) ⟨wPre_blind, wPre_mk hP hD hK hS hA hAB hAm [] rfl rfl⟩ rfl rfl hl.1 rfl (lv_room (Nat.le_of_ble_eq_true rfl)) dX5_digest_342 ⟨Nat.zero_le _, Nat.zero_le _⟩) hP hS hA (fun H locs hP hS => ?_)
        refine lv_ladd hx hb dX5_digest_345 ?_
        refine lv_lstore_n (lv' := [(1, .long (((31 : Int64) * (((31 : Int64) * (((31 : Int64) * (((31 : Int64) * (((31 : Int64) * (((31 : Int64) * (((31 : Int64) * (((31 : Int64) * (((31 : Int64) * (((31 : Int64) * (((31 : Int64) * (((31 : Int64) * (((31 : Int64) * (((31 : Int64) * (((31 : Int64) * (((31 : Int64) * (((31 : Int64) * x1_76) + (r_1.toInt64))) + (r_2.toInt64))) + (r_3.toInt64))) + (r_4.toInt64))) + (r_5.toInt64))) + (r_6.toInt64))) + (r_7.toInt64))) + (r_8.toInt64))) + (r_9.toInt64))) + (r_10.toInt64))) + (r_11.toInt64))) + ((fX5_least ms (nI 1)).toInt64))) + (r_12.toInt64))) + (r_13.1.toInt64))) + (r_14.1.toInt64))) + (r_15.1.toInt64))) + r_17)), (3, .int (nI i76)), (0, .ref (a 0))]) hx hb dX5_digest_346 rfl hl (by decide) rfl (fun ls hl => ?_)
        refine lv_ldc2 (v := 31) hx hb hown kc175 dX5_digest_347 ?_
        refine lv_lload_n hx hb dX5_digest_350 rfl (lv_at hl 0 rfl) ?_
        refine lv_lmul hx hb dX5_digest_351 ?_
        refine lv_aload_n hx hb dX5_digest_352 rfl (lv_at hl 2 rfl) ?_
        refine va_get (D := Γ.1) (ci := 5) (v := .int (nI T)) (C := RX5) (T := TX5) (N := 10) hx hb hts hi5 hown hK hP 0 rfl rfl 4 (by decide) kf101 (fun _ h9 => h9) rfl dX5_digest_353 ?_
        refine lv_i2l (v := (nI T).toInt64) hx hb dX5_digest_356 rfl ?_
        refine lv_ladd hx hb dX5_digest_357 ?_
        refine lv_lstore_n (lv' := [(1, .long (((31 : Int64) * (((31 : Int64) * (((31 : Int64) * (((31 : Int64) * (((31 : Int64) * (((31 : Int64) * (((31 : Int64) * (((31 : Int64) * (((31 : Int64) * (((31 : Int64) * (((31 : Int64) * (((31 : Int64) * (((31 : Int64) * (((31 : Int64) * (((31 : Int64) * (((31 : Int64) * (((31 : Int64) * (((31 : Int64) * x1_76) + (r_1.toInt64))) + (r_2.toInt64))) + (r_3.toInt64))) + (r_4.toInt64))) + (r_5.toInt64))) + (r_6.toInt64))) + (r_7.toInt64))) + (r_8.toInt64))) + (r_9.toInt64))) + (r_10.toInt64))) + (r_11.toInt64))) + ((fX5_least ms (nI 1)).toInt64))) + (r_12.toInt64))) + (r_13.1.toInt64))) + (r_14.1.toInt64))) + (r_15.1.toInt64))) + r_17)) + ((nI T).toInt64))), (3, .int (nI i76)), (0, .ref (a 0))]) hx hb dX5_digest_358 rfl hl (by decide) rfl (fun ls hl => ?_)
        refine lv_iconst (v := (nI 0)) hx hb dX5_digest_359 (by decide) ?_
        refine lv_istore_n (lv' := [(3, .int (nI 0)), (1, .long (((31 : Int64) * (((31 : Int64) * (((31 : Int64) * (((31 : Int64) * (((31 : Int64) * (((31 : Int64) * (((31 : Int64) * (((31 : Int64) * (((31 : Int64) * (((31 : Int64) * (((31 : Int64) * (((31 : Int64) * (((31 : Int64) * (((31 : Int64) * (((31 : Int64) * (((31 : Int64) * (((31 : Int64) * (((31 : Int64) * x1_76) + (r_1.toInt64))) + (r_2.toInt64))) + (r_3.toInt64))) + (r_4.toInt64))) + (r_5.toInt64))) + (r_6.toInt64))) + (r_7.toInt64))) + (r_8.toInt64))) + (r_9.toInt64))) + (r_10.toInt64))) + (r_11.toInt64))) + ((fX5_least ms (nI 1)).toInt64))) + (r_12.toInt64))) + (r_13.1.toInt64))) + (r_14.1.toInt64))) + (r_15.1.toInt64))) + r_17)) + ((nI T).toInt64))), (0, .ref (a 0))]) hx hb dX5_digest_360 rfl hl (by decide) rfl (fun ls hl => ?_)
        refine wl (pc := 361) (σ := Nat × Int64) (fun n (i361, x1_361) H locs ls => (i361 + n = T) ∧ (fX5_digest S T K ms mt) = fX5_digest_L361 mt r_15 n i361 x1_361 ∧ va_P Γ.1 vwCl (wcat [moB Γ a r_15.2 mt mc md (nI S) (nI 0) (nI T) m3 m4 m5]) H ∧ va_D A (wcat [moB Γ a r_15.2 mt mc md (nI S) (nI 0) (nI T) m3 m4 m5]) ∧ va_S A s.heap H locs ∧ lv_has ls 4 [(3, .int (nI i361)), (1, .long x1_361), (0, .ref (a 0))]) ?_ ?_ (T) (0, (((31 : Int64) * (((31 : Int64) * (((31 : Int64) * (((31 : Int64) * (((31 : Int64) * (((31 : Int64) * (((31 : Int64) * (((31 : Int64) * (((31 : Int64) * (((31 : Int64) * (((31 : Int64) * (((31 : Int64) * (((31 : Int64) * (((31 : Int64) * (((31 : Int64) * (((31 : Int64) * (((31 : Int64) * (((31 : Int64) * x1_76) + (r_1.toInt64))) + (r_2.toInt64))) + (r_3.toInt64))) + (r_4.toInt64))) + (r_5.toInt64))) + (r_6.toInt64))) + (r_7.toInt64))) + (r_8.toInt64))) + (r_9.toInt64))) + (r_10.toInt64))) + (r_11.toInt64))) + ((fX5_least ms (nI 1)).toInt64))) + (r_12.toInt64))) + (r_13.1.toInt64))) + (r_14.1.toInt64))) + (r_15.1.toInt64))) + r_17)) + ((nI T).toInt64))) _ _ _ ⟨by omega, hq, hP, hD, hS, lv_sub hl [0, 1, 2] rfl⟩
        · intro ⟨i361, x1_361⟩ H locs ls h
          obtain ⟨hn361, hq, hP, hD, hS, hl⟩ := h
          try dsimp only at hn361 hq hP hD hl
          replace hq : (fX5_digest S T K ms mt) = (x1_361, r_15.2, (nI 0)) := hq
          refine lv_iload_n hx hb dX5_digest_361 rfl (lv_at hl 0 rfl) ?_
          refine lv_aload_n hx hb dX5_digest_362 rfl (lv_at hl 2 rfl) ?_
          refine va_get (D := Γ.1) (ci := 5) (v := .int (nI T)) (C := RX5) (T := TX5) (N := 10) hx hb hts hi5 hown hK hP 0 rfl rfl 4 (by decide) kf101 (fun _ h9 => h9) rfl dX5_digest_363 ?_
          refine lv_icmp_ge (tgt := 389) hx hb dX5_digest_366 (by decide) (fun c_366 => ?_) (fun c_366 => absurd (nI_le (by omega) (by omega)) c_366)
          refine lv_lload_n hx hb dX5_digest_389 rfl (lv_at hl 1 rfl) ?_
          exact W.lret (v := x1_361) hx hb hr (fun t ht hW => eML (by rw [hq]; exact hP) hS ht (by rw [hq])) hS.2.2 dX5_digest_390
        · intro n361 ih361 ⟨i361, x1_361⟩ H locs ls h
          obtain ⟨hn361, hq, hP, hD, hS, hl⟩ := h
          try dsimp only at hn361 hq hP hD hl
          replace hq : (fX5_digest S T K ms mt) = (fX5_digest_L361 mt r_15 n361 (i361 + 1) (((31 : Int64) * x1_361) + ((mt i361).toInt64))) := hq
          refine lv_iload_n hx hb dX5_digest_361 rfl (lv_at hl 0 rfl) ?_
          refine lv_aload_n hx hb dX5_digest_362 rfl (lv_at hl 2 rfl) ?_
          refine va_get (D := Γ.1) (ci := 5) (v := .int (nI T)) (C := RX5) (T := TX5) (N := 10) hx hb hts hi5 hown hK hP 0 rfl rfl 4 (by decide) kf101 (fun _ h9 => h9) rfl dX5_digest_363 ?_
          refine lv_icmp_ge (tgt := 389) hx hb dX5_digest_366 (by decide) (fun c_366 => absurd c_366 (nI_ge (by omega) (by omega))) (fun c_366 => ?_)
          refine lv_ldc2 (v := 31) hx hb hown kc175 dX5_digest_369 ?_
          refine lv_lload_n hx hb dX5_digest_372 rfl (lv_at hl 1 rfl) ?_
          refine lv_lmul hx hb dX5_digest_373 ?_
          refine lv_aload_n hx hb dX5_digest_374 rfl (lv_at hl 2 rfl) ?_
          refine va_get (D := Γ.1) (ci := 5) (v := .ref (a 2)) (C := RX5) (T := TX5) (N := 10) hx hb hts hi5 hown hK hP 0 rfl rfl 3 (by decide) kf13 (fun _ h9 => h9) rfl dX5_digest_375 ?_
          refine lv_iload_n hx hb dX5_digest_378 rfl (lv_at hl 0 rfl) ?_
          refine va_cald_n (f := mt) hx hb hK hP 2 1 rfl rfl (by omega) (Nat.le_of_ble_eq_true rfl) dX5_digest_379 ?_
          refine lv_i2l (v := (mt i361).toInt64) hx hb dX5_digest_380 rfl ?_
          refine lv_ladd hx hb dX5_digest_381 ?_
          refine lv_lstore_n (lv' := [(1, .long (((31 : Int64) * x1_361) + ((mt i361).toInt64))), (3, .int (nI i361)), (0, .ref (a 0))]) hx hb dX5_digest_382 rfl hl (by decide) rfl (fun ls hl => ?_)
          refine lv_iinc (v := (nI (i361 + 1))) (lv' := [(3, .int (nI (i361 + 1))), (1, .long (((31 : Int64) * x1_361) + ((mt i361).toInt64))), (0, .ref (a 0))]) hx hb dX5_digest_383 hl (k := 1) rfl (nI_1 _) (by decide) rfl (fun ls hl => ?_)
          refine lv_goto (tgt := 361) hx hb dX5_digest_386 (by decide) ?_
          exact ih361 ((i361 + 1), (((31 : Int64) * x1_361) + ((mt i361).toInt64))) H locs ls ⟨by omega, hq, hP, hD, hS, lv_sub hl [0, 1, 2] rfl⟩
      · intro n76 ih76 ⟨i76, x1_76⟩ H locs ls h
        obtain ⟨hn76, hq, hP, hD, hS, hl⟩ := h
        try dsimp only at hn76 hq hP hD hl
        replace hq : (fX5_digest S T K ms mt) = (let r_18 := (fX5_shareOf ms (i76 / 3) (nI (i76 % 3))); (fX5_digest_L76 T K ms mt n76 (i76 + 1) (((31 : Int64) * x1_76) + (r_18.toInt64)))) := hq
        refine lv_iload_n hx hb dX5_digest_76 rfl (lv_at hl 0 rfl) ?_
        refine lv_bipush (v := (nI 24)) hx hb dX5_digest_77 (by decide) ?_
        refine lv_icmp_ge (tgt := 106) hx hb dX5_digest_79 (by decide) (fun c_79 => absurd c_79 (nI_ge (by omega) (by omega))) (fun c_79 => ?_)
        refine lv_ldc2 (v := 31) hx hb hown kc175 dX5_digest_82 ?_
        refine lv_lload_n hx hb dX5_digest_85 rfl (lv_at hl 1 rfl) ?_
        refine lv_lmul hx hb dX5_digest_86 ?_
        refine lv_aload_n hx hb dX5_digest_87 rfl (lv_at hl 2 rfl) ?_
        refine lv_iload_n hx hb dX5_digest_88 rfl (lv_at hl 0 rfl) ?_
        refine lv_iconst (v := (nI 3)) hx hb dX5_digest_89 (by decide) ?_
        refine lv_idiv hx hb dX5_digest_90 (by decide) ?_
        refine lv_eqi (y := (nI (i76 / 3))) (pk_div (by omega) (by decide) (by decide)) ?_
        refine lv_iload_n hx hb dX5_digest_91 rfl (lv_at hl 0 rfl) ?_
        refine lv_iconst (v := (nI 3)) hx hb dX5_digest_92 (by decide) ?_
        refine lv_irem hx hb dX5_digest_93 (by decide) ?_
        refine lv_eqi (y := (nI (i76 % 3))) (pk_rem (by omega) (by decide) (by decide)) ?_
        have kc := (kX5_shareOf l Γ a ms mt mc md (nI S) (nI 0) (nI T) m3 m4 m5 (i76 / 3) (nI (i76 % 3)) (by first | decide | assumption | omega))
        generalize hr_18 : (fX5_shareOf ms (i76 / 3) (nI (i76 % 3))) = r_18 at kc hq
        replace hq : (fX5_digest S T K ms mt) = (fX5_digest_L76 T K ms mt n76 (i76 + 1) (((31 : Int64) * x1_76) + (r_18.toInt64))) := hq
        refine cLI (va_runV (As := [.int (nI (i76 / 3)), .int (nI (i76 % 3))]) (rest := [.long ((31 : Int64) * x1_76)]) ⟨hx, hb, hml, hown, hts⟩ (kc _) (cwV 2 hts gX5_digest_X5_shareOf rfl rfl rfl (by decide +kernel) ⟨Nat.le_of_ble_eq_true rfl, Nat.le_of_ble_eq_true rfl⟩) ⟨wPre_blind, va_recv hK hP (ci := 5) (q0 := 0) rfl rfl, wPre_mk hP hD hK hS hA hAB hAm [0] rfl rfl⟩ rfl rfl hl.1 rfl (lv_room (Nat.le_of_ble_eq_true rfl)) dX5_digest_94 ⟨Nat.zero_le _, Nat.zero_le _⟩) hP hS hA (fun H locs hP hS => ?_)
        refine lv_i2l (v := r_18.toInt64) hx hb dX5_digest_97 rfl ?_
        refine lv_ladd hx hb dX5_digest_98 ?_
        refine lv_lstore_n (lv' := [(1, .long (((31 : Int64) * x1_76) + (r_18.toInt64))), (3, .int (nI i76)), (0, .ref (a 0))]) hx hb dX5_digest_99 rfl hl (by decide) rfl (fun ls hl => ?_)
        refine lv_iinc (v := (nI (i76 + 1))) (lv' := [(3, .int (nI (i76 + 1))), (1, .long (((31 : Int64) * x1_76) + (r_18.toInt64))), (0, .ref (a 0))]) hx hb dX5_digest_100 hl (k := 1) rfl (nI_1 _) (by decide) rfl (fun ls hl => ?_)
        refine lv_goto (tgt := 76) hx hb dX5_digest_103 (by decide) ?_
        exact ih76 ((i76 + 1), (((31 : Int64) * x1_76) + (r_18.toInt64))) H locs ls ⟨by omega, hq, hP, hD, hS, lv_sub hl [0, 1, 2] rfl⟩
    · intro n38 ih38 ⟨i38, x1_38⟩ H locs ls h
      obtain ⟨hn38, hq, hP, hD, hS, hl⟩ := h
      try dsimp only at hn38 hq hP hD hl
      replace hq : (fX5_digest S T K ms mt) = (let r_19 := (fX5_keepers ms (i38 / 5) (nI (i38 % 5))); (fX5_digest_L38 T K ms mt n38 (i38 + 1) (((31 : Int64) * x1_38) + (r_19.toInt64)))) := hq
      refine lv_iload_n hx hb dX5_digest_38 rfl (lv_at hl 0 rfl) ?_
      refine lv_iconst (v := (nI 5)) hx hb dX5_digest_39 (by decide) ?_
      refine lv_aload_n hx hb dX5_digest_40 rfl (lv_at hl 2 rfl) ?_
      refine va_get (D := Γ.1) (ci := 5) (v := .ref (a 1)) (C := RX5) (T := TX5) (N := 10) hx hb hts hi5 hown hK hP 0 rfl rfl 0 (by decide) kf7 (fun _ h9 => h9) rfl dX5_digest_41 ?_
      refine lv_iconst (v := (nI 1)) hx hb dX5_digest_44 (by decide) ?_
      refine va_iald_n (f := ms) hx hb hK hP 1 0 rfl rfl (by omega) (Nat.le_of_ble_eq_true rfl) dX5_digest_45 ?_
      refine lv_eqi (y := (nI K)) (hMK) ?_
      refine lv_imul hx hb dX5_digest_46 ?_
      refine lv_eqi (y := (nI (5 * K))) (pk_mul _ _) ?_
      refine lv_icmp_ge (tgt := 74) hx hb dX5_digest_47 (by decide) (fun c_47 => absurd c_47 (nI_ge (by omega) (by omega))) (fun c_47 => ?_)
      refine lv_ldc2 (v := 31) hx hb hown kc175 dX5_digest_50 ?_
      refine lv_lload_n hx hb dX5_digest_53 rfl (lv_at hl 1 rfl) ?_
      refine lv_lmul hx hb dX5_digest_54 ?_
      refine lv_aload_n hx hb dX5_digest_55 rfl (lv_at hl 2 rfl) ?_
      refine lv_iload_n hx hb dX5_digest_56 rfl (lv_at hl 0 rfl) ?_
      refine lv_iconst (v := (nI 5)) hx hb dX5_digest_57 (by decide) ?_
      refine lv_idiv hx hb dX5_digest_58 (by decide) ?_
      refine lv_eqi (y := (nI (i38 / 5))) (pk_div (by omega) (by decide) (by decide)) ?_
      refine lv_iload_n hx hb dX5_digest_59 rfl (lv_at hl 0 rfl) ?_
      refine lv_iconst (v := (nI 5)) hx hb dX5_digest_60 (by decide) ?_
      refine lv_irem hx hb dX5_digest_61 (by decide) ?_
      refine lv_eqi (y := (nI (i38 % 5))) (pk_rem (by omega) (by decide) (by decide)) ?_
      have kc := (kX5_keepers l Γ a ms mt mc md (nI S) (nI 0) (nI T) m3 m4 m5 (i38 / 5) (nI (i38 % 5)) (by first | decide | assumption | omega))
      generalize hr_19 : (fX5_keepers ms (i38 / 5) (nI (i38 % 5))) = r_19 at kc hq
      replace hq : (fX5_digest S T K ms mt) = (fX5_digest_L38 T K ms mt n38 (i38 + 1) (((31 : Int64) * x1_38) + (r_19.toInt64))) := hq
      refine cLI (va_runV (As := [.int (nI (i38 / 5)), .int (nI (i38 % 5))]) (rest := [.long ((31 : Int64) * x1_38)]) ⟨hx, hb, hml, hown, hts⟩ (kc _) (cwV 2 hts gX5_digest_X5_keepers rfl rfl rfl (by decide +kernel) ⟨Nat.le_of_ble_eq_true rfl, Nat.le_of_ble_eq_true rfl⟩) ⟨wPre_blind, va_recv hK hP (ci := 5) (q0 := 0) rfl rfl, wPre_mk hP hD hK hS hA hAB hAm [0] rfl rfl⟩ rfl rfl hl.1 rfl (lv_room (Nat.le_of_ble_eq_true rfl)) dX5_digest_62 ⟨Nat.zero_le _, Nat.zero_le _⟩) hP hS hA (fun H locs hP hS => ?_)
      refine lv_i2l (v := r_19.toInt64) hx hb dX5_digest_65 rfl ?_
      refine lv_ladd hx hb dX5_digest_66 ?_
      refine lv_lstore_n (lv' := [(1, .long (((31 : Int64) * x1_38) + (r_19.toInt64))), (3, .int (nI i38)), (0, .ref (a 0))]) hx hb dX5_digest_67 rfl hl (by decide) rfl (fun ls hl => ?_)
      refine lv_iinc (v := (nI (i38 + 1))) (lv' := [(3, .int (nI (i38 + 1))), (1, .long (((31 : Int64) * x1_38) + (r_19.toInt64))), (0, .ref (a 0))]) hx hb dX5_digest_68 hl (k := 1) rfl (nI_1 _) (by decide) rfl (fun ls hl => ?_)
      refine lv_goto (tgt := 38) hx hb dX5_digest_71 (by decide) ?_
      exact ih38 ((i38 + 1), (((31 : Int64) * x1_38) + (r_19.toInt64))) H locs ls ⟨by omega, hq, hP, hD, hS, lv_sub hl [0, 1, 2] rfl⟩
  · intro n11 ih11 ⟨i11, x1_11⟩ H locs ls h
    obtain ⟨hn11, hq, hP, hD, hS, hl⟩ := h
    try dsimp only at hn11 hq hP hD hl
    replace hq : (fX5_digest S T K ms mt) = (let r_20 := (fX5_counted ms (nI S) (nI i11)); (fX5_digest_L11 S T K ms mt n11 (i11 + 1) (((31 : Int64) * x1_11) + (r_20.toInt64)))) := hq
    refine lv_iload_n hx hb dX5_digest_11 rfl (lv_at hl 0 rfl) ?_
    refine lv_bipush (v := (nI 12)) hx hb dX5_digest_12 (by decide) ?_
    refine lv_icmp_ge (tgt := 36) hx hb dX5_digest_14 (by decide) (fun c_14 => absurd c_14 (nI_ge (by omega) (by omega))) (fun c_14 => ?_)
    refine lv_ldc2 (v := 31) hx hb hown kc175 dX5_digest_17 ?_
    refine lv_lload_n hx hb dX5_digest_20 rfl (lv_at hl 1 rfl) ?_
    refine lv_lmul hx hb dX5_digest_21 ?_
    refine lv_aload_n hx hb dX5_digest_22 rfl (lv_at hl 2 rfl) ?_
    refine lv_iload_n hx hb dX5_digest_23 rfl (lv_at hl 0 rfl) ?_
    have kc := (kX5_counted l Γ a ms mt mc md (nI S) (nI 0) (nI T) m3 m4 m5 (nI i11))
    generalize hr_20 : (fX5_counted ms (nI S) (nI i11)) = r_20 at kc hq
    replace hq : (fX5_digest S T K ms mt) = (fX5_digest_L11 S T K ms mt n11 (i11 + 1) (((31 : Int64) * x1_11) + (r_20.toInt64))) := hq
    refine cLI (va_runV (As := [.int (nI i11)]) (rest := [.long ((31 : Int64) * x1_11)]) ⟨hx, hb, hml, hown, hts⟩ (kc _) (cwV 1 hts gX5_digest_X5_counted rfl rfl rfl (by decide +kernel) ⟨Nat.le_of_ble_eq_true rfl, Nat.le_of_ble_eq_true rfl⟩) ⟨wPre_blind, va_recv hK hP (ci := 5) (q0 := 0) rfl rfl, wPre_mk hP hD hK hS hA hAB hAm [0] rfl rfl⟩ rfl rfl hl.1 rfl (lv_room (Nat.le_of_ble_eq_true rfl)) dX5_digest_24 ⟨Nat.zero_le _, Nat.zero_le _⟩) hP hS hA (fun H locs hP hS => ?_)
    refine lv_i2l (v := r_20.toInt64) hx hb dX5_digest_27 rfl ?_
    refine lv_ladd hx hb dX5_digest_28 ?_
    refine lv_lstore_n (lv' := [(1, .long (((31 : Int64) * x1_11) + (r_20.toInt64))), (3, .int (nI i11)), (0, .ref (a 0))]) hx hb dX5_digest_29 rfl hl (by decide) rfl (fun ls hl => ?_)
    refine lv_iinc (v := (nI (i11 + 1))) (lv' := [(3, .int (nI (i11 + 1))), (1, .long (((31 : Int64) * x1_11) + (r_20.toInt64))), (0, .ref (a 0))]) hx hb dX5_digest_30 hl (k := 1) rfl (nI_1 _) (by decide) rfl (fun ls hl => ?_)
    refine lv_goto (tgt := 11) hx hb dX5_digest_33 (by decide) ?_
    exact ih11 ((i11 + 1), (((31 : Int64) * x1_11) + (r_20.toInt64))) H locs ls ⟨by omega, hq, hP, hD, hS, lv_sub hl [0, 1, 2] rfl⟩
