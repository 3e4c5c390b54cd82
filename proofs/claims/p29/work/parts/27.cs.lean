theorem shl1 {k : Nat} (h : k < 31) : (nI 1) <<< ((nI k) &&& 31) = nI (2 ^ k) := by
  have key : ∀ k, k < 31 → (nI 1) <<< ((nI k) &&& 31) = nI (2 ^ k) := by decide +kernel
  exact key k h
theorem nI_or (x y : Nat) : nI x ||| nI y = nI (x ||| y) := by
  apply Int32.toBitVec_inj.mp
  show BitVec.ofNat 32 x ||| BitVec.ofNat 32 y = BitVec.ofNat 32 (x ||| y)
  apply BitVec.eq_of_toNat_eq
  simp [BitVec.toNat_or, BitVec.toNat_ofNat, Nat.or_mod_two_pow]
theorem p2le {k : Nat} (h : k < 8) : 2 ^ k ≤ 128 := by
  have key : ∀ k, k < 8 → 2 ^ k ≤ 128 := by decide
  exact key k h
theorem orlt {x y : Nat} (hx : x < 256) (hy : y < 256) : x ||| y < 256 := Nat.or_lt_two_pow (n := 8) hx hy
def fX3_look_L22 (k2 : Nat → (Nat → Int32) → (Nat → Int32) → (Nat → Int32) × (Nat → Int32)) (v : (Nat → Nat → Int32)) (i2 : Nat) : Nat → Nat → (Nat → Int32) → (Nat → Int32) → (Nat → Int32) × (Nat → Int32)
  | 0, i22, o0_22, p0_22 => (k2 (i2 + 1) o0_22 p0_22)
  | n22 + 1, i22, o0_22, p0_22 => (fX3_look_L22 k2 v i2 n22 (i22 + 1) (upd o0_22 (i22 ||| 2 ^ i2) ((o0_22 i22) ||| (fX2_ownedBy v (nI i2)))) (upd p0_22 (i22 ||| 2 ^ i2) ((p0_22 i22) + (fbit (((v 2) i2) &&& (nI i22))))))
def fX3_look_L2 (v : (Nat → Nat → Int32)) : Nat → Nat → (Nat → Int32) → (Nat → Int32) → (Nat → Int32) × (Nat → Int32)
  | 0, i2, o0_2, p0_2 => (o0_2, p0_2)
  | n2 + 1, i2, o0_2, p0_2 => (fX3_look_L22 (fX3_look_L2 v n2) v i2 (2 ^ i2) 0 o0_2 p0_2)
def fX3_look (so : (Nat → Int32)) (sp : (Nat → Int32)) (v : (Nat → Nat → Int32)) : (Nat → Int32) × (Nat → Int32) := (fX3_look_L2 v (8) 0 so sp)
set_option maxHeartbeats 4000000 in
set_option maxRecDepth 100000 in
theorem kX3_look (l : Launch) (Γ : wG) (a : Nat → Nat) (b : Nat → Nat) (so : (Nat → Int32)) (sp : (Nat → Int32)) (v : (Nat → Nat → Int32)) : MV l Γ yX3_look wsX3_look ({ frames := 1, cells := 0, slots := 0, locals := 23 }) [.ref (a 0), .ref (b 0)] [suB Γ a so sp, plB Γ b v] [suB Γ a (fX3_look so sp v).1 (fX3_look so sp v).2, plB Γ b v] := by
  intro sz
  refine Met.ofW (cc := cX3_look) (maxL := 6) (ret := none) (by decide) rfl ?_
  intro p e s m args below meth c s₁ B hml hv
  obtain ⟨rfl, hsz, hP, hK, hD0, hAm⟩ := hv
  have hx := B.exec
  have hb := B.bytes
  have hr := B.returns
  have hts := atoms_spec (ws := wsX3_look) B.pre
  have hown : s.vm.findClass RX3 = some m.cls := findClass_of_methodNamed B.named
  have hlocks := B.notSynchronized
  subst hsz
  have hD := hD0.self (sz := s.heap.size)
  generalize hAe : va_A (wcat [suB Γ a so sp, plB Γ b v]) s.heap.size = A at hD hAm ⊢
  have hA : ∀ q : Nat, s.heap.size ≤ q → A q := fun q h => by rw [← hAe]; exact Or.inr h
  have hAB : ∀ q : Nat, A q → A q := fun _ h => h
  have hS : va_S A s.heap s.heap [] := va_S.rf
  have hl := lv_entry ([.ref (a 0), .ref (b 0)]) (n := 6) (Nat.le_of_ble_eq_true rfl)
  rw [lg_entry_eq]
  generalize (lg_sl ([.ref (a 0), .ref (b 0)]) ++ List.replicate (6 - (lg_sl ([.ref (a 0), .ref (b 0)])).length) Slot.unset).toArray = ls at hl ⊢
  have hl : lv_has ls 6 [(0, .ref (a 0)), (1, .ref (b 0))] := hl
  have hi2 : ∀ w ∈ wsX20, w ∈ wsX3_look := by decide +kernel
  have hi3 : ∀ w ∈ wsX30, w ∈ wsX3_look := by decide +kernel
  have kf15 := hts (.fieldLink RX3 15 "CapsuleKeepers$Survey" "pairs" "[I") (by decide +kernel)
  have kf24 := hts (.fieldLink RX3 24 "CapsuleKeepers$Place" "quarrels" "[I") (by decide +kernel)
  have kf9 := hts (.fieldLink RX3 9 "CapsuleKeepers$Survey" "owned" "[I") (by decide +kernel)
  have hq : (fX3_look so sp v) = (fX3_look_L2 v (8) 0 so sp) := rfl
  refine lv_iconst (v := (nI 0)) hx hb dX3_look_0 (by decide) ?_
  refine lv_istore_n (lv' := [(2, .int (nI 0)), (0, .ref (a 0)), (1, .ref (b 0))]) hx hb dX3_look_1 rfl hl (by decide) rfl (fun ls hl => ?_)
  refine wl (pc := 2) (σ := Nat × (Nat → Int32) × (Nat → Int32)) (fun n (i2, o0_2, p0_2) H locs ls => (i2 + n = 8) ∧ (fX3_look so sp v) = fX3_look_L2 v n i2 o0_2 p0_2 ∧ va_P Γ.1 vwCl (wcat [suB Γ a o0_2 p0_2, plB Γ b v]) H ∧ va_D A (wcat [suB Γ a o0_2 p0_2, plB Γ b v]) ∧ va_S A s.heap H locs ∧ lv_has ls 6 [(2, .int (nI i2)), (0, .ref (a 0)), (1, .ref (b 0))]) ?_ ?_ (8) (0, so, sp) _ _ _ ⟨by omega, hq, hP, hD, hS, lv_sub hl [0, 1, 2] rfl⟩
  · intro ⟨i2, o0_2, p0_2⟩ H locs ls h
    obtain ⟨hn2, hq, hP, hD, hS, hl⟩ := h
    try dsimp only at hn2 hq hP hD hl
    replace hq : (fX3_look so sp v) = (o0_2, p0_2) := hq
    refine lv_iload_n hx hb dX3_look_2 rfl (lv_at hl 0 rfl) ?_
    refine lv_bipush (v := (nI 8)) hx hb dX3_look_3 (by decide) ?_
    refine lv_icmp_ge (tgt := 88) hx hb dX3_look_5 (by decide) (fun c_5 => ?_) (fun c_5 => absurd (nI_le (by omega) (by omega)) c_5)
    exact W.vret hx hb hr (fun t ht hW => eMV (by rw [hq]; exact hP) hS ht) hS.2.2 dX3_look_88
  · intro n2 ih2 ⟨i2, o0_2, p0_2⟩ H locs ls h
    obtain ⟨hn2, hq, hP, hD, hS, hl⟩ := h
    try dsimp only at hn2 hq hP hD hl
    replace hq : (fX3_look so sp v) = (fX3_look_L22 (fX3_look_L2 v n2) v i2 (2 ^ i2) 0 o0_2 p0_2) := hq
    refine lv_iload_n hx hb dX3_look_2 rfl (lv_at hl 0 rfl) ?_
    refine lv_bipush (v := (nI 8)) hx hb dX3_look_3 (by decide) ?_
    refine lv_icmp_ge (tgt := 88) hx hb dX3_look_5 (by decide) (fun c_5 => absurd c_5 (nI_ge (by omega) (by omega))) (fun c_5 => ?_)
    refine lv_iconst (v := (nI 1)) hx hb dX3_look_8 (by decide) ?_
    refine lv_iload_n hx hb dX3_look_9 rfl (lv_at hl 0 rfl) ?_
    refine lv_ishl hx hb dX3_look_10 ?_
    refine lv_eqi (y := (nI (2 ^ i2))) (shl1 (by omega)) ?_
    refine lv_istore_n (lv' := [(3, .int (nI (2 ^ i2))), (2, .int (nI i2)), (0, .ref (a 0)), (1, .ref (b 0))]) hx hb dX3_look_11 rfl hl (by decide) rfl (fun ls hl => ?_)
    refine lv_aload_n hx hb dX3_look_12 rfl (lv_at hl 3 rfl) ?_
    refine lv_iload_n hx hb dX3_look_13 rfl (lv_at hl 1 rfl) ?_
    refine cLI (va_runV (As := [.int (nI i2)]) (rest := []) ⟨hx, hb, hml, hown, hts⟩ ((kX2_ownedBy l Γ b v (nI i2)) _) (cwV 1 hts gX3_look_X2_ownedBy rfl rfl rfl (by decide +kernel) ⟨Nat.le_of_ble_eq_true rfl, Nat.le_of_ble_eq_true rfl⟩) ⟨wPre_blind, va_recv hK hP (ci := 2) (q0 := 3) rfl rfl, wPre_mk hP hD hK hS hA hAB hAm [1] rfl rfl⟩ rfl rfl hl.1 rfl (lv_room (Nat.le_of_ble_eq_true rfl)) dX3_look_14 ⟨Nat.zero_le _, Nat.zero_le _⟩) hP hS hA (fun H locs hP hS => ?_)
    refine lv_istore (lv' := [(4, .int (fX2_ownedBy v (nI i2))), (3, .int (nI (2 ^ i2))), (2, .int (nI i2)), (0, .ref (a 0)), (1, .ref (b 0))]) hx hb dX3_look_17 hl (by decide) rfl (fun ls hl => ?_)
    refine lv_iconst (v := (nI 0)) hx hb dX3_look_19 (by decide) ?_
    refine lv_istore (lv' := [(5, .int (nI 0)), (4, .int (fX2_ownedBy v (nI i2))), (3, .int (nI (2 ^ i2))), (2, .int (nI i2)), (0, .ref (a 0)), (1, .ref (b 0))]) hx hb dX3_look_20 hl (by decide) rfl (fun ls hl => ?_)
    obtain ⟨k2, ek2⟩ : ∃ k, k = (fX3_look_L2 v n2) := ⟨_, rfl⟩
    replace hq : (fX3_look so sp v) = (fX3_look_L22 k2 v i2 (2 ^ i2) 0 o0_2 p0_2) := hq.trans (by rw [ek2])
    refine wl (pc := 22) (σ := Nat × (Nat → Int32) × (Nat → Int32)) (fun n (i22, o0_22, p0_22) H locs ls => (i22 + n = 2 ^ i2) ∧ (fX3_look so sp v) = fX3_look_L22 k2 v i2 n i22 o0_22 p0_22 ∧ va_P Γ.1 vwCl (wcat [suB Γ a o0_22 p0_22, plB Γ b v]) H ∧ va_D A (wcat [suB Γ a o0_22 p0_22, plB Γ b v]) ∧ va_S A s.heap H locs ∧ lv_has ls 6 [(5, .int (nI i22)), (4, .int (fX2_ownedBy v (nI i2))), (3, .int (nI (2 ^ i2))), (2, .int (nI i2)), (0, .ref (a 0)), (1, .ref (b 0))]) ?_ ?_ (2 ^ i2) (0, o0_2, p0_2) _ _ _ ⟨by omega, hq, hP, hD, hS, lv_sub hl [0, 1, 2, 3, 4, 5] rfl⟩
    · intro ⟨i22, o0_22, p0_22⟩ H locs ls h
      obtain ⟨hn22, hq, hP, hD, hS, hl⟩ := h
      try dsimp only at hn22 hq hP hD hl
      have hp2 : 2 ^ i2 ≤ 128 := p2le (by omega)
      replace hq : (fX3_look so sp v) = (k2 (i2 + 1) o0_22 p0_22) := hq
      refine lv_iload hx hb dX3_look_22 (lv_at hl 0 rfl) ?_
      refine lv_iload_n hx hb dX3_look_24 rfl (lv_at hl 2 rfl) ?_
      refine lv_icmp_ge (tgt := 82) hx hb dX3_look_25 (by decide) (fun c_25 => ?_) (fun c_25 => absurd (nI_le (by omega) (by omega)) c_25)
      refine lv_iinc (v := (nI (i2 + 1))) (lv' := [(2, .int (nI (i2 + 1))), (5, .int (nI i22)), (4, .int (fX2_ownedBy v (nI i2))), (3, .int (nI (2 ^ i2))), (0, .ref (a 0)), (1, .ref (b 0))]) hx hb dX3_look_82 hl (k := 3) rfl (nI_1 _) (by decide) rfl (fun ls hl => ?_)
      refine lv_goto (tgt := 2) hx hb dX3_look_85 (by decide) ?_
      exact ih2 ((i2 + 1), o0_22, p0_22) H locs ls ⟨by omega, (hq.trans (by rw [ek2])), hP, hD, hS, lv_sub hl [0, 4, 5] rfl⟩
    · intro n22 ih22 ⟨i22, o0_22, p0_22⟩ H locs ls h
      obtain ⟨hn22, hq, hP, hD, hS, hl⟩ := h
      try dsimp only at hn22 hq hP hD hl
      have hp2 : 2 ^ i2 ≤ 128 := p2le (by omega)
      replace hq : (fX3_look so sp v) = (fX3_look_L22 k2 v i2 n22 (i22 + 1) (upd o0_22 (i22 ||| 2 ^ i2) ((o0_22 i22) ||| (fX2_ownedBy v (nI i2)))) (upd p0_22 (i22 ||| 2 ^ i2) ((p0_22 i22) + (fbit (((v 2) i2) &&& (nI i22)))))) := hq
      refine lv_iload hx hb dX3_look_22 (lv_at hl 0 rfl) ?_
      refine lv_iload_n hx hb dX3_look_24 rfl (lv_at hl 2 rfl) ?_
      refine lv_icmp_ge (tgt := 82) hx hb dX3_look_25 (by decide) (fun c_25 => absurd c_25 (nI_ge (by omega) (by omega))) (fun c_25 => ?_)
      refine lv_aload_n hx hb dX3_look_28 rfl (lv_at hl 4 rfl) ?_
      refine va_get (D := Γ.1) (ci := 3) (v := .ref (a 1)) (C := RX3) (T := TX3) (N := 2) hx hb hts hi3 hown hK hP 0 rfl rfl 0 (by decide) kf9 (fun _ h9 => h9) rfl dX3_look_29 ?_
      refine lv_iload hx hb dX3_look_32 (lv_at hl 0 rfl) ?_
      refine lv_iload_n hx hb dX3_look_34 rfl (lv_at hl 2 rfl) ?_
      refine lv_ior hx hb dX3_look_35 ?_
      refine lv_eqi (y := (nI (i22 ||| 2 ^ i2))) (nI_or _ _) ?_
      refine lv_aload_n hx hb dX3_look_36 rfl (lv_at hl 4 rfl) ?_
      refine va_get (D := Γ.1) (ci := 3) (v := .ref (a 1)) (C := RX3) (T := TX3) (N := 2) hx hb hts hi3 hown hK hP 0 rfl rfl 0 (by decide) kf9 (fun _ h9 => h9) rfl dX3_look_37 ?_
      refine lv_iload hx hb dX3_look_40 (lv_at hl 0 rfl) ?_
      refine va_iald_n (f := o0_22) hx hb hK hP 1 0 rfl rfl (by omega) (Nat.le_of_ble_eq_true rfl) dX3_look_42 ?_
      refine lv_iload hx hb dX3_look_43 (lv_at hl 1 rfl) ?_
      refine lv_ior hx hb dX3_look_45 ?_
      refine va_iast_n (f := o0_22) hx hb hK hP hD hS 1 0 rfl rfl (orlt (by omega) (by omega)) (Nat.le_of_ble_eq_true rfl) dX3_look_46 (fun H locs hP hD hS => ?_)
      have hP : va_P Γ.1 vwCl (wcat [suB Γ a (upd o0_22 (i22 ||| 2 ^ i2) ((o0_22 i22) ||| (fX2_ownedBy v (nI i2)))) p0_22, plB Γ b v]) H := hP
      have hD : va_D A (wcat [suB Γ a (upd o0_22 (i22 ||| 2 ^ i2) ((o0_22 i22) ||| (fX2_ownedBy v (nI i2)))) p0_22, plB Γ b v]) := hD
      refine lv_aload_n hx hb dX3_look_47 rfl (lv_at hl 4 rfl) ?_
      refine va_get (D := Γ.1) (ci := 3) (v := .ref (a 2)) (C := RX3) (T := TX3) (N := 2) hx hb hts hi3 hown hK hP 0 rfl rfl 1 (by decide) kf15 (fun _ h9 => h9) rfl dX3_look_48 ?_
      refine lv_iload hx hb dX3_look_51 (lv_at hl 0 rfl) ?_
      refine lv_iload_n hx hb dX3_look_53 rfl (lv_at hl 2 rfl) ?_
      refine lv_ior hx hb dX3_look_54 ?_
      refine lv_eqi (y := (nI (i22 ||| 2 ^ i2))) (nI_or _ _) ?_
      refine lv_aload_n hx hb dX3_look_55 rfl (lv_at hl 4 rfl) ?_
      refine va_get (D := Γ.1) (ci := 3) (v := .ref (a 2)) (C := RX3) (T := TX3) (N := 2) hx hb hts hi3 hown hK hP 0 rfl rfl 1 (by decide) kf15 (fun _ h9 => h9) rfl dX3_look_56 ?_
      refine lv_iload hx hb dX3_look_59 (lv_at hl 0 rfl) ?_
      refine va_iald_n (f := p0_22) hx hb hK hP 2 0 rfl rfl (by omega) (Nat.le_of_ble_eq_true rfl) dX3_look_61 ?_
      refine lv_aload_n hx hb dX3_look_62 rfl (lv_at hl 5 rfl) ?_
      refine va_get (D := Γ.1) (ci := 2) (v := .ref (b 2)) (C := RX2) (T := TX2) (N := 16) hx hb hts hi2 hown hK hP 3 rfl rfl 3 (by decide) kf24 (fun _ h9 => h9) rfl dX3_look_63 ?_
      refine lv_iload_n hx hb dX3_look_66 rfl (lv_at hl 3 rfl) ?_
      refine va_iald_n (f := (v 2)) hx hb hK hP 5 0 rfl rfl (by omega) (Nat.le_of_ble_eq_true rfl) dX3_look_67 ?_
      refine lv_iload hx hb dX3_look_68 (lv_at hl 0 rfl) ?_
      refine lv_iand hx hb dX3_look_70 ?_
      refine cLI (va_runS (As := [.int (((v 2) i2) &&& (nI i22))]) (rest := [.int (p0_22 i22), .int (nI (i22 ||| 2 ^ i2)), .ref (a 2)]) ⟨hx, hb, hml, hown, hts⟩ ((kJ6_bitCount_0f7a4 l Γ (((v 2) i2) &&& (nI i22))) _) (va_cwS 1 hts gX3_look_J6_bitCount_0f7a4 rfl rfl rfl (by decide +kernel) ⟨Nat.le_of_ble_eq_true rfl, Nat.le_of_ble_eq_true rfl⟩) ⟨wPre_blind, wPre_mk hP hD hK hS hA hAB hAm [] rfl rfl⟩ rfl rfl hl.1 rfl (lv_room (Nat.le_of_ble_eq_true rfl)) dX3_look_71 ⟨Nat.zero_le _, Nat.zero_le _⟩) hP hS hA (fun H locs hP hS => ?_)
      refine lv_iadd hx hb dX3_look_74 ?_
      refine va_iast_n (f := p0_22) hx hb hK hP hD hS 2 0 rfl rfl (orlt (by omega) (by omega)) (Nat.le_of_ble_eq_true rfl) dX3_look_75 (fun H locs hP hD hS => ?_)
      have hP : va_P Γ.1 vwCl (wcat [suB Γ a (upd o0_22 (i22 ||| 2 ^ i2) ((o0_22 i22) ||| (fX2_ownedBy v (nI i2)))) (upd p0_22 (i22 ||| 2 ^ i2) ((p0_22 i22) + (fbit (((v 2) i2) &&& (nI i22))))), plB Γ b v]) H := hP
      have hD : va_D A (wcat [suB Γ a (upd o0_22 (i22 ||| 2 ^ i2) ((o0_22 i22) ||| (fX2_ownedBy v (nI i2)))) (upd p0_22 (i22 ||| 2 ^ i2) ((p0_22 i22) + (fbit (((v 2) i2) &&& (nI i22))))), plB Γ b v]) := hD
      refine lv_iinc (v := (nI (i22 + 1))) (lv' := [(5, .int (nI (i22 + 1))), (4, .int (fX2_ownedBy v (nI i2))), (3, .int (nI (2 ^ i2))), (2, .int (nI i2)), (0, .ref (a 0)), (1, .ref (b 0))]) hx hb dX3_look_76 hl (k := 0) rfl (nI_1 _) (by decide) rfl (fun ls hl => ?_)
      refine lv_goto (tgt := 22) hx hb dX3_look_79 (by decide) ?_
      exact ih22 ((i22 + 1), (upd o0_22 (i22 ||| 2 ^ i2) ((o0_22 i22) ||| (fX2_ownedBy v (nI i2)))), (upd p0_22 (i22 ||| 2 ^ i2) ((p0_22 i22) + (fbit (((v 2) i2) &&& (nI i22)))))) H locs ls ⟨by omega, hq, hP, hD, hS, lv_sub hl [0, 1, 2, 3, 4, 5] rfl⟩
def fX0_reckon_L42 (k27 : Nat → (Nat → Int32) → (Nat → Int32)) (v : (Nat → Nat → Int32)) (i2 : Nat) (i27 : Nat) : Nat → Nat → (Nat → Int32) → (Nat → Int32)
  | 0, i42, k0_42 => (k27 (i27 + 1) k0_42)
  | n42 + 1, i42, k0_42 => (if (fbit (nI (i42 ||| 2 ^ i27 ||| 2 ^ i2))) ≤ (v 0 6) then (fX0_reckon_L42 k27 v i2 i27 n42 (i42 + 1) (upd k0_42 (i42 ||| 2 ^ i27 ||| 2 ^ i2) (((ffm (((nI (i2 + 1)) * (k0_42 (i42 ||| 2 ^ i27))) - ((nI (i27 + 1)) * (k0_42 (i42 ||| 2 ^ i2)))) (nI 251)) * (wInv (i2 - i27))) - ((ffm (((nI (i2 + 1)) * (k0_42 (i42 ||| 2 ^ i27))) - ((nI (i27 + 1)) * (k0_42 (i42 ||| 2 ^ i2)))) (nI 251)) * (wInv (i2 - i27))) / (nI 251) * (nI 251)))) else (fX0_reckon_L42 k27 v i2 i27 n42 (i42 + 1) (upd k0_42 (i42 ||| 2 ^ i27 ||| 2 ^ i2) (k0_42 (i42 ||| 2 ^ i27)))))
def fX0_reckon_L27 (k2 : Nat → (Nat → Int32) → (Nat → Int32)) (v : (Nat → Nat → Int32)) (i2 : Nat) : Nat → Nat → (Nat → Int32) → (Nat → Int32)
  | 0, i27, k0_27 => (k2 (i2 + 1) k0_27)
  | n27 + 1, i27, k0_27 => (fX0_reckon_L42 (fX0_reckon_L27 k2 v i2 n27) v i2 i27 (2 ^ i27) 0 k0_27)
def fX0_reckon_L2 (v : (Nat → Nat → Int32)) : Nat → Nat → (Nat → Int32) → (Nat → Int32)
  | 0, i2, k0_2 => (k0_2)
  | n2 + 1, i2, k0_2 => (fX0_reckon_L27 (fX0_reckon_L2 v n2) v i2 (i2) 0 (upd k0_2 (2 ^ i2) ((v 5) i2)))
def fX0_reckon (k : (Nat → Int32)) (v : (Nat → Nat → Int32)) : (Nat → Int32) := (fX0_reckon_L2 v (8) 0 k)
set_option maxHeartbeats 4000000 in
set_option maxRecDepth 100000 in
theorem kX0_reckon (l : Launch) (Γ : wG) (a : Nat → Nat) (b : Nat → Nat) (k : (Nat → Int32)) (v : (Nat → Nat → Int32)) : MV l Γ yX0_reckon wsX0_reckon ({ frames := 1, cells := 0, slots := 0, locals := 22 }) [.ref (a 0), .ref (b 0)] [cuB Γ a k, plB Γ b v] [cuB Γ a (fX0_reckon k v), plB Γ b v] := by
  intro sz
  refine Met.ofW (cc := cX0_reckon) (maxL := 9) (ret := none) (by decide) rfl ?_
  intro p e s m args below meth c s₁ B hml hv
  obtain ⟨rfl, hsz, hP, hK, hD0, hAm⟩ := hv
  have hx := B.exec
  have hb := B.bytes
  have hr := B.returns
  have hts := atoms_spec (ws := wsX0_reckon) B.pre
  have hown : s.vm.findClass RX0 = some m.cls := findClass_of_methodNamed B.named
  have hlocks := B.notSynchronized
  subst hsz
  have hD := hD0.self (sz := s.heap.size)
  generalize hAe : va_A (wcat [cuB Γ a k, plB Γ b v]) s.heap.size = A at hD hAm ⊢
  have hA : ∀ q : Nat, s.heap.size ≤ q → A q := fun q h => by rw [← hAe]; exact Or.inr h
  have hAB : ∀ q : Nat, A q → A q := fun _ h => h
  have hS : va_S A s.heap s.heap [] := va_S.rf
  have hl := lv_entry ([.ref (a 0), .ref (b 0)]) (n := 9) (Nat.le_of_ble_eq_true rfl)
  rw [lg_entry_eq]
  generalize (lg_sl ([.ref (a 0), .ref (b 0)]) ++ List.replicate (9 - (lg_sl ([.ref (a 0), .ref (b 0)])).length) Slot.unset).toArray = ls at hl ⊢
  have hl : lv_has ls 9 [(0, .ref (a 0)), (1, .ref (b 0))] := hl
  have hi0 : ∀ w ∈ wsX00, w ∈ wsX0_reckon := by decide +kernel
  have hi2 : ∀ w ∈ wsX20, w ∈ wsX0_reckon := by decide +kernel
  have kf15 := hts (.fieldLink RX0 15 "CapsuleKeepers$Place" "values" "[I") (by decide +kernel)
  have kf26 := hts (.fieldLink RX0 26 "CapsuleKeepers$Place" "quorum" "I") (by decide +kernel)
  have kf36 := hts (.fieldLink RX0 36 "CapsuleKeepers$Curves" "INVERSES" "[I") (by decide +kernel)
  have kf9 := hts (.fieldLink RX0 9 "CapsuleKeepers$Curves" "keys" "[I") (by decide +kernel)
  have hq : (fX0_reckon k v) = (fX0_reckon_L2 v (8) 0 k) := rfl
  refine lv_iconst (v := (nI 0)) hx hb dX0_reckon_0 (by decide) ?_
  refine lv_istore_n (lv' := [(2, .int (nI 0)), (0, .ref (a 0)), (1, .ref (b 0))]) hx hb dX0_reckon_1 rfl hl (by decide) rfl (fun ls hl => ?_)
  refine wl (pc := 2) (σ := Nat × (Nat → Int32)) (fun n (i2, k0_2) H locs ls => (i2 + n = 8) ∧ (fX0_reckon k v) = fX0_reckon_L2 v n i2 k0_2 ∧ va_P Γ.1 vwCl (wcat [cuB Γ a k0_2, plB Γ b v]) H ∧ va_D A (wcat [cuB Γ a k0_2, plB Γ b v]) ∧ va_S A s.heap H locs ∧ lv_has ls 9 [(2, .int (nI i2)), (0, .ref (a 0)), (1, .ref (b 0))]) ?_ ?_ (8) (0, k) _ _ _ ⟨by omega, hq, hP, hD, hS, lv_sub hl [0, 1, 2] rfl⟩
  · intro ⟨i2, k0_2⟩ H locs ls h
    obtain ⟨hn2, hq, hP, hD, hS, hl⟩ := h
    try dsimp only at hn2 hq hP hD hl
    replace hq : (fX0_reckon k v) = (k0_2) := hq
    refine lv_iload_n hx hb dX0_reckon_2 rfl (lv_at hl 0 rfl) ?_
    refine lv_bipush (v := (nI 8)) hx hb dX0_reckon_3 (by decide) ?_
    refine lv_icmp_ge (tgt := 167) hx hb dX0_reckon_5 (by decide) (fun c_5 => ?_) (fun c_5 => absurd (nI_le (by omega) (by omega)) c_5)
    exact W.vret hx hb hr (fun t ht hW => eMV (by rw [hq]; exact hP) hS ht) hS.2.2 dX0_reckon_167
  · intro n2 ih2 ⟨i2, k0_2⟩ H locs ls h
    obtain ⟨hn2, hq, hP, hD, hS, hl⟩ := h
    try dsimp only at hn2 hq hP hD hl
    replace hq : (fX0_reckon k v) = (fX0_reckon_L27 (fX0_reckon_L2 v n2) v i2 (i2) 0 (upd k0_2 (2 ^ i2) ((v 5) i2))) := hq
    refine lv_iload_n hx hb dX0_reckon_2 rfl (lv_at hl 0 rfl) ?_
    refine lv_bipush (v := (nI 8)) hx hb dX0_reckon_3 (by decide) ?_
    refine lv_icmp_ge (tgt := 167) hx hb dX0_reckon_5 (by decide) (fun c_5 => absurd c_5 (nI_ge (by omega) (by omega))) (fun c_5 => ?_)
    refine lv_iconst (v := (nI 1)) hx hb dX0_reckon_8 (by decide) ?_
    refine lv_iload_n hx hb dX0_reckon_9 rfl (lv_at hl 0 rfl) ?_
    refine lv_ishl hx hb dX0_reckon_10 ?_
    refine lv_eqi (y := (nI (2 ^ i2))) (shl1 (by omega)) ?_
    refine lv_istore_n (lv' := [(3, .int (nI (2 ^ i2))), (2, .int (nI i2)), (0, .ref (a 0)), (1, .ref (b 0))]) hx hb dX0_reckon_11 rfl hl (by decide) rfl (fun ls hl => ?_)
    refine lv_aload_n hx hb dX0_reckon_12 rfl (lv_at hl 2 rfl) ?_
    refine va_get (D := Γ.1) (ci := 0) (v := .ref (a 1)) (C := RX0) (T := TX0) (N := 1) hx hb hts hi0 hown hK hP 0 rfl rfl 0 (by decide) kf9 (fun _ h9 => h9) rfl dX0_reckon_13 ?_
    refine lv_iload_n hx hb dX0_reckon_16 rfl (lv_at hl 0 rfl) ?_
    refine lv_aload_n hx hb dX0_reckon_17 rfl (lv_at hl 3 rfl) ?_
    refine va_get (D := Γ.1) (ci := 2) (v := .ref (b 5)) (C := RX2) (T := TX2) (N := 16) hx hb hts hi2 hown hK hP 2 rfl rfl 6 (by decide) kf15 (fun _ h9 => h9) rfl dX0_reckon_18 ?_
    refine lv_iload_n hx hb dX0_reckon_21 rfl (lv_at hl 1 rfl) ?_
    refine va_iald_n (f := (v 5)) hx hb hK hP 7 0 rfl rfl (by omega) (Nat.le_of_ble_eq_true rfl) dX0_reckon_22 ?_
    refine va_iast_n (f := k0_2) hx hb hK hP hD hS 1 0 rfl rfl (by have := p2le (show i2 < 8 by omega); omega) (Nat.le_of_ble_eq_true rfl) dX0_reckon_23 (fun H locs hP hD hS => ?_)
    have hP : va_P Γ.1 vwCl (wcat [cuB Γ a (upd k0_2 (2 ^ i2) ((v 5) i2)), plB Γ b v]) H := hP
    have hD : va_D A (wcat [cuB Γ a (upd k0_2 (2 ^ i2) ((v 5) i2)), plB Γ b v]) := hD
    refine lv_iconst (v := (nI 0)) hx hb dX0_reckon_24 (by decide) ?_
    refine lv_istore (lv' := [(4, .int (nI 0)), (3, .int (nI (2 ^ i2))), (2, .int (nI i2)), (0, .ref (a 0)), (1, .ref (b 0))]) hx hb dX0_reckon_25 hl (by decide) rfl (fun ls hl => ?_)
    obtain ⟨k2, ek2⟩ : ∃ k, k = (fX0_reckon_L2 v n2) := ⟨_, rfl⟩
    replace hq : (fX0_reckon k v) = (fX0_reckon_L27 k2 v i2 (i2) 0 (upd k0_2 (2 ^ i2) ((v 5) i2))) := hq.trans (by rw [ek2])
    refine wl (pc := 27) (σ := Nat × (Nat → Int32)) (fun n (i27, k0_27) H locs ls => (i27 + n = i2) ∧ (fX0_reckon k v) = fX0_reckon_L27 k2 v i2 n i27 k0_27 ∧ va_P Γ.1 vwCl (wcat [cuB Γ a k0_27, plB Γ b v]) H ∧ va_D A (wcat [cuB Γ a k0_27, plB Γ b v]) ∧ va_S A s.heap H locs ∧ lv_has ls 9 [(4, .int (nI i27)), (3, .int (nI (2 ^ i2))), (2, .int (nI i2)), (0, .ref (a 0)), (1, .ref (b 0))]) ?_ ?_ (i2) (0, (upd k0_2 (2 ^ i2) ((v 5) i2))) _ _ _ ⟨by omega, hq, hP, hD, hS, lv_sub hl [0, 1, 2, 3, 4] rfl⟩
    · intro ⟨i27, k0_27⟩ H locs ls h
      obtain ⟨hn27, hq, hP, hD, hS, hl⟩ := h
      try dsimp only at hn27 hq hP hD hl
      replace hq : (fX0_reckon k v) = (k2 (i2 + 1) k0_27) := hq
      refine lv_iload hx hb dX0_reckon_27 (lv_at hl 0 rfl) ?_
      refine lv_iload_n hx hb dX0_reckon_29 rfl (lv_at hl 2 rfl) ?_
      refine lv_icmp_ge (tgt := 161) hx hb dX0_reckon_30 (by decide) (fun c_30 => ?_) (fun c_30 => absurd (nI_le (by omega) (by omega)) c_30)
      refine lv_iinc (v := (nI (i2 + 1))) (lv' := [(2, .int (nI (i2 + 1))), (4, .int (nI i27)), (3, .int (nI (2 ^ i2))), (0, .ref (a 0)), (1, .ref (b 0))]) hx hb dX0_reckon_161 hl (k := 2) rfl (nI_1 _) (by decide) rfl (fun ls hl => ?_)
      refine lv_goto (tgt := 2) hx hb dX0_reckon_164 (by decide) ?_
      exact ih2 ((i2 + 1), k0_27) H locs ls ⟨by omega, (hq.trans (by rw [ek2])), hP, hD, hS, lv_sub hl [0, 3, 4] rfl⟩
    · intro n27 ih27 ⟨i27, k0_27⟩ H locs ls h
      obtain ⟨hn27, hq, hP, hD, hS, hl⟩ := h
      try dsimp only at hn27 hq hP hD hl
      replace hq : (fX0_reckon k v) = (fX0_reckon_L42 (fX0_reckon_L27 k2 v i2 n27) v i2 i27 (2 ^ i27) 0 k0_27) := hq
      refine lv_iload hx hb dX0_reckon_27 (lv_at hl 0 rfl) ?_
      refine lv_iload_n hx hb dX0_reckon_29 rfl (lv_at hl 2 rfl) ?_
      refine lv_icmp_ge (tgt := 161) hx hb dX0_reckon_30 (by decide) (fun c_30 => absurd c_30 (nI_ge (by omega) (by omega))) (fun c_30 => ?_)
      refine lv_iconst (v := (nI 1)) hx hb dX0_reckon_33 (by decide) ?_
      refine lv_iload hx hb dX0_reckon_34 (lv_at hl 0 rfl) ?_
      refine lv_ishl hx hb dX0_reckon_36 ?_
      refine lv_eqi (y := (nI (2 ^ i27))) (shl1 (by omega)) ?_
      refine lv_istore (lv' := [(5, .int (nI (2 ^ i27))), (4, .int (nI i27)), (3, .int (nI (2 ^ i2))), (2, .int (nI i2)), (0, .ref (a 0)), (1, .ref (b 0))]) hx hb dX0_reckon_37 hl (by decide) rfl (fun ls hl => ?_)
      refine lv_iconst (v := (nI 0)) hx hb dX0_reckon_39 (by decide) ?_
      refine lv_istore (lv' := [(6, .int (nI 0)), (5, .int (nI (2 ^ i27))), (4, .int (nI i27)), (3, .int (nI (2 ^ i2))), (2, .int (nI i2)), (0, .ref (a 0)), (1, .ref (b 0))]) hx hb dX0_reckon_40 hl (by decide) rfl (fun ls hl => ?_)
      obtain ⟨k27, ek27⟩ : ∃ k, k = (fX0_reckon_L27 k2 v i2 n27) := ⟨_, rfl⟩
      replace hq : (fX0_reckon k v) = (fX0_reckon_L42 k27 v i2 i27 (2 ^ i27) 0 k0_27) := hq.trans (by rw [ek27])
      refine wl (pc := 42) (σ := Nat × (Nat → Int32)) (fun n (i42, k0_42) H locs ls => (i42 + n = 2 ^ i27) ∧ (fX0_reckon k v) = fX0_reckon_L42 k27 v i2 i27 n i42 k0_42 ∧ va_P Γ.1 vwCl (wcat [cuB Γ a k0_42, plB Γ b v]) H ∧ va_D A (wcat [cuB Γ a k0_42, plB Γ b v]) ∧ va_S A s.heap H locs ∧ lv_has ls 9 [(6, .int (nI i42)), (5, .int (nI (2 ^ i27))), (4, .int (nI i27)), (3, .int (nI (2 ^ i2))), (2, .int (nI i2)), (0, .ref (a 0)), (1, .ref (b 0))]) ?_ ?_ (2 ^ i27) (0, k0_27) _ _ _ ⟨by omega, hq, hP, hD, hS, lv_sub hl [0, 1, 2, 3, 4, 5, 6] rfl⟩
      · intro ⟨i42, k0_42⟩ H locs ls h
        obtain ⟨hn42, hq, hP, hD, hS, hl⟩ := h
        try dsimp only at hn42 hq hP hD hl
        have hp2 : 2 ^ i2 ≤ 128 := p2le (by omega)
        have hp27 : 2 ^ i27 ≤ 128 := p2le (by omega)
        replace hq : (fX0_reckon k v) = (k27 (i27 + 1) k0_42) := hq
        refine lv_iload hx hb dX0_reckon_42 (lv_at hl 0 rfl) ?_
        refine lv_iload hx hb dX0_reckon_44 (lv_at hl 1 rfl) ?_
        refine lv_icmp_ge (tgt := 155) hx hb dX0_reckon_46 (by decide) (fun c_46 => ?_) (fun c_46 => absurd (nI_le (by omega) (by omega)) c_46)
        refine lv_iinc (v := (nI (i27 + 1))) (lv' := [(4, .int (nI (i27 + 1))), (6, .int (nI i42)), (5, .int (nI (2 ^ i27))), (3, .int (nI (2 ^ i2))), (2, .int (nI i2)), (0, .ref (a 0)), (1, .ref (b 0))]) hx hb dX0_reckon_155 hl (k := 2) rfl (nI_1 _) (by decide) rfl (fun ls hl => ?_)
        refine lv_goto (tgt := 27) hx hb dX0_reckon_158 (by decide) ?_
        exact ih27 ((i27 + 1), k0_42) H locs ls ⟨by omega, (hq.trans (by rw [ek27])), hP, hD, hS, lv_sub hl [0, 3, 4, 5, 6] rfl⟩
      · intro n42 ih42 ⟨i42, k0_42⟩ H locs ls h
        obtain ⟨hn42, hq, hP, hD, hS, hl⟩ := h
        try dsimp only at hn42 hq hP hD hl
        have hp2 : 2 ^ i2 ≤ 128 := p2le (by omega)
        have hp27 : 2 ^ i27 ≤ 128 := p2le (by omega)
        replace hq : (fX0_reckon k v) = (if (fbit (nI (i42 ||| 2 ^ i27 ||| 2 ^ i2))) ≤ (v 0 6) then (fX0_reckon_L42 k27 v i2 i27 n42 (i42 + 1) (upd k0_42 (i42 ||| 2 ^ i27 ||| 2 ^ i2) (((ffm (((nI (i2 + 1)) * (k0_42 (i42 ||| 2 ^ i27))) - ((nI (i27 + 1)) * (k0_42 (i42 ||| 2 ^ i2)))) (nI 251)) * (wInv (i2 - i27))) - ((ffm (((nI (i2 + 1)) * (k0_42 (i42 ||| 2 ^ i27))) - ((nI (i27 + 1)) * (k0_42 (i42 ||| 2 ^ i2)))) (nI 251)) * (wInv (i2 - i27))) / (nI 251) * (nI 251)))) else (fX0_reckon_L42 k27 v i2 i27 n42 (i42 + 1) (upd k0_42 (i42 ||| 2 ^ i27 ||| 2 ^ i2) (k0_42 (i42 ||| 2 ^ i27))))) := hq
        refine lv_iload hx hb dX0_reckon_42 (lv_at hl 0 rfl) ?_
        refine lv_iload hx hb dX0_reckon_44 (lv_at hl 1 rfl) ?_
        refine lv_icmp_ge (tgt := 155) hx hb dX0_reckon_46 (by decide) (fun c_46 => absurd c_46 (nI_ge (by omega) (by omega))) (fun c_46 => ?_)
        refine lv_iload hx hb dX0_reckon_49 (lv_at hl 0 rfl) ?_
        refine lv_iload hx hb dX0_reckon_51 (lv_at hl 1 rfl) ?_
        refine lv_ior hx hb dX0_reckon_53 ?_
        refine lv_eqi (y := (nI (i42 ||| 2 ^ i27))) (nI_or _ _) ?_
        refine lv_iload_n hx hb dX0_reckon_54 rfl (lv_at hl 3 rfl) ?_
        refine lv_ior hx hb dX0_reckon_55 ?_
        refine lv_eqi (y := (nI (i42 ||| 2 ^ i27 ||| 2 ^ i2))) (nI_or _ _) ?_
        refine lv_istore (lv' := [(7, .int (nI (i42 ||| 2 ^ i27 ||| 2 ^ i2))), (6, .int (nI i42)), (5, .int (nI (2 ^ i27))), (4, .int (nI i27)), (3, .int (nI (2 ^ i2))), (2, .int (nI i2)), (0, .ref (a 0)), (1, .ref (b 0))]) hx hb dX0_reckon_56 hl (by decide) rfl (fun ls hl => ?_)
        refine lv_iload hx hb dX0_reckon_58 (lv_at hl 0 rfl) ?_
        refine cLI (va_runS (As := [.int (nI (i42 ||| 2 ^ i27 ||| 2 ^ i2))]) (rest := []) ⟨hx, hb, hml, hown, hts⟩ ((kJ6_bitCount_0f7a4 l Γ (nI (i42 ||| 2 ^ i27 ||| 2 ^ i2))) _) (va_cwS 1 hts gX0_reckon_J6_bitCount_0f7a4 rfl rfl rfl (by decide +kernel) ⟨Nat.le_of_ble_eq_true rfl, Nat.le_of_ble_eq_true rfl⟩) ⟨wPre_blind, wPre_mk hP hD hK hS hA hAB hAm [] rfl rfl⟩ rfl rfl hl.1 rfl (lv_room (Nat.le_of_ble_eq_true rfl)) dX0_reckon_60 ⟨Nat.zero_le _, Nat.zero_le _⟩) hP hS hA (fun H locs hP hS => ?_)
        refine lv_aload_n hx hb dX0_reckon_63 rfl (lv_at hl 7 rfl) ?_
        refine va_get (D := Γ.1) (ci := 2) (v := .int (v 0 6)) (C := RX2) (T := TX2) (N := 16) hx hb hts hi2 hown hK hP 2 rfl rfl 11 (by decide) kf26 (fun _ h9 => h9) rfl dX0_reckon_64 ?_
        refine lv_icmp_le (tgt := 90) hx hb dX0_reckon_67 (by decide) (fun c_1 => ?_) (fun c_1 => ?_)
        · have hq := hq.trans (if_pos c_1)
          refine lv_iload_n hx hb dX0_reckon_90 rfl (lv_at hl 5 rfl) ?_
          refine lv_iconst (v := (nI 1)) hx hb dX0_reckon_91 (by decide) ?_
          refine lv_iadd hx hb dX0_reckon_92 ?_
          refine lv_eqi (y := (nI (i2 + 1))) (nI_add _ _) ?_
          refine lv_aload_n hx hb dX0_reckon_93 rfl (lv_at hl 6 rfl) ?_
          refine va_get (D := Γ.1) (ci := 0) (v := .ref (a 1)) (C := RX0) (T := TX0) (N := 1) hx hb hts hi0 hown hK hP 0 rfl rfl 0 (by decide) kf9 (fun _ h9 => h9) rfl dX0_reckon_94 ?_
          refine lv_iload hx hb dX0_reckon_97 (lv_at hl 1 rfl) ?_
          refine lv_iload hx hb dX0_reckon_99 (lv_at hl 2 rfl) ?_
          refine lv_ior hx hb dX0_reckon_101 ?_
          refine lv_eqi (y := (nI (i42 ||| 2 ^ i27))) (nI_or _ _) ?_
          refine va_iald_n (f := k0_42) hx hb hK hP 1 0 rfl rfl (orlt (by omega) (by omega)) (Nat.le_of_ble_eq_true rfl) dX0_reckon_102 ?_
          refine lv_imul hx hb dX0_reckon_103 ?_
          refine lv_iload hx hb dX0_reckon_104 (lv_at hl 3 rfl) ?_
          refine lv_iconst (v := (nI 1)) hx hb dX0_reckon_106 (by decide) ?_
          refine lv_iadd hx hb dX0_reckon_107 ?_
          refine lv_eqi (y := (nI (i27 + 1))) (nI_add _ _) ?_
          refine lv_aload_n hx hb dX0_reckon_108 rfl (lv_at hl 6 rfl) ?_
          refine va_get (D := Γ.1) (ci := 0) (v := .ref (a 1)) (C := RX0) (T := TX0) (N := 1) hx hb hts hi0 hown hK hP 0 rfl rfl 0 (by decide) kf9 (fun _ h9 => h9) rfl dX0_reckon_109 ?_
          refine lv_iload hx hb dX0_reckon_112 (lv_at hl 1 rfl) ?_
          refine lv_iload_n hx hb dX0_reckon_114 rfl (lv_at hl 4 rfl) ?_
          refine lv_ior hx hb dX0_reckon_115 ?_
          refine lv_eqi (y := (nI (i42 ||| 2 ^ i2))) (nI_or _ _) ?_
          refine va_iald_n (f := k0_42) hx hb hK hP 1 0 rfl rfl (orlt (by omega) (by omega)) (Nat.le_of_ble_eq_true rfl) dX0_reckon_116 ?_
          refine lv_imul hx hb dX0_reckon_117 ?_
          refine lv_isub hx hb dX0_reckon_118 ?_
          refine lv_istore (lv' := [(8, .int (((nI (i2 + 1)) * (k0_42 (i42 ||| 2 ^ i27))) - ((nI (i27 + 1)) * (k0_42 (i42 ||| 2 ^ i2))))), (7, .int (nI (i42 ||| 2 ^ i27 ||| 2 ^ i2))), (6, .int (nI i42)), (5, .int (nI (2 ^ i27))), (4, .int (nI i27)), (3, .int (nI (2 ^ i2))), (2, .int (nI i2)), (0, .ref (a 0)), (1, .ref (b 0))]) hx hb dX0_reckon_119 hl (by decide) rfl (fun ls hl => ?_)
          refine lv_aload_n hx hb dX0_reckon_121 rfl (lv_at hl 7 rfl) ?_
          refine va_get (D := Γ.1) (ci := 0) (v := .ref (a 1)) (C := RX0) (T := TX0) (N := 1) hx hb hts hi0 hown hK hP 0 rfl rfl 0 (by decide) kf9 (fun _ h9 => h9) rfl dX0_reckon_122 ?_
          refine lv_iload hx hb dX0_reckon_125 (lv_at hl 1 rfl) ?_
          refine lv_iload hx hb dX0_reckon_127 (lv_at hl 0 rfl) ?_
          refine lv_sipush (v := (nI 251)) hx hb dX0_reckon_129 (by decide) ?_
          refine cLI (va_runS (As := [.int (((nI (i2 + 1)) * (k0_42 (i42 ||| 2 ^ i27))) - ((nI (i27 + 1)) * (k0_42 (i42 ||| 2 ^ i2)))), .int (nI 251)]) (rest := [.int (nI (i42 ||| 2 ^ i27 ||| 2 ^ i2)), .ref (a 1)]) ⟨hx, hb, hml, hown, hts⟩ ((kJ9_floorMod_7cf53 l Γ (((nI (i2 + 1)) * (k0_42 (i42 ||| 2 ^ i27))) - ((nI (i27 + 1)) * (k0_42 (i42 ||| 2 ^ i2)))) (nI 251) (by decide)) _) (va_cwS 2 hts gX0_reckon_J9_floorMod_7cf53 rfl rfl rfl (by decide +kernel) ⟨Nat.le_of_ble_eq_true rfl, Nat.le_of_ble_eq_true rfl⟩) ⟨wPre_blind, wPre_mk hP hD hK hS hA hAB hAm [] rfl rfl⟩ rfl rfl hl.1 rfl (lv_room (Nat.le_of_ble_eq_true rfl)) dX0_reckon_132 ⟨Nat.zero_le _, Nat.zero_le _⟩) hP hS hA (fun H locs hP hS => ?_)
          obtain ⟨tInv, hZi, hTi⟩ := (hAm.narrow hAB).2.1
          refine va_gets hx hb hZi hS hown kf36 (fun _ h9 => h9) dX0_reckon_135 ?_
          refine lv_iload_n hx hb dX0_reckon_138 rfl (lv_at hl 6 rfl) ?_
          refine lv_iload hx hb dX0_reckon_139 (lv_at hl 4 rfl) ?_
          refine lv_isub hx hb dX0_reckon_141 ?_
          refine lv_eqi (y := (nI (i2 - i27))) (pk_sub (by omega)) ?_
          refine va_ti (v := .int (wInv (i2 - i27))) hx hb hTi hS (vp_in_nI (by omega) (by omega)) (by rw [nI_clamp (by omega)]) dX0_reckon_142 ?_
          refine lv_imul hx hb dX0_reckon_143 ?_
          refine lv_sipush (v := (nI 251)) hx hb dX0_reckon_144 (by decide) ?_
          refine lv_irem hx hb dX0_reckon_147 (by decide) ?_
          refine va_iast_n (f := k0_42) hx hb hK hP hD hS 1 0 rfl rfl (orlt (orlt (by omega) (by omega)) (by omega)) (Nat.le_of_ble_eq_true rfl) dX0_reckon_148 (fun H locs hP hD hS => ?_)
          have hP : va_P Γ.1 vwCl (wcat [cuB Γ a (upd k0_42 (i42 ||| 2 ^ i27 ||| 2 ^ i2) (((ffm (((nI (i2 + 1)) * (k0_42 (i42 ||| 2 ^ i27))) - ((nI (i27 + 1)) * (k0_42 (i42 ||| 2 ^ i2)))) (nI 251)) * (wInv (i2 - i27))) - ((ffm (((nI (i2 + 1)) * (k0_42 (i42 ||| 2 ^ i27))) - ((nI (i27 + 1)) * (k0_42 (i42 ||| 2 ^ i2)))) (nI 251)) * (wInv (i2 - i27))) / (nI 251) * (nI 251))), plB Γ b v]) H := hP
          have hD : va_D A (wcat [cuB Γ a (upd k0_42 (i42 ||| 2 ^ i27 ||| 2 ^ i2) (((ffm (((nI (i2 + 1)) * (k0_42 (i42 ||| 2 ^ i27))) - ((nI (i27 + 1)) * (k0_42 (i42 ||| 2 ^ i2)))) (nI 251)) * (wInv (i2 - i27))) - ((ffm (((nI (i2 + 1)) * (k0_42 (i42 ||| 2 ^ i27))) - ((nI (i27 + 1)) * (k0_42 (i42 ||| 2 ^ i2)))) (nI 251)) * (wInv (i2 - i27))) / (nI 251) * (nI 251))), plB Γ b v]) := hD
          refine lv_iinc (v := (nI (i42 + 1))) (lv' := [(6, .int (nI (i42 + 1))), (8, .int (((nI (i2 + 1)) * (k0_42 (i42 ||| 2 ^ i27))) - ((nI (i27 + 1)) * (k0_42 (i42 ||| 2 ^ i2))))), (7, .int (nI (i42 ||| 2 ^ i27 ||| 2 ^ i2))), (5, .int (nI (2 ^ i27))), (4, .int (nI i27)), (3, .int (nI (2 ^ i2))), (2, .int (nI i2)), (0, .ref (a 0)), (1, .ref (b 0))]) hx hb dX0_reckon_149 hl (k := 2) rfl (nI_1 _) (by decide) rfl (fun ls hl => ?_)
          refine lv_goto (tgt := 42) hx hb dX0_reckon_152 (by decide) ?_
          exact ih42 ((i42 + 1), (upd k0_42 (i42 ||| 2 ^ i27 ||| 2 ^ i2) (((ffm (((nI (i2 + 1)) * (k0_42 (i42 ||| 2 ^ i27))) - ((nI (i27 + 1)) * (k0_42 (i42 ||| 2 ^ i2)))) (nI 251)) * (wInv (i2 - i27))) - ((ffm (((nI (i2 + 1)) * (k0_42 (i42 ||| 2 ^ i27))) - ((nI (i27 + 1)) * (k0_42 (i42 ||| 2 ^ i2)))) (nI 251)) * (wInv (i2 - i27))) / (nI 251) * (nI 251)))) H locs ls ⟨by omega, hq, hP, hD, hS, lv_sub hl [0, 3, 4, 5, 6, 7, 8] rfl⟩
        · have hq := hq.trans (if_neg c_1)
          refine lv_aload_n hx hb dX0_reckon_70 rfl (lv_at hl 6 rfl) ?_
          refine va_get (D := Γ.1) (ci := 0) (v := .ref (a 1)) (C := RX0) (T := TX0) (N := 1) hx hb hts hi0 hown hK hP 0 rfl rfl 0 (by decide) kf9 (fun _ h9 => h9) rfl dX0_reckon_71 ?_
          refine lv_iload hx hb dX0_reckon_74 (lv_at hl 0 rfl) ?_
          refine lv_aload_n hx hb dX0_reckon_76 rfl (lv_at hl 6 rfl) ?_
          refine va_get (D := Γ.1) (ci := 0) (v := .ref (a 1)) (C := RX0) (T := TX0) (N := 1) hx hb hts hi0 hown hK hP 0 rfl rfl 0 (by decide) kf9 (fun _ h9 => h9) rfl dX0_reckon_77 ?_
          refine lv_iload hx hb dX0_reckon_80 (lv_at hl 1 rfl) ?_
          refine lv_iload hx hb dX0_reckon_82 (lv_at hl 2 rfl) ?_
          refine lv_ior hx hb dX0_reckon_84 ?_
          refine lv_eqi (y := (nI (i42 ||| 2 ^ i27))) (nI_or _ _) ?_
          refine va_iald_n (f := k0_42) hx hb hK hP 1 0 rfl rfl (orlt (by omega) (by omega)) (Nat.le_of_ble_eq_true rfl) dX0_reckon_85 ?_
          refine va_iast_n (f := k0_42) hx hb hK hP hD hS 1 0 rfl rfl (orlt (orlt (by omega) (by omega)) (by omega)) (Nat.le_of_ble_eq_true rfl) dX0_reckon_86 (fun H locs hP hD hS => ?_)
          have hP : va_P Γ.1 vwCl (wcat [cuB Γ a (upd k0_42 (i42 ||| 2 ^ i27 ||| 2 ^ i2) (k0_42 (i42 ||| 2 ^ i27))), plB Γ b v]) H := hP
          have hD : va_D A (wcat [cuB Γ a (upd k0_42 (i42 ||| 2 ^ i27 ||| 2 ^ i2) (k0_42 (i42 ||| 2 ^ i27))), plB Γ b v]) := hD
          refine lv_goto (tgt := 149) hx hb dX0_reckon_87 (by decide) ?_
          refine lv_iinc (v := (nI (i42 + 1))) (lv' := [(6, .int (nI (i42 + 1))), (7, .int (nI (i42 ||| 2 ^ i27 ||| 2 ^ i2))), (5, .int (nI (2 ^ i27))), (4, .int (nI i27)), (3, .int (nI (2 ^ i2))), (2, .int (nI i2)), (0, .ref (a 0)), (1, .ref (b 0))]) hx hb dX0_reckon_149 hl (k := 1) rfl (nI_1 _) (by decide) rfl (fun ls hl => ?_)
          refine lv_goto (tgt := 42) hx hb dX0_reckon_152 (by decide) ?_
          exact ih42 ((i42 + 1), (upd k0_42 (i42 ||| 2 ^ i27 ||| 2 ^ i2) (k0_42 (i42 ||| 2 ^ i27)))) H locs ls ⟨by omega, hq, hP, hD, hS, lv_sub hl [0, 2, 3, 4, 5, 6, 7] rfl⟩
