def fX4_digest_L87 (k78 : Nat → Int64 → Int64 × (Nat → Nat → Int32) × (Nat → Int32) × (Nat → Int32)) (v : (Nat → Nat → Int32)) (i78 : Nat) : Nat → Nat → Int64 → Int64 × (Nat → Nat → Int32) × (Nat → Int32) × (Nat → Int32)
  | 0, i87, x1_87 => (k78 (i78 + 1) x1_87)
  | n87 + 1, i87, x1_87 => (let r_8 := (fX4_share v (nI i78) (nI i87)); (let r_9 := (fX4_mix x1_87 (r_8.toInt64)); (fX4_digest_L87 k78 v i78 n87 (i87 + 1) r_9)))
def fX4_digest_L78 (L : Nat) (v : (Nat → Nat → Int32)) (vsp : (Nat → Nat → Int32)) (ck : (Nat → Int32)) (so : (Nat → Int32)) (sp : (Nat → Int32)) (cs : (Nat → Int32)) : Nat → Nat → Int64 → Int64 × (Nat → Nat → Int32) × (Nat → Int32) × (Nat → Int32)
  | 0, i78, x1_78 => (let r_1 := (fX4_mixTold v ck x1_78); (let r_2 := (fX4_mixOpening v vsp ck so sp r_1); (let r_3 := (fX4_firstShare v); (let r_4 := (fX4_bitsOf r_3); (let r_5 := (fX4_mix r_2.1 r_4); (let r_6 := (fX4_mix r_5 ((nI L).toInt64)); (let r_7 := (fX1_mixCodes (L) cs r_6); (r_7, r_2.2.1, r_2.2.2.1, r_2.2.2.2))))))))
  | n78 + 1, i78, x1_78 => (fX4_digest_L87 (fX4_digest_L78 L v vsp ck so sp cs n78) v i78 (3) 0 x1_78)
def fX4_digest_L45 (k31 : Nat → Int64 → Int64 × (Nat → Nat → Int32) × (Nat → Int32) × (Nat → Int32)) (v : (Nat → Nat → Int32)) (i31 : Nat) : Nat → Nat → Int64 → Int64 × (Nat → Nat → Int32) × (Nat → Int32) × (Nat → Int32)
  | 0, i45, x1_45 => (k31 (i31 + 1) x1_45)
  | n45 + 1, i45, x1_45 => (let r_10 := (fX4_keeperOf v (nI i31) (nI i45)); (let r_11 := (fX4_mix x1_45 (r_10.toInt64)); (fX4_digest_L45 k31 v i31 n45 (i45 + 1) r_11)))
def fX4_digest_L31 (L : Nat) (v : (Nat → Nat → Int32)) (vsp : (Nat → Nat → Int32)) (ck : (Nat → Int32)) (so : (Nat → Int32)) (sp : (Nat → Int32)) (cs : (Nat → Int32)) : Nat → Nat → Int64 → Int64 × (Nat → Nat → Int32) × (Nat → Int32) × (Nat → Int32)
  | 0, i31, x1_31 => (fX4_digest_L78 L v vsp ck so sp cs (8) 0 x1_31)
  | n31 + 1, i31, x1_31 => (fX4_digest_L45 (fX4_digest_L31 L v vsp ck so sp cs n31) v i31 (5) 0 x1_31)
def fX4_digest_L6 (K : Nat) (L : Nat) (nn : Int32) (v : (Nat → Nat → Int32)) (vsp : (Nat → Nat → Int32)) (ck : (Nat → Int32)) (so : (Nat → Int32)) (sp : (Nat → Int32)) (cs : (Nat → Int32)) : Nat → Nat → Int64 → Int64 × (Nat → Nat → Int32) × (Nat → Int32) × (Nat → Int32)
  | 0, i6, x1_6 => (fX4_digest_L31 L v vsp ck so sp cs (K) 0 x1_6)
  | n6 + 1, i6, x1_6 => (let r_12 := (fX4_count nn v (nI i6)); (let r_13 := (fX4_mix x1_6 (r_12.toInt64)); (fX4_digest_L6 K L nn v vsp ck so sp cs n6 (i6 + 1) r_13)))
def fX4_digest (K : Nat) (L : Nat) (nn : Int32) (v : (Nat → Nat → Int32)) (vsp : (Nat → Nat → Int32)) (ck : (Nat → Int32)) (so : (Nat → Int32)) (sp : (Nat → Int32)) (cs : (Nat → Int32)) : Int64 × (Nat → Nat → Int32) × (Nat → Int32) × (Nat → Int32) := (fX4_digest_L6 K L nn v vsp ck so sp cs (12) 0 (3019 : Int64))
set_option maxHeartbeats 4000000 in
set_option maxRecDepth 100000 in
theorem kX4_digest (l : Launch) (Γ : wG) (q : Nat) (an : Nat → Nat) (ap : Nat → Nat) (qs : Nat) (ac : Nat → Nat) (au : Nat → Nat) (ax : Nat → Nat) (K : Nat) (L : Nat) (nn : Int32) (v : (Nat → Nat → Int32)) (vsp : (Nat → Nat → Int32)) (ck : (Nat → Int32)) (so : (Nat → Int32)) (sp : (Nat → Int32)) (cs : (Nat → Int32)) (hL : L ≤ 60) (hKv : v 0 0 = nI K) (hK8 : K ≤ 8) : ML l Γ yX4_digest wsX4_digest ({ frames := 6, cells := 0, slots := 0, locals := 134 }) [.ref q] [mnC q an ap qs ac au ax nn, plB Γ an v, plB Γ ap vsp, cuB Γ ac ck, suB Γ au so sp, txB Γ ax cs (nI L)] [mnC q an ap qs ac au ax nn, plB Γ an v, plB Γ ap (fX4_digest K L nn v vsp ck so sp cs).2.1, cuB Γ ac ck, suB Γ au (fX4_digest K L nn v vsp ck so sp cs).2.2.1 (fX4_digest K L nn v vsp ck so sp cs).2.2.2, txB Γ ax cs (nI L)] (fX4_digest K L nn v vsp ck so sp cs).1 := by
  intro sz
  refine Met.ofW (cc := cX4_digest) (maxL := 5) (ret := (some .long)) (by decide) rfl ?_
  intro p e s m args below meth c s₁ B hml hv
  obtain ⟨rfl, hsz, hP, hK, hD0, hAm⟩ := hv
  have hx := B.exec
  have hb := B.bytes
  have hr := B.returns
  have hts := atoms_spec (ws := wsX4_digest) B.pre
  have hown : s.vm.findClass RX4 = some m.cls := findClass_of_methodNamed B.named
  have hlocks := B.notSynchronized
  subst hsz
  have hD := hD0.self (sz := s.heap.size)
  generalize hAe : va_A (wcat [mnC q an ap qs ac au ax nn, plB Γ an v, plB Γ ap vsp, cuB Γ ac ck, suB Γ au so sp, txB Γ ax cs (nI L)]) s.heap.size = A at hD hAm ⊢
  have hA : ∀ q : Nat, s.heap.size ≤ q → A q := fun q h => by rw [← hAe]; exact Or.inr h
  have hAB : ∀ q : Nat, A q → A q := fun _ h => h
  have hS : va_S A s.heap s.heap [] := va_S.rf
  have hl := lv_entry ([.ref q]) (n := 5) (Nat.le_of_ble_eq_true rfl)
  rw [lg_entry_eq]
  generalize (lg_sl ([.ref q]) ++ List.replicate (5 - (lg_sl ([.ref q])).length) Slot.unset).toArray = ls at hl ⊢
  have hl : lv_has ls 5 [(0, .ref q)] := hl
  have hi1 : ∀ w ∈ wsX10, w ∈ wsX4_digest := by decide +kernel
  have hi2 : ∀ w ∈ wsX20, w ∈ wsX4_digest := by decide +kernel
  have hi4 : ∀ w ∈ wsX40, w ∈ wsX4_digest := by decide +kernel
  have kc259 := hts (.constantLong RX4 259 (3019)) (by decide +kernel)
  have kf10 := hts (.fieldLink RX4 10 "CapsuleKeepers" "now" "LCapsuleKeepers$Place;") (by decide +kernel)
  have kf44 := hts (.fieldLink RX4 44 "CapsuleKeepers" "text" "LCapsuleKeepers$DaysText;") (by decide +kernel)
  have kf48 := hts (.fieldLink RX4 48 "CapsuleKeepers$Place" "keepers" "I") (by decide +kernel)
  have hq : (fX4_digest K L nn v vsp ck so sp cs) = (fX4_digest_L6 K L nn v vsp ck so sp cs (12) 0 (3019 : Int64)) := rfl
  refine lv_ldc2 (v := 3019) hx hb hown kc259 dX4_digest_0 ?_
  refine lv_lstore_n (lv' := [(1, .long (3019 : Int64)), (0, .ref q)]) hx hb dX4_digest_3 rfl hl (by decide) rfl (fun ls hl => ?_)
  refine lv_iconst (v := (nI 0)) hx hb dX4_digest_4 (by decide) ?_
  refine lv_istore_n (lv' := [(3, .int (nI 0)), (1, .long (3019 : Int64)), (0, .ref q)]) hx hb dX4_digest_5 rfl hl (by decide) rfl (fun ls hl => ?_)
  refine wl (pc := 6) (σ := Nat × Int64) (fun n (i6, x1_6) H locs ls => (i6 + n = 12) ∧ (fX4_digest K L nn v vsp ck so sp cs) = fX4_digest_L6 K L nn v vsp ck so sp cs n i6 x1_6 ∧ va_P Γ.1 vwCl (wcat [mnC q an ap qs ac au ax nn, plB Γ an v, plB Γ ap vsp, cuB Γ ac ck, suB Γ au so sp, txB Γ ax cs (nI L)]) H ∧ va_D A (wcat [mnC q an ap qs ac au ax nn, plB Γ an v, plB Γ ap vsp, cuB Γ ac ck, suB Γ au so sp, txB Γ ax cs (nI L)]) ∧ va_S A s.heap H locs ∧ lv_has ls 5 [(3, .int (nI i6)), (1, .long x1_6), (0, .ref q)]) ?_ ?_ (12) (0, (3019 : Int64)) _ _ _ ⟨by omega, hq, hP, hD, hS, lv_sub hl [0, 1, 2] rfl⟩
  · intro ⟨i6, x1_6⟩ H locs ls h
    obtain ⟨hn6, hq, hP, hD, hS, hl⟩ := h
    try dsimp only at hn6 hq hP hD hl
    replace hq : (fX4_digest K L nn v vsp ck so sp cs) = (fX4_digest_L31 L v vsp ck so sp cs (K) 0 x1_6) := hq
    refine lv_iload_n hx hb dX4_digest_6 rfl (lv_at hl 0 rfl) ?_
    refine lv_bipush (v := (nI 11)) hx hb dX4_digest_7 (by decide) ?_
    refine lv_icmp_gt (tgt := 29) hx hb dX4_digest_9 (by decide) (fun c_9 => ?_) (fun c_9 => absurd ((nI_ltI (by omega) (by omega)).mpr (by omega)) c_9)
    refine lv_iconst (v := (nI 0)) hx hb dX4_digest_29 (by decide) ?_
    refine lv_istore_n (lv' := [(3, .int (nI 0)), (1, .long x1_6), (0, .ref q)]) hx hb dX4_digest_30 rfl hl (by decide) rfl (fun ls hl => ?_)
    refine wl (pc := 31) (σ := Nat × Int64) (fun n (i31, x1_31) H locs ls => (i31 + n = K) ∧ (fX4_digest K L nn v vsp ck so sp cs) = fX4_digest_L31 L v vsp ck so sp cs n i31 x1_31 ∧ va_P Γ.1 vwCl (wcat [mnC q an ap qs ac au ax nn, plB Γ an v, plB Γ ap vsp, cuB Γ ac ck, suB Γ au so sp, txB Γ ax cs (nI L)]) H ∧ va_D A (wcat [mnC q an ap qs ac au ax nn, plB Γ an v, plB Γ ap vsp, cuB Γ ac ck, suB Γ au so sp, txB Γ ax cs (nI L)]) ∧ va_S A s.heap H locs ∧ lv_has ls 5 [(3, .int (nI i31)), (1, .long x1_31), (0, .ref q)]) ?_ ?_ (K) (0, x1_6) _ _ _ ⟨by omega, hq, hP, hD, hS, lv_sub hl [0, 1, 2] rfl⟩
    · intro ⟨i31, x1_31⟩ H locs ls h
      obtain ⟨hn31, hq, hP, hD, hS, hl⟩ := h
      try dsimp only at hn31 hq hP hD hl
      replace hq : (fX4_digest K L nn v vsp ck so sp cs) = (fX4_digest_L78 L v vsp ck so sp cs (8) 0 x1_31) := hq
      refine lv_iload_n hx hb dX4_digest_31 rfl (lv_at hl 0 rfl) ?_
      refine lv_aload_n hx hb dX4_digest_32 rfl (lv_at hl 2 rfl) ?_
      refine va_get (D := Γ.1) (ci := 4) (v := .ref (an 0)) (C := RX4) (T := TX4) (N := 7) hx hb hts hi4 hown hK hP 0 rfl rfl 0 (by decide) kf10 (fun _ h9 => h9) rfl dX4_digest_33 ?_
      refine va_get (D := Γ.1) (ci := 2) (v := .int (v 0 0)) (C := RX2) (T := TX2) (N := 16) hx hb hts hi2 hown hK hP 1 rfl rfl 0 (by decide) kf48 (fun _ h9 => h9) rfl dX4_digest_36 ?_
      refine lv_eqi (y := (nI K)) (hKv) ?_
      refine lv_icmp_ge (tgt := 76) hx hb dX4_digest_39 (by decide) (fun c_39 => ?_) (fun c_39 => absurd (nI_le (by omega) (by omega)) c_39)
      refine lv_iconst (v := (nI 0)) hx hb dX4_digest_76 (by decide) ?_
      refine lv_istore_n (lv' := [(3, .int (nI 0)), (1, .long x1_31), (0, .ref q)]) hx hb dX4_digest_77 rfl hl (by decide) rfl (fun ls hl => ?_)
      refine wl (pc := 78) (σ := Nat × Int64) (fun n (i78, x1_78) H locs ls => (i78 + n = 8) ∧ (fX4_digest K L nn v vsp ck so sp cs) = fX4_digest_L78 L v vsp ck so sp cs n i78 x1_78 ∧ va_P Γ.1 vwCl (wcat [mnC q an ap qs ac au ax nn, plB Γ an v, plB Γ ap vsp, cuB Γ ac ck, suB Γ au so sp, txB Γ ax cs (nI L)]) H ∧ va_D A (wcat [mnC q an ap qs ac au ax nn, plB Γ an v, plB Γ ap vsp, cuB Γ ac ck, suB Γ au so sp, txB Γ ax cs (nI L)]) ∧ va_S A s.heap H locs ∧ lv_has ls 5 [(3, .int (nI i78)), (1, .long x1_78), (0, .ref q)]) ?_ ?_ (8) (0, x1_31) _ _ _ ⟨by omega, hq, hP, hD, hS, lv_sub hl [0, 1, 2] rfl⟩
      · intro ⟨i78, x1_78⟩ H locs ls h
        obtain ⟨hn78, hq, hP, hD, hS, hl⟩ := h
        try dsimp only at hn78 hq hP hD hl
        replace hq : (fX4_digest K L nn v vsp ck so sp cs) = (let r_1 := (fX4_mixTold v ck x1_78); (let r_2 := (fX4_mixOpening v vsp ck so sp r_1); (let r_3 := (fX4_firstShare v); (let r_4 := (fX4_bitsOf r_3); (let r_5 := (fX4_mix r_2.1 r_4); (let r_6 := (fX4_mix r_5 ((nI L).toInt64)); (let r_7 := (fX1_mixCodes (L) cs r_6); (r_7, r_2.2.1, r_2.2.2.1, r_2.2.2.2)))))))) := hq
        refine lv_iload_n hx hb dX4_digest_78 rfl (lv_at hl 0 rfl) ?_
        refine lv_bipush (v := (nI 8)) hx hb dX4_digest_79 (by decide) ?_
        refine lv_icmp_ge (tgt := 118) hx hb dX4_digest_81 (by decide) (fun c_81 => ?_) (fun c_81 => absurd (nI_le (by omega) (by omega)) c_81)
        refine lv_aload_n hx hb dX4_digest_118 rfl (lv_at hl 2 rfl) ?_
        refine lv_lload_n hx hb dX4_digest_119 rfl (lv_at hl 1 rfl) ?_
        have kc := (kX4_mixTold l Γ q an ap qs ac au ax nn v ck x1_78)
        generalize hr_1 : (fX4_mixTold v ck x1_78) = r_1 at kc hq
        replace hq : (fX4_digest K L nn v vsp ck so sp cs) = (let r_2 := (fX4_mixOpening v vsp ck so sp r_1); (let r_3 := (fX4_firstShare v); (let r_4 := (fX4_bitsOf r_3); (let r_5 := (fX4_mix r_2.1 r_4); (let r_6 := (fX4_mix r_5 ((nI L).toInt64)); (let r_7 := (fX1_mixCodes (L) cs r_6); (r_7, r_2.2.1, r_2.2.2.1, r_2.2.2.2))))))) := hq
        refine cLL (va_runV (As := [.long x1_78]) (rest := []) ⟨hx, hb, hml, hown, hts⟩ (kc _) (cwV 1 hts gX4_digest_X4_mixTold rfl rfl rfl (by decide +kernel) ⟨Nat.le_of_ble_eq_true rfl, Nat.le_of_ble_eq_true rfl⟩) ⟨wPre_blind, va_recv hK hP (ci := 4) (q0 := 0) rfl rfl, wPre_mk hP hD hK hS hA hAB hAm [0, 1, 3] rfl rfl⟩ rfl rfl hl.1 rfl (lv_room (Nat.le_of_ble_eq_true rfl)) dX4_digest_120 ⟨Nat.zero_le _, Nat.zero_le _⟩) hP hS hA (fun H locs hP hS => ?_)
        refine lv_lstore_n (lv' := [(1, .long r_1), (3, .int (nI i78)), (0, .ref q)]) hx hb dX4_digest_123 rfl hl (by decide) rfl (fun ls hl => ?_)
        refine lv_aload_n hx hb dX4_digest_124 rfl (lv_at hl 2 rfl) ?_
        refine lv_lload_n hx hb dX4_digest_125 rfl (lv_at hl 0 rfl) ?_
        have kc := (kX4_mixOpening l Γ q an ap qs ac au ax nn v vsp ck so sp r_1)
        generalize hr_2 : (fX4_mixOpening v vsp ck so sp r_1) = r_2 at kc hq
        replace hq : (fX4_digest K L nn v vsp ck so sp cs) = (let r_3 := (fX4_firstShare v); (let r_4 := (fX4_bitsOf r_3); (let r_5 := (fX4_mix r_2.1 r_4); (let r_6 := (fX4_mix r_5 ((nI L).toInt64)); (let r_7 := (fX1_mixCodes (L) cs r_6); (r_7, r_2.2.1, r_2.2.2.1, r_2.2.2.2)))))) := hq
        refine cML (bc' := [mnC q an ap qs ac au ax nn, plB Γ an v, plB Γ ap r_2.2.1, cuB Γ ac ck, suB Γ au r_2.2.2.1 r_2.2.2.2]) (va_runV (As := [.long r_1]) (rest := []) ⟨hx, hb, hml, hown, hts⟩ (kc _) (cwV 1 hts gX4_digest_X4_mixOpening rfl rfl rfl (by decide +kernel) ⟨Nat.le_of_ble_eq_true rfl, Nat.le_of_ble_eq_true rfl⟩) ⟨wPre_blind, va_recv hK hP (ci := 4) (q0 := 0) rfl rfl, wPre_mk hP hD hK hS hA hAB hAm [0, 1, 2, 3, 4] rfl rfl⟩ rfl rfl hl.1 rfl (lv_room (Nat.le_of_ble_eq_true rfl)) dX4_digest_126 ⟨Nat.zero_le _, Nat.zero_le _⟩) hP hD hS hA [0, 1, 2, 3, 4] rfl (by simp only [List.map_cons, List.map_nil, suB_w, plB_w, cuB_w, txB_w, mnC_w, ouB_w, saB_w]) (bs' := [mnC q an ap qs ac au ax nn, plB Γ an v, plB Γ ap r_2.2.1, cuB Γ ac ck, suB Γ au r_2.2.2.1 r_2.2.2.2, txB Γ ax cs (nI L)]) rfl (fun H locs hP hD hS => ?_)
        refine lv_lstore_n (lv' := [(1, .long r_2.1), (3, .int (nI i78)), (0, .ref q)]) hx hb dX4_digest_129 rfl hl (by decide) rfl (fun ls hl => ?_)
        refine lv_lload_n hx hb dX4_digest_130 rfl (lv_at hl 0 rfl) ?_
        refine lv_aload_n hx hb dX4_digest_131 rfl (lv_at hl 2 rfl) ?_
        have kc := (kX4_firstShare l Γ q an ap qs ac au ax nn v)
        have hfr_3 : (fX4_firstShare v) ∈ dS := fs_dS _
        generalize hr_3 : (fX4_firstShare v) = r_3 at hfr_3 kc hq
        replace hq : (fX4_digest K L nn v vsp ck so sp cs) = (let r_4 := (fX4_bitsOf r_3); (let r_5 := (fX4_mix r_2.1 r_4); (let r_6 := (fX4_mix r_5 ((nI L).toInt64)); (let r_7 := (fX1_mixCodes (L) cs r_6); (r_7, r_2.2.1, r_2.2.2.1, r_2.2.2.2))))) := hq
        refine cLD (va_runV (As := []) (rest := [.long r_2.1]) ⟨hx, hb, hml, hown, hts⟩ (kc _) (cwV 0 hts gX4_digest_X4_firstShare rfl rfl rfl (by decide +kernel) ⟨Nat.le_of_ble_eq_true rfl, Nat.le_of_ble_eq_true rfl⟩) ⟨wPre_blind, va_recv hK hP (ci := 4) (q0 := 0) rfl rfl, wPre_mk hP hD hK hS hA hAB hAm [0, 1] rfl rfl⟩ rfl rfl hl.1 rfl (lv_room (Nat.le_of_ble_eq_true rfl)) dX4_digest_132 ⟨Nat.zero_le _, Nat.zero_le _⟩) hP hS hA (fun H locs hP hS => ?_)
        have kc := (kX4_bitsOf l Γ r_3 (by first | decide | assumption | omega))
        generalize hr_4 : (fX4_bitsOf r_3) = r_4 at kc hq
        replace hq : (fX4_digest K L nn v vsp ck so sp cs) = (let r_5 := (fX4_mix r_2.1 r_4); (let r_6 := (fX4_mix r_5 ((nI L).toInt64)); (let r_7 := (fX1_mixCodes (L) cs r_6); (r_7, r_2.2.1, r_2.2.2.1, r_2.2.2.2)))) := hq
        refine cLL (va_runS (As := [.double r_3]) (rest := [.long r_2.1]) ⟨hx, hb, hml, hown, hts⟩ (kc _) (va_cwS 1 hts gX4_digest_X4_bitsOf rfl rfl rfl (by decide +kernel) ⟨Nat.le_of_ble_eq_true rfl, Nat.le_of_ble_eq_true rfl⟩) ⟨wPre_blind, wPre_mk hP hD hK hS hA hAB hAm [] rfl rfl⟩ rfl rfl hl.1 rfl (lv_room (Nat.le_of_ble_eq_true rfl)) dX4_digest_135 ⟨Nat.zero_le _, Nat.zero_le _⟩) hP hS hA (fun H locs hP hS => ?_)
        have kc := (kX4_mix l Γ r_2.1 r_4)
        generalize hr_5 : (fX4_mix r_2.1 r_4) = r_5 at kc hq
        replace hq : (fX4_digest K L nn v vsp ck so sp cs) = (let r_6 := (fX4_mix r_5 ((nI L).toInt64)); (let r_7 := (fX1_mixCodes (L) cs r_6); (r_7, r_2.2.1, r_2.2.2.1, r_2.2.2.2))) := hq
        refine cLL (va_runS (As := [.long r_2.1, .long r_4]) (rest := []) ⟨hx, hb, hml, hown, hts⟩ (kc _) (va_cwS 2 hts gX4_digest_X4_mix rfl rfl rfl (by decide +kernel) ⟨Nat.le_of_ble_eq_true rfl, Nat.le_of_ble_eq_true rfl⟩) ⟨wPre_blind, wPre_mk hP hD hK hS hA hAB hAm [] rfl rfl⟩ rfl rfl hl.1 rfl (lv_room (Nat.le_of_ble_eq_true rfl)) dX4_digest_138 ⟨Nat.zero_le _, Nat.zero_le _⟩) hP hS hA (fun H locs hP hS => ?_)
        refine lv_lstore_n (lv' := [(1, .long r_5), (3, .int (nI i78)), (0, .ref q)]) hx hb dX4_digest_141 rfl hl (by decide) rfl (fun ls hl => ?_)
        refine lv_aload_n hx hb dX4_digest_142 rfl (lv_at hl 2 rfl) ?_
        refine va_get (D := Γ.1) (ci := 4) (v := .ref (ax 0)) (C := RX4) (T := TX4) (N := 7) hx hb hts hi4 hown hK hP 0 rfl rfl 6 (by decide) kf44 (fun _ h9 => h9) rfl dX4_digest_143 ?_
        refine lv_lload_n hx hb dX4_digest_146 rfl (lv_at hl 0 rfl) ?_
        refine lv_aload_n hx hb dX4_digest_147 rfl (lv_at hl 2 rfl) ?_
        refine va_get (D := Γ.1) (ci := 4) (v := .ref (ax 0)) (C := RX4) (T := TX4) (N := 7) hx hb hts hi4 hown hK hP 0 rfl rfl 6 (by decide) kf44 (fun _ h9 => h9) rfl dX4_digest_148 ?_
        refine va_getN (host := RX4) (D := Γ.1) (ci := 1) (v := .int (nI L)) (C := RX1) (T := TX1) (N := 2) hx hb hts hi1 hown hK hP 18 rfl rfl 1 (by decide) (va_Nw.use rfl hAm.1.2.2.2.2) (fun _ h9 => h9) rfl dX4_digest_151 ?_
        refine lv_i2l (v := (nI L).toInt64) hx hb dX4_digest_154 rfl ?_
        have kc := (kX4_mix l Γ r_5 ((nI L).toInt64))
        generalize hr_6 : (fX4_mix r_5 ((nI L).toInt64)) = r_6 at kc hq
        replace hq : (fX4_digest K L nn v vsp ck so sp cs) = (let r_7 := (fX1_mixCodes (L) cs r_6); (r_7, r_2.2.1, r_2.2.2.1, r_2.2.2.2)) := hq
        refine cLL (va_runS (As := [.long r_5, .long ((nI L).toInt64)]) (rest := [.ref (ax 0)]) ⟨hx, hb, hml, hown, hts⟩ (kc _) (va_cwS 2 hts gX4_digest_X4_mix rfl rfl rfl (by decide +kernel) ⟨Nat.le_of_ble_eq_true rfl, Nat.le_of_ble_eq_true rfl⟩) ⟨wPre_blind, wPre_mk hP hD hK hS hA hAB hAm [] rfl rfl⟩ rfl rfl hl.1 rfl (lv_room (Nat.le_of_ble_eq_true rfl)) dX4_digest_155 ⟨Nat.zero_le _, Nat.zero_le _⟩) hP hS hA (fun H locs hP hS => ?_)
        have kc := (kX1_mixCodes l Γ ax (L) cs r_6 (by first | decide | assumption | omega))
        generalize hr_7 : (fX1_mixCodes (L) cs r_6) = r_7 at kc hq
        replace hq : (fX4_digest K L nn v vsp ck so sp cs) = (r_7, r_2.2.1, r_2.2.2.1, r_2.2.2.2) := hq
        refine cLL (va_runV (As := [.long r_6]) (rest := []) ⟨hx, hb, hml, hown, hts⟩ (kc _) (cwV 1 hts gX4_digest_X1_mixCodes rfl rfl rfl (by decide +kernel) ⟨Nat.le_of_ble_eq_true rfl, Nat.le_of_ble_eq_true rfl⟩) ⟨wPre_blind, va_recv hK hP (ci := 1) (q0 := 18) rfl rfl, wPre_mk hP hD hK hS hA hAB hAm [5] rfl rfl⟩ rfl rfl hl.1 rfl (lv_room (Nat.le_of_ble_eq_true rfl)) dX4_digest_158 ⟨Nat.zero_le _, Nat.zero_le _⟩) hP hS hA (fun H locs hP hS => ?_)
        exact W.lret (v := r_7) hx hb hr (fun t ht hW => eML (by rw [hq]; exact hP) hS ht (by rw [hq])) hS.2.2 dX4_digest_161
      · intro n78 ih78 ⟨i78, x1_78⟩ H locs ls h
        obtain ⟨hn78, hq, hP, hD, hS, hl⟩ := h
        try dsimp only at hn78 hq hP hD hl
        replace hq : (fX4_digest K L nn v vsp ck so sp cs) = (fX4_digest_L87 (fX4_digest_L78 L v vsp ck so sp cs n78) v i78 (3) 0 x1_78) := hq
        refine lv_iload_n hx hb dX4_digest_78 rfl (lv_at hl 0 rfl) ?_
        refine lv_bipush (v := (nI 8)) hx hb dX4_digest_79 (by decide) ?_
        refine lv_icmp_ge (tgt := 118) hx hb dX4_digest_81 (by decide) (fun c_81 => absurd c_81 (nI_ge (by omega) (by omega))) (fun c_81 => ?_)
        refine lv_iconst (v := (nI 0)) hx hb dX4_digest_84 (by decide) ?_
        refine lv_istore (lv' := [(4, .int (nI 0)), (3, .int (nI i78)), (1, .long x1_78), (0, .ref q)]) hx hb dX4_digest_85 hl (by decide) rfl (fun ls hl => ?_)
        obtain ⟨k78, ek78⟩ : ∃ k, k = (fX4_digest_L78 L v vsp ck so sp cs n78) := ⟨_, rfl⟩
        replace hq : (fX4_digest K L nn v vsp ck so sp cs) = (fX4_digest_L87 k78 v i78 (3) 0 x1_78) := hq.trans (by rw [ek78])
        refine wl (pc := 87) (σ := Nat × Int64) (fun n (i87, x1_87) H locs ls => (i87 + n = 3) ∧ (fX4_digest K L nn v vsp ck so sp cs) = fX4_digest_L87 k78 v i78 n i87 x1_87 ∧ va_P Γ.1 vwCl (wcat [mnC q an ap qs ac au ax nn, plB Γ an v, plB Γ ap vsp, cuB Γ ac ck, suB Γ au so sp, txB Γ ax cs (nI L)]) H ∧ va_D A (wcat [mnC q an ap qs ac au ax nn, plB Γ an v, plB Γ ap vsp, cuB Γ ac ck, suB Γ au so sp, txB Γ ax cs (nI L)]) ∧ va_S A s.heap H locs ∧ lv_has ls 5 [(4, .int (nI i87)), (3, .int (nI i78)), (1, .long x1_87), (0, .ref q)]) ?_ ?_ (3) (0, x1_78) _ _ _ ⟨by omega, hq, hP, hD, hS, lv_sub hl [0, 1, 2, 3] rfl⟩
        · intro ⟨i87, x1_87⟩ H locs ls h
          obtain ⟨hn87, hq, hP, hD, hS, hl⟩ := h
          try dsimp only at hn87 hq hP hD hl
          replace hq : (fX4_digest K L nn v vsp ck so sp cs) = (k78 (i78 + 1) x1_87) := hq
          refine lv_iload hx hb dX4_digest_87 (lv_at hl 0 rfl) ?_
          refine lv_iconst (v := (nI 2)) hx hb dX4_digest_89 (by decide) ?_
          refine lv_icmp_gt (tgt := 112) hx hb dX4_digest_90 (by decide) (fun c_90 => ?_) (fun c_90 => absurd ((nI_ltI (by omega) (by omega)).mpr (by omega)) c_90)
          refine lv_iinc (v := (nI (i78 + 1))) (lv' := [(3, .int (nI (i78 + 1))), (4, .int (nI i87)), (1, .long x1_87), (0, .ref q)]) hx hb dX4_digest_112 hl (k := 1) rfl (nI_1 _) (by decide) rfl (fun ls hl => ?_)
          refine lv_goto (tgt := 78) hx hb dX4_digest_115 (by decide) ?_
          exact ih78 ((i78 + 1), x1_87) H locs ls ⟨by omega, (hq.trans (by rw [ek78])), hP, hD, hS, lv_sub hl [0, 2, 3] rfl⟩
        · intro n87 ih87 ⟨i87, x1_87⟩ H locs ls h
          obtain ⟨hn87, hq, hP, hD, hS, hl⟩ := h
          try dsimp only at hn87 hq hP hD hl
          replace hq : (fX4_digest K L nn v vsp ck so sp cs) = (let r_8 := (fX4_share v (nI i78) (nI i87)); (let r_9 := (fX4_mix x1_87 (r_8.toInt64)); (fX4_digest_L87 k78 v i78 n87 (i87 + 1) r_9))) := hq
          refine lv_iload hx hb dX4_digest_87 (lv_at hl 0 rfl) ?_
          refine lv_iconst (v := (nI 2)) hx hb dX4_digest_89 (by decide) ?_
          refine lv_icmp_gt (tgt := 112) hx hb dX4_digest_90 (by decide) (fun c_90 => absurd c_90 (fun q => absurd ((nI_ltI (by omega) (by omega)).mp q) (by omega))) (fun c_90 => ?_)
          refine lv_lload_n hx hb dX4_digest_93 rfl (lv_at hl 2 rfl) ?_
          refine lv_aload_n hx hb dX4_digest_94 rfl (lv_at hl 3 rfl) ?_
          refine lv_iload_n hx hb dX4_digest_95 rfl (lv_at hl 1 rfl) ?_
          refine lv_iload hx hb dX4_digest_96 (lv_at hl 0 rfl) ?_
          have kc := (kX4_share l Γ q an ap qs ac au ax nn v (nI i78) (nI i87) (nn0 (by omega)) (nnle (by omega) (by omega)) (nn0 (by omega)) (nnle (by omega) (by omega)))
          generalize hr_8 : (fX4_share v (nI i78) (nI i87)) = r_8 at kc hq
          replace hq : (fX4_digest K L nn v vsp ck so sp cs) = (let r_9 := (fX4_mix x1_87 (r_8.toInt64)); (fX4_digest_L87 k78 v i78 n87 (i87 + 1) r_9)) := hq
          refine cLI (va_runV (As := [.int (nI i78), .int (nI i87)]) (rest := [.long x1_87]) ⟨hx, hb, hml, hown, hts⟩ (kc _) (cwV 2 hts gX4_digest_X4_share rfl rfl rfl (by decide +kernel) ⟨Nat.le_of_ble_eq_true rfl, Nat.le_of_ble_eq_true rfl⟩) ⟨wPre_blind, va_recv hK hP (ci := 4) (q0 := 0) rfl rfl, wPre_mk hP hD hK hS hA hAB hAm [0, 1] rfl rfl⟩ rfl rfl hl.1 rfl (lv_room (Nat.le_of_ble_eq_true rfl)) dX4_digest_98 ⟨Nat.zero_le _, Nat.zero_le _⟩) hP hS hA (fun H locs hP hS => ?_)
          refine lv_i2l (v := r_8.toInt64) hx hb dX4_digest_101 rfl ?_
          have kc := (kX4_mix l Γ x1_87 (r_8.toInt64))
          generalize hr_9 : (fX4_mix x1_87 (r_8.toInt64)) = r_9 at kc hq
          replace hq : (fX4_digest K L nn v vsp ck so sp cs) = (fX4_digest_L87 k78 v i78 n87 (i87 + 1) r_9) := hq
          refine cLL (va_runS (As := [.long x1_87, .long (r_8.toInt64)]) (rest := []) ⟨hx, hb, hml, hown, hts⟩ (kc _) (va_cwS 2 hts gX4_digest_X4_mix rfl rfl rfl (by decide +kernel) ⟨Nat.le_of_ble_eq_true rfl, Nat.le_of_ble_eq_true rfl⟩) ⟨wPre_blind, wPre_mk hP hD hK hS hA hAB hAm [] rfl rfl⟩ rfl rfl hl.1 rfl (lv_room (Nat.le_of_ble_eq_true rfl)) dX4_digest_102 ⟨Nat.zero_le _, Nat.zero_le _⟩) hP hS hA (fun H locs hP hS => ?_)
          refine lv_lstore_n (lv' := [(1, .long r_9), (4, .int (nI i87)), (3, .int (nI i78)), (0, .ref q)]) hx hb dX4_digest_105 rfl hl (by decide) rfl (fun ls hl => ?_)
          refine lv_iinc (v := (nI (i87 + 1))) (lv' := [(4, .int (nI (i87 + 1))), (1, .long r_9), (3, .int (nI i78)), (0, .ref q)]) hx hb dX4_digest_106 hl (k := 1) rfl (nI_1 _) (by decide) rfl (fun ls hl => ?_)
          refine lv_goto (tgt := 87) hx hb dX4_digest_109 (by decide) ?_
          exact ih87 ((i87 + 1), r_9) H locs ls ⟨by omega, hq, hP, hD, hS, lv_sub hl [0, 2, 1, 3] rfl⟩
    · intro n31 ih31 ⟨i31, x1_31⟩ H locs ls h
      obtain ⟨hn31, hq, hP, hD, hS, hl⟩ := h
      try dsimp only at hn31 hq hP hD hl
      replace hq : (fX4_digest K L nn v vsp ck so sp cs) = (fX4_digest_L45 (fX4_digest_L31 L v vsp ck so sp cs n31) v i31 (5) 0 x1_31) := hq
      refine lv_iload_n hx hb dX4_digest_31 rfl (lv_at hl 0 rfl) ?_
      refine lv_aload_n hx hb dX4_digest_32 rfl (lv_at hl 2 rfl) ?_
      refine va_get (D := Γ.1) (ci := 4) (v := .ref (an 0)) (C := RX4) (T := TX4) (N := 7) hx hb hts hi4 hown hK hP 0 rfl rfl 0 (by decide) kf10 (fun _ h9 => h9) rfl dX4_digest_33 ?_
      refine va_get (D := Γ.1) (ci := 2) (v := .int (v 0 0)) (C := RX2) (T := TX2) (N := 16) hx hb hts hi2 hown hK hP 1 rfl rfl 0 (by decide) kf48 (fun _ h9 => h9) rfl dX4_digest_36 ?_
      refine lv_eqi (y := (nI K)) (hKv) ?_
      refine lv_icmp_ge (tgt := 76) hx hb dX4_digest_39 (by decide) (fun c_39 => absurd c_39 (nI_ge (by omega) (by omega))) (fun c_39 => ?_)
      refine lv_iconst (v := (nI 0)) hx hb dX4_digest_42 (by decide) ?_
      refine lv_istore (lv' := [(4, .int (nI 0)), (3, .int (nI i31)), (1, .long x1_31), (0, .ref q)]) hx hb dX4_digest_43 hl (by decide) rfl (fun ls hl => ?_)
      obtain ⟨k31, ek31⟩ : ∃ k, k = (fX4_digest_L31 L v vsp ck so sp cs n31) := ⟨_, rfl⟩
      replace hq : (fX4_digest K L nn v vsp ck so sp cs) = (fX4_digest_L45 k31 v i31 (5) 0 x1_31) := hq.trans (by rw [ek31])
      refine wl (pc := 45) (σ := Nat × Int64) (fun n (i45, x1_45) H locs ls => (i45 + n = 5) ∧ (fX4_digest K L nn v vsp ck so sp cs) = fX4_digest_L45 k31 v i31 n i45 x1_45 ∧ va_P Γ.1 vwCl (wcat [mnC q an ap qs ac au ax nn, plB Γ an v, plB Γ ap vsp, cuB Γ ac ck, suB Γ au so sp, txB Γ ax cs (nI L)]) H ∧ va_D A (wcat [mnC q an ap qs ac au ax nn, plB Γ an v, plB Γ ap vsp, cuB Γ ac ck, suB Γ au so sp, txB Γ ax cs (nI L)]) ∧ va_S A s.heap H locs ∧ lv_has ls 5 [(4, .int (nI i45)), (3, .int (nI i31)), (1, .long x1_45), (0, .ref q)]) ?_ ?_ (5) (0, x1_31) _ _ _ ⟨by omega, hq, hP, hD, hS, lv_sub hl [0, 1, 2, 3] rfl⟩
      · intro ⟨i45, x1_45⟩ H locs ls h
        obtain ⟨hn45, hq, hP, hD, hS, hl⟩ := h
        try dsimp only at hn45 hq hP hD hl
        replace hq : (fX4_digest K L nn v vsp ck so sp cs) = (k31 (i31 + 1) x1_45) := hq
        refine lv_iload hx hb dX4_digest_45 (lv_at hl 0 rfl) ?_
        refine lv_iconst (v := (nI 4)) hx hb dX4_digest_47 (by decide) ?_
        refine lv_icmp_gt (tgt := 70) hx hb dX4_digest_48 (by decide) (fun c_48 => ?_) (fun c_48 => absurd ((nI_ltI (by omega) (by omega)).mpr (by omega)) c_48)
        refine lv_iinc (v := (nI (i31 + 1))) (lv' := [(3, .int (nI (i31 + 1))), (4, .int (nI i45)), (1, .long x1_45), (0, .ref q)]) hx hb dX4_digest_70 hl (k := 1) rfl (nI_1 _) (by decide) rfl (fun ls hl => ?_)
        refine lv_goto (tgt := 31) hx hb dX4_digest_73 (by decide) ?_
        exact ih31 ((i31 + 1), x1_45) H locs ls ⟨by omega, (hq.trans (by rw [ek31])), hP, hD, hS, lv_sub hl [0, 2, 3] rfl⟩
      · intro n45 ih45 ⟨i45, x1_45⟩ H locs ls h
        obtain ⟨hn45, hq, hP, hD, hS, hl⟩ := h
        try dsimp only at hn45 hq hP hD hl
        replace hq : (fX4_digest K L nn v vsp ck so sp cs) = (let r_10 := (fX4_keeperOf v (nI i31) (nI i45)); (let r_11 := (fX4_mix x1_45 (r_10.toInt64)); (fX4_digest_L45 k31 v i31 n45 (i45 + 1) r_11))) := hq
        refine lv_iload hx hb dX4_digest_45 (lv_at hl 0 rfl) ?_
        refine lv_iconst (v := (nI 4)) hx hb dX4_digest_47 (by decide) ?_
        refine lv_icmp_gt (tgt := 70) hx hb dX4_digest_48 (by decide) (fun c_48 => absurd c_48 (fun q => absurd ((nI_ltI (by omega) (by omega)).mp q) (by omega))) (fun c_48 => ?_)
        refine lv_lload_n hx hb dX4_digest_51 rfl (lv_at hl 2 rfl) ?_
        refine lv_aload_n hx hb dX4_digest_52 rfl (lv_at hl 3 rfl) ?_
        refine lv_iload_n hx hb dX4_digest_53 rfl (lv_at hl 1 rfl) ?_
        refine lv_iload hx hb dX4_digest_54 (lv_at hl 0 rfl) ?_
        have kc := (kX4_keeperOf l Γ q an ap qs ac au ax nn v (nI i31) (nI i45) (hasK_of hKv hK8 (by omega)) (in5 _ (by omega)))
        generalize hr_10 : (fX4_keeperOf v (nI i31) (nI i45)) = r_10 at kc hq
        replace hq : (fX4_digest K L nn v vsp ck so sp cs) = (let r_11 := (fX4_mix x1_45 (r_10.toInt64)); (fX4_digest_L45 k31 v i31 n45 (i45 + 1) r_11)) := hq
        refine cLI (va_runV (As := [.int (nI i31), .int (nI i45)]) (rest := [.long x1_45]) ⟨hx, hb, hml, hown, hts⟩ (kc _) (cwV 2 hts gX4_digest_X4_keeperOf rfl rfl rfl (by decide +kernel) ⟨Nat.le_of_ble_eq_true rfl, Nat.le_of_ble_eq_true rfl⟩) ⟨wPre_blind, va_recv hK hP (ci := 4) (q0 := 0) rfl rfl, wPre_mk hP hD hK hS hA hAB hAm [0, 1] rfl rfl⟩ rfl rfl hl.1 rfl (lv_room (Nat.le_of_ble_eq_true rfl)) dX4_digest_56 ⟨Nat.zero_le _, Nat.zero_le _⟩) hP hS hA (fun H locs hP hS => ?_)
        refine lv_i2l (v := r_10.toInt64) hx hb dX4_digest_59 rfl ?_
        have kc := (kX4_mix l Γ x1_45 (r_10.toInt64))
        generalize hr_11 : (fX4_mix x1_45 (r_10.toInt64)) = r_11 at kc hq
        replace hq : (fX4_digest K L nn v vsp ck so sp cs) = (fX4_digest_L45 k31 v i31 n45 (i45 + 1) r_11) := hq
        refine cLL (va_runS (As := [.long x1_45, .long (r_10.toInt64)]) (rest := []) ⟨hx, hb, hml, hown, hts⟩ (kc _) (va_cwS 2 hts gX4_digest_X4_mix rfl rfl rfl (by decide +kernel) ⟨Nat.le_of_ble_eq_true rfl, Nat.le_of_ble_eq_true rfl⟩) ⟨wPre_blind, wPre_mk hP hD hK hS hA hAB hAm [] rfl rfl⟩ rfl rfl hl.1 rfl (lv_room (Nat.le_of_ble_eq_true rfl)) dX4_digest_60 ⟨Nat.zero_le _, Nat.zero_le _⟩) hP hS hA (fun H locs hP hS => ?_)
        refine lv_lstore_n (lv' := [(1, .long r_11), (4, .int (nI i45)), (3, .int (nI i31)), (0, .ref q)]) hx hb dX4_digest_63 rfl hl (by decide) rfl (fun ls hl => ?_)
        refine lv_iinc (v := (nI (i45 + 1))) (lv' := [(4, .int (nI (i45 + 1))), (1, .long r_11), (3, .int (nI i31)), (0, .ref q)]) hx hb dX4_digest_64 hl (k := 1) rfl (nI_1 _) (by decide) rfl (fun ls hl => ?_)
        refine lv_goto (tgt := 45) hx hb dX4_digest_67 (by decide) ?_
        exact ih45 ((i45 + 1), r_11) H locs ls ⟨by omega, hq, hP, hD, hS, lv_sub hl [0, 2, 1, 3] rfl⟩
  · intro n6 ih6 ⟨i6, x1_6⟩ H locs ls h
    obtain ⟨hn6, hq, hP, hD, hS, hl⟩ := h
    try dsimp only at hn6 hq hP hD hl
    replace hq : (fX4_digest K L nn v vsp ck so sp cs) = (let r_12 := (fX4_count nn v (nI i6)); (let r_13 := (fX4_mix x1_6 (r_12.toInt64)); (fX4_digest_L6 K L nn v vsp ck so sp cs n6 (i6 + 1) r_13))) := hq
    refine lv_iload_n hx hb dX4_digest_6 rfl (lv_at hl 0 rfl) ?_
    refine lv_bipush (v := (nI 11)) hx hb dX4_digest_7 (by decide) ?_
    refine lv_icmp_gt (tgt := 29) hx hb dX4_digest_9 (by decide) (fun c_9 => absurd c_9 (fun q => absurd ((nI_ltI (by omega) (by omega)).mp q) (by omega))) (fun c_9 => ?_)
    refine lv_lload_n hx hb dX4_digest_12 rfl (lv_at hl 1 rfl) ?_
    refine lv_aload_n hx hb dX4_digest_13 rfl (lv_at hl 2 rfl) ?_
    refine lv_iload_n hx hb dX4_digest_14 rfl (lv_at hl 0 rfl) ?_
    have kc := (kX4_count l Γ q an ap qs ac au ax nn v (nI i6) (in12 _ (by omega)))
    generalize hr_12 : (fX4_count nn v (nI i6)) = r_12 at kc hq
    replace hq : (fX4_digest K L nn v vsp ck so sp cs) = (let r_13 := (fX4_mix x1_6 (r_12.toInt64)); (fX4_digest_L6 K L nn v vsp ck so sp cs n6 (i6 + 1) r_13)) := hq
    refine cLI (va_runV (As := [.int (nI i6)]) (rest := [.long x1_6]) ⟨hx, hb, hml, hown, hts⟩ (kc _) (cwV 1 hts gX4_digest_X4_count rfl rfl rfl (by decide +kernel) ⟨Nat.le_of_ble_eq_true rfl, Nat.le_of_ble_eq_true rfl⟩) ⟨wPre_blind, va_recv hK hP (ci := 4) (q0 := 0) rfl rfl, wPre_mk hP hD hK hS hA hAB hAm [0, 1] rfl rfl⟩ rfl rfl hl.1 rfl (lv_room (Nat.le_of_ble_eq_true rfl)) dX4_digest_15 ⟨Nat.zero_le _, Nat.zero_le _⟩) hP hS hA (fun H locs hP hS => ?_)
    refine lv_i2l (v := r_12.toInt64) hx hb dX4_digest_18 rfl ?_
    have kc := (kX4_mix l Γ x1_6 (r_12.toInt64))
    generalize hr_13 : (fX4_mix x1_6 (r_12.toInt64)) = r_13 at kc hq
    replace hq : (fX4_digest K L nn v vsp ck so sp cs) = (fX4_digest_L6 K L nn v vsp ck so sp cs n6 (i6 + 1) r_13) := hq
    refine cLL (va_runS (As := [.long x1_6, .long (r_12.toInt64)]) (rest := []) ⟨hx, hb, hml, hown, hts⟩ (kc _) (va_cwS 2 hts gX4_digest_X4_mix rfl rfl rfl (by decide +kernel) ⟨Nat.le_of_ble_eq_true rfl, Nat.le_of_ble_eq_true rfl⟩) ⟨wPre_blind, wPre_mk hP hD hK hS hA hAB hAm [] rfl rfl⟩ rfl rfl hl.1 rfl (lv_room (Nat.le_of_ble_eq_true rfl)) dX4_digest_19 ⟨Nat.zero_le _, Nat.zero_le _⟩) hP hS hA (fun H locs hP hS => ?_)
    refine lv_lstore_n (lv' := [(1, .long r_13), (3, .int (nI i6)), (0, .ref q)]) hx hb dX4_digest_22 rfl hl (by decide) rfl (fun ls hl => ?_)
    refine lv_iinc (v := (nI (i6 + 1))) (lv' := [(3, .int (nI (i6 + 1))), (1, .long r_13), (0, .ref q)]) hx hb dX4_digest_23 hl (k := 1) rfl (nI_1 _) (by decide) rfl (fun ls hl => ?_)
    refine lv_goto (tgt := 6) hx hb dX4_digest_26 (by decide) ?_
    exact ih6 ((i6 + 1), r_13) H locs ls ⟨by omega, hq, hP, hD, hS, lv_sub hl [0, 1, 2] rfl⟩
