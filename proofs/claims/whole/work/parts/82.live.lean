theorem bu46 {v : Nat → Nat → Int32} {k : Int32} : ∀ n i x v0, (fX2_bury_L33 v k n i x v0).2 0 = v0 0 := by
  intro n
  induction n with
  | zero => intro i x v0; rfl
  | succ n ih =>
    intro i x v0
    simp only [fX2_bury_L33]
    split
    · split
      · rw [ih]; rfl
      · rw [ih]; rfl
    · exact ih _ _ _
theorem d65k {kk : Nat → (Nat → Nat → Int32) → Int32 × (Nat → Nat → Int32)} {p : Nat} {v1 : Nat → Nat → Int32} {j : Nat} (h : ∀ p v, (kk p v).2 0 j = v 0 j) : ∀ n i v0, (fX2_drawShares_L65 kk p v1 n i v0).2 0 j = v0 0 j := by
  intro n
  induction n with
  | zero => intro i v0; exact h _ _
  | succ n ih =>
    intro i v0
    simp only [fX2_drawShares_L65]
    rw [ih]; rfl
theorem d50k {j : Nat} (h8 : j ≠ 8) (h10 : j ≠ 10) : ∀ n p v, (fX2_drawShares_L50 n p v).2 0 j = v 0 j := by
  intro n
  induction n with
  | zero =>
    intro p v
    simp only [fX2_drawShares_L50]
    rw [cp_0, if_neg h8]
  | succ n ih =>
    intro p v
    simp only [fX2_drawShares_L50]
    rw [d65k ih]
    show (sS v 10 _) 0 j = _
    rw [cp_0, if_neg h10]
theorem d7k {q j : Nat} (h8 : j ≠ 8) (h10 : j ≠ 10) : ∀ n i v, (fX2_drawShares_L7 q n i v).2 0 j = v 0 j := by
  intro n
  induction n with
  | zero => intro i v; exact d50k h8 h10 _ _ _
  | succ n ih =>
    intro i v
    simp only [fX2_drawShares_L7]
    split
    · rw [ih]; rfl
    · rw [ih]; rfl
theorem dsk {q j : Nat} (h2 : j ≠ 2) (h8 : j ≠ 8) (h10 : j ≠ 10) (v : Nat → Nat → Int32) : (fX2_drawShares q v).2 0 j = v 0 j := by
  unfold fX2_drawShares
  rw [d7k h8 h10, cp_0, if_neg h2]
theorem cok (L Qn : Nat) (v : Nat → Nat → Int32) (ck cs : Nat → Int32) (kt : Nat) {j : Nat} (h : j = 4 ∨ j = 6) : (fX4_carryOut L Qn v ck cs kt).2.1 0 j = v 0 j := by
  have b : ∀ k, (fX4_buryIfAlive v k).2 0 j = v 0 j := fun k => by
    unfold fX4_buryIfAlive
    split
    · rfl
    · show (fX2_bury v k).2 0 j = v 0 j
      unfold fX2_bury
      rw [bu46, cp_0, if_neg (by omega)]
  have n : ∀ k o, (fX4_nameIfFree v k o).2 0 j = v 0 j := fun k o => by
    unfold fX4_nameIfFree
    split <;> rfl
  have t : ∀ k o, (fX4_toggleIfThere v k o).2 0 j = v 0 j := fun k o => by
    unfold fX4_toggleIfThere
    (repeat' split) <;> rfl
  have p : ∀ d, (fX4_passIfInTime v d).2 0 j = v 0 j := fun d => by
    unfold fX4_passIfInTime
    split
    · rfl
    · show (sS v 3 _) 0 j = v 0 j
      rw [cp_0, if_neg (by omega)]
  have r : (fX4_renewIfShut Qn v ck).2.1 0 j = v 0 j := by
    unfold fX4_renewIfShut
    split
    · rfl
    · show (fX2_drawShares Qn v).2 0 j = v 0 j
      exact dsk (by omega) (by omega) (by omega) v
  unfold fX4_carryOut
  simp only []
  generalize fX1_digit L cs (nI (kt + 1)) = y1
  generalize fX1_digit L cs (nI (kt + 3)) = y2
  generalize fX1_code L cs (nI kt) = y3
  generalize fX1_number L cs (kt + 1) = y4
  split
  · exact b y1
  · split
    · exact n y1 y2
    · split
      · exact t y1 y2
      · split
        · exact p y4
        · exact r
theorem co46 (L Qn : Nat) (v : Nat → Nat → Int32) (ck cs : Nat → Int32) (kt : Nat) (h : v 0 4 = nI 1 → v 0 6 = nI Qn) : (fX4_carryOut L Qn v ck cs kt).2.1 0 4 = nI 1 → (fX4_carryOut L Qn v ck cs kt).2.1 0 6 = nI Qn := by
  rw [cok L Qn v ck cs kt (Or.inl rfl), cok L Qn v ck cs kt (Or.inr rfl)]
  exact h
def fX4_live_L28 (L : Nat) (Qn : Nat) (cs : (Nat → Int32)) (r_1 : Nat × Nat × (Nat → Nat → Nat → Int32)) : Nat → Nat → Int32 → (Nat → Nat → Int32) → (Nat → Int32) → Int32 × Nat × Nat × (Nat → Nat → Nat → Int32) × (Nat → Nat → Int32) × (Nat → Int32) × Int32
  | 0, i28, x1_28, v2_28, k3_28 => (x1_28, (r_1.1), (r_1.2.1), r_1.2.2, v2_28, k3_28, (fX1_empty (L)).2)
  | n28 + 1, i28, x1_28, v2_28, k3_28 => (if (fX1_beginsOrder (L) cs (nI i28)) = 0 then (fX4_live_L28 L Qn cs r_1 n28 (i28 + 1) x1_28 v2_28 k3_28) else (let r_3 := (fX4_carryOut (L) Qn v2_28 k3_28 cs (i28)); (if r_3.1 = 0 then (x1_28, (r_1.1), (r_1.2.1), r_1.2.2, r_3.2.1, r_3.2.2, (fX1_empty (L)).2) else (fX4_live_L28 L Qn cs r_1 n28 (i28 + 1) (x1_28 + (nI 1)) r_3.2.1 r_3.2.2))))
def fX4_live (SL : Nat) (L : Nat) (Qn : Nat) (sr : Nat) (vs : (Nat → Nat → Nat → Int32)) (v : (Nat → Nat → Int32)) (ck : (Nat → Int32)) (cs : (Nat → Int32)) : Int32 × Nat × Nat × (Nat → Nat → Nat → Int32) × (Nat → Nat → Int32) × (Nat → Int32) × Int32 := (let r_1 := (fX4_save (SL) (sr) vs v); (fX4_live_L28 L Qn cs r_1 (L) 0 (nI 0) v ck))
set_option maxHeartbeats 4000000 in
set_option maxRecDepth 100000 in
theorem kX4_live (l : Launch) (Γ : wG) (q : Nat) (an : Nat → Nat) (ap : Nat → Nat) (qs : Nat) (ac : Nat → Nat) (au : Nat → Nat) (ax : Nat → Nat) (SL : Nat) (L : Nat) (Qn : Nat) (sa : (Nat → Nat → Nat)) (sr : Nat) (vs : (Nat → Nat → Nat → Int32)) (v : (Nat → Nat → Int32)) (ck : (Nat → Int32)) (cs : (Nat → Int32)) (hSL : SL ≤ 6) (hsr : sr < 6) (hqv : v 0 4 = nI 1 → v 0 6 = nI Qn) (hq1 : 1 ≤ Qn) (hq8 : Qn ≤ 8) (hL : L ≤ 60) (hw : ¬ fX1_isWhole L cs = 0) : MI l Γ yX4_live wsX4_live ({ frames := 6, cells := 0, slots := 0, locals := 129 }) [.ref q] [mnC q an ap qs ac au ax (nI SL), saB Γ qs sa sr vs, plB Γ an v, cuB Γ ac ck, txB Γ ax cs (nI L)] [mnC q an ap qs ac au ax (nI (((fX4_live SL L Qn sr vs v ck cs).2.1))), saB Γ qs sa (((fX4_live SL L Qn sr vs v ck cs).2.2.1)) (fX4_live SL L Qn sr vs v ck cs).2.2.2.1, plB Γ an (fX4_live SL L Qn sr vs v ck cs).2.2.2.2.1, cuB Γ ac (fX4_live SL L Qn sr vs v ck cs).2.2.2.2.2.1, txB Γ ax cs (fX4_live SL L Qn sr vs v ck cs).2.2.2.2.2.2] (fX4_live SL L Qn sr vs v ck cs).1 := by
  intro sz
  refine Met.ofW (cc := cX4_live) (maxL := 3) (ret := (some .int)) (by decide) rfl ?_
  intro p e s m args below meth c s₁ B hml hv
  obtain ⟨rfl, hsz, hP, hK, hD0, hAm⟩ := hv
  have hx := B.exec
  have hb := B.bytes
  have hr := B.returns
  have hts := atoms_spec (ws := wsX4_live) B.pre
  have hown : s.vm.findClass RX4 = some m.cls := findClass_of_methodNamed B.named
  have hlocks := B.notSynchronized
  subst hsz
  have hD := hD0.self (sz := s.heap.size)
  generalize hAe : va_A (wcat [mnC q an ap qs ac au ax (nI SL), saB Γ qs sa sr vs, plB Γ an v, cuB Γ ac ck, txB Γ ax cs (nI L)]) s.heap.size = A at hD hAm ⊢
  have hA : ∀ q : Nat, s.heap.size ≤ q → A q := fun q h => by rw [← hAe]; exact Or.inr h
  have hAB : ∀ q : Nat, A q → A q := fun _ h => h
  have hS : va_S A s.heap s.heap [] := va_S.rf
  have hl := lv_entry ([.ref q]) (n := 3) (Nat.le_of_ble_eq_true rfl)
  rw [lg_entry_eq]
  generalize (lg_sl ([.ref q]) ++ List.replicate (3 - (lg_sl ([.ref q])).length) Slot.unset).toArray = ls at hl ⊢
  have hl : lv_has ls 3 [(0, .ref q)] := hl
  have hi1 : ∀ w ∈ wsX10, w ∈ wsX4_live := by decide +kernel
  have hi4 : ∀ w ∈ wsX40, w ∈ wsX4_live := by decide +kernel
  have kf44 := hts (.fieldLink RX4 44 "CapsuleKeepers" "text" "LCapsuleKeepers$DaysText;") (by decide +kernel)
  have hq : (fX4_live SL L Qn sr vs v ck cs) = (let r_1 := (fX4_save (SL) (sr) vs v); (fX4_live_L28 L Qn cs r_1 (L) 0 (nI 0) v ck)) := rfl
  refine lv_aload_n hx hb dX4_live_0 rfl (lv_at hl 0 rfl) ?_
  refine va_get (D := Γ.1) (ci := 4) (v := .ref (ax 0)) (C := RX4) (T := TX4) (N := 7) hx hb hts hi4 hown hK hP 0 rfl rfl 6 (by decide) kf44 (fun _ h9 => h9) rfl dX4_live_1 ?_
  refine cLI (va_runV (As := []) (rest := []) ⟨hx, hb, hml, hown, hts⟩ ((kX1_isWhole l Γ ax (L) cs (by first | decide | assumption | omega)) _) (cwV 0 hts gX4_live_X1_isWhole rfl rfl rfl (by decide +kernel) ⟨Nat.le_of_ble_eq_true rfl, Nat.le_of_ble_eq_true rfl⟩) ⟨wPre_blind, va_recv hK hP (ci := 1) (q0 := 46) rfl rfl, wPre_mk hP hD hK hS hA hAB hAm [4] rfl rfl⟩ rfl rfl hl.1 rfl (lv_room (Nat.le_of_ble_eq_true rfl)) dX4_live_4 ⟨Nat.zero_le _, Nat.zero_le _⟩) hP hS hA (fun H locs hP hS => ?_)
  refine lv_if_ne (tgt := 20) hx hb dX4_live_7 (by decide) (fun c_7 => ?_) (fun c_7 => absurd c_7 hw)
  refine lv_aload_n hx hb dX4_live_20 rfl (lv_at hl 0 rfl) ?_
  have kc := (kX4_save l Γ q an ap qs ac au ax (SL) sa (sr) vs v (by first | decide | assumption | omega) (by first | decide | assumption | omega))
  generalize hr_1 : (fX4_save (SL) (sr) vs v) = r_1 at kc hq
  replace hq : (fX4_live SL L Qn sr vs v ck cs) = (fX4_live_L28 L Qn cs r_1 (L) 0 (nI 0) v ck) := hq
  refine cMV (bc' := [mnC q an ap qs ac au ax (nI (r_1.1)), saB Γ qs sa ((r_1.2.1)) r_1.2.2, plB Γ an v]) (va_runV (As := []) (rest := []) ⟨hx, hb, hml, hown, hts⟩ (kc _) (cwV 0 hts gX4_live_X4_save rfl rfl rfl (by decide +kernel) ⟨Nat.le_of_ble_eq_true rfl, Nat.le_of_ble_eq_true rfl⟩) ⟨wPre_blind, va_recv hK hP (ci := 4) (q0 := 0) rfl rfl, wPre_mk hP hD hK hS hA hAB hAm [0, 1, 2] rfl rfl⟩ rfl rfl hl.1 rfl (lv_room (Nat.le_of_ble_eq_true rfl)) dX4_live_21 ⟨Nat.zero_le _, Nat.zero_le _⟩) hP hD hS hA [0, 1, 2] rfl (by simp only [List.map_cons, List.map_nil, suB_w, plB_w, cuB_w, txB_w, mnC_w, moB_w, ouB_w, saB_w]) (bs' := [mnC q an ap qs ac au ax (nI (r_1.1)), saB Γ qs sa ((r_1.2.1)) r_1.2.2, plB Γ an v, cuB Γ ac ck, txB Γ ax cs (nI L)]) rfl (fun H locs hP hD hS => ?_)
  refine lv_iconst (v := (nI 0)) hx hb dX4_live_24 (by decide) ?_
  refine lv_istore_n (lv' := [(1, .int (nI 0)), (0, .ref q)]) hx hb dX4_live_25 rfl hl (by decide) rfl (fun ls hl => ?_)
  refine lv_iconst (v := (nI 0)) hx hb dX4_live_26 (by decide) ?_
  refine lv_istore_n (lv' := [(2, .int (nI 0)), (1, .int (nI 0)), (0, .ref q)]) hx hb dX4_live_27 rfl hl (by decide) rfl (fun ls hl => ?_)
  refine wl (pc := 28) (σ := Nat × Int32 × (Nat → Nat → Int32) × (Nat → Int32)) (fun n (i28, x1_28, v2_28, k3_28) H locs ls => (i28 + n = L ∧ (v2_28 0 4 = nI 1 → v2_28 0 6 = nI Qn)) ∧ (fX4_live SL L Qn sr vs v ck cs) = fX4_live_L28 L Qn cs r_1 n i28 x1_28 v2_28 k3_28 ∧ va_P Γ.1 vwCl (wcat [mnC q an ap qs ac au ax (nI (r_1.1)), saB Γ qs sa ((r_1.2.1)) r_1.2.2, plB Γ an v2_28, cuB Γ ac k3_28, txB Γ ax cs (nI L)]) H ∧ va_D A (wcat [mnC q an ap qs ac au ax (nI (r_1.1)), saB Γ qs sa ((r_1.2.1)) r_1.2.2, plB Γ an v2_28, cuB Γ ac k3_28, txB Γ ax cs (nI L)]) ∧ va_S A s.heap H locs ∧ lv_has ls 3 [(2, .int (nI i28)), (1, .int x1_28), (0, .ref q)]) ?_ ?_ (L) (0, (nI 0), v, ck) _ _ _ ⟨⟨by omega, hqv⟩, hq, hP, hD, hS, lv_sub hl [0, 1, 2] rfl⟩
  · intro ⟨i28, x1_28, v2_28, k3_28⟩ H locs ls h
    obtain ⟨hn28, hq, hP, hD, hS, hl⟩ := h
    try dsimp only at hn28 hq hP hD hl
    obtain ⟨hn28, hv28⟩ := hn28
    replace hq : (fX4_live SL L Qn sr vs v ck cs) = (x1_28, (r_1.1), (r_1.2.1), r_1.2.2, v2_28, k3_28, (fX1_empty (L)).2) := hq
    refine lv_iload_n hx hb dX4_live_28 rfl (lv_at hl 0 rfl) ?_
    refine lv_aload_n hx hb dX4_live_29 rfl (lv_at hl 2 rfl) ?_
    refine va_get (D := Γ.1) (ci := 4) (v := .ref (ax 0)) (C := RX4) (T := TX4) (N := 7) hx hb hts hi4 hown hK hP 0 rfl rfl 6 (by decide) kf44 (fun _ h9 => h9) rfl dX4_live_30 ?_
    refine va_getN (host := RX4) (D := Γ.1) (ci := 1) (v := .int (nI L)) (C := RX1) (T := TX1) (N := 2) hx hb hts hi1 hown hK hP 46 rfl rfl 1 (by decide) (va_Nw.use rfl hAm.1.2.2.2.2) (fun _ h9 => h9) rfl dX4_live_33 ?_
    refine lv_icmp_ge (tgt := 70) hx hb dX4_live_36 (by decide) (fun c_36 => ?_) (fun c_36 => absurd (nI_le (by omega) (by omega)) c_36)
    refine lv_aload_n hx hb dX4_live_70 rfl (lv_at hl 2 rfl) ?_
    refine va_get (D := Γ.1) (ci := 4) (v := .ref (ax 0)) (C := RX4) (T := TX4) (N := 7) hx hb hts hi4 hown hK hP 0 rfl rfl 6 (by decide) kf44 (fun _ h9 => h9) rfl dX4_live_71 ?_
    refine cMI (bc' := [txB Γ ax cs (fX1_empty (L)).2]) (va_runV (As := []) (rest := []) ⟨hx, hb, hml, hown, hts⟩ ((kX1_empty l Γ ax (L) cs (by first | decide | assumption | omega)) _) (cwV 0 hts gX4_live_X1_empty rfl rfl rfl (by decide +kernel) ⟨Nat.le_of_ble_eq_true rfl, Nat.le_of_ble_eq_true rfl⟩) ⟨wPre_blind, va_recv hK hP (ci := 1) (q0 := 46) rfl rfl, wPre_mk hP hD hK hS hA hAB hAm [4] rfl rfl⟩ rfl rfl hl.1 rfl (lv_room (Nat.le_of_ble_eq_true rfl)) dX4_live_74 ⟨Nat.zero_le _, Nat.zero_le _⟩) hP hD hS hA [4] rfl (by simp only [List.map_cons, List.map_nil, suB_w, plB_w, cuB_w, txB_w, mnC_w, moB_w, ouB_w, saB_w]) (bs' := [mnC q an ap qs ac au ax (nI (r_1.1)), saB Γ qs sa ((r_1.2.1)) r_1.2.2, plB Γ an v2_28, cuB Γ ac k3_28, txB Γ ax cs (fX1_empty (L)).2]) rfl (fun H locs hP hD hS => ?_)
    refine lv_pop hx hb dX4_live_77 rfl ?_
    refine lv_iload_n hx hb dX4_live_78 rfl (lv_at hl 1 rfl) ?_
    exact W.iret (v := x1_28) hx hb hr (fun t ht hW => eMI (by rw [hq]; exact hP) hS ht (by rw [hq])) hS.2.2 dX4_live_79
  · intro n28 ih28 ⟨i28, x1_28, v2_28, k3_28⟩ H locs ls h
    obtain ⟨hn28, hq, hP, hD, hS, hl⟩ := h
    try dsimp only at hn28 hq hP hD hl
    obtain ⟨hn28, hv28⟩ := hn28
    replace hq : (fX4_live SL L Qn sr vs v ck cs) = (if (fX1_beginsOrder (L) cs (nI i28)) = 0 then (fX4_live_L28 L Qn cs r_1 n28 (i28 + 1) x1_28 v2_28 k3_28) else (let r_3 := (fX4_carryOut (L) Qn v2_28 k3_28 cs (i28)); (if r_3.1 = 0 then (x1_28, (r_1.1), (r_1.2.1), r_1.2.2, r_3.2.1, r_3.2.2, (fX1_empty (L)).2) else (fX4_live_L28 L Qn cs r_1 n28 (i28 + 1) (x1_28 + (nI 1)) r_3.2.1 r_3.2.2)))) := hq
    refine lv_iload_n hx hb dX4_live_28 rfl (lv_at hl 0 rfl) ?_
    refine lv_aload_n hx hb dX4_live_29 rfl (lv_at hl 2 rfl) ?_
    refine va_get (D := Γ.1) (ci := 4) (v := .ref (ax 0)) (C := RX4) (T := TX4) (N := 7) hx hb hts hi4 hown hK hP 0 rfl rfl 6 (by decide) kf44 (fun _ h9 => h9) rfl dX4_live_30 ?_
    refine va_getN (host := RX4) (D := Γ.1) (ci := 1) (v := .int (nI L)) (C := RX1) (T := TX1) (N := 2) hx hb hts hi1 hown hK hP 46 rfl rfl 1 (by decide) (va_Nw.use rfl hAm.1.2.2.2.2) (fun _ h9 => h9) rfl dX4_live_33 ?_
    refine lv_icmp_ge (tgt := 70) hx hb dX4_live_36 (by decide) (fun c_36 => absurd c_36 (nI_ge (by omega) (by omega))) (fun c_36 => ?_)
    refine lv_aload_n hx hb dX4_live_39 rfl (lv_at hl 2 rfl) ?_
    refine va_get (D := Γ.1) (ci := 4) (v := .ref (ax 0)) (C := RX4) (T := TX4) (N := 7) hx hb hts hi4 hown hK hP 0 rfl rfl 6 (by decide) kf44 (fun _ h9 => h9) rfl dX4_live_40 ?_
    refine lv_iload_n hx hb dX4_live_43 rfl (lv_at hl 0 rfl) ?_
    refine cLI (va_runV (As := [.int (nI i28)]) (rest := []) ⟨hx, hb, hml, hown, hts⟩ ((kX1_beginsOrder l Γ ax (L) cs (nI i28) (by first | decide | assumption | omega)) _) (cwV 1 hts gX4_live_X1_beginsOrder rfl rfl rfl (by decide +kernel) ⟨Nat.le_of_ble_eq_true rfl, Nat.le_of_ble_eq_true rfl⟩) ⟨wPre_blind, va_recv hK hP (ci := 1) (q0 := 46) rfl rfl, wPre_mk hP hD hK hS hA hAB hAm [4] rfl rfl⟩ rfl rfl hl.1 rfl (lv_room (Nat.le_of_ble_eq_true rfl)) dX4_live_44 ⟨Nat.zero_le _, Nat.zero_le _⟩) hP hS hA (fun H locs hP hS => ?_)
    refine lv_if_eq (tgt := 64) hx hb dX4_live_47 (by decide) (fun c_2 => ?_) (fun c_2 => ?_)
    · have hq := hq.trans (if_pos c_2)
      refine lv_iinc (v := (nI (i28 + 1))) (lv' := [(2, .int (nI (i28 + 1))), (1, .int x1_28), (0, .ref q)]) hx hb dX4_live_64 hl (k := 0) rfl (nI_1 _) (by decide) rfl (fun ls hl => ?_)
      refine lv_goto (tgt := 28) hx hb dX4_live_67 (by decide) ?_
      exact ih28 ((i28 + 1), x1_28, v2_28, k3_28) H locs ls ⟨⟨by omega, by assumption⟩, hq, hP, hD, hS, lv_sub hl [0, 1, 2] rfl⟩
    · have hq := hq.trans (if_neg c_2)
      refine lv_aload_n hx hb dX4_live_50 rfl (lv_at hl 2 rfl) ?_
      refine lv_iload_n hx hb dX4_live_51 rfl (lv_at hl 0 rfl) ?_
      have kc := (kX4_carryOut l Γ q an ap qs ac au ax (L) Qn (nI (r_1.1)) v2_28 k3_28 cs (i28) (hv28) (by first | decide | assumption | omega) (by first | decide | assumption | omega) (by first | decide | assumption | omega) (by first | decide | assumption | omega))
      have hfr_3 : (fX4_carryOut (L) Qn v2_28 k3_28 cs (i28)).2.1 0 4 = nI 1 → (fX4_carryOut (L) Qn v2_28 k3_28 cs (i28)).2.1 0 6 = nI Qn := co46 _ _ _ _ _ _ hv28
      generalize hr_3 : (fX4_carryOut (L) Qn v2_28 k3_28 cs (i28)) = r_3 at hfr_3 kc hq
      replace hq : (fX4_live SL L Qn sr vs v ck cs) = (if r_3.1 = 0 then (x1_28, (r_1.1), (r_1.2.1), r_1.2.2, r_3.2.1, r_3.2.2, (fX1_empty (L)).2) else (fX4_live_L28 L Qn cs r_1 n28 (i28 + 1) (x1_28 + (nI 1)) r_3.2.1 r_3.2.2)) := hq
      refine cMI (bc' := [mnC q an ap qs ac au ax (nI (r_1.1)), plB Γ an r_3.2.1, cuB Γ ac r_3.2.2, txB Γ ax cs (nI L)]) (va_runV (As := [.int (nI i28)]) (rest := []) ⟨hx, hb, hml, hown, hts⟩ (kc _) (cwV 1 hts gX4_live_X4_carryOut rfl rfl rfl (by decide +kernel) ⟨Nat.le_of_ble_eq_true rfl, Nat.le_of_ble_eq_true rfl⟩) ⟨wPre_blind, va_recv hK hP (ci := 4) (q0 := 0) rfl rfl, wPre_mk hP hD hK hS hA hAB hAm [0, 2, 3, 4] rfl rfl⟩ rfl rfl hl.1 rfl (lv_room (Nat.le_of_ble_eq_true rfl)) dX4_live_52 ⟨Nat.zero_le _, Nat.zero_le _⟩) hP hD hS hA [0, 2, 3, 4] rfl (by simp only [List.map_cons, List.map_nil, suB_w, plB_w, cuB_w, txB_w, mnC_w, moB_w, ouB_w, saB_w]) (bs' := [mnC q an ap qs ac au ax (nI (r_1.1)), saB Γ qs sa ((r_1.2.1)) r_1.2.2, plB Γ an r_3.2.1, cuB Γ ac r_3.2.2, txB Γ ax cs (nI L)]) rfl (fun H locs hP hD hS => ?_)
      refine lv_if_ne (tgt := 61) hx hb dX4_live_55 (by decide) (fun c_4 => ?_) (fun c_4 => ?_)
      · have hq := hq.trans (if_neg c_4)
        refine lv_iinc (v := (x1_28 + (nI 1))) (lv' := [(1, .int (x1_28 + (nI 1))), (2, .int (nI i28)), (0, .ref q)]) hx hb dX4_live_61 hl (k := 1) rfl (rfl) (by decide) rfl (fun ls hl => ?_)
        refine lv_iinc (v := (nI (i28 + 1))) (lv' := [(2, .int (nI (i28 + 1))), (1, .int (x1_28 + (nI 1))), (0, .ref q)]) hx hb dX4_live_64 hl (k := 1) rfl (nI_1 _) (by decide) rfl (fun ls hl => ?_)
        refine lv_goto (tgt := 28) hx hb dX4_live_67 (by decide) ?_
        exact ih28 ((i28 + 1), (x1_28 + (nI 1)), r_3.2.1, r_3.2.2) H locs ls ⟨⟨by omega, by assumption⟩, hq, hP, hD, hS, lv_sub hl [0, 1, 2] rfl⟩
      · have hq := hq.trans (if_pos c_4)
        refine lv_goto (tgt := 70) hx hb dX4_live_58 (by decide) ?_
        refine lv_aload_n hx hb dX4_live_70 rfl (lv_at hl 2 rfl) ?_
        refine va_get (D := Γ.1) (ci := 4) (v := .ref (ax 0)) (C := RX4) (T := TX4) (N := 7) hx hb hts hi4 hown hK hP 0 rfl rfl 6 (by decide) kf44 (fun _ h9 => h9) rfl dX4_live_71 ?_
        refine cMI (bc' := [txB Γ ax cs (fX1_empty (L)).2]) (va_runV (As := []) (rest := []) ⟨hx, hb, hml, hown, hts⟩ ((kX1_empty l Γ ax (L) cs (by first | decide | assumption | omega)) _) (cwV 0 hts gX4_live_X1_empty rfl rfl rfl (by decide +kernel) ⟨Nat.le_of_ble_eq_true rfl, Nat.le_of_ble_eq_true rfl⟩) ⟨wPre_blind, va_recv hK hP (ci := 1) (q0 := 46) rfl rfl, wPre_mk hP hD hK hS hA hAB hAm [4] rfl rfl⟩ rfl rfl hl.1 rfl (lv_room (Nat.le_of_ble_eq_true rfl)) dX4_live_74 ⟨Nat.zero_le _, Nat.zero_le _⟩) hP hD hS hA [4] rfl (by simp only [List.map_cons, List.map_nil, suB_w, plB_w, cuB_w, txB_w, mnC_w, moB_w, ouB_w, saB_w]) (bs' := [mnC q an ap qs ac au ax (nI (r_1.1)), saB Γ qs sa ((r_1.2.1)) r_1.2.2, plB Γ an r_3.2.1, cuB Γ ac r_3.2.2, txB Γ ax cs (fX1_empty (L)).2]) rfl (fun H locs hP hD hS => ?_)
        refine lv_pop hx hb dX4_live_77 rfl ?_
        refine lv_iload_n hx hb dX4_live_78 rfl (lv_at hl 1 rfl) ?_
        exact W.iret (v := x1_28) hx hb hr (fun t ht hW => eMI (by rw [hq]; exact hP) hS ht (by rw [hq])) hS.2.2 dX4_live_79
