theorem sv_loop (S : Nat) : ∀ (n i : Nat) (r : Nat → Int32), fX5_saves_L11 S n i r = (cpR (shR n i r) 0 (S - 1 + 1), nI (S - 1 + 1)) := by
  intro n
  induction n with
  | zero => intro i r; rfl
  | succ n ih => intro i r; exact ih (i + 1) _
theorem saves_eq (S : Nat) (ms : Nat → Int32) (h : S ≤ 6) : fX5_saves S ms = (svR S ms, nI (svS S)) := by
  unfold fX5_saves svR svS
  by_cases h6 : S = 6
  · subst h6
    rw [if_pos rfl, sv_loop, if_pos rfl, if_pos rfl]
  · rw [if_neg (fun q => h6 ((nI_eq (by omega) (by omega)).mp q)), if_neg h6, if_neg h6]
theorem cpR_lt {r : Nat → Int32} {f t j : Nat} (h : j < 58 * t) : cpR r f t j = r j := by
  unfold cpR
  rw [if_neg (by omega)]
theorem shR_low : ∀ (n k : Nat) (r : Nat → Int32) (j : Nat), 1 ≤ k → j < 58 → shR n k r j = r j := by
  intro n
  induction n with
  | zero => intro k r j _ _; rfl
  | succ n ih =>
    intro k r j hk hj
    show shR n (k + 1) _ j = r j
    rw [ih (k + 1) _ j (by omega) hj, cpR_lt (by omega)]
theorem svR_low {S : Nat} {r : Nat → Int32} {j : Nat} (hj : j < 58) : svR S r j = r j := by
  unfold svR
  split
  · rw [cpR_lt (by omega), shR_low _ _ _ _ (by omega) hj]
  · rw [cpR_lt (by omega)]
def drX (x : Int32) : Int32 := (nI 171 * x + nI 11213) - (nI 171 * x + nI 11213) / nI 53125 * nI 53125
def drV (x : Int32) : Int32 := drX x - drX x / nI 251 * nI 251
theorem draws_eq (ms : Nat → Int32) (b : Nat) : fX5_draws ms b = (drV (ms b), upd ms b (drX (ms b))) := by
  unfold fX5_draws drV
  simp only [upd, if_true]
  rfl
theorem dies_loop (b k : Nat) : ∀ (n i : Nat) (x3 x4 x5 : Int32) (r : Nat → Int32) (j : Nat), j < b + 2 → (fX5_dies_L43 b k n i x3 x4 x5 r).2 j = r j := by
  intro n
  induction n with
  | zero =>
    intro i x3 x4 x5 r j hj
    show upd r (b + 2) _ j = r j
    simp only [upd]
    rw [if_neg (by omega)]
  | succ n ih =>
    intro i x3 x4 x5 r j hj
    simp only [fX5_dies_L43]
    (repeat' split) <;> rw [ih _ _ _ _ _ _ hj] <;> simp only [upd] <;> first | rfl | rw [if_neg (by omega)]
theorem dies_lt {b k : Nat} {r : Nat → Int32} {j : Nat} (hj : j < b + 2) : (fX5_dies r b k).2 j = r j := by
  unfold fX5_dies
  (repeat' split) <;> rw [dies_loop _ _ _ _ _ _ _ _ _ hj]
theorem canRenew_ne {ms : Nat → Int32} {b : Nat} (h : ¬ fX5_canRenew ms b = 0) : ms (b + 27) = nI 1 := by
  unfold fX5_canRenew at h
  by_cases h1 : ms (b + 27) = nI 1
  · exact h1
  · exact absurd (by rw [if_neg h1]; rfl) h
theorem gs_ne1 {f1 f2 : Int32} (h : ¬ gsR f1 f2 = 0) : ¬ f1 = 0 := (gsR_ne h).1
theorem gs_00 {f2 : Int32} {X : Prop} (h : ¬ gsR (nI 0) f2 = 0) : X := absurd (show nI 0 = 0 by decide) (gsR_ne h).1
theorem gs_01 {f1 : Int32} {X : Prop} (h : ¬ gsR f1 (nI 0) = 0) : X := absurd (show nI 0 = 0 by decide) (gsR_ne h).2
theorem nX5_saves (l : Launch) (Γ : wG) (a : Nat → Nat) (S : Nat) (ms : (Nat → Int32)) (mt : (Nat → Int32)) (mc : (Nat → Int32)) (md : (Nat → Int32)) (m1 : Int32) (m2 : Int32) (m3 : Int32) (m4 : Int32) (m5 : Int32) (hS6 : S ≤ 6) : MV l Γ yX5_saves wsX5_saves ({ frames := 1, cells := 0, slots := 0, locals := 23 }) [.ref (a 0)] [moB Γ a ms mt mc md (nI S) m1 m2 m3 m4 m5] [moB Γ a (svR S ms) mt mc md (nI (svS S)) m1 m2 m3 m4 m5] := by
  have h := kX5_saves l Γ a S ms mt mc md m1 m2 m3 m4 m5 hS6
  rw [saves_eq S ms hS6] at h
  exact h
theorem nX5_draws (l : Launch) (Γ : wG) (a : Nat → Nat) (ms : (Nat → Int32)) (mt : (Nat → Int32)) (mc : (Nat → Int32)) (md : (Nat → Int32)) (m0 : Int32) (m1 : Int32) (m2 : Int32) (m3 : Int32) (m4 : Int32) (m5 : Int32) (b : Nat) (hb : b ≤ 406) : MI l Γ yX5_draws wsX5_draws ({ frames := 0, cells := 0, slots := 0, locals := 0 }) [.ref (a 0), .int (nI b)] [moB Γ a ms mt mc md m0 m1 m2 m3 m4 m5] [moB Γ a (upd ms b (drX (ms b))) mt mc md m0 m1 m2 m3 m4 m5] (drV (ms b)) := by
  have h := kX5_draws l Γ a ms mt mc md m0 m1 m2 m3 m4 m5 b hb
  rw [draws_eq] at h
  exact h
def fX5_deals_L87 (k51 : Nat → Int32 → (Nat → Int32) → Int32 × (Nat → Int32) × (Nat → Int32)) (b : Nat) (mc0_17 : (Nat → Int32)) (i51 : Nat) (x2_51 : Int32) (ms0_51 : (Nat → Int32)) : Nat → Int32 → Int32 × (Nat → Int32) × (Nat → Int32)
  | 0, x5_87 => (if (fX5_has (ms0_51 (b + 2)) (nI i51)) = 0 then (k51 (i51 + 1) (x2_51 + (nI 0)) (upd (upd (upd ms0_51 (b + 32 + i51) (nI 0)) (b + 40 + i51) (-1)) (b + 48 + i51) (nI 0))) else (k51 (i51 + 1) (x2_51 + (nI 1)) (upd (upd (upd ms0_51 (b + 32 + i51) x5_87) (b + 40 + i51) (nI i51)) (b + 48 + i51) (nI 0))))
  | n87 + 1, x5_87 => (fX5_deals_L87 k51 b mc0_17 i51 x2_51 ms0_51 n87 (((x5_87 * (nI (i51 + 1))) + (mc0_17 n87)) - ((x5_87 * (nI (i51 + 1))) + (mc0_17 n87)) / (nI 251) * (nI 251)))
def fX5_deals_L51 (Q : Nat) (b : Nat) (mc0_17 : (Nat → Int32)) : Nat → Nat → Int32 → (Nat → Int32) → Int32 × (Nat → Int32) × (Nat → Int32)
  | 0, i51, x2_51, ms0_51 => (x2_51, (upd ms0_51 (b + 56) ((ms0_51 (b + 56)) + (nI 1))), mc0_17)
  | n51 + 1, i51, x2_51, ms0_51 => (fX5_deals_L87 (fX5_deals_L51 Q b mc0_17 n51) b mc0_17 i51 x2_51 ms0_51 (Q + 1) (nI 0))
def fX5_deals_L17 (Q : Nat) (b : Nat) : Nat → Nat → (Nat → Int32) → (Nat → Int32) → Int32 × (Nat → Int32) × (Nat → Int32)
  | 0, i17, ms0_17, mc0_17 => (fX5_deals_L51 Q b mc0_17 (8) 0 (nI 0) ms0_17)
  | n17 + 1, i17, ms0_17, mc0_17 => (fX5_deals_L17 Q b n17 (i17 + 1) (upd ms0_17 (b) (drX (ms0_17 (b)))) (upd mc0_17 i17 (drV (ms0_17 (b)))))
def fX5_deals (Q : Nat) (ms : (Nat → Int32)) (mc : (Nat → Int32)) (b : Nat) : Int32 × (Nat → Int32) × (Nat → Int32) := (fX5_deals_L17 Q b (Q) 1 ms (upd mc 0 (ms (b + 28))))
set_option maxHeartbeats 4000000 in
set_option maxRecDepth 100000 in
theorem kX5_deals (l : Launch) (Γ : wG) (a : Nat → Nat) (Q : Nat) (ms : (Nat → Int32)) (mt : (Nat → Int32)) (mc : (Nat → Int32)) (md : (Nat → Int32)) (m0 : Int32) (m1 : Int32) (m2 : Int32) (m3 : Int32) (m4 : Int32) (m5 : Int32) (b : Nat) (hb : b ≤ 406) (hQ : ms (b + 29) = nI (Q + 1)) (hQ7 : Q ≤ 7) : MI l Γ yX5_deals wsX5_deals ({ frames := 1, cells := 0, slots := 0, locals := 21 }) [.ref (a 0), .int (nI b)] [moB Γ a ms mt mc md m0 m1 m2 m3 m4 m5] [moB Γ a (fX5_deals Q ms mc b).2.1 mt (fX5_deals Q ms mc b).2.2 md m0 m1 m2 m3 m4 m5] (fX5_deals Q ms mc b).1 := by
  intro sz
  refine Met.ofW (cc := cX5_deals) (maxL := 7) (ret := (some .int)) (by decide) rfl ?_
  intro p e s m args below meth c s₁ B hml hv
  obtain ⟨rfl, hsz, hP, hK, hD0, hAm⟩ := hv
  have hx := B.exec
  have hb := B.bytes
  have hr := B.returns
  have hts := atoms_spec (ws := wsX5_deals) B.pre
  have hown : s.vm.findClass RX5 = some m.cls := findClass_of_methodNamed B.named
  have hlocks := B.notSynchronized
  subst hsz
  have hD := hD0.self (sz := s.heap.size)
  generalize hAe : va_A (wcat [moB Γ a ms mt mc md m0 m1 m2 m3 m4 m5]) s.heap.size = A at hD hAm ⊢
  have hA : ∀ q : Nat, s.heap.size ≤ q → A q := fun q h => by rw [← hAe]; exact Or.inr h
  have hAB : ∀ q : Nat, A q → A q := fun _ h => h
  have hS : va_S A s.heap s.heap [] := va_S.rf
  have hl := lv_entry ([.ref (a 0), .int (nI b)]) (n := 7) (Nat.le_of_ble_eq_true rfl)
  rw [lg_entry_eq]
  generalize (lg_sl ([.ref (a 0), .int (nI b)]) ++ List.replicate (7 - (lg_sl ([.ref (a 0), .int (nI b)])).length) Slot.unset).toArray = ls at hl ⊢
  have hl : lv_has ls 7 [(0, .ref (a 0)), (1, .int (nI b))] := hl
  have hi5 : ∀ w ∈ wsX50, w ∈ wsX5_deals := by decide +kernel
  have kf17 := hts (.fieldLink RX5 17 "CapsuleKeepersModel" "curve" "[I") (by decide +kernel)
  have kf7 := hts (.fieldLink RX5 7 "CapsuleKeepersModel" "s" "[I") (by decide +kernel)
  have hq : (fX5_deals Q ms mc b) = (fX5_deals_L17 Q b (Q) 1 ms (upd mc 0 (ms (b + 28)))) := rfl
  refine lv_aload_n hx hb dX5_deals_0 rfl (lv_at hl 0 rfl) ?_
  refine va_get (D := Γ.1) (ci := 5) (v := .ref (a 3)) (C := RX5) (T := TX5) (N := 10) hx hb hts hi5 hown hK hP 0 rfl rfl 5 (by decide) kf17 (fun _ h9 => h9) rfl dX5_deals_1 ?_
  refine lv_iconst (v := (nI 0)) hx hb dX5_deals_4 (by decide) ?_
  refine lv_aload_n hx hb dX5_deals_5 rfl (lv_at hl 0 rfl) ?_
  refine va_get (D := Γ.1) (ci := 5) (v := .ref (a 1)) (C := RX5) (T := TX5) (N := 10) hx hb hts hi5 hown hK hP 0 rfl rfl 0 (by decide) kf7 (fun _ h9 => h9) rfl dX5_deals_6 ?_
  refine lv_iload_n hx hb dX5_deals_9 rfl (lv_at hl 1 rfl) ?_
  refine lv_bipush (v := (nI 28)) hx hb dX5_deals_10 (by decide) ?_
  refine lv_iadd hx hb dX5_deals_12 ?_
  refine lv_eqi (y := (nI (b + 28))) (nI_add _ _) ?_
  refine va_iald_n (f := ms) hx hb hK hP 1 0 rfl rfl (by omega) (Nat.le_of_ble_eq_true rfl) dX5_deals_13 ?_
  refine va_iast_n (f := mc) hx hb hK hP hD hS 3 0 rfl rfl (by omega) (Nat.le_of_ble_eq_true rfl) dX5_deals_14 (fun H locs hP hD hS => ?_)
  have hP : va_P Γ.1 vwCl (wcat [moB Γ a ms mt (upd mc 0 (ms (b + 28))) md m0 m1 m2 m3 m4 m5]) H := hP
  have hD : va_D A (wcat [moB Γ a ms mt (upd mc 0 (ms (b + 28))) md m0 m1 m2 m3 m4 m5]) := hD
  refine lv_iconst (v := (nI 1)) hx hb dX5_deals_15 (by decide) ?_
  refine lv_istore_n (lv' := [(2, .int (nI 1)), (0, .ref (a 0)), (1, .int (nI b))]) hx hb dX5_deals_16 rfl hl (by decide) rfl (fun ls hl => ?_)
  refine wl (pc := 17) (σ := Nat × (Nat → Int32) × (Nat → Int32)) (fun n (i17, ms0_17, mc0_17) H locs ls => (i17 + n = Q + 1 ∧ ms0_17 (b + 29) = nI (Q + 1)) ∧ (fX5_deals Q ms mc b) = fX5_deals_L17 Q b n i17 ms0_17 mc0_17 ∧ va_P Γ.1 vwCl (wcat [moB Γ a ms0_17 mt mc0_17 md m0 m1 m2 m3 m4 m5]) H ∧ va_D A (wcat [moB Γ a ms0_17 mt mc0_17 md m0 m1 m2 m3 m4 m5]) ∧ va_S A s.heap H locs ∧ lv_has ls 7 [(2, .int (nI i17)), (0, .ref (a 0)), (1, .int (nI b))]) ?_ ?_ (Q) (1, ms, (upd mc 0 (ms (b + 28)))) _ _ _ ⟨⟨by omega, hQ⟩, hq, hP, hD, hS, lv_sub hl [0, 1, 2] rfl⟩
  · intro ⟨i17, ms0_17, mc0_17⟩ H locs ls h
    obtain ⟨hn17, hq, hP, hD, hS, hl⟩ := h
    try dsimp only at hn17 hq hP hD hl
    obtain ⟨hn17, hv17⟩ := hn17
    replace hq : (fX5_deals Q ms mc b) = (fX5_deals_L51 Q b mc0_17 (8) 0 (nI 0) ms0_17) := hq
    refine lv_iload_n hx hb dX5_deals_17 rfl (lv_at hl 0 rfl) ?_
    refine lv_aload_n hx hb dX5_deals_18 rfl (lv_at hl 1 rfl) ?_
    refine va_get (D := Γ.1) (ci := 5) (v := .ref (a 1)) (C := RX5) (T := TX5) (N := 10) hx hb hts hi5 hown hK hP 0 rfl rfl 0 (by decide) kf7 (fun _ h9 => h9) rfl dX5_deals_19 ?_
    refine lv_iload_n hx hb dX5_deals_22 rfl (lv_at hl 2 rfl) ?_
    refine lv_bipush (v := (nI 29)) hx hb dX5_deals_23 (by decide) ?_
    refine lv_iadd hx hb dX5_deals_25 ?_
    refine lv_eqi (y := (nI (b + 29))) (nI_add _ _) ?_
    refine va_iald_n (f := ms0_17) hx hb hK hP 1 0 rfl rfl (by omega) (Nat.le_of_ble_eq_true rfl) dX5_deals_26 ?_
    refine lv_eqi (y := (nI (Q + 1))) (hv17) ?_
    refine lv_icmp_ge (tgt := 47) hx hb dX5_deals_27 (by decide) (fun c_27 => ?_) (fun c_27 => absurd (nI_le (by omega) (by omega)) c_27)
    refine lv_iconst (v := (nI 0)) hx hb dX5_deals_47 (by decide) ?_
    refine lv_istore_n (lv' := [(2, .int (nI 0)), (0, .ref (a 0)), (1, .int (nI b))]) hx hb dX5_deals_48 rfl hl (by decide) rfl (fun ls hl => ?_)
    refine lv_iconst (v := (nI 0)) hx hb dX5_deals_49 (by decide) ?_
    refine lv_istore_n (lv' := [(3, .int (nI 0)), (2, .int (nI 0)), (0, .ref (a 0)), (1, .int (nI b))]) hx hb dX5_deals_50 rfl hl (by decide) rfl (fun ls hl => ?_)
    refine wl (pc := 51) (σ := Nat × Int32 × (Nat → Int32)) (fun n (i51, x2_51, ms0_51) H locs ls => (i51 + n = 8 ∧ ms0_51 (b + 29) = nI (Q + 1)) ∧ (fX5_deals Q ms mc b) = fX5_deals_L51 Q b mc0_17 n i51 x2_51 ms0_51 ∧ va_P Γ.1 vwCl (wcat [moB Γ a ms0_51 mt mc0_17 md m0 m1 m2 m3 m4 m5]) H ∧ va_D A (wcat [moB Γ a ms0_51 mt mc0_17 md m0 m1 m2 m3 m4 m5]) ∧ va_S A s.heap H locs ∧ lv_has ls 7 [(3, .int (nI i51)), (2, .int x2_51), (0, .ref (a 0)), (1, .int (nI b))]) ?_ ?_ (8) (0, (nI 0), ms0_17) _ _ _ ⟨⟨by omega, hv17⟩, hq, hP, hD, hS, lv_sub hl [0, 1, 2, 3] rfl⟩
    · intro ⟨i51, x2_51, ms0_51⟩ H locs ls h
      obtain ⟨hn51, hq, hP, hD, hS, hl⟩ := h
      try dsimp only at hn51 hq hP hD hl
      obtain ⟨hn51, hv51⟩ := hn51
      replace hq : (fX5_deals Q ms mc b) = (x2_51, (upd ms0_51 (b + 56) ((ms0_51 (b + 56)) + (nI 1))), mc0_17) := hq
      refine lv_iload_n hx hb dX5_deals_51 rfl (lv_at hl 0 rfl) ?_
      refine lv_bipush (v := (nI 8)) hx hb dX5_deals_52 (by decide) ?_
      refine lv_icmp_ge (tgt := 192) hx hb dX5_deals_54 (by decide) (fun c_54 => ?_) (fun c_54 => absurd (nI_le (by omega) (by omega)) c_54)
      refine lv_aload_n hx hb dX5_deals_192 rfl (lv_at hl 2 rfl) ?_
      refine va_get (D := Γ.1) (ci := 5) (v := .ref (a 1)) (C := RX5) (T := TX5) (N := 10) hx hb hts hi5 hown hK hP 0 rfl rfl 0 (by decide) kf7 (fun _ h9 => h9) rfl dX5_deals_193 ?_
      refine lv_iload_n hx hb dX5_deals_196 rfl (lv_at hl 3 rfl) ?_
      refine lv_bipush (v := (nI 56)) hx hb dX5_deals_197 (by decide) ?_
      refine lv_iadd hx hb dX5_deals_199 ?_
      refine lv_eqi (y := (nI (b + 56))) (nI_add _ _) ?_
      refine lv_dup2_11 hx hb dX5_deals_200 rfl rfl ?_
      refine va_iald_n (f := ms0_51) hx hb hK hP 1 0 rfl rfl (by omega) (Nat.le_of_ble_eq_true rfl) dX5_deals_201 ?_
      refine lv_iconst (v := (nI 1)) hx hb dX5_deals_202 (by decide) ?_
      refine lv_iadd hx hb dX5_deals_203 ?_
      refine va_iast_n (f := ms0_51) hx hb hK hP hD hS 1 0 rfl rfl (by omega) (Nat.le_of_ble_eq_true rfl) dX5_deals_204 (fun H locs hP hD hS => ?_)
      have hP : va_P Γ.1 vwCl (wcat [moB Γ a (upd ms0_51 (b + 56) ((ms0_51 (b + 56)) + (nI 1))) mt mc0_17 md m0 m1 m2 m3 m4 m5]) H := hP
      have hD : va_D A (wcat [moB Γ a (upd ms0_51 (b + 56) ((ms0_51 (b + 56)) + (nI 1))) mt mc0_17 md m0 m1 m2 m3 m4 m5]) := hD
      refine lv_iload_n hx hb dX5_deals_205 rfl (lv_at hl 1 rfl) ?_
      exact W.iret (v := x2_51) hx hb hr (fun t ht hW => eMI (by rw [hq]; exact hP) hS ht (by rw [hq])) hS.2.2 dX5_deals_206
    · intro n51 ih51 ⟨i51, x2_51, ms0_51⟩ H locs ls h
      obtain ⟨hn51, hq, hP, hD, hS, hl⟩ := h
      try dsimp only at hn51 hq hP hD hl
      obtain ⟨hn51, hv51⟩ := hn51
      replace hq : (fX5_deals Q ms mc b) = (fX5_deals_L87 (fX5_deals_L51 Q b mc0_17 n51) b mc0_17 i51 x2_51 ms0_51 (Q + 1) (nI 0)) := hq
      refine lv_iload_n hx hb dX5_deals_51 rfl (lv_at hl 0 rfl) ?_
      refine lv_bipush (v := (nI 8)) hx hb dX5_deals_52 (by decide) ?_
      refine lv_icmp_ge (tgt := 192) hx hb dX5_deals_54 (by decide) (fun c_54 => absurd c_54 (nI_ge (by omega) (by omega))) (fun c_54 => ?_)
      refine lv_aload_n hx hb dX5_deals_57 rfl (lv_at hl 2 rfl) ?_
      refine va_get (D := Γ.1) (ci := 5) (v := .ref (a 1)) (C := RX5) (T := TX5) (N := 10) hx hb hts hi5 hown hK hP 0 rfl rfl 0 (by decide) kf7 (fun _ h9 => h9) rfl dX5_deals_58 ?_
      refine lv_iload_n hx hb dX5_deals_61 rfl (lv_at hl 3 rfl) ?_
      refine lv_iconst (v := (nI 2)) hx hb dX5_deals_62 (by decide) ?_
      refine lv_iadd hx hb dX5_deals_63 ?_
      refine lv_eqi (y := (nI (b + 2))) (nI_add _ _) ?_
      refine va_iald_n (f := ms0_51) hx hb hK hP 1 0 rfl rfl (by omega) (Nat.le_of_ble_eq_true rfl) dX5_deals_64 ?_
      refine lv_iload_n hx hb dX5_deals_65 rfl (lv_at hl 0 rfl) ?_
      refine cLI (va_runS (As := [.int (ms0_51 (b + 2)), .int (nI i51)]) (rest := []) ⟨hx, hb, hml, hown, hts⟩ ((kX5_has l Γ (ms0_51 (b + 2)) (nI i51)) _) (va_cwS 2 hts gX5_deals_X5_has rfl rfl rfl (by decide +kernel) ⟨Nat.le_of_ble_eq_true rfl, Nat.le_of_ble_eq_true rfl⟩) ⟨wPre_blind, wPre_mk hP hD hK hS hA hAB hAm [] rfl rfl⟩ rfl rfl hl.1 rfl (lv_room (Nat.le_of_ble_eq_true rfl)) dX5_deals_66 ⟨Nat.zero_le _, Nat.zero_le _⟩) hP hS hA (fun H locs hP hS => ?_)
      refine lv_istore (lv' := [(4, .int (fX5_has (ms0_51 (b + 2)) (nI i51))), (3, .int (nI i51)), (2, .int x2_51), (0, .ref (a 0)), (1, .int (nI b))]) hx hb dX5_deals_69 hl (by decide) rfl (fun ls hl => ?_)
      refine lv_iconst (v := (nI 0)) hx hb dX5_deals_71 (by decide) ?_
      refine lv_istore (lv' := [(5, .int (nI 0)), (4, .int (fX5_has (ms0_51 (b + 2)) (nI i51))), (3, .int (nI i51)), (2, .int x2_51), (0, .ref (a 0)), (1, .int (nI b))]) hx hb dX5_deals_72 hl (by decide) rfl (fun ls hl => ?_)
      refine lv_aload_n hx hb dX5_deals_74 rfl (lv_at hl 4 rfl) ?_
      refine va_get (D := Γ.1) (ci := 5) (v := .ref (a 1)) (C := RX5) (T := TX5) (N := 10) hx hb hts hi5 hown hK hP 0 rfl rfl 0 (by decide) kf7 (fun _ h9 => h9) rfl dX5_deals_75 ?_
      refine lv_iload_n hx hb dX5_deals_78 rfl (lv_at hl 5 rfl) ?_
      refine lv_bipush (v := (nI 29)) hx hb dX5_deals_79 (by decide) ?_
      refine lv_iadd hx hb dX5_deals_81 ?_
      refine lv_eqi (y := (nI (b + 29))) (nI_add _ _) ?_
      refine va_iald_n (f := ms0_51) hx hb hK hP 1 0 rfl rfl (by omega) (Nat.le_of_ble_eq_true rfl) dX5_deals_82 ?_
      refine lv_eqi (y := (nI (Q + 1))) (hv51) ?_
      refine lv_iconst (v := (nI 1)) hx hb dX5_deals_83 (by decide) ?_
      refine lv_isub hx hb dX5_deals_84 ?_
      refine lv_eqi (y := (nI Q)) ((pk_sub (by omega)).trans (by rw [Nat.add_sub_cancel])) ?_
      refine lv_istore (lv' := [(6, .int (nI Q)), (5, .int (nI 0)), (4, .int (fX5_has (ms0_51 (b + 2)) (nI i51))), (3, .int (nI i51)), (2, .int x2_51), (0, .ref (a 0)), (1, .int (nI b))]) hx hb dX5_deals_85 hl (by decide) rfl (fun ls hl => ?_)
      obtain ⟨k51, ek51⟩ : ∃ k, k = (fX5_deals_L51 Q b mc0_17 n51) := ⟨_, rfl⟩
      replace hq : (fX5_deals Q ms mc b) = (fX5_deals_L87 k51 b mc0_17 i51 x2_51 ms0_51 (Q + 1) (nI 0)) := hq.trans (by rw [ek51])
      refine wl (pc := 87) (σ := Int32) (fun n x5_87 H locs ls => (n ≤ 8) ∧ (fX5_deals Q ms mc b) = fX5_deals_L87 k51 b mc0_17 i51 x2_51 ms0_51 n x5_87 ∧ va_P Γ.1 vwCl (wcat [moB Γ a ms0_51 mt mc0_17 md m0 m1 m2 m3 m4 m5]) H ∧ va_D A (wcat [moB Γ a ms0_51 mt mc0_17 md m0 m1 m2 m3 m4 m5]) ∧ va_S A s.heap H locs ∧ lv_has ls 7 [(6, .int (dn n)), (5, .int x5_87), (4, .int (fX5_has (ms0_51 (b + 2)) (nI i51))), (3, .int (nI i51)), (2, .int x2_51), (0, .ref (a 0)), (1, .int (nI b))]) ?_ ?_ (Q + 1) (nI 0) _ _ _ ⟨by omega, hq, hP, hD, hS, lv_sub hl [0, 1, 2, 3, 4, 5, 6] rfl⟩
      · intro x5_87 H locs ls h
        obtain ⟨hn87, hq, hP, hD, hS, hl⟩ := h
        try dsimp only at hn87 hq hP hD hl
        replace hq : (fX5_deals Q ms mc b) = (if (fX5_has (ms0_51 (b + 2)) (nI i51)) = 0 then (k51 (i51 + 1) (x2_51 + (nI 0)) (upd (upd (upd ms0_51 (b + 32 + i51) (nI 0)) (b + 40 + i51) (-1)) (b + 48 + i51) (nI 0))) else (k51 (i51 + 1) (x2_51 + (nI 1)) (upd (upd (upd ms0_51 (b + 32 + i51) x5_87) (b + 40 + i51) (nI i51)) (b + 48 + i51) (nI 0)))) := hq
        refine lv_iload hx hb dX5_deals_87 (lv_at hl 0 rfl) ?_
        refine lv_if_lt (tgt := 118) hx hb dX5_deals_89 (by decide) (fun c_89 => ?_) (fun c_89 => absurd c_89 (by decide))
        refine lv_aload_n hx hb dX5_deals_118 rfl (lv_at hl 5 rfl) ?_
        refine va_get (D := Γ.1) (ci := 5) (v := .ref (a 1)) (C := RX5) (T := TX5) (N := 10) hx hb hts hi5 hown hK hP 0 rfl rfl 0 (by decide) kf7 (fun _ h9 => h9) rfl dX5_deals_119 ?_
        refine lv_iload_n hx hb dX5_deals_122 rfl (lv_at hl 6 rfl) ?_
        refine lv_bipush (v := (nI 32)) hx hb dX5_deals_123 (by decide) ?_
        refine lv_iadd hx hb dX5_deals_125 ?_
        refine lv_eqi (y := (nI (b + 32))) (nI_add _ _) ?_
        refine lv_iload_n hx hb dX5_deals_126 rfl (lv_at hl 3 rfl) ?_
        refine lv_iadd hx hb dX5_deals_127 ?_
        refine lv_eqi (y := (nI (b + 32 + i51))) (nI_add _ _) ?_
        refine lv_iload hx hb dX5_deals_128 (lv_at hl 2 rfl) ?_
        refine lv_if_eq (tgt := 138) hx hb dX5_deals_130 (by decide) (fun c_1 => ?_) (fun c_1 => ?_)
        · have hq := hq.trans (if_pos c_1)
          refine lv_iconst (v := (nI 0)) hx hb dX5_deals_138 (by decide) ?_
          refine va_iast_n (f := ms0_51) hx hb hK hP hD hS 1 0 rfl rfl (by omega) (Nat.le_of_ble_eq_true rfl) dX5_deals_139 (fun H locs hP hD hS => ?_)
          have hP : va_P Γ.1 vwCl (wcat [moB Γ a (upd ms0_51 (b + 32 + i51) (nI 0)) mt mc0_17 md m0 m1 m2 m3 m4 m5]) H := hP
          have hD : va_D A (wcat [moB Γ a (upd ms0_51 (b + 32 + i51) (nI 0)) mt mc0_17 md m0 m1 m2 m3 m4 m5]) := hD
          refine lv_aload_n hx hb dX5_deals_140 rfl (lv_at hl 5 rfl) ?_
          refine va_get (D := Γ.1) (ci := 5) (v := .ref (a 1)) (C := RX5) (T := TX5) (N := 10) hx hb hts hi5 hown hK hP 0 rfl rfl 0 (by decide) kf7 (fun _ h9 => h9) rfl dX5_deals_141 ?_
          refine lv_iload_n hx hb dX5_deals_144 rfl (lv_at hl 6 rfl) ?_
          refine lv_bipush (v := (nI 40)) hx hb dX5_deals_145 (by decide) ?_
          refine lv_iadd hx hb dX5_deals_147 ?_
          refine lv_eqi (y := (nI (b + 40))) (nI_add _ _) ?_
          refine lv_iload_n hx hb dX5_deals_148 rfl (lv_at hl 3 rfl) ?_
          refine lv_iadd hx hb dX5_deals_149 ?_
          refine lv_eqi (y := (nI (b + 40 + i51))) (nI_add _ _) ?_
          refine lv_iload hx hb dX5_deals_150 (lv_at hl 2 rfl) ?_
          refine lv_if_eq (tgt := 159) hx hb dX5_deals_152 (by decide) (fun c_152 => ?_) (fun c_152 => absurd c_1 c_152)
          refine lv_iconst (v := (-1)) hx hb dX5_deals_159 (by decide) ?_
          refine va_iast_n (f := (upd ms0_51 (b + 32 + i51) (nI 0))) hx hb hK hP hD hS 1 0 rfl rfl (by omega) (Nat.le_of_ble_eq_true rfl) dX5_deals_160 (fun H locs hP hD hS => ?_)
          have hP : va_P Γ.1 vwCl (wcat [moB Γ a (upd (upd ms0_51 (b + 32 + i51) (nI 0)) (b + 40 + i51) (-1)) mt mc0_17 md m0 m1 m2 m3 m4 m5]) H := hP
          have hD : va_D A (wcat [moB Γ a (upd (upd ms0_51 (b + 32 + i51) (nI 0)) (b + 40 + i51) (-1)) mt mc0_17 md m0 m1 m2 m3 m4 m5]) := hD
          refine lv_aload_n hx hb dX5_deals_161 rfl (lv_at hl 5 rfl) ?_
          refine va_get (D := Γ.1) (ci := 5) (v := .ref (a 1)) (C := RX5) (T := TX5) (N := 10) hx hb hts hi5 hown hK hP 0 rfl rfl 0 (by decide) kf7 (fun _ h9 => h9) rfl dX5_deals_162 ?_
          refine lv_iload_n hx hb dX5_deals_165 rfl (lv_at hl 6 rfl) ?_
          refine lv_bipush (v := (nI 48)) hx hb dX5_deals_166 (by decide) ?_
          refine lv_iadd hx hb dX5_deals_168 ?_
          refine lv_eqi (y := (nI (b + 48))) (nI_add _ _) ?_
          refine lv_iload_n hx hb dX5_deals_169 rfl (lv_at hl 3 rfl) ?_
          refine lv_iadd hx hb dX5_deals_170 ?_
          refine lv_eqi (y := (nI (b + 48 + i51))) (nI_add _ _) ?_
          refine lv_iconst (v := (nI 0)) hx hb dX5_deals_171 (by decide) ?_
          refine va_iast_n (f := (upd (upd ms0_51 (b + 32 + i51) (nI 0)) (b + 40 + i51) (-1))) hx hb hK hP hD hS 1 0 rfl rfl (by omega) (Nat.le_of_ble_eq_true rfl) dX5_deals_172 (fun H locs hP hD hS => ?_)
          have hP : va_P Γ.1 vwCl (wcat [moB Γ a (upd (upd (upd ms0_51 (b + 32 + i51) (nI 0)) (b + 40 + i51) (-1)) (b + 48 + i51) (nI 0)) mt mc0_17 md m0 m1 m2 m3 m4 m5]) H := hP
          have hD : va_D A (wcat [moB Γ a (upd (upd (upd ms0_51 (b + 32 + i51) (nI 0)) (b + 40 + i51) (-1)) (b + 48 + i51) (nI 0)) mt mc0_17 md m0 m1 m2 m3 m4 m5]) := hD
          refine lv_iload_n hx hb dX5_deals_173 rfl (lv_at hl 4 rfl) ?_
          refine lv_iload hx hb dX5_deals_174 (lv_at hl 2 rfl) ?_
          refine lv_if_eq (tgt := 183) hx hb dX5_deals_176 (by decide) (fun c_176 => ?_) (fun c_176 => absurd c_1 c_176)
          refine lv_iconst (v := (nI 0)) hx hb dX5_deals_183 (by decide) ?_
          refine lv_iadd hx hb dX5_deals_184 ?_
          refine lv_istore_n (lv' := [(2, .int (x2_51 + (nI 0))), (6, .int (-1)), (5, .int x5_87), (4, .int (fX5_has (ms0_51 (b + 2)) (nI i51))), (3, .int (nI i51)), (0, .ref (a 0)), (1, .int (nI b))]) hx hb dX5_deals_185 rfl hl (by decide) rfl (fun ls hl => ?_)
          refine lv_iinc (v := (nI (i51 + 1))) (lv' := [(3, .int (nI (i51 + 1))), (2, .int (x2_51 + (nI 0))), (6, .int (-1)), (5, .int x5_87), (4, .int (fX5_has (ms0_51 (b + 2)) (nI i51))), (0, .ref (a 0)), (1, .int (nI b))]) hx hb dX5_deals_186 hl (k := 4) rfl (nI_1 _) (by decide) rfl (fun ls hl => ?_)
          refine lv_goto (tgt := 51) hx hb dX5_deals_189 (by decide) ?_
          exact ih51 ((i51 + 1), (x2_51 + (nI 0)), (upd (upd (upd ms0_51 (b + 32 + i51) (nI 0)) (b + 40 + i51) (-1)) (b + 48 + i51) (nI 0))) H locs ls ⟨⟨by omega, by simp only [upd]; (repeat rw [if_neg (by omega)]); assumption⟩, (hq.trans (by rw [ek51])), hP, hD, hS, lv_sub hl [0, 1, 5, 6] rfl⟩
        · have hq := hq.trans (if_neg c_1)
          refine lv_iload hx hb dX5_deals_133 (lv_at hl 1 rfl) ?_
          refine lv_goto (tgt := 139) hx hb dX5_deals_135 (by decide) ?_
          refine va_iast_n (f := ms0_51) hx hb hK hP hD hS 1 0 rfl rfl (by omega) (Nat.le_of_ble_eq_true rfl) dX5_deals_139 (fun H locs hP hD hS => ?_)
          have hP : va_P Γ.1 vwCl (wcat [moB Γ a (upd ms0_51 (b + 32 + i51) x5_87) mt mc0_17 md m0 m1 m2 m3 m4 m5]) H := hP
          have hD : va_D A (wcat [moB Γ a (upd ms0_51 (b + 32 + i51) x5_87) mt mc0_17 md m0 m1 m2 m3 m4 m5]) := hD
          refine lv_aload_n hx hb dX5_deals_140 rfl (lv_at hl 5 rfl) ?_
          refine va_get (D := Γ.1) (ci := 5) (v := .ref (a 1)) (C := RX5) (T := TX5) (N := 10) hx hb hts hi5 hown hK hP 0 rfl rfl 0 (by decide) kf7 (fun _ h9 => h9) rfl dX5_deals_141 ?_
          refine lv_iload_n hx hb dX5_deals_144 rfl (lv_at hl 6 rfl) ?_
          refine lv_bipush (v := (nI 40)) hx hb dX5_deals_145 (by decide) ?_
          refine lv_iadd hx hb dX5_deals_147 ?_
          refine lv_eqi (y := (nI (b + 40))) (nI_add _ _) ?_
          refine lv_iload_n hx hb dX5_deals_148 rfl (lv_at hl 3 rfl) ?_
          refine lv_iadd hx hb dX5_deals_149 ?_
          refine lv_eqi (y := (nI (b + 40 + i51))) (nI_add _ _) ?_
          refine lv_iload hx hb dX5_deals_150 (lv_at hl 2 rfl) ?_
          refine lv_if_eq (tgt := 159) hx hb dX5_deals_152 (by decide) (fun c_152 => absurd c_152 c_1) (fun c_152 => ?_)
          refine lv_iload_n hx hb dX5_deals_155 rfl (lv_at hl 3 rfl) ?_
          refine lv_goto (tgt := 160) hx hb dX5_deals_156 (by decide) ?_
          refine va_iast_n (f := (upd ms0_51 (b + 32 + i51) x5_87)) hx hb hK hP hD hS 1 0 rfl rfl (by omega) (Nat.le_of_ble_eq_true rfl) dX5_deals_160 (fun H locs hP hD hS => ?_)
          have hP : va_P Γ.1 vwCl (wcat [moB Γ a (upd (upd ms0_51 (b + 32 + i51) x5_87) (b + 40 + i51) (nI i51)) mt mc0_17 md m0 m1 m2 m3 m4 m5]) H := hP
          have hD : va_D A (wcat [moB Γ a (upd (upd ms0_51 (b + 32 + i51) x5_87) (b + 40 + i51) (nI i51)) mt mc0_17 md m0 m1 m2 m3 m4 m5]) := hD
          refine lv_aload_n hx hb dX5_deals_161 rfl (lv_at hl 5 rfl) ?_
          refine va_get (D := Γ.1) (ci := 5) (v := .ref (a 1)) (C := RX5) (T := TX5) (N := 10) hx hb hts hi5 hown hK hP 0 rfl rfl 0 (by decide) kf7 (fun _ h9 => h9) rfl dX5_deals_162 ?_
          refine lv_iload_n hx hb dX5_deals_165 rfl (lv_at hl 6 rfl) ?_
          refine lv_bipush (v := (nI 48)) hx hb dX5_deals_166 (by decide) ?_
          refine lv_iadd hx hb dX5_deals_168 ?_
          refine lv_eqi (y := (nI (b + 48))) (nI_add _ _) ?_
          refine lv_iload_n hx hb dX5_deals_169 rfl (lv_at hl 3 rfl) ?_
          refine lv_iadd hx hb dX5_deals_170 ?_
          refine lv_eqi (y := (nI (b + 48 + i51))) (nI_add _ _) ?_
          refine lv_iconst (v := (nI 0)) hx hb dX5_deals_171 (by decide) ?_
          refine va_iast_n (f := (upd (upd ms0_51 (b + 32 + i51) x5_87) (b + 40 + i51) (nI i51))) hx hb hK hP hD hS 1 0 rfl rfl (by omega) (Nat.le_of_ble_eq_true rfl) dX5_deals_172 (fun H locs hP hD hS => ?_)
          have hP : va_P Γ.1 vwCl (wcat [moB Γ a (upd (upd (upd ms0_51 (b + 32 + i51) x5_87) (b + 40 + i51) (nI i51)) (b + 48 + i51) (nI 0)) mt mc0_17 md m0 m1 m2 m3 m4 m5]) H := hP
          have hD : va_D A (wcat [moB Γ a (upd (upd (upd ms0_51 (b + 32 + i51) x5_87) (b + 40 + i51) (nI i51)) (b + 48 + i51) (nI 0)) mt mc0_17 md m0 m1 m2 m3 m4 m5]) := hD
          refine lv_iload_n hx hb dX5_deals_173 rfl (lv_at hl 4 rfl) ?_
          refine lv_iload hx hb dX5_deals_174 (lv_at hl 2 rfl) ?_
          refine lv_if_eq (tgt := 183) hx hb dX5_deals_176 (by decide) (fun c_176 => absurd c_176 c_1) (fun c_176 => ?_)
          refine lv_iconst (v := (nI 1)) hx hb dX5_deals_179 (by decide) ?_
          refine lv_goto (tgt := 184) hx hb dX5_deals_180 (by decide) ?_
          refine lv_iadd hx hb dX5_deals_184 ?_
          refine lv_istore_n (lv' := [(2, .int (x2_51 + (nI 1))), (6, .int (-1)), (5, .int x5_87), (4, .int (fX5_has (ms0_51 (b + 2)) (nI i51))), (3, .int (nI i51)), (0, .ref (a 0)), (1, .int (nI b))]) hx hb dX5_deals_185 rfl hl (by decide) rfl (fun ls hl => ?_)
          refine lv_iinc (v := (nI (i51 + 1))) (lv' := [(3, .int (nI (i51 + 1))), (2, .int (x2_51 + (nI 1))), (6, .int (-1)), (5, .int x5_87), (4, .int (fX5_has (ms0_51 (b + 2)) (nI i51))), (0, .ref (a 0)), (1, .int (nI b))]) hx hb dX5_deals_186 hl (k := 4) rfl (nI_1 _) (by decide) rfl (fun ls hl => ?_)
          refine lv_goto (tgt := 51) hx hb dX5_deals_189 (by decide) ?_
          exact ih51 ((i51 + 1), (x2_51 + (nI 1)), (upd (upd (upd ms0_51 (b + 32 + i51) x5_87) (b + 40 + i51) (nI i51)) (b + 48 + i51) (nI 0))) H locs ls ⟨⟨by omega, by simp only [upd]; (repeat rw [if_neg (by omega)]); assumption⟩, (hq.trans (by rw [ek51])), hP, hD, hS, lv_sub hl [0, 1, 5, 6] rfl⟩
      · intro n87 ih87 x5_87 H locs ls h
        obtain ⟨hn87, hq, hP, hD, hS, hl⟩ := h
        try dsimp only at hn87 hq hP hD hl
        replace hq : (fX5_deals Q ms mc b) = (fX5_deals_L87 k51 b mc0_17 i51 x2_51 ms0_51 n87 (((x5_87 * (nI (i51 + 1))) + (mc0_17 n87)) - ((x5_87 * (nI (i51 + 1))) + (mc0_17 n87)) / (nI 251) * (nI 251))) := hq
        refine lv_iload hx hb dX5_deals_87 (lv_at hl 0 rfl) ?_
        refine lv_if_lt (tgt := 118) hx hb dX5_deals_89 (by decide) (fun c_89 => absurd c_89 (nI_pos (by omega))) (fun c_89 => ?_)
        refine lv_iload hx hb dX5_deals_92 (lv_at hl 1 rfl) ?_
        refine lv_iload_n hx hb dX5_deals_94 rfl (lv_at hl 3 rfl) ?_
        refine lv_iconst (v := (nI 1)) hx hb dX5_deals_95 (by decide) ?_
        refine lv_iadd hx hb dX5_deals_96 ?_
        refine lv_eqi (y := (nI (i51 + 1))) (nI_add _ _) ?_
        refine lv_imul hx hb dX5_deals_97 ?_
        refine lv_aload_n hx hb dX5_deals_98 rfl (lv_at hl 5 rfl) ?_
        refine va_get (D := Γ.1) (ci := 5) (v := .ref (a 3)) (C := RX5) (T := TX5) (N := 10) hx hb hts hi5 hown hK hP 0 rfl rfl 5 (by decide) kf17 (fun _ h9 => h9) rfl dX5_deals_99 ?_
        refine lv_iload hx hb dX5_deals_102 (lv_at hl 0 rfl) ?_
        refine va_iald_n (f := mc0_17) hx hb hK hP 3 0 rfl rfl (by omega) (Nat.le_of_ble_eq_true rfl) dX5_deals_104 ?_
        refine lv_iadd hx hb dX5_deals_105 ?_
        refine lv_sipush (v := (nI 251)) hx hb dX5_deals_106 (by decide) ?_
        refine lv_irem hx hb dX5_deals_109 (by decide) ?_
        refine lv_istore (lv' := [(5, .int (((x5_87 * (nI (i51 + 1))) + (mc0_17 n87)) - ((x5_87 * (nI (i51 + 1))) + (mc0_17 n87)) / (nI 251) * (nI 251))), (6, .int (nI n87)), (4, .int (fX5_has (ms0_51 (b + 2)) (nI i51))), (3, .int (nI i51)), (2, .int x2_51), (0, .ref (a 0)), (1, .int (nI b))]) hx hb dX5_deals_110 hl (by decide) rfl (fun ls hl => ?_)
        refine lv_iinc (v := (dn n87)) (lv' := [(6, .int (dn n87)), (5, .int (((x5_87 * (nI (i51 + 1))) + (mc0_17 n87)) - ((x5_87 * (nI (i51 + 1))) + (mc0_17 n87)) / (nI 251) * (nI 251))), (4, .int (fX5_has (ms0_51 (b + 2)) (nI i51))), (3, .int (nI i51)), (2, .int x2_51), (0, .ref (a 0)), (1, .int (nI b))]) hx hb dX5_deals_112 hl (k := 1) rfl (dn_m1 _) (by decide) rfl (fun ls hl => ?_)
        refine lv_goto (tgt := 87) hx hb dX5_deals_115 (by decide) ?_
        exact ih87 (((x5_87 * (nI (i51 + 1))) + (mc0_17 n87)) - ((x5_87 * (nI (i51 + 1))) + (mc0_17 n87)) / (nI 251) * (nI 251)) H locs ls ⟨by omega, hq, hP, hD, hS, lv_sub hl [0, 1, 2, 3, 4, 5, 6] rfl⟩
  · intro n17 ih17 ⟨i17, ms0_17, mc0_17⟩ H locs ls h
    obtain ⟨hn17, hq, hP, hD, hS, hl⟩ := h
    try dsimp only at hn17 hq hP hD hl
    obtain ⟨hn17, hv17⟩ := hn17
    replace hq : (fX5_deals Q ms mc b) = (fX5_deals_L17 Q b n17 (i17 + 1) (upd ms0_17 (b) (drX (ms0_17 (b)))) (upd mc0_17 i17 (drV (ms0_17 (b))))) := hq
    refine lv_iload_n hx hb dX5_deals_17 rfl (lv_at hl 0 rfl) ?_
    refine lv_aload_n hx hb dX5_deals_18 rfl (lv_at hl 1 rfl) ?_
    refine va_get (D := Γ.1) (ci := 5) (v := .ref (a 1)) (C := RX5) (T := TX5) (N := 10) hx hb hts hi5 hown hK hP 0 rfl rfl 0 (by decide) kf7 (fun _ h9 => h9) rfl dX5_deals_19 ?_
    refine lv_iload_n hx hb dX5_deals_22 rfl (lv_at hl 2 rfl) ?_
    refine lv_bipush (v := (nI 29)) hx hb dX5_deals_23 (by decide) ?_
    refine lv_iadd hx hb dX5_deals_25 ?_
    refine lv_eqi (y := (nI (b + 29))) (nI_add _ _) ?_
    refine va_iald_n (f := ms0_17) hx hb hK hP 1 0 rfl rfl (by omega) (Nat.le_of_ble_eq_true rfl) dX5_deals_26 ?_
    refine lv_eqi (y := (nI (Q + 1))) (hv17) ?_
    refine lv_icmp_ge (tgt := 47) hx hb dX5_deals_27 (by decide) (fun c_27 => absurd c_27 (nI_ge (by omega) (by omega))) (fun c_27 => ?_)
    refine lv_aload_n hx hb dX5_deals_30 rfl (lv_at hl 1 rfl) ?_
    refine va_get (D := Γ.1) (ci := 5) (v := .ref (a 3)) (C := RX5) (T := TX5) (N := 10) hx hb hts hi5 hown hK hP 0 rfl rfl 5 (by decide) kf17 (fun _ h9 => h9) rfl dX5_deals_31 ?_
    refine lv_iload_n hx hb dX5_deals_34 rfl (lv_at hl 0 rfl) ?_
    refine lv_aload_n hx hb dX5_deals_35 rfl (lv_at hl 1 rfl) ?_
    refine lv_iload_n hx hb dX5_deals_36 rfl (lv_at hl 2 rfl) ?_
    refine cMI (bc' := [moB Γ a (upd ms0_17 (b) (drX (ms0_17 (b)))) mt mc0_17 md m0 m1 m2 m3 m4 m5]) (va_runV (As := [.int (nI b)]) (rest := [.int (nI i17), .ref (a 3)]) ⟨hx, hb, hml, hown, hts⟩ ((nX5_draws l Γ a ms0_17 mt mc0_17 md m0 m1 m2 m3 m4 m5 (b) (by first | assumption | omega)) _) (cwV 1 hts gX5_deals_X5_draws rfl rfl rfl (by decide +kernel) ⟨Nat.le_of_ble_eq_true rfl, Nat.le_of_ble_eq_true rfl⟩) ⟨wPre_blind, va_recv hK hP (ci := 5) (q0 := 0) rfl rfl, wPre_mk hP hD hK hS hA hAB hAm [0] rfl rfl⟩ rfl rfl hl.1 rfl (lv_room (Nat.le_of_ble_eq_true rfl)) dX5_deals_37 ⟨Nat.zero_le _, Nat.zero_le _⟩) hP hD hS hA [0] rfl rfl (bs' := [moB Γ a (upd ms0_17 (b) (drX (ms0_17 (b)))) mt mc0_17 md m0 m1 m2 m3 m4 m5]) rfl (fun H locs hP hD hS => ?_)
    refine va_iast_n (f := mc0_17) hx hb hK hP hD hS 3 0 rfl rfl (by omega) (Nat.le_of_ble_eq_true rfl) dX5_deals_40 (fun H locs hP hD hS => ?_)
    have hP : va_P Γ.1 vwCl (wcat [moB Γ a (upd ms0_17 (b) (drX (ms0_17 (b)))) mt (upd mc0_17 i17 (drV (ms0_17 (b)))) md m0 m1 m2 m3 m4 m5]) H := hP
    have hD : va_D A (wcat [moB Γ a (upd ms0_17 (b) (drX (ms0_17 (b)))) mt (upd mc0_17 i17 (drV (ms0_17 (b)))) md m0 m1 m2 m3 m4 m5]) := hD
    refine lv_iinc (v := (nI (i17 + 1))) (lv' := [(2, .int (nI (i17 + 1))), (0, .ref (a 0)), (1, .int (nI b))]) hx hb dX5_deals_41 hl (k := 0) rfl (nI_1 _) (by decide) rfl (fun ls hl => ?_)
    refine lv_goto (tgt := 17) hx hb dX5_deals_44 (by decide) ?_
    exact ih17 ((i17 + 1), (upd ms0_17 (b) (drX (ms0_17 (b)))), (upd mc0_17 i17 (drV (ms0_17 (b))))) H locs ls ⟨⟨by omega, by simp only [upd]; (repeat rw [if_neg (by omega)]); assumption⟩, hq, hP, hD, hS, lv_sub hl [0, 1, 2] rfl⟩
def fX5_keeper (S : Nat) (ms : (Nat → Int32)) : Int32 × (Nat → Int32) × Int32 × Int32 := (if (nI 8) ≤ (ms 1) then (if (gsR (nI 0) (nI 1)) = 0 then ((nI 0), ms, (nI S), (gsT (nI 0) (nI 1))) else ((((upd (upd (svR (S) ms) 2 (((svR (S) ms) 2) ||| ((nI 1) <<< (((svR (S) ms) 1) &&& 31)))) 1 (((upd (svR (S) ms) 2 (((svR (S) ms) 2) ||| ((nI 1) <<< (((svR (S) ms) 1) &&& 31)))) 1) + (nI 1))) 1) - (nI 1)), (upd (upd (svR (S) ms) 2 (((svR (S) ms) 2) ||| ((nI 1) <<< (((svR (S) ms) 1) &&& 31)))) 1 (((upd (svR (S) ms) 2 (((svR (S) ms) 2) ||| ((nI 1) <<< (((svR (S) ms) 1) &&& 31)))) 1) + (nI 1))), (nI (svS (S))), (gsT (nI 0) (nI 1)))) else (if (gsR (nI 1) (nI 1)) = 0 then ((nI 0), ms, (nI S), (gsT (nI 1) (nI 1))) else ((((upd (upd (svR (S) ms) 2 (((svR (S) ms) 2) ||| ((nI 1) <<< (((svR (S) ms) 1) &&& 31)))) 1 (((upd (svR (S) ms) 2 (((svR (S) ms) 2) ||| ((nI 1) <<< (((svR (S) ms) 1) &&& 31)))) 1) + (nI 1))) 1) - (nI 1)), (upd (upd (svR (S) ms) 2 (((svR (S) ms) 2) ||| ((nI 1) <<< (((svR (S) ms) 1) &&& 31)))) 1 (((upd (svR (S) ms) 2 (((svR (S) ms) 2) ||| ((nI 1) <<< (((svR (S) ms) 1) &&& 31)))) 1) + (nI 1))), (nI (svS (S))), (gsT (nI 1) (nI 1)))))
set_option maxHeartbeats 4000000 in
set_option maxRecDepth 100000 in
theorem kX5_keeper (l : Launch) (Γ : wG) (a : Nat → Nat) (S : Nat) (ms : (Nat → Int32)) (mt : (Nat → Int32)) (mc : (Nat → Int32)) (md : (Nat → Int32)) (m1 : Int32) (m2 : Int32) (m3 : Int32) (m4 : Int32) (m5 : Int32) (hS6 : S ≤ 6) : MI l Γ yX5_keeper wsX5_keeper ({ frames := 2, cells := 0, slots := 0, locals := 44 }) [.ref (a 0)] [moB Γ a ms mt mc md (nI S) m1 m2 m3 m4 m5] [moB Γ a (fX5_keeper S ms).2.1 mt mc md (fX5_keeper S ms).2.2.1 (fX5_keeper S ms).2.2.2 m2 m3 m4 m5] (fX5_keeper S ms).1 := by
  intro sz
  refine Met.ofW (cc := cX5_keeper) (maxL := 1) (ret := (some .int)) (by decide) rfl ?_
  intro p e s m args below meth c s₁ B hml hv
  obtain ⟨rfl, hsz, hP, hK, hD0, hAm⟩ := hv
  have hx := B.exec
  have hb := B.bytes
  have hr := B.returns
  have hts := atoms_spec (ws := wsX5_keeper) B.pre
  have hown : s.vm.findClass RX5 = some m.cls := findClass_of_methodNamed B.named
  have hlocks := B.notSynchronized
  subst hsz
  have hD := hD0.self (sz := s.heap.size)
  generalize hAe : va_A (wcat [moB Γ a ms mt mc md (nI S) m1 m2 m3 m4 m5]) s.heap.size = A at hD hAm ⊢
  have hA : ∀ q : Nat, s.heap.size ≤ q → A q := fun q h => by rw [← hAe]; exact Or.inr h
  have hAB : ∀ q : Nat, A q → A q := fun _ h => h
  have hS : va_S A s.heap s.heap [] := va_S.rf
  have hl := lv_entry ([.ref (a 0)]) (n := 1) (Nat.le_of_ble_eq_true rfl)
  rw [lg_entry_eq]
  generalize (lg_sl ([.ref (a 0)]) ++ List.replicate (1 - (lg_sl ([.ref (a 0)])).length) Slot.unset).toArray = ls at hl ⊢
  have hl : lv_has ls 1 [(0, .ref (a 0))] := hl
  have hi5 : ∀ w ∈ wsX50, w ∈ wsX5_keeper := by decide +kernel
  have kf7 := hts (.fieldLink RX5 7 "CapsuleKeepersModel" "s" "[I") (by decide +kernel)
  have hq : (fX5_keeper S ms) = (if (nI 8) ≤ (ms 1) then (if (gsR (nI 0) (nI 1)) = 0 then ((nI 0), ms, (nI S), (gsT (nI 0) (nI 1))) else ((((upd (upd (svR (S) ms) 2 (((svR (S) ms) 2) ||| ((nI 1) <<< (((svR (S) ms) 1) &&& 31)))) 1 (((upd (svR (S) ms) 2 (((svR (S) ms) 2) ||| ((nI 1) <<< (((svR (S) ms) 1) &&& 31)))) 1) + (nI 1))) 1) - (nI 1)), (upd (upd (svR (S) ms) 2 (((svR (S) ms) 2) ||| ((nI 1) <<< (((svR (S) ms) 1) &&& 31)))) 1 (((upd (svR (S) ms) 2 (((svR (S) ms) 2) ||| ((nI 1) <<< (((svR (S) ms) 1) &&& 31)))) 1) + (nI 1))), (nI (svS (S))), (gsT (nI 0) (nI 1)))) else (if (gsR (nI 1) (nI 1)) = 0 then ((nI 0), ms, (nI S), (gsT (nI 1) (nI 1))) else ((((upd (upd (svR (S) ms) 2 (((svR (S) ms) 2) ||| ((nI 1) <<< (((svR (S) ms) 1) &&& 31)))) 1 (((upd (svR (S) ms) 2 (((svR (S) ms) 2) ||| ((nI 1) <<< (((svR (S) ms) 1) &&& 31)))) 1) + (nI 1))) 1) - (nI 1)), (upd (upd (svR (S) ms) 2 (((svR (S) ms) 2) ||| ((nI 1) <<< (((svR (S) ms) 1) &&& 31)))) 1 (((upd (svR (S) ms) 2 (((svR (S) ms) 2) ||| ((nI 1) <<< (((svR (S) ms) 1) &&& 31)))) 1) + (nI 1))), (nI (svS (S))), (gsT (nI 1) (nI 1))))) := rfl
  refine lv_aload_n hx hb dX5_keeper_0 rfl (lv_at hl 0 rfl) ?_
  refine lv_aload_n hx hb dX5_keeper_1 rfl (lv_at hl 0 rfl) ?_
  refine va_get (D := Γ.1) (ci := 5) (v := .ref (a 1)) (C := RX5) (T := TX5) (N := 10) hx hb hts hi5 hown hK hP 0 rfl rfl 0 (by decide) kf7 (fun _ h9 => h9) rfl dX5_keeper_2 ?_
  refine lv_iconst (v := (nI 1)) hx hb dX5_keeper_5 (by decide) ?_
  refine va_iald_n (f := ms) hx hb hK hP 1 0 rfl rfl (by omega) (Nat.le_of_ble_eq_true rfl) dX5_keeper_6 ?_
  refine lv_bipush (v := (nI 8)) hx hb dX5_keeper_7 (by decide) ?_
  refine lv_icmp_ge (tgt := 16) hx hb dX5_keeper_9 (by decide) (fun c_1 => ?_) (fun c_1 => ?_)
  · have hq := hq.trans (if_pos c_1)
    refine lv_iconst (v := (nI 0)) hx hb dX5_keeper_16 (by decide) ?_
    refine lv_iconst (v := (nI 1)) hx hb dX5_keeper_17 (by decide) ?_
    refine cMI (bc' := [moB Γ a ms mt mc md (nI S) (gsT (nI 0) (nI 1)) m2 m3 m4 m5]) (va_runV (As := [.int (nI 0), .int (nI 1)]) (rest := []) ⟨hx, hb, hml, hown, hts⟩ ((nX5_goes l Γ a ms mt mc md (nI S) m1 m2 m3 m4 m5 (nI 0) (nI 1)) _) (cwV 2 hts gX5_keeper_X5_goes rfl rfl rfl (by decide +kernel) ⟨Nat.le_of_ble_eq_true rfl, Nat.le_of_ble_eq_true rfl⟩) ⟨wPre_blind, va_recv hK hP (ci := 5) (q0 := 0) rfl rfl, wPre_mk hP hD hK hS hA hAB hAm [0] rfl rfl⟩ rfl rfl hl.1 rfl (lv_room (Nat.le_of_ble_eq_true rfl)) dX5_keeper_18 ⟨Nat.zero_le _, Nat.zero_le _⟩) hP hD hS hA [0] rfl rfl (bs' := [moB Γ a ms mt mc md (nI S) (gsT (nI 0) (nI 1)) m2 m3 m4 m5]) rfl (fun H locs hP hD hS => ?_)
    refine lv_if_ne (tgt := 26) hx hb dX5_keeper_21 (by decide) (fun c_2 => ?_) (fun c_2 => ?_)
    · have hq := hq.trans (if_neg c_2)
      refine lv_aload_n hx hb dX5_keeper_26 rfl (lv_at hl 0 rfl) ?_
      refine cMV (bc' := [moB Γ a (svR (S) ms) mt mc md (nI (svS (S))) (gsT (nI 0) (nI 1)) m2 m3 m4 m5]) (va_runV (As := []) (rest := []) ⟨hx, hb, hml, hown, hts⟩ ((nX5_saves l Γ a (S) ms mt mc md (gsT (nI 0) (nI 1)) m2 m3 m4 m5 (by first | assumption | omega)) _) (cwV 0 hts gX5_keeper_X5_saves rfl rfl rfl (by decide +kernel) ⟨Nat.le_of_ble_eq_true rfl, Nat.le_of_ble_eq_true rfl⟩) ⟨wPre_blind, va_recv hK hP (ci := 5) (q0 := 0) rfl rfl, wPre_mk hP hD hK hS hA hAB hAm [0] rfl rfl⟩ rfl rfl hl.1 rfl (lv_room (Nat.le_of_ble_eq_true rfl)) dX5_keeper_27 ⟨Nat.zero_le _, Nat.zero_le _⟩) hP hD hS hA [0] rfl rfl (bs' := [moB Γ a (svR (S) ms) mt mc md (nI (svS (S))) (gsT (nI 0) (nI 1)) m2 m3 m4 m5]) rfl (fun H locs hP hD hS => ?_)
      refine lv_aload_n hx hb dX5_keeper_30 rfl (lv_at hl 0 rfl) ?_
      refine va_get (D := Γ.1) (ci := 5) (v := .ref (a 1)) (C := RX5) (T := TX5) (N := 10) hx hb hts hi5 hown hK hP 0 rfl rfl 0 (by decide) kf7 (fun _ h9 => h9) rfl dX5_keeper_31 ?_
      refine lv_iconst (v := (nI 2)) hx hb dX5_keeper_34 (by decide) ?_
      refine lv_dup2_11 hx hb dX5_keeper_35 rfl rfl ?_
      refine va_iald_n (f := (svR (S) ms)) hx hb hK hP 1 0 rfl rfl (by omega) (Nat.le_of_ble_eq_true rfl) dX5_keeper_36 ?_
      refine lv_iconst (v := (nI 1)) hx hb dX5_keeper_37 (by decide) ?_
      refine lv_aload_n hx hb dX5_keeper_38 rfl (lv_at hl 0 rfl) ?_
      refine va_get (D := Γ.1) (ci := 5) (v := .ref (a 1)) (C := RX5) (T := TX5) (N := 10) hx hb hts hi5 hown hK hP 0 rfl rfl 0 (by decide) kf7 (fun _ h9 => h9) rfl dX5_keeper_39 ?_
      refine lv_iconst (v := (nI 1)) hx hb dX5_keeper_42 (by decide) ?_
      refine va_iald_n (f := (svR (S) ms)) hx hb hK hP 1 0 rfl rfl (by omega) (Nat.le_of_ble_eq_true rfl) dX5_keeper_43 ?_
      refine lv_ishl hx hb dX5_keeper_44 ?_
      refine lv_ior hx hb dX5_keeper_45 ?_
      refine va_iast_n (f := (svR (S) ms)) hx hb hK hP hD hS 1 0 rfl rfl (by omega) (Nat.le_of_ble_eq_true rfl) dX5_keeper_46 (fun H locs hP hD hS => ?_)
      have hP : va_P Γ.1 vwCl (wcat [moB Γ a (upd (svR (S) ms) 2 (((svR (S) ms) 2) ||| ((nI 1) <<< (((svR (S) ms) 1) &&& 31)))) mt mc md (nI (svS (S))) (gsT (nI 0) (nI 1)) m2 m3 m4 m5]) H := hP
      have hD : va_D A (wcat [moB Γ a (upd (svR (S) ms) 2 (((svR (S) ms) 2) ||| ((nI 1) <<< (((svR (S) ms) 1) &&& 31)))) mt mc md (nI (svS (S))) (gsT (nI 0) (nI 1)) m2 m3 m4 m5]) := hD
      refine lv_aload_n hx hb dX5_keeper_47 rfl (lv_at hl 0 rfl) ?_
      refine va_get (D := Γ.1) (ci := 5) (v := .ref (a 1)) (C := RX5) (T := TX5) (N := 10) hx hb hts hi5 hown hK hP 0 rfl rfl 0 (by decide) kf7 (fun _ h9 => h9) rfl dX5_keeper_48 ?_
      refine lv_iconst (v := (nI 1)) hx hb dX5_keeper_51 (by decide) ?_
      refine lv_dup2_11 hx hb dX5_keeper_52 rfl rfl ?_
      refine va_iald_n (f := (upd (svR (S) ms) 2 (((svR (S) ms) 2) ||| ((nI 1) <<< (((svR (S) ms) 1) &&& 31))))) hx hb hK hP 1 0 rfl rfl (by omega) (Nat.le_of_ble_eq_true rfl) dX5_keeper_53 ?_
      refine lv_iconst (v := (nI 1)) hx hb dX5_keeper_54 (by decide) ?_
      refine lv_iadd hx hb dX5_keeper_55 ?_
      refine va_iast_n (f := (upd (svR (S) ms) 2 (((svR (S) ms) 2) ||| ((nI 1) <<< (((svR (S) ms) 1) &&& 31))))) hx hb hK hP hD hS 1 0 rfl rfl (by omega) (Nat.le_of_ble_eq_true rfl) dX5_keeper_56 (fun H locs hP hD hS => ?_)
      have hP : va_P Γ.1 vwCl (wcat [moB Γ a (upd (upd (svR (S) ms) 2 (((svR (S) ms) 2) ||| ((nI 1) <<< (((svR (S) ms) 1) &&& 31)))) 1 (((upd (svR (S) ms) 2 (((svR (S) ms) 2) ||| ((nI 1) <<< (((svR (S) ms) 1) &&& 31)))) 1) + (nI 1))) mt mc md (nI (svS (S))) (gsT (nI 0) (nI 1)) m2 m3 m4 m5]) H := hP
      have hD : va_D A (wcat [moB Γ a (upd (upd (svR (S) ms) 2 (((svR (S) ms) 2) ||| ((nI 1) <<< (((svR (S) ms) 1) &&& 31)))) 1 (((upd (svR (S) ms) 2 (((svR (S) ms) 2) ||| ((nI 1) <<< (((svR (S) ms) 1) &&& 31)))) 1) + (nI 1))) mt mc md (nI (svS (S))) (gsT (nI 0) (nI 1)) m2 m3 m4 m5]) := hD
      refine lv_aload_n hx hb dX5_keeper_57 rfl (lv_at hl 0 rfl) ?_
      refine va_get (D := Γ.1) (ci := 5) (v := .ref (a 1)) (C := RX5) (T := TX5) (N := 10) hx hb hts hi5 hown hK hP 0 rfl rfl 0 (by decide) kf7 (fun _ h9 => h9) rfl dX5_keeper_58 ?_
      refine lv_iconst (v := (nI 1)) hx hb dX5_keeper_61 (by decide) ?_
      refine va_iald_n (f := (upd (upd (svR (S) ms) 2 (((svR (S) ms) 2) ||| ((nI 1) <<< (((svR (S) ms) 1) &&& 31)))) 1 (((upd (svR (S) ms) 2 (((svR (S) ms) 2) ||| ((nI 1) <<< (((svR (S) ms) 1) &&& 31)))) 1) + (nI 1)))) hx hb hK hP 1 0 rfl rfl (by omega) (Nat.le_of_ble_eq_true rfl) dX5_keeper_62 ?_
      refine lv_iconst (v := (nI 1)) hx hb dX5_keeper_63 (by decide) ?_
      refine lv_isub hx hb dX5_keeper_64 ?_
      exact W.iret (v := (((upd (upd (svR (S) ms) 2 (((svR (S) ms) 2) ||| ((nI 1) <<< (((svR (S) ms) 1) &&& 31)))) 1 (((upd (svR (S) ms) 2 (((svR (S) ms) 2) ||| ((nI 1) <<< (((svR (S) ms) 1) &&& 31)))) 1) + (nI 1))) 1) - (nI 1))) hx hb hr (fun t ht hW => eMI (by rw [hq]; exact hP) hS ht (by rw [hq])) hS.2.2 dX5_keeper_65
    · have hq := hq.trans (if_pos c_2)
      refine lv_iconst (v := (nI 0)) hx hb dX5_keeper_24 (by decide) ?_
      exact W.iret (v := (nI 0)) hx hb hr (fun t ht hW => eMI (by rw [hq]; exact hP) hS ht (by rw [hq])) hS.2.2 dX5_keeper_25
  · have hq := hq.trans (if_neg c_1)
    refine lv_iconst (v := (nI 1)) hx hb dX5_keeper_12 (by decide) ?_
    refine lv_goto (tgt := 17) hx hb dX5_keeper_13 (by decide) ?_
    refine lv_iconst (v := (nI 1)) hx hb dX5_keeper_17 (by decide) ?_
    refine cMI (bc' := [moB Γ a ms mt mc md (nI S) (gsT (nI 1) (nI 1)) m2 m3 m4 m5]) (va_runV (As := [.int (nI 1), .int (nI 1)]) (rest := []) ⟨hx, hb, hml, hown, hts⟩ ((nX5_goes l Γ a ms mt mc md (nI S) m1 m2 m3 m4 m5 (nI 1) (nI 1)) _) (cwV 2 hts gX5_keeper_X5_goes rfl rfl rfl (by decide +kernel) ⟨Nat.le_of_ble_eq_true rfl, Nat.le_of_ble_eq_true rfl⟩) ⟨wPre_blind, va_recv hK hP (ci := 5) (q0 := 0) rfl rfl, wPre_mk hP hD hK hS hA hAB hAm [0] rfl rfl⟩ rfl rfl hl.1 rfl (lv_room (Nat.le_of_ble_eq_true rfl)) dX5_keeper_18 ⟨Nat.zero_le _, Nat.zero_le _⟩) hP hD hS hA [0] rfl rfl (bs' := [moB Γ a ms mt mc md (nI S) (gsT (nI 1) (nI 1)) m2 m3 m4 m5]) rfl (fun H locs hP hD hS => ?_)
    refine lv_if_ne (tgt := 26) hx hb dX5_keeper_21 (by decide) (fun c_3 => ?_) (fun c_3 => ?_)
    · have hq := hq.trans (if_neg c_3)
      refine lv_aload_n hx hb dX5_keeper_26 rfl (lv_at hl 0 rfl) ?_
      refine cMV (bc' := [moB Γ a (svR (S) ms) mt mc md (nI (svS (S))) (gsT (nI 1) (nI 1)) m2 m3 m4 m5]) (va_runV (As := []) (rest := []) ⟨hx, hb, hml, hown, hts⟩ ((nX5_saves l Γ a (S) ms mt mc md (gsT (nI 1) (nI 1)) m2 m3 m4 m5 (by first | assumption | omega)) _) (cwV 0 hts gX5_keeper_X5_saves rfl rfl rfl (by decide +kernel) ⟨Nat.le_of_ble_eq_true rfl, Nat.le_of_ble_eq_true rfl⟩) ⟨wPre_blind, va_recv hK hP (ci := 5) (q0 := 0) rfl rfl, wPre_mk hP hD hK hS hA hAB hAm [0] rfl rfl⟩ rfl rfl hl.1 rfl (lv_room (Nat.le_of_ble_eq_true rfl)) dX5_keeper_27 ⟨Nat.zero_le _, Nat.zero_le _⟩) hP hD hS hA [0] rfl rfl (bs' := [moB Γ a (svR (S) ms) mt mc md (nI (svS (S))) (gsT (nI 1) (nI 1)) m2 m3 m4 m5]) rfl (fun H locs hP hD hS => ?_)
      refine lv_aload_n hx hb dX5_keeper_30 rfl (lv_at hl 0 rfl) ?_
      refine va_get (D := Γ.1) (ci := 5) (v := .ref (a 1)) (C := RX5) (T := TX5) (N := 10) hx hb hts hi5 hown hK hP 0 rfl rfl 0 (by decide) kf7 (fun _ h9 => h9) rfl dX5_keeper_31 ?_
      refine lv_iconst (v := (nI 2)) hx hb dX5_keeper_34 (by decide) ?_
      refine lv_dup2_11 hx hb dX5_keeper_35 rfl rfl ?_
      refine va_iald_n (f := (svR (S) ms)) hx hb hK hP 1 0 rfl rfl (by omega) (Nat.le_of_ble_eq_true rfl) dX5_keeper_36 ?_
      refine lv_iconst (v := (nI 1)) hx hb dX5_keeper_37 (by decide) ?_
      refine lv_aload_n hx hb dX5_keeper_38 rfl (lv_at hl 0 rfl) ?_
      refine va_get (D := Γ.1) (ci := 5) (v := .ref (a 1)) (C := RX5) (T := TX5) (N := 10) hx hb hts hi5 hown hK hP 0 rfl rfl 0 (by decide) kf7 (fun _ h9 => h9) rfl dX5_keeper_39 ?_
      refine lv_iconst (v := (nI 1)) hx hb dX5_keeper_42 (by decide) ?_
      refine va_iald_n (f := (svR (S) ms)) hx hb hK hP 1 0 rfl rfl (by omega) (Nat.le_of_ble_eq_true rfl) dX5_keeper_43 ?_
      refine lv_ishl hx hb dX5_keeper_44 ?_
      refine lv_ior hx hb dX5_keeper_45 ?_
      refine va_iast_n (f := (svR (S) ms)) hx hb hK hP hD hS 1 0 rfl rfl (by omega) (Nat.le_of_ble_eq_true rfl) dX5_keeper_46 (fun H locs hP hD hS => ?_)
      have hP : va_P Γ.1 vwCl (wcat [moB Γ a (upd (svR (S) ms) 2 (((svR (S) ms) 2) ||| ((nI 1) <<< (((svR (S) ms) 1) &&& 31)))) mt mc md (nI (svS (S))) (gsT (nI 1) (nI 1)) m2 m3 m4 m5]) H := hP
      have hD : va_D A (wcat [moB Γ a (upd (svR (S) ms) 2 (((svR (S) ms) 2) ||| ((nI 1) <<< (((svR (S) ms) 1) &&& 31)))) mt mc md (nI (svS (S))) (gsT (nI 1) (nI 1)) m2 m3 m4 m5]) := hD
      refine lv_aload_n hx hb dX5_keeper_47 rfl (lv_at hl 0 rfl) ?_
      refine va_get (D := Γ.1) (ci := 5) (v := .ref (a 1)) (C := RX5) (T := TX5) (N := 10) hx hb hts hi5 hown hK hP 0 rfl rfl 0 (by decide) kf7 (fun _ h9 => h9) rfl dX5_keeper_48 ?_
      refine lv_iconst (v := (nI 1)) hx hb dX5_keeper_51 (by decide) ?_
      refine lv_dup2_11 hx hb dX5_keeper_52 rfl rfl ?_
      refine va_iald_n (f := (upd (svR (S) ms) 2 (((svR (S) ms) 2) ||| ((nI 1) <<< (((svR (S) ms) 1) &&& 31))))) hx hb hK hP 1 0 rfl rfl (by omega) (Nat.le_of_ble_eq_true rfl) dX5_keeper_53 ?_
      refine lv_iconst (v := (nI 1)) hx hb dX5_keeper_54 (by decide) ?_
      refine lv_iadd hx hb dX5_keeper_55 ?_
      refine va_iast_n (f := (upd (svR (S) ms) 2 (((svR (S) ms) 2) ||| ((nI 1) <<< (((svR (S) ms) 1) &&& 31))))) hx hb hK hP hD hS 1 0 rfl rfl (by omega) (Nat.le_of_ble_eq_true rfl) dX5_keeper_56 (fun H locs hP hD hS => ?_)
      have hP : va_P Γ.1 vwCl (wcat [moB Γ a (upd (upd (svR (S) ms) 2 (((svR (S) ms) 2) ||| ((nI 1) <<< (((svR (S) ms) 1) &&& 31)))) 1 (((upd (svR (S) ms) 2 (((svR (S) ms) 2) ||| ((nI 1) <<< (((svR (S) ms) 1) &&& 31)))) 1) + (nI 1))) mt mc md (nI (svS (S))) (gsT (nI 1) (nI 1)) m2 m3 m4 m5]) H := hP
      have hD : va_D A (wcat [moB Γ a (upd (upd (svR (S) ms) 2 (((svR (S) ms) 2) ||| ((nI 1) <<< (((svR (S) ms) 1) &&& 31)))) 1 (((upd (svR (S) ms) 2 (((svR (S) ms) 2) ||| ((nI 1) <<< (((svR (S) ms) 1) &&& 31)))) 1) + (nI 1))) mt mc md (nI (svS (S))) (gsT (nI 1) (nI 1)) m2 m3 m4 m5]) := hD
      refine lv_aload_n hx hb dX5_keeper_57 rfl (lv_at hl 0 rfl) ?_
      refine va_get (D := Γ.1) (ci := 5) (v := .ref (a 1)) (C := RX5) (T := TX5) (N := 10) hx hb hts hi5 hown hK hP 0 rfl rfl 0 (by decide) kf7 (fun _ h9 => h9) rfl dX5_keeper_58 ?_
      refine lv_iconst (v := (nI 1)) hx hb dX5_keeper_61 (by decide) ?_
      refine va_iald_n (f := (upd (upd (svR (S) ms) 2 (((svR (S) ms) 2) ||| ((nI 1) <<< (((svR (S) ms) 1) &&& 31)))) 1 (((upd (svR (S) ms) 2 (((svR (S) ms) 2) ||| ((nI 1) <<< (((svR (S) ms) 1) &&& 31)))) 1) + (nI 1)))) hx hb hK hP 1 0 rfl rfl (by omega) (Nat.le_of_ble_eq_true rfl) dX5_keeper_62 ?_
      refine lv_iconst (v := (nI 1)) hx hb dX5_keeper_63 (by decide) ?_
      refine lv_isub hx hb dX5_keeper_64 ?_
      exact W.iret (v := (((upd (upd (svR (S) ms) 2 (((svR (S) ms) 2) ||| ((nI 1) <<< (((svR (S) ms) 1) &&& 31)))) 1 (((upd (svR (S) ms) 2 (((svR (S) ms) 2) ||| ((nI 1) <<< (((svR (S) ms) 1) &&& 31)))) 1) + (nI 1))) 1) - (nI 1))) hx hb hr (fun t ht hW => eMI (by rw [hq]; exact hP) hS ht (by rw [hq])) hS.2.2 dX5_keeper_65
    · have hq := hq.trans (if_pos c_3)
      refine lv_iconst (v := (nI 0)) hx hb dX5_keeper_24 (by decide) ?_
      exact W.iret (v := (nI 0)) hx hb hr (fun t ht hW => eMI (by rw [hq]; exact hP) hS ht (by rw [hq])) hS.2.2 dX5_keeper_25
def fX5_die (S : Nat) (ms : (Nat → Int32)) (k : Int32) : Int32 × (Nat → Int32) × Int32 × Int32 := (if (fX5_isKeeper ms k) = 0 then (if (gsR (fX5_isKeeper ms k) (nI 0)) = 0 then ((nI 0), ms, (nI S), (gsT (fX5_isKeeper ms k) (nI 0))) else ((fX5_dies (svR (S) ms) (0) ((k.toNatClampNeg))).1, (fX5_dies (svR (S) ms) (0) ((k.toNatClampNeg))).2, (nI (svS (S))), (gsT (fX5_isKeeper ms k) (nI 0)))) else (if (fX5_has (ms 2) k) = 0 then (if (gsR (fX5_isKeeper ms k) (nI 0)) = 0 then ((nI 0), ms, (nI S), (gsT (fX5_isKeeper ms k) (nI 0))) else ((fX5_dies (svR (S) ms) (0) ((k.toNatClampNeg))).1, (fX5_dies (svR (S) ms) (0) ((k.toNatClampNeg))).2, (nI (svS (S))), (gsT (fX5_isKeeper ms k) (nI 0)))) else (if (gsR (fX5_isKeeper ms k) (nI 1)) = 0 then ((nI 0), ms, (nI S), (gsT (fX5_isKeeper ms k) (nI 1))) else ((fX5_dies (svR (S) ms) (0) ((k.toNatClampNeg))).1, (fX5_dies (svR (S) ms) (0) ((k.toNatClampNeg))).2, (nI (svS (S))), (gsT (fX5_isKeeper ms k) (nI 1))))))
set_option maxHeartbeats 4000000 in
set_option maxRecDepth 100000 in
theorem kX5_die (l : Launch) (Γ : wG) (a : Nat → Nat) (S : Nat) (K : Nat) (ms : (Nat → Int32)) (mt : (Nat → Int32)) (mc : (Nat → Int32)) (md : (Nat → Int32)) (m1 : Int32) (m2 : Int32) (m3 : Int32) (m4 : Int32) (m5 : Int32) (k : Int32) (hS6 : S ≤ 6) (hMK : ms 1 = nI K) (hK8 : K ≤ 8) : MI l Γ yX5_die wsX5_die ({ frames := 2, cells := 0, slots := 0, locals := 47 }) [.ref (a 0), .int k] [moB Γ a ms mt mc md (nI S) m1 m2 m3 m4 m5] [moB Γ a (fX5_die S ms k).2.1 mt mc md (fX5_die S ms k).2.2.1 (fX5_die S ms k).2.2.2 m2 m3 m4 m5] (fX5_die S ms k).1 := by
  intro sz
  refine Met.ofW (cc := cX5_die) (maxL := 2) (ret := (some .int)) (by decide) rfl ?_
  intro p e s m args below meth c s₁ B hml hv
  obtain ⟨rfl, hsz, hP, hK, hD0, hAm⟩ := hv
  have hx := B.exec
  have hb := B.bytes
  have hr := B.returns
  have hts := atoms_spec (ws := wsX5_die) B.pre
  have hown : s.vm.findClass RX5 = some m.cls := findClass_of_methodNamed B.named
  have hlocks := B.notSynchronized
  subst hsz
  have hD := hD0.self (sz := s.heap.size)
  generalize hAe : va_A (wcat [moB Γ a ms mt mc md (nI S) m1 m2 m3 m4 m5]) s.heap.size = A at hD hAm ⊢
  have hA : ∀ q : Nat, s.heap.size ≤ q → A q := fun q h => by rw [← hAe]; exact Or.inr h
  have hAB : ∀ q : Nat, A q → A q := fun _ h => h
  have hS : va_S A s.heap s.heap [] := va_S.rf
  have hl := lv_entry ([.ref (a 0), .int k]) (n := 2) (Nat.le_of_ble_eq_true rfl)
  rw [lg_entry_eq]
  generalize (lg_sl ([.ref (a 0), .int k]) ++ List.replicate (2 - (lg_sl ([.ref (a 0), .int k])).length) Slot.unset).toArray = ls at hl ⊢
  have hl : lv_has ls 2 [(0, .ref (a 0)), (1, .int k)] := hl
  have hi5 : ∀ w ∈ wsX50, w ∈ wsX5_die := by decide +kernel
  have kf7 := hts (.fieldLink RX5 7 "CapsuleKeepersModel" "s" "[I") (by decide +kernel)
  have hq : (fX5_die S ms k) = (if (fX5_isKeeper ms k) = 0 then (if (gsR (fX5_isKeeper ms k) (nI 0)) = 0 then ((nI 0), ms, (nI S), (gsT (fX5_isKeeper ms k) (nI 0))) else ((fX5_dies (svR (S) ms) (0) ((k.toNatClampNeg))).1, (fX5_dies (svR (S) ms) (0) ((k.toNatClampNeg))).2, (nI (svS (S))), (gsT (fX5_isKeeper ms k) (nI 0)))) else (if (fX5_has (ms 2) k) = 0 then (if (gsR (fX5_isKeeper ms k) (nI 0)) = 0 then ((nI 0), ms, (nI S), (gsT (fX5_isKeeper ms k) (nI 0))) else ((fX5_dies (svR (S) ms) (0) ((k.toNatClampNeg))).1, (fX5_dies (svR (S) ms) (0) ((k.toNatClampNeg))).2, (nI (svS (S))), (gsT (fX5_isKeeper ms k) (nI 0)))) else (if (gsR (fX5_isKeeper ms k) (nI 1)) = 0 then ((nI 0), ms, (nI S), (gsT (fX5_isKeeper ms k) (nI 1))) else ((fX5_dies (svR (S) ms) (0) ((k.toNatClampNeg))).1, (fX5_dies (svR (S) ms) (0) ((k.toNatClampNeg))).2, (nI (svS (S))), (gsT (fX5_isKeeper ms k) (nI 1)))))) := rfl
  refine lv_aload_n hx hb dX5_die_0 rfl (lv_at hl 0 rfl) ?_
  refine lv_aload_n hx hb dX5_die_1 rfl (lv_at hl 0 rfl) ?_
  refine lv_iload_n hx hb dX5_die_2 rfl (lv_at hl 1 rfl) ?_
  refine cLI (va_runV (As := [.int k]) (rest := [.ref (a 0)]) ⟨hx, hb, hml, hown, hts⟩ ((kX5_isKeeper l Γ a ms mt mc md (nI S) m1 m2 m3 m4 m5 k) _) (cwV 1 hts gX5_die_X5_isKeeper rfl rfl rfl (by decide +kernel) ⟨Nat.le_of_ble_eq_true rfl, Nat.le_of_ble_eq_true rfl⟩) ⟨wPre_blind, va_recv hK hP (ci := 5) (q0 := 0) rfl rfl, wPre_mk hP hD hK hS hA hAB hAm [0] rfl rfl⟩ rfl rfl hl.1 rfl (lv_room (Nat.le_of_ble_eq_true rfl)) dX5_die_3 ⟨Nat.zero_le _, Nat.zero_le _⟩) hP hS hA (fun H locs hP hS => ?_)
  refine lv_aload_n hx hb dX5_die_6 rfl (lv_at hl 0 rfl) ?_
  refine lv_iload_n hx hb dX5_die_7 rfl (lv_at hl 1 rfl) ?_
  refine cLI (va_runV (As := [.int k]) (rest := [.int (fX5_isKeeper ms k), .ref (a 0)]) ⟨hx, hb, hml, hown, hts⟩ ((kX5_isKeeper l Γ a ms mt mc md (nI S) m1 m2 m3 m4 m5 k) _) (cwV 1 hts gX5_die_X5_isKeeper rfl rfl rfl (by decide +kernel) ⟨Nat.le_of_ble_eq_true rfl, Nat.le_of_ble_eq_true rfl⟩) ⟨wPre_blind, va_recv hK hP (ci := 5) (q0 := 0) rfl rfl, wPre_mk hP hD hK hS hA hAB hAm [0] rfl rfl⟩ rfl rfl hl.1 rfl (lv_room (Nat.le_of_ble_eq_true rfl)) dX5_die_8 ⟨Nat.zero_le _, Nat.zero_le _⟩) hP hS hA (fun H locs hP hS => ?_)
  refine lv_if_eq (tgt := 31) hx hb dX5_die_11 (by decide) (fun c_1 => ?_) (fun c_1 => ?_)
  · have hq := hq.trans (if_pos c_1)
    refine lv_iconst (v := (nI 0)) hx hb dX5_die_31 (by decide) ?_
    refine cMI (bc' := [moB Γ a ms mt mc md (nI S) (gsT (fX5_isKeeper ms k) (nI 0)) m2 m3 m4 m5]) (va_runV (As := [.int (fX5_isKeeper ms k), .int (nI 0)]) (rest := []) ⟨hx, hb, hml, hown, hts⟩ ((nX5_goes l Γ a ms mt mc md (nI S) m1 m2 m3 m4 m5 (fX5_isKeeper ms k) (nI 0)) _) (cwV 2 hts gX5_die_X5_goes rfl rfl rfl (by decide +kernel) ⟨Nat.le_of_ble_eq_true rfl, Nat.le_of_ble_eq_true rfl⟩) ⟨wPre_blind, va_recv hK hP (ci := 5) (q0 := 0) rfl rfl, wPre_mk hP hD hK hS hA hAB hAm [0] rfl rfl⟩ rfl rfl hl.1 rfl (lv_room (Nat.le_of_ble_eq_true rfl)) dX5_die_32 ⟨Nat.zero_le _, Nat.zero_le _⟩) hP hD hS hA [0] rfl rfl (bs' := [moB Γ a ms mt mc md (nI S) (gsT (fX5_isKeeper ms k) (nI 0)) m2 m3 m4 m5]) rfl (fun H locs hP hD hS => ?_)
    refine lv_if_ne (tgt := 40) hx hb dX5_die_35 (by decide) (fun c_2 => ?_) (fun c_2 => ?_)
    · have hq := hq.trans (if_neg c_2)
      obtain ⟨kn, hkn, rfl⟩ : ∃ j : Nat, j < K ∧ k = nI j := isK hMK hK8 (show ¬ fX5_isKeeper ms k = 0 by first | assumption | exact gs_ne1 (by assumption) | exact gs_00 (by assumption) | exact gs_01 (by assumption))
      replace hq : (fX5_die S ms (nI kn)) = ((fX5_dies (svR (S) ms) (0) (kn)).1, (fX5_dies (svR (S) ms) (0) (kn)).2, (nI (svS (S))), (gsT (fX5_isKeeper ms (nI kn)) (nI 0))) := hq.trans (by first | simp only [nI_clamp (show kn < 2 ^ 31 by omega), Nat.add_sub_cancel] | rfl)
      refine lv_aload_n hx hb dX5_die_40 rfl (lv_at hl 0 rfl) ?_
      refine cMV (bc' := [moB Γ a (svR (S) ms) mt mc md (nI (svS (S))) (gsT (fX5_isKeeper ms (nI kn)) (nI 0)) m2 m3 m4 m5]) (va_runV (As := []) (rest := []) ⟨hx, hb, hml, hown, hts⟩ ((nX5_saves l Γ a (S) ms mt mc md (gsT (fX5_isKeeper ms (nI kn)) (nI 0)) m2 m3 m4 m5 (by first | assumption | omega)) _) (cwV 0 hts gX5_die_X5_saves rfl rfl rfl (by decide +kernel) ⟨Nat.le_of_ble_eq_true rfl, Nat.le_of_ble_eq_true rfl⟩) ⟨wPre_blind, va_recv hK hP (ci := 5) (q0 := 0) rfl rfl, wPre_mk hP hD hK hS hA hAB hAm [0] rfl rfl⟩ rfl rfl hl.1 rfl (lv_room (Nat.le_of_ble_eq_true rfl)) dX5_die_41 ⟨Nat.zero_le _, Nat.zero_le _⟩) hP hD hS hA [0] rfl rfl (bs' := [moB Γ a (svR (S) ms) mt mc md (nI (svS (S))) (gsT (fX5_isKeeper ms (nI kn)) (nI 0)) m2 m3 m4 m5]) rfl (fun H locs hP hD hS => ?_)
      refine lv_aload_n hx hb dX5_die_44 rfl (lv_at hl 0 rfl) ?_
      refine lv_iconst (v := (nI 0)) hx hb dX5_die_45 (by decide) ?_
      refine lv_iload_n hx hb dX5_die_46 rfl (lv_at hl 1 rfl) ?_
      refine cMI (bc' := [moB Γ a (fX5_dies (svR (S) ms) (0) (kn)).2 mt mc md (nI (svS (S))) (gsT (fX5_isKeeper ms (nI kn)) (nI 0)) m2 m3 m4 m5]) (va_runV (As := [.int (nI 0), .int (nI kn)]) (rest := []) ⟨hx, hb, hml, hown, hts⟩ ((kX5_dies l Γ a (svR (S) ms) mt mc md (nI (svS (S))) (gsT (fX5_isKeeper ms (nI kn)) (nI 0)) m2 m3 m4 m5 (0) (kn) (by first | assumption | omega) (by first | assumption | omega)) _) (cwV 2 hts gX5_die_X5_dies rfl rfl rfl (by decide +kernel) ⟨Nat.le_of_ble_eq_true rfl, Nat.le_of_ble_eq_true rfl⟩) ⟨wPre_blind, va_recv hK hP (ci := 5) (q0 := 0) rfl rfl, wPre_mk hP hD hK hS hA hAB hAm [0] rfl rfl⟩ rfl rfl hl.1 rfl (lv_room (Nat.le_of_ble_eq_true rfl)) dX5_die_47 ⟨Nat.zero_le _, Nat.zero_le _⟩) hP hD hS hA [0] rfl rfl (bs' := [moB Γ a (fX5_dies (svR (S) ms) (0) (kn)).2 mt mc md (nI (svS (S))) (gsT (fX5_isKeeper ms (nI kn)) (nI 0)) m2 m3 m4 m5]) rfl (fun H locs hP hD hS => ?_)
      exact W.iret (v := (fX5_dies (svR (S) ms) (0) (kn)).1) hx hb hr (fun t ht hW => eMI (by rw [hq]; exact hP) hS ht (by rw [hq])) hS.2.2 dX5_die_50
    · have hq := hq.trans (if_pos c_2)
      refine lv_iconst (v := (nI 0)) hx hb dX5_die_38 (by decide) ?_
      exact W.iret (v := (nI 0)) hx hb hr (fun t ht hW => eMI (by rw [hq]; exact hP) hS ht (by rw [hq])) hS.2.2 dX5_die_39
  · have hq := hq.trans (if_neg c_1)
    refine lv_aload_n hx hb dX5_die_14 rfl (lv_at hl 0 rfl) ?_
    refine va_get (D := Γ.1) (ci := 5) (v := .ref (a 1)) (C := RX5) (T := TX5) (N := 10) hx hb hts hi5 hown hK hP 0 rfl rfl 0 (by decide) kf7 (fun _ h9 => h9) rfl dX5_die_15 ?_
    refine lv_iconst (v := (nI 2)) hx hb dX5_die_18 (by decide) ?_
    refine va_iald_n (f := ms) hx hb hK hP 1 0 rfl rfl (by omega) (Nat.le_of_ble_eq_true rfl) dX5_die_19 ?_
    refine lv_iload_n hx hb dX5_die_20 rfl (lv_at hl 1 rfl) ?_
    refine cLI (va_runS (As := [.int (ms 2), .int k]) (rest := [.int (fX5_isKeeper ms k), .ref (a 0)]) ⟨hx, hb, hml, hown, hts⟩ ((kX5_has l Γ (ms 2) k) _) (va_cwS 2 hts gX5_die_X5_has rfl rfl rfl (by decide +kernel) ⟨Nat.le_of_ble_eq_true rfl, Nat.le_of_ble_eq_true rfl⟩) ⟨wPre_blind, wPre_mk hP hD hK hS hA hAB hAm [] rfl rfl⟩ rfl rfl hl.1 rfl (lv_room (Nat.le_of_ble_eq_true rfl)) dX5_die_21 ⟨Nat.zero_le _, Nat.zero_le _⟩) hP hS hA (fun H locs hP hS => ?_)
    refine lv_if_eq (tgt := 31) hx hb dX5_die_24 (by decide) (fun c_3 => ?_) (fun c_3 => ?_)
    · have hq := hq.trans (if_pos c_3)
      refine lv_iconst (v := (nI 0)) hx hb dX5_die_31 (by decide) ?_
      refine cMI (bc' := [moB Γ a ms mt mc md (nI S) (gsT (fX5_isKeeper ms k) (nI 0)) m2 m3 m4 m5]) (va_runV (As := [.int (fX5_isKeeper ms k), .int (nI 0)]) (rest := []) ⟨hx, hb, hml, hown, hts⟩ ((nX5_goes l Γ a ms mt mc md (nI S) m1 m2 m3 m4 m5 (fX5_isKeeper ms k) (nI 0)) _) (cwV 2 hts gX5_die_X5_goes rfl rfl rfl (by decide +kernel) ⟨Nat.le_of_ble_eq_true rfl, Nat.le_of_ble_eq_true rfl⟩) ⟨wPre_blind, va_recv hK hP (ci := 5) (q0 := 0) rfl rfl, wPre_mk hP hD hK hS hA hAB hAm [0] rfl rfl⟩ rfl rfl hl.1 rfl (lv_room (Nat.le_of_ble_eq_true rfl)) dX5_die_32 ⟨Nat.zero_le _, Nat.zero_le _⟩) hP hD hS hA [0] rfl rfl (bs' := [moB Γ a ms mt mc md (nI S) (gsT (fX5_isKeeper ms k) (nI 0)) m2 m3 m4 m5]) rfl (fun H locs hP hD hS => ?_)
      refine lv_if_ne (tgt := 40) hx hb dX5_die_35 (by decide) (fun c_4 => ?_) (fun c_4 => ?_)
      · have hq := hq.trans (if_neg c_4)
        obtain ⟨kn, hkn, rfl⟩ : ∃ j : Nat, j < K ∧ k = nI j := isK hMK hK8 (show ¬ fX5_isKeeper ms k = 0 by first | assumption | exact gs_ne1 (by assumption) | exact gs_00 (by assumption) | exact gs_01 (by assumption))
        replace hq : (fX5_die S ms (nI kn)) = ((fX5_dies (svR (S) ms) (0) (kn)).1, (fX5_dies (svR (S) ms) (0) (kn)).2, (nI (svS (S))), (gsT (fX5_isKeeper ms (nI kn)) (nI 0))) := hq.trans (by first | simp only [nI_clamp (show kn < 2 ^ 31 by omega), Nat.add_sub_cancel] | rfl)
        refine lv_aload_n hx hb dX5_die_40 rfl (lv_at hl 0 rfl) ?_
        refine cMV (bc' := [moB Γ a (svR (S) ms) mt mc md (nI (svS (S))) (gsT (fX5_isKeeper ms (nI kn)) (nI 0)) m2 m3 m4 m5]) (va_runV (As := []) (rest := []) ⟨hx, hb, hml, hown, hts⟩ ((nX5_saves l Γ a (S) ms mt mc md (gsT (fX5_isKeeper ms (nI kn)) (nI 0)) m2 m3 m4 m5 (by first | assumption | omega)) _) (cwV 0 hts gX5_die_X5_saves rfl rfl rfl (by decide +kernel) ⟨Nat.le_of_ble_eq_true rfl, Nat.le_of_ble_eq_true rfl⟩) ⟨wPre_blind, va_recv hK hP (ci := 5) (q0 := 0) rfl rfl, wPre_mk hP hD hK hS hA hAB hAm [0] rfl rfl⟩ rfl rfl hl.1 rfl (lv_room (Nat.le_of_ble_eq_true rfl)) dX5_die_41 ⟨Nat.zero_le _, Nat.zero_le _⟩) hP hD hS hA [0] rfl rfl (bs' := [moB Γ a (svR (S) ms) mt mc md (nI (svS (S))) (gsT (fX5_isKeeper ms (nI kn)) (nI 0)) m2 m3 m4 m5]) rfl (fun H locs hP hD hS => ?_)
        refine lv_aload_n hx hb dX5_die_44 rfl (lv_at hl 0 rfl) ?_
        refine lv_iconst (v := (nI 0)) hx hb dX5_die_45 (by decide) ?_
        refine lv_iload_n hx hb dX5_die_46 rfl (lv_at hl 1 rfl) ?_
        refine cMI (bc' := [moB Γ a (fX5_dies (svR (S) ms) (0) (kn)).2 mt mc md (nI (svS (S))) (gsT (fX5_isKeeper ms (nI kn)) (nI 0)) m2 m3 m4 m5]) (va_runV (As := [.int (nI 0), .int (nI kn)]) (rest := []) ⟨hx, hb, hml, hown, hts⟩ ((kX5_dies l Γ a (svR (S) ms) mt mc md (nI (svS (S))) (gsT (fX5_isKeeper ms (nI kn)) (nI 0)) m2 m3 m4 m5 (0) (kn) (by first | assumption | omega) (by first | assumption | omega)) _) (cwV 2 hts gX5_die_X5_dies rfl rfl rfl (by decide +kernel) ⟨Nat.le_of_ble_eq_true rfl, Nat.le_of_ble_eq_true rfl⟩) ⟨wPre_blind, va_recv hK hP (ci := 5) (q0 := 0) rfl rfl, wPre_mk hP hD hK hS hA hAB hAm [0] rfl rfl⟩ rfl rfl hl.1 rfl (lv_room (Nat.le_of_ble_eq_true rfl)) dX5_die_47 ⟨Nat.zero_le _, Nat.zero_le _⟩) hP hD hS hA [0] rfl rfl (bs' := [moB Γ a (fX5_dies (svR (S) ms) (0) (kn)).2 mt mc md (nI (svS (S))) (gsT (fX5_isKeeper ms (nI kn)) (nI 0)) m2 m3 m4 m5]) rfl (fun H locs hP hD hS => ?_)
        exact W.iret (v := (fX5_dies (svR (S) ms) (0) (kn)).1) hx hb hr (fun t ht hW => eMI (by rw [hq]; exact hP) hS ht (by rw [hq])) hS.2.2 dX5_die_50
      · have hq := hq.trans (if_pos c_4)
        refine lv_iconst (v := (nI 0)) hx hb dX5_die_38 (by decide) ?_
        exact W.iret (v := (nI 0)) hx hb hr (fun t ht hW => eMI (by rw [hq]; exact hP) hS ht (by rw [hq])) hS.2.2 dX5_die_39
    · have hq := hq.trans (if_neg c_3)
      refine lv_iconst (v := (nI 1)) hx hb dX5_die_27 (by decide) ?_
      refine lv_goto (tgt := 32) hx hb dX5_die_28 (by decide) ?_
      refine cMI (bc' := [moB Γ a ms mt mc md (nI S) (gsT (fX5_isKeeper ms k) (nI 1)) m2 m3 m4 m5]) (va_runV (As := [.int (fX5_isKeeper ms k), .int (nI 1)]) (rest := []) ⟨hx, hb, hml, hown, hts⟩ ((nX5_goes l Γ a ms mt mc md (nI S) m1 m2 m3 m4 m5 (fX5_isKeeper ms k) (nI 1)) _) (cwV 2 hts gX5_die_X5_goes rfl rfl rfl (by decide +kernel) ⟨Nat.le_of_ble_eq_true rfl, Nat.le_of_ble_eq_true rfl⟩) ⟨wPre_blind, va_recv hK hP (ci := 5) (q0 := 0) rfl rfl, wPre_mk hP hD hK hS hA hAB hAm [0] rfl rfl⟩ rfl rfl hl.1 rfl (lv_room (Nat.le_of_ble_eq_true rfl)) dX5_die_32 ⟨Nat.zero_le _, Nat.zero_le _⟩) hP hD hS hA [0] rfl rfl (bs' := [moB Γ a ms mt mc md (nI S) (gsT (fX5_isKeeper ms k) (nI 1)) m2 m3 m4 m5]) rfl (fun H locs hP hD hS => ?_)
      refine lv_if_ne (tgt := 40) hx hb dX5_die_35 (by decide) (fun c_5 => ?_) (fun c_5 => ?_)
      · have hq := hq.trans (if_neg c_5)
        obtain ⟨kn, hkn, rfl⟩ : ∃ j : Nat, j < K ∧ k = nI j := isK hMK hK8 (show ¬ fX5_isKeeper ms k = 0 by first | assumption | exact gs_ne1 (by assumption) | exact gs_00 (by assumption) | exact gs_01 (by assumption))
        replace hq : (fX5_die S ms (nI kn)) = ((fX5_dies (svR (S) ms) (0) (kn)).1, (fX5_dies (svR (S) ms) (0) (kn)).2, (nI (svS (S))), (gsT (fX5_isKeeper ms (nI kn)) (nI 1))) := hq.trans (by first | simp only [nI_clamp (show kn < 2 ^ 31 by omega), Nat.add_sub_cancel] | rfl)
        refine lv_aload_n hx hb dX5_die_40 rfl (lv_at hl 0 rfl) ?_
        refine cMV (bc' := [moB Γ a (svR (S) ms) mt mc md (nI (svS (S))) (gsT (fX5_isKeeper ms (nI kn)) (nI 1)) m2 m3 m4 m5]) (va_runV (As := []) (rest := []) ⟨hx, hb, hml, hown, hts⟩ ((nX5_saves l Γ a (S) ms mt mc md (gsT (fX5_isKeeper ms (nI kn)) (nI 1)) m2 m3 m4 m5 (by first | assumption | omega)) _) (cwV 0 hts gX5_die_X5_saves rfl rfl rfl (by decide +kernel) ⟨Nat.le_of_ble_eq_true rfl, Nat.le_of_ble_eq_true rfl⟩) ⟨wPre_blind, va_recv hK hP (ci := 5) (q0 := 0) rfl rfl, wPre_mk hP hD hK hS hA hAB hAm [0] rfl rfl⟩ rfl rfl hl.1 rfl (lv_room (Nat.le_of_ble_eq_true rfl)) dX5_die_41 ⟨Nat.zero_le _, Nat.zero_le _⟩) hP hD hS hA [0] rfl rfl (bs' := [moB Γ a (svR (S) ms) mt mc md (nI (svS (S))) (gsT (fX5_isKeeper ms (nI kn)) (nI 1)) m2 m3 m4 m5]) rfl (fun H locs hP hD hS => ?_)
        refine lv_aload_n hx hb dX5_die_44 rfl (lv_at hl 0 rfl) ?_
        refine lv_iconst (v := (nI 0)) hx hb dX5_die_45 (by decide) ?_
        refine lv_iload_n hx hb dX5_die_46 rfl (lv_at hl 1 rfl) ?_
        refine cMI (bc' := [moB Γ a (fX5_dies (svR (S) ms) (0) (kn)).2 mt mc md (nI (svS (S))) (gsT (fX5_isKeeper ms (nI kn)) (nI 1)) m2 m3 m4 m5]) (va_runV (As := [.int (nI 0), .int (nI kn)]) (rest := []) ⟨hx, hb, hml, hown, hts⟩ ((kX5_dies l Γ a (svR (S) ms) mt mc md (nI (svS (S))) (gsT (fX5_isKeeper ms (nI kn)) (nI 1)) m2 m3 m4 m5 (0) (kn) (by first | assumption | omega) (by first | assumption | omega)) _) (cwV 2 hts gX5_die_X5_dies rfl rfl rfl (by decide +kernel) ⟨Nat.le_of_ble_eq_true rfl, Nat.le_of_ble_eq_true rfl⟩) ⟨wPre_blind, va_recv hK hP (ci := 5) (q0 := 0) rfl rfl, wPre_mk hP hD hK hS hA hAB hAm [0] rfl rfl⟩ rfl rfl hl.1 rfl (lv_room (Nat.le_of_ble_eq_true rfl)) dX5_die_47 ⟨Nat.zero_le _, Nat.zero_le _⟩) hP hD hS hA [0] rfl rfl (bs' := [moB Γ a (fX5_dies (svR (S) ms) (0) (kn)).2 mt mc md (nI (svS (S))) (gsT (fX5_isKeeper ms (nI kn)) (nI 1)) m2 m3 m4 m5]) rfl (fun H locs hP hD hS => ?_)
        exact W.iret (v := (fX5_dies (svR (S) ms) (0) (kn)).1) hx hb hr (fun t ht hW => eMI (by rw [hq]; exact hP) hS ht (by rw [hq])) hS.2.2 dX5_die_50
      · have hq := hq.trans (if_pos c_5)
        refine lv_iconst (v := (nI 0)) hx hb dX5_die_38 (by decide) ?_
        exact W.iret (v := (nI 0)) hx hb hr (fun t ht hW => eMI (by rw [hq]; exact hP) hS ht (by rw [hq])) hS.2.2 dX5_die_39
def fX5_heir (S : Nat) (ms : (Nat → Int32)) (k : Int32) (h : Int32) : Int32 × (Nat → Int32) × Int32 × Int32 := (if (fX5_isKeeper ms k) = 0 then (if (gsR (nI 0) (nI 0)) = 0 then ((nI 0), ms, (nI S), (gsT (nI 0) (nI 0))) else (((svR (S) ms) (3 + (k.toNatClampNeg))), (upd (svR (S) ms) (3 + (k.toNatClampNeg)) h), (nI (svS (S))), (gsT (nI 0) (nI 0)))) else (if h = (-1) then (if k = h then (if (gsR (nI 1) (nI 0)) = 0 then ((nI 0), ms, (nI S), (gsT (nI 1) (nI 0))) else (((svR (S) ms) (3 + (k.toNatClampNeg))), (upd (svR (S) ms) (3 + (k.toNatClampNeg)) h), (nI (svS (S))), (gsT (nI 1) (nI 0)))) else (if (fX5_areAlive ms (0) k h) = 0 then (if (gsR (nI 1) (nI 0)) = 0 then ((nI 0), ms, (nI S), (gsT (nI 1) (nI 0))) else (((svR (S) ms) (3 + (k.toNatClampNeg))), (upd (svR (S) ms) (3 + (k.toNatClampNeg)) h), (nI (svS (S))), (gsT (nI 1) (nI 0)))) else (if (gsR (nI 1) (nI 1)) = 0 then ((nI 0), ms, (nI S), (gsT (nI 1) (nI 1))) else (((svR (S) ms) (3 + (k.toNatClampNeg))), (upd (svR (S) ms) (3 + (k.toNatClampNeg)) h), (nI (svS (S))), (gsT (nI 1) (nI 1)))))) else (if (fX5_isKeeper ms h) = 0 then (if (gsR (nI 0) (nI 0)) = 0 then ((nI 0), ms, (nI S), (gsT (nI 0) (nI 0))) else (((svR (S) ms) (3 + (k.toNatClampNeg))), (upd (svR (S) ms) (3 + (k.toNatClampNeg)) h), (nI (svS (S))), (gsT (nI 0) (nI 0)))) else (if k = h then (if (gsR (nI 1) (nI 0)) = 0 then ((nI 0), ms, (nI S), (gsT (nI 1) (nI 0))) else (((svR (S) ms) (3 + (k.toNatClampNeg))), (upd (svR (S) ms) (3 + (k.toNatClampNeg)) h), (nI (svS (S))), (gsT (nI 1) (nI 0)))) else (if (fX5_areAlive ms (0) k h) = 0 then (if (gsR (nI 1) (nI 0)) = 0 then ((nI 0), ms, (nI S), (gsT (nI 1) (nI 0))) else (((svR (S) ms) (3 + (k.toNatClampNeg))), (upd (svR (S) ms) (3 + (k.toNatClampNeg)) h), (nI (svS (S))), (gsT (nI 1) (nI 0)))) else (if (gsR (nI 1) (nI 1)) = 0 then ((nI 0), ms, (nI S), (gsT (nI 1) (nI 1))) else (((svR (S) ms) (3 + (k.toNatClampNeg))), (upd (svR (S) ms) (3 + (k.toNatClampNeg)) h), (nI (svS (S))), (gsT (nI 1) (nI 1)))))))))
set_option maxHeartbeats 4000000 in
set_option maxRecDepth 100000 in
theorem kX5_heir (l : Launch) (Γ : wG) (a : Nat → Nat) (S : Nat) (K : Nat) (ms : (Nat → Int32)) (mt : (Nat → Int32)) (mc : (Nat → Int32)) (md : (Nat → Int32)) (m1 : Int32) (m2 : Int32) (m3 : Int32) (m4 : Int32) (m5 : Int32) (k : Int32) (h : Int32) (hS6 : S ≤ 6) (hMK : ms 1 = nI K) (hK8 : K ≤ 8) : MI l Γ yX5_heir wsX5_heir ({ frames := 2, cells := 0, slots := 0, locals := 44 }) [.ref (a 0), .int k, .int h] [moB Γ a ms mt mc md (nI S) m1 m2 m3 m4 m5] [moB Γ a (fX5_heir S ms k h).2.1 mt mc md (fX5_heir S ms k h).2.2.1 (fX5_heir S ms k h).2.2.2 m2 m3 m4 m5] (fX5_heir S ms k h).1 := by
  intro sz
  refine Met.ofW (cc := cX5_heir) (maxL := 5) (ret := (some .int)) (by decide) rfl ?_
  intro p e s m args below meth c s₁ B hml hv
  obtain ⟨rfl, hsz, hP, hK, hD0, hAm⟩ := hv
  have hx := B.exec
  have hb := B.bytes
  have hr := B.returns
  have hts := atoms_spec (ws := wsX5_heir) B.pre
  have hown : s.vm.findClass RX5 = some m.cls := findClass_of_methodNamed B.named
  have hlocks := B.notSynchronized
  subst hsz
  have hD := hD0.self (sz := s.heap.size)
  generalize hAe : va_A (wcat [moB Γ a ms mt mc md (nI S) m1 m2 m3 m4 m5]) s.heap.size = A at hD hAm ⊢
  have hA : ∀ q : Nat, s.heap.size ≤ q → A q := fun q h => by rw [← hAe]; exact Or.inr h
  have hAB : ∀ q : Nat, A q → A q := fun _ h => h
  have hS : va_S A s.heap s.heap [] := va_S.rf
  have hl := lv_entry ([.ref (a 0), .int k, .int h]) (n := 5) (Nat.le_of_ble_eq_true rfl)
  rw [lg_entry_eq]
  generalize (lg_sl ([.ref (a 0), .int k, .int h]) ++ List.replicate (5 - (lg_sl ([.ref (a 0), .int k, .int h])).length) Slot.unset).toArray = ls at hl ⊢
  have hl : lv_has ls 5 [(0, .ref (a 0)), (1, .int k), (2, .int h)] := hl
  have hi5 : ∀ w ∈ wsX50, w ∈ wsX5_heir := by decide +kernel
  have kf7 := hts (.fieldLink RX5 7 "CapsuleKeepersModel" "s" "[I") (by decide +kernel)
  have hq : (fX5_heir S ms k h) = (if (fX5_isKeeper ms k) = 0 then (if (gsR (nI 0) (nI 0)) = 0 then ((nI 0), ms, (nI S), (gsT (nI 0) (nI 0))) else (((svR (S) ms) (3 + (k.toNatClampNeg))), (upd (svR (S) ms) (3 + (k.toNatClampNeg)) h), (nI (svS (S))), (gsT (nI 0) (nI 0)))) else (if h = (-1) then (if k = h then (if (gsR (nI 1) (nI 0)) = 0 then ((nI 0), ms, (nI S), (gsT (nI 1) (nI 0))) else (((svR (S) ms) (3 + (k.toNatClampNeg))), (upd (svR (S) ms) (3 + (k.toNatClampNeg)) h), (nI (svS (S))), (gsT (nI 1) (nI 0)))) else (if (fX5_areAlive ms (0) k h) = 0 then (if (gsR (nI 1) (nI 0)) = 0 then ((nI 0), ms, (nI S), (gsT (nI 1) (nI 0))) else (((svR (S) ms) (3 + (k.toNatClampNeg))), (upd (svR (S) ms) (3 + (k.toNatClampNeg)) h), (nI (svS (S))), (gsT (nI 1) (nI 0)))) else (if (gsR (nI 1) (nI 1)) = 0 then ((nI 0), ms, (nI S), (gsT (nI 1) (nI 1))) else (((svR (S) ms) (3 + (k.toNatClampNeg))), (upd (svR (S) ms) (3 + (k.toNatClampNeg)) h), (nI (svS (S))), (gsT (nI 1) (nI 1)))))) else (if (fX5_isKeeper ms h) = 0 then (if (gsR (nI 0) (nI 0)) = 0 then ((nI 0), ms, (nI S), (gsT (nI 0) (nI 0))) else (((svR (S) ms) (3 + (k.toNatClampNeg))), (upd (svR (S) ms) (3 + (k.toNatClampNeg)) h), (nI (svS (S))), (gsT (nI 0) (nI 0)))) else (if k = h then (if (gsR (nI 1) (nI 0)) = 0 then ((nI 0), ms, (nI S), (gsT (nI 1) (nI 0))) else (((svR (S) ms) (3 + (k.toNatClampNeg))), (upd (svR (S) ms) (3 + (k.toNatClampNeg)) h), (nI (svS (S))), (gsT (nI 1) (nI 0)))) else (if (fX5_areAlive ms (0) k h) = 0 then (if (gsR (nI 1) (nI 0)) = 0 then ((nI 0), ms, (nI S), (gsT (nI 1) (nI 0))) else (((svR (S) ms) (3 + (k.toNatClampNeg))), (upd (svR (S) ms) (3 + (k.toNatClampNeg)) h), (nI (svS (S))), (gsT (nI 1) (nI 0)))) else (if (gsR (nI 1) (nI 1)) = 0 then ((nI 0), ms, (nI S), (gsT (nI 1) (nI 1))) else (((svR (S) ms) (3 + (k.toNatClampNeg))), (upd (svR (S) ms) (3 + (k.toNatClampNeg)) h), (nI (svS (S))), (gsT (nI 1) (nI 1))))))))) := rfl
  refine lv_aload_n hx hb dX5_heir_0 rfl (lv_at hl 0 rfl) ?_
  refine lv_iload_n hx hb dX5_heir_1 rfl (lv_at hl 1 rfl) ?_
  refine cLI (va_runV (As := [.int k]) (rest := []) ⟨hx, hb, hml, hown, hts⟩ ((kX5_isKeeper l Γ a ms mt mc md (nI S) m1 m2 m3 m4 m5 k) _) (cwV 1 hts gX5_heir_X5_isKeeper rfl rfl rfl (by decide +kernel) ⟨Nat.le_of_ble_eq_true rfl, Nat.le_of_ble_eq_true rfl⟩) ⟨wPre_blind, va_recv hK hP (ci := 5) (q0 := 0) rfl rfl, wPre_mk hP hD hK hS hA hAB hAm [0] rfl rfl⟩ rfl rfl hl.1 rfl (lv_room (Nat.le_of_ble_eq_true rfl)) dX5_heir_2 ⟨Nat.zero_le _, Nat.zero_le _⟩) hP hS hA (fun H locs hP hS => ?_)
  refine lv_if_eq (tgt := 25) hx hb dX5_heir_5 (by decide) (fun c_1 => ?_) (fun c_1 => ?_)
  · have hq := hq.trans (if_pos c_1)
    refine lv_iconst (v := (nI 0)) hx hb dX5_heir_25 (by decide) ?_
    refine lv_istore_n (lv' := [(3, .int (nI 0)), (0, .ref (a 0)), (1, .int k), (2, .int h)]) hx hb dX5_heir_26 rfl hl (by decide) rfl (fun ls hl => ?_)
    refine lv_aload_n hx hb dX5_heir_27 rfl (lv_at hl 1 rfl) ?_
    refine lv_iload_n hx hb dX5_heir_28 rfl (lv_at hl 0 rfl) ?_
    refine lv_iload_n hx hb dX5_heir_29 rfl (lv_at hl 0 rfl) ?_
    refine lv_if_eq (tgt := 52) hx hb dX5_heir_30 (by decide) (fun c_30 => ?_) (fun c_30 => absurd c_30 (by decide))
    refine lv_iconst (v := (nI 0)) hx hb dX5_heir_52 (by decide) ?_
    refine cMI (bc' := [moB Γ a ms mt mc md (nI S) (gsT (nI 0) (nI 0)) m2 m3 m4 m5]) (va_runV (As := [.int (nI 0), .int (nI 0)]) (rest := []) ⟨hx, hb, hml, hown, hts⟩ ((nX5_goes l Γ a ms mt mc md (nI S) m1 m2 m3 m4 m5 (nI 0) (nI 0)) _) (cwV 2 hts gX5_heir_X5_goes rfl rfl rfl (by decide +kernel) ⟨Nat.le_of_ble_eq_true rfl, Nat.le_of_ble_eq_true rfl⟩) ⟨wPre_blind, va_recv hK hP (ci := 5) (q0 := 0) rfl rfl, wPre_mk hP hD hK hS hA hAB hAm [0] rfl rfl⟩ rfl rfl hl.1 rfl (lv_room (Nat.le_of_ble_eq_true rfl)) dX5_heir_53 ⟨Nat.zero_le _, Nat.zero_le _⟩) hP hD hS hA [0] rfl rfl (bs' := [moB Γ a ms mt mc md (nI S) (gsT (nI 0) (nI 0)) m2 m3 m4 m5]) rfl (fun H locs hP hD hS => ?_)
    refine lv_if_ne (tgt := 61) hx hb dX5_heir_56 (by decide) (fun c_2 => ?_) (fun c_2 => ?_)
    · have hq := hq.trans (if_neg c_2)
      obtain ⟨kn, hkn, rfl⟩ : ∃ j : Nat, j < K ∧ k = nI j := isK hMK hK8 (show ¬ fX5_isKeeper ms k = 0 by first | assumption | exact gs_ne1 (by assumption) | exact gs_00 (by assumption) | exact gs_01 (by assumption))
      replace hq : (fX5_heir S ms (nI kn) h) = (((svR (S) ms) (3 + kn)), (upd (svR (S) ms) (3 + kn) h), (nI (svS (S))), (gsT (nI 0) (nI 0))) := hq.trans (by first | simp only [nI_clamp (show kn < 2 ^ 31 by omega), Nat.add_sub_cancel] | rfl)
      refine lv_aload_n hx hb dX5_heir_61 rfl (lv_at hl 1 rfl) ?_
      refine cMV (bc' := [moB Γ a (svR (S) ms) mt mc md (nI (svS (S))) (gsT (nI 0) (nI 0)) m2 m3 m4 m5]) (va_runV (As := []) (rest := []) ⟨hx, hb, hml, hown, hts⟩ ((nX5_saves l Γ a (S) ms mt mc md (gsT (nI 0) (nI 0)) m2 m3 m4 m5 (by first | assumption | omega)) _) (cwV 0 hts gX5_heir_X5_saves rfl rfl rfl (by decide +kernel) ⟨Nat.le_of_ble_eq_true rfl, Nat.le_of_ble_eq_true rfl⟩) ⟨wPre_blind, va_recv hK hP (ci := 5) (q0 := 0) rfl rfl, wPre_mk hP hD hK hS hA hAB hAm [0] rfl rfl⟩ rfl rfl hl.1 rfl (lv_room (Nat.le_of_ble_eq_true rfl)) dX5_heir_62 ⟨Nat.zero_le _, Nat.zero_le _⟩) hP hD hS hA [0] rfl rfl (bs' := [moB Γ a (svR (S) ms) mt mc md (nI (svS (S))) (gsT (nI 0) (nI 0)) m2 m3 m4 m5]) rfl (fun H locs hP hD hS => ?_)
      refine lv_aload_n hx hb dX5_heir_65 rfl (lv_at hl 1 rfl) ?_
      refine va_get (D := Γ.1) (ci := 5) (v := .ref (a 1)) (C := RX5) (T := TX5) (N := 10) hx hb hts hi5 hown hK hP 0 rfl rfl 0 (by decide) kf7 (fun _ h9 => h9) rfl dX5_heir_66 ?_
      refine lv_iconst (v := (nI 3)) hx hb dX5_heir_69 (by decide) ?_
      refine lv_iload_n hx hb dX5_heir_70 rfl (lv_at hl 2 rfl) ?_
      refine lv_iadd hx hb dX5_heir_71 ?_
      refine lv_eqi (y := (nI (3 + kn))) (nI_add _ _) ?_
      refine va_iald_n (f := (svR (S) ms)) hx hb hK hP 1 0 rfl rfl (by omega) (Nat.le_of_ble_eq_true rfl) dX5_heir_72 ?_
      refine lv_istore (lv' := [(4, .int ((svR (S) ms) (3 + kn))), (3, .int (nI 0)), (0, .ref (a 0)), (1, .int (nI kn)), (2, .int h)]) hx hb dX5_heir_73 hl (by decide) rfl (fun ls hl => ?_)
      refine lv_aload_n hx hb dX5_heir_75 rfl (lv_at hl 2 rfl) ?_
      refine va_get (D := Γ.1) (ci := 5) (v := .ref (a 1)) (C := RX5) (T := TX5) (N := 10) hx hb hts hi5 hown hK hP 0 rfl rfl 0 (by decide) kf7 (fun _ h9 => h9) rfl dX5_heir_76 ?_
      refine lv_iconst (v := (nI 3)) hx hb dX5_heir_79 (by decide) ?_
      refine lv_iload_n hx hb dX5_heir_80 rfl (lv_at hl 3 rfl) ?_
      refine lv_iadd hx hb dX5_heir_81 ?_
      refine lv_eqi (y := (nI (3 + kn))) (nI_add _ _) ?_
      refine lv_iload_n hx hb dX5_heir_82 rfl (lv_at hl 4 rfl) ?_
      refine va_iast_n (f := (svR (S) ms)) hx hb hK hP hD hS 1 0 rfl rfl (by omega) (Nat.le_of_ble_eq_true rfl) dX5_heir_83 (fun H locs hP hD hS => ?_)
      have hP : va_P Γ.1 vwCl (wcat [moB Γ a (upd (svR (S) ms) (3 + kn) h) mt mc md (nI (svS (S))) (gsT (nI 0) (nI 0)) m2 m3 m4 m5]) H := hP
      have hD : va_D A (wcat [moB Γ a (upd (svR (S) ms) (3 + kn) h) mt mc md (nI (svS (S))) (gsT (nI 0) (nI 0)) m2 m3 m4 m5]) := hD
      refine lv_iload hx hb dX5_heir_84 (lv_at hl 0 rfl) ?_
      exact W.iret (v := ((svR (S) ms) (3 + kn))) hx hb hr (fun t ht hW => eMI (by rw [hq]; exact hP) hS ht (by rw [hq])) hS.2.2 dX5_heir_86
    · have hq := hq.trans (if_pos c_2)
      refine lv_iconst (v := (nI 0)) hx hb dX5_heir_59 (by decide) ?_
      exact W.iret (v := (nI 0)) hx hb hr (fun t ht hW => eMI (by rw [hq]; exact hP) hS ht (by rw [hq])) hS.2.2 dX5_heir_60
  · have hq := hq.trans (if_neg c_1)
    refine lv_iload_n hx hb dX5_heir_8 rfl (lv_at hl 2 rfl) ?_
    refine lv_iconst (v := (-1)) hx hb dX5_heir_9 (by decide) ?_
    refine lv_icmp_eq (tgt := 21) hx hb dX5_heir_10 (by decide) (fun c_3 => ?_) (fun c_3 => ?_)
    · have hq := hq.trans (if_pos c_3)
      refine lv_iconst (v := (nI 1)) hx hb dX5_heir_21 (by decide) ?_
      refine lv_goto (tgt := 26) hx hb dX5_heir_22 (by decide) ?_
      refine lv_istore_n (lv' := [(3, .int (nI 1)), (0, .ref (a 0)), (1, .int k), (2, .int h)]) hx hb dX5_heir_26 rfl hl (by decide) rfl (fun ls hl => ?_)
      refine lv_aload_n hx hb dX5_heir_27 rfl (lv_at hl 1 rfl) ?_
      refine lv_iload_n hx hb dX5_heir_28 rfl (lv_at hl 0 rfl) ?_
      refine lv_iload_n hx hb dX5_heir_29 rfl (lv_at hl 0 rfl) ?_
      refine lv_if_eq (tgt := 52) hx hb dX5_heir_30 (by decide) (fun c_30 => absurd c_30 (by decide)) (fun c_30 => ?_)
      refine lv_iload_n hx hb dX5_heir_33 rfl (lv_at hl 2 rfl) ?_
      refine lv_iload_n hx hb dX5_heir_34 rfl (lv_at hl 3 rfl) ?_
      refine lv_icmp_eq (tgt := 52) hx hb dX5_heir_35 (by decide) (fun c_4 => ?_) (fun c_4 => ?_)
      · have hq := hq.trans (if_pos c_4)
        refine lv_iconst (v := (nI 0)) hx hb dX5_heir_52 (by decide) ?_
        refine cMI (bc' := [moB Γ a ms mt mc md (nI S) (gsT (nI 1) (nI 0)) m2 m3 m4 m5]) (va_runV (As := [.int (nI 1), .int (nI 0)]) (rest := []) ⟨hx, hb, hml, hown, hts⟩ ((nX5_goes l Γ a ms mt mc md (nI S) m1 m2 m3 m4 m5 (nI 1) (nI 0)) _) (cwV 2 hts gX5_heir_X5_goes rfl rfl rfl (by decide +kernel) ⟨Nat.le_of_ble_eq_true rfl, Nat.le_of_ble_eq_true rfl⟩) ⟨wPre_blind, va_recv hK hP (ci := 5) (q0 := 0) rfl rfl, wPre_mk hP hD hK hS hA hAB hAm [0] rfl rfl⟩ rfl rfl hl.1 rfl (lv_room (Nat.le_of_ble_eq_true rfl)) dX5_heir_53 ⟨Nat.zero_le _, Nat.zero_le _⟩) hP hD hS hA [0] rfl rfl (bs' := [moB Γ a ms mt mc md (nI S) (gsT (nI 1) (nI 0)) m2 m3 m4 m5]) rfl (fun H locs hP hD hS => ?_)
        refine lv_if_ne (tgt := 61) hx hb dX5_heir_56 (by decide) (fun c_5 => ?_) (fun c_5 => ?_)
        · have hq := hq.trans (if_neg c_5)
          obtain ⟨kn, hkn, rfl⟩ : ∃ j : Nat, j < K ∧ k = nI j := isK hMK hK8 (show ¬ fX5_isKeeper ms k = 0 by first | assumption | exact gs_ne1 (by assumption) | exact gs_00 (by assumption) | exact gs_01 (by assumption))
          replace hq : (fX5_heir S ms (nI kn) h) = (((svR (S) ms) (3 + kn)), (upd (svR (S) ms) (3 + kn) h), (nI (svS (S))), (gsT (nI 1) (nI 0))) := hq.trans (by first | simp only [nI_clamp (show kn < 2 ^ 31 by omega), Nat.add_sub_cancel] | rfl)
          refine lv_aload_n hx hb dX5_heir_61 rfl (lv_at hl 1 rfl) ?_
          refine cMV (bc' := [moB Γ a (svR (S) ms) mt mc md (nI (svS (S))) (gsT (nI 1) (nI 0)) m2 m3 m4 m5]) (va_runV (As := []) (rest := []) ⟨hx, hb, hml, hown, hts⟩ ((nX5_saves l Γ a (S) ms mt mc md (gsT (nI 1) (nI 0)) m2 m3 m4 m5 (by first | assumption | omega)) _) (cwV 0 hts gX5_heir_X5_saves rfl rfl rfl (by decide +kernel) ⟨Nat.le_of_ble_eq_true rfl, Nat.le_of_ble_eq_true rfl⟩) ⟨wPre_blind, va_recv hK hP (ci := 5) (q0 := 0) rfl rfl, wPre_mk hP hD hK hS hA hAB hAm [0] rfl rfl⟩ rfl rfl hl.1 rfl (lv_room (Nat.le_of_ble_eq_true rfl)) dX5_heir_62 ⟨Nat.zero_le _, Nat.zero_le _⟩) hP hD hS hA [0] rfl rfl (bs' := [moB Γ a (svR (S) ms) mt mc md (nI (svS (S))) (gsT (nI 1) (nI 0)) m2 m3 m4 m5]) rfl (fun H locs hP hD hS => ?_)
          refine lv_aload_n hx hb dX5_heir_65 rfl (lv_at hl 1 rfl) ?_
          refine va_get (D := Γ.1) (ci := 5) (v := .ref (a 1)) (C := RX5) (T := TX5) (N := 10) hx hb hts hi5 hown hK hP 0 rfl rfl 0 (by decide) kf7 (fun _ h9 => h9) rfl dX5_heir_66 ?_
          refine lv_iconst (v := (nI 3)) hx hb dX5_heir_69 (by decide) ?_
          refine lv_iload_n hx hb dX5_heir_70 rfl (lv_at hl 2 rfl) ?_
          refine lv_iadd hx hb dX5_heir_71 ?_
          refine lv_eqi (y := (nI (3 + kn))) (nI_add _ _) ?_
          refine va_iald_n (f := (svR (S) ms)) hx hb hK hP 1 0 rfl rfl (by omega) (Nat.le_of_ble_eq_true rfl) dX5_heir_72 ?_
          refine lv_istore (lv' := [(4, .int ((svR (S) ms) (3 + kn))), (3, .int (nI 1)), (0, .ref (a 0)), (1, .int (nI kn)), (2, .int h)]) hx hb dX5_heir_73 hl (by decide) rfl (fun ls hl => ?_)
          refine lv_aload_n hx hb dX5_heir_75 rfl (lv_at hl 2 rfl) ?_
          refine va_get (D := Γ.1) (ci := 5) (v := .ref (a 1)) (C := RX5) (T := TX5) (N := 10) hx hb hts hi5 hown hK hP 0 rfl rfl 0 (by decide) kf7 (fun _ h9 => h9) rfl dX5_heir_76 ?_
          refine lv_iconst (v := (nI 3)) hx hb dX5_heir_79 (by decide) ?_
          refine lv_iload_n hx hb dX5_heir_80 rfl (lv_at hl 3 rfl) ?_
          refine lv_iadd hx hb dX5_heir_81 ?_
          refine lv_eqi (y := (nI (3 + kn))) (nI_add _ _) ?_
          refine lv_iload_n hx hb dX5_heir_82 rfl (lv_at hl 4 rfl) ?_
          refine va_iast_n (f := (svR (S) ms)) hx hb hK hP hD hS 1 0 rfl rfl (by omega) (Nat.le_of_ble_eq_true rfl) dX5_heir_83 (fun H locs hP hD hS => ?_)
          have hP : va_P Γ.1 vwCl (wcat [moB Γ a (upd (svR (S) ms) (3 + kn) h) mt mc md (nI (svS (S))) (gsT (nI 1) (nI 0)) m2 m3 m4 m5]) H := hP
          have hD : va_D A (wcat [moB Γ a (upd (svR (S) ms) (3 + kn) h) mt mc md (nI (svS (S))) (gsT (nI 1) (nI 0)) m2 m3 m4 m5]) := hD
          refine lv_iload hx hb dX5_heir_84 (lv_at hl 0 rfl) ?_
          exact W.iret (v := ((svR (S) ms) (3 + kn))) hx hb hr (fun t ht hW => eMI (by rw [hq]; exact hP) hS ht (by rw [hq])) hS.2.2 dX5_heir_86
        · have hq := hq.trans (if_pos c_5)
          refine lv_iconst (v := (nI 0)) hx hb dX5_heir_59 (by decide) ?_
          exact W.iret (v := (nI 0)) hx hb hr (fun t ht hW => eMI (by rw [hq]; exact hP) hS ht (by rw [hq])) hS.2.2 dX5_heir_60
      · have hq := hq.trans (if_neg c_4)
        refine lv_aload_n hx hb dX5_heir_38 rfl (lv_at hl 1 rfl) ?_
        refine lv_iconst (v := (nI 0)) hx hb dX5_heir_39 (by decide) ?_
        refine lv_iload_n hx hb dX5_heir_40 rfl (lv_at hl 2 rfl) ?_
        refine lv_iload_n hx hb dX5_heir_41 rfl (lv_at hl 3 rfl) ?_
        refine cLI (va_runV (As := [.int (nI 0), .int k, .int h]) (rest := [.int (nI 1), .ref (a 0)]) ⟨hx, hb, hml, hown, hts⟩ ((kX5_areAlive l Γ a ms mt mc md (nI S) m1 m2 m3 m4 m5 (0) k h (by first | assumption | omega)) _) (cwV 3 hts gX5_heir_X5_areAlive rfl rfl rfl (by decide +kernel) ⟨Nat.le_of_ble_eq_true rfl, Nat.le_of_ble_eq_true rfl⟩) ⟨wPre_blind, va_recv hK hP (ci := 5) (q0 := 0) rfl rfl, wPre_mk hP hD hK hS hA hAB hAm [0] rfl rfl⟩ rfl rfl hl.1 rfl (lv_room (Nat.le_of_ble_eq_true rfl)) dX5_heir_42 ⟨Nat.zero_le _, Nat.zero_le _⟩) hP hS hA (fun H locs hP hS => ?_)
        refine lv_if_eq (tgt := 52) hx hb dX5_heir_45 (by decide) (fun c_6 => ?_) (fun c_6 => ?_)
        · have hq := hq.trans (if_pos c_6)
          refine lv_iconst (v := (nI 0)) hx hb dX5_heir_52 (by decide) ?_
          refine cMI (bc' := [moB Γ a ms mt mc md (nI S) (gsT (nI 1) (nI 0)) m2 m3 m4 m5]) (va_runV (As := [.int (nI 1), .int (nI 0)]) (rest := []) ⟨hx, hb, hml, hown, hts⟩ ((nX5_goes l Γ a ms mt mc md (nI S) m1 m2 m3 m4 m5 (nI 1) (nI 0)) _) (cwV 2 hts gX5_heir_X5_goes rfl rfl rfl (by decide +kernel) ⟨Nat.le_of_ble_eq_true rfl, Nat.le_of_ble_eq_true rfl⟩) ⟨wPre_blind, va_recv hK hP (ci := 5) (q0 := 0) rfl rfl, wPre_mk hP hD hK hS hA hAB hAm [0] rfl rfl⟩ rfl rfl hl.1 rfl (lv_room (Nat.le_of_ble_eq_true rfl)) dX5_heir_53 ⟨Nat.zero_le _, Nat.zero_le _⟩) hP hD hS hA [0] rfl rfl (bs' := [moB Γ a ms mt mc md (nI S) (gsT (nI 1) (nI 0)) m2 m3 m4 m5]) rfl (fun H locs hP hD hS => ?_)
          refine lv_if_ne (tgt := 61) hx hb dX5_heir_56 (by decide) (fun c_7 => ?_) (fun c_7 => ?_)
          · have hq := hq.trans (if_neg c_7)
            obtain ⟨kn, hkn, rfl⟩ : ∃ j : Nat, j < K ∧ k = nI j := isK hMK hK8 (show ¬ fX5_isKeeper ms k = 0 by first | assumption | exact gs_ne1 (by assumption) | exact gs_00 (by assumption) | exact gs_01 (by assumption))
            replace hq : (fX5_heir S ms (nI kn) h) = (((svR (S) ms) (3 + kn)), (upd (svR (S) ms) (3 + kn) h), (nI (svS (S))), (gsT (nI 1) (nI 0))) := hq.trans (by first | simp only [nI_clamp (show kn < 2 ^ 31 by omega), Nat.add_sub_cancel] | rfl)
            refine lv_aload_n hx hb dX5_heir_61 rfl (lv_at hl 1 rfl) ?_
            refine cMV (bc' := [moB Γ a (svR (S) ms) mt mc md (nI (svS (S))) (gsT (nI 1) (nI 0)) m2 m3 m4 m5]) (va_runV (As := []) (rest := []) ⟨hx, hb, hml, hown, hts⟩ ((nX5_saves l Γ a (S) ms mt mc md (gsT (nI 1) (nI 0)) m2 m3 m4 m5 (by first | assumption | omega)) _) (cwV 0 hts gX5_heir_X5_saves rfl rfl rfl (by decide +kernel) ⟨Nat.le_of_ble_eq_true rfl, Nat.le_of_ble_eq_true rfl⟩) ⟨wPre_blind, va_recv hK hP (ci := 5) (q0 := 0) rfl rfl, wPre_mk hP hD hK hS hA hAB hAm [0] rfl rfl⟩ rfl rfl hl.1 rfl (lv_room (Nat.le_of_ble_eq_true rfl)) dX5_heir_62 ⟨Nat.zero_le _, Nat.zero_le _⟩) hP hD hS hA [0] rfl rfl (bs' := [moB Γ a (svR (S) ms) mt mc md (nI (svS (S))) (gsT (nI 1) (nI 0)) m2 m3 m4 m5]) rfl (fun H locs hP hD hS => ?_)
            refine lv_aload_n hx hb dX5_heir_65 rfl (lv_at hl 1 rfl) ?_
            refine va_get (D := Γ.1) (ci := 5) (v := .ref (a 1)) (C := RX5) (T := TX5) (N := 10) hx hb hts hi5 hown hK hP 0 rfl rfl 0 (by decide) kf7 (fun _ h9 => h9) rfl dX5_heir_66 ?_
            refine lv_iconst (v := (nI 3)) hx hb dX5_heir_69 (by decide) ?_
            refine lv_iload_n hx hb dX5_heir_70 rfl (lv_at hl 2 rfl) ?_
            refine lv_iadd hx hb dX5_heir_71 ?_
            refine lv_eqi (y := (nI (3 + kn))) (nI_add _ _) ?_
            refine va_iald_n (f := (svR (S) ms)) hx hb hK hP 1 0 rfl rfl (by omega) (Nat.le_of_ble_eq_true rfl) dX5_heir_72 ?_
            refine lv_istore (lv' := [(4, .int ((svR (S) ms) (3 + kn))), (3, .int (nI 1)), (0, .ref (a 0)), (1, .int (nI kn)), (2, .int h)]) hx hb dX5_heir_73 hl (by decide) rfl (fun ls hl => ?_)
            refine lv_aload_n hx hb dX5_heir_75 rfl (lv_at hl 2 rfl) ?_
            refine va_get (D := Γ.1) (ci := 5) (v := .ref (a 1)) (C := RX5) (T := TX5) (N := 10) hx hb hts hi5 hown hK hP 0 rfl rfl 0 (by decide) kf7 (fun _ h9 => h9) rfl dX5_heir_76 ?_
            refine lv_iconst (v := (nI 3)) hx hb dX5_heir_79 (by decide) ?_
            refine lv_iload_n hx hb dX5_heir_80 rfl (lv_at hl 3 rfl) ?_
            refine lv_iadd hx hb dX5_heir_81 ?_
            refine lv_eqi (y := (nI (3 + kn))) (nI_add _ _) ?_
            refine lv_iload_n hx hb dX5_heir_82 rfl (lv_at hl 4 rfl) ?_
            refine va_iast_n (f := (svR (S) ms)) hx hb hK hP hD hS 1 0 rfl rfl (by omega) (Nat.le_of_ble_eq_true rfl) dX5_heir_83 (fun H locs hP hD hS => ?_)
            have hP : va_P Γ.1 vwCl (wcat [moB Γ a (upd (svR (S) ms) (3 + kn) h) mt mc md (nI (svS (S))) (gsT (nI 1) (nI 0)) m2 m3 m4 m5]) H := hP
            have hD : va_D A (wcat [moB Γ a (upd (svR (S) ms) (3 + kn) h) mt mc md (nI (svS (S))) (gsT (nI 1) (nI 0)) m2 m3 m4 m5]) := hD
            refine lv_iload hx hb dX5_heir_84 (lv_at hl 0 rfl) ?_
            exact W.iret (v := ((svR (S) ms) (3 + kn))) hx hb hr (fun t ht hW => eMI (by rw [hq]; exact hP) hS ht (by rw [hq])) hS.2.2 dX5_heir_86
          · have hq := hq.trans (if_pos c_7)
            refine lv_iconst (v := (nI 0)) hx hb dX5_heir_59 (by decide) ?_
            exact W.iret (v := (nI 0)) hx hb hr (fun t ht hW => eMI (by rw [hq]; exact hP) hS ht (by rw [hq])) hS.2.2 dX5_heir_60
        · have hq := hq.trans (if_neg c_6)
          refine lv_iconst (v := (nI 1)) hx hb dX5_heir_48 (by decide) ?_
          refine lv_goto (tgt := 53) hx hb dX5_heir_49 (by decide) ?_
          refine cMI (bc' := [moB Γ a ms mt mc md (nI S) (gsT (nI 1) (nI 1)) m2 m3 m4 m5]) (va_runV (As := [.int (nI 1), .int (nI 1)]) (rest := []) ⟨hx, hb, hml, hown, hts⟩ ((nX5_goes l Γ a ms mt mc md (nI S) m1 m2 m3 m4 m5 (nI 1) (nI 1)) _) (cwV 2 hts gX5_heir_X5_goes rfl rfl rfl (by decide +kernel) ⟨Nat.le_of_ble_eq_true rfl, Nat.le_of_ble_eq_true rfl⟩) ⟨wPre_blind, va_recv hK hP (ci := 5) (q0 := 0) rfl rfl, wPre_mk hP hD hK hS hA hAB hAm [0] rfl rfl⟩ rfl rfl hl.1 rfl (lv_room (Nat.le_of_ble_eq_true rfl)) dX5_heir_53 ⟨Nat.zero_le _, Nat.zero_le _⟩) hP hD hS hA [0] rfl rfl (bs' := [moB Γ a ms mt mc md (nI S) (gsT (nI 1) (nI 1)) m2 m3 m4 m5]) rfl (fun H locs hP hD hS => ?_)
          refine lv_if_ne (tgt := 61) hx hb dX5_heir_56 (by decide) (fun c_8 => ?_) (fun c_8 => ?_)
          · have hq := hq.trans (if_neg c_8)
            obtain ⟨kn, hkn, rfl⟩ : ∃ j : Nat, j < K ∧ k = nI j := isK hMK hK8 (show ¬ fX5_isKeeper ms k = 0 by first | assumption | exact gs_ne1 (by assumption) | exact gs_00 (by assumption) | exact gs_01 (by assumption))
            replace hq : (fX5_heir S ms (nI kn) h) = (((svR (S) ms) (3 + kn)), (upd (svR (S) ms) (3 + kn) h), (nI (svS (S))), (gsT (nI 1) (nI 1))) := hq.trans (by first | simp only [nI_clamp (show kn < 2 ^ 31 by omega), Nat.add_sub_cancel] | rfl)
            refine lv_aload_n hx hb dX5_heir_61 rfl (lv_at hl 1 rfl) ?_
            refine cMV (bc' := [moB Γ a (svR (S) ms) mt mc md (nI (svS (S))) (gsT (nI 1) (nI 1)) m2 m3 m4 m5]) (va_runV (As := []) (rest := []) ⟨hx, hb, hml, hown, hts⟩ ((nX5_saves l Γ a (S) ms mt mc md (gsT (nI 1) (nI 1)) m2 m3 m4 m5 (by first | assumption | omega)) _) (cwV 0 hts gX5_heir_X5_saves rfl rfl rfl (by decide +kernel) ⟨Nat.le_of_ble_eq_true rfl, Nat.le_of_ble_eq_true rfl⟩) ⟨wPre_blind, va_recv hK hP (ci := 5) (q0 := 0) rfl rfl, wPre_mk hP hD hK hS hA hAB hAm [0] rfl rfl⟩ rfl rfl hl.1 rfl (lv_room (Nat.le_of_ble_eq_true rfl)) dX5_heir_62 ⟨Nat.zero_le _, Nat.zero_le _⟩) hP hD hS hA [0] rfl rfl (bs' := [moB Γ a (svR (S) ms) mt mc md (nI (svS (S))) (gsT (nI 1) (nI 1)) m2 m3 m4 m5]) rfl (fun H locs hP hD hS => ?_)
            refine lv_aload_n hx hb dX5_heir_65 rfl (lv_at hl 1 rfl) ?_
            refine va_get (D := Γ.1) (ci := 5) (v := .ref (a 1)) (C := RX5) (T := TX5) (N := 10) hx hb hts hi5 hown hK hP 0 rfl rfl 0 (by decide) kf7 (fun _ h9 => h9) rfl dX5_heir_66 ?_
            refine lv_iconst (v := (nI 3)) hx hb dX5_heir_69 (by decide) ?_
            refine lv_iload_n hx hb dX5_heir_70 rfl (lv_at hl 2 rfl) ?_
            refine lv_iadd hx hb dX5_heir_71 ?_
            refine lv_eqi (y := (nI (3 + kn))) (nI_add _ _) ?_
            refine va_iald_n (f := (svR (S) ms)) hx hb hK hP 1 0 rfl rfl (by omega) (Nat.le_of_ble_eq_true rfl) dX5_heir_72 ?_
            refine lv_istore (lv' := [(4, .int ((svR (S) ms) (3 + kn))), (3, .int (nI 1)), (0, .ref (a 0)), (1, .int (nI kn)), (2, .int h)]) hx hb dX5_heir_73 hl (by decide) rfl (fun ls hl => ?_)
            refine lv_aload_n hx hb dX5_heir_75 rfl (lv_at hl 2 rfl) ?_
            refine va_get (D := Γ.1) (ci := 5) (v := .ref (a 1)) (C := RX5) (T := TX5) (N := 10) hx hb hts hi5 hown hK hP 0 rfl rfl 0 (by decide) kf7 (fun _ h9 => h9) rfl dX5_heir_76 ?_
            refine lv_iconst (v := (nI 3)) hx hb dX5_heir_79 (by decide) ?_
            refine lv_iload_n hx hb dX5_heir_80 rfl (lv_at hl 3 rfl) ?_
            refine lv_iadd hx hb dX5_heir_81 ?_
            refine lv_eqi (y := (nI (3 + kn))) (nI_add _ _) ?_
            refine lv_iload_n hx hb dX5_heir_82 rfl (lv_at hl 4 rfl) ?_
            refine va_iast_n (f := (svR (S) ms)) hx hb hK hP hD hS 1 0 rfl rfl (by omega) (Nat.le_of_ble_eq_true rfl) dX5_heir_83 (fun H locs hP hD hS => ?_)
            have hP : va_P Γ.1 vwCl (wcat [moB Γ a (upd (svR (S) ms) (3 + kn) h) mt mc md (nI (svS (S))) (gsT (nI 1) (nI 1)) m2 m3 m4 m5]) H := hP
            have hD : va_D A (wcat [moB Γ a (upd (svR (S) ms) (3 + kn) h) mt mc md (nI (svS (S))) (gsT (nI 1) (nI 1)) m2 m3 m4 m5]) := hD
            refine lv_iload hx hb dX5_heir_84 (lv_at hl 0 rfl) ?_
            exact W.iret (v := ((svR (S) ms) (3 + kn))) hx hb hr (fun t ht hW => eMI (by rw [hq]; exact hP) hS ht (by rw [hq])) hS.2.2 dX5_heir_86
          · have hq := hq.trans (if_pos c_8)
            refine lv_iconst (v := (nI 0)) hx hb dX5_heir_59 (by decide) ?_
            exact W.iret (v := (nI 0)) hx hb hr (fun t ht hW => eMI (by rw [hq]; exact hP) hS ht (by rw [hq])) hS.2.2 dX5_heir_60
    · have hq := hq.trans (if_neg c_3)
      refine lv_aload_n hx hb dX5_heir_13 rfl (lv_at hl 0 rfl) ?_
      refine lv_iload_n hx hb dX5_heir_14 rfl (lv_at hl 2 rfl) ?_
      refine cLI (va_runV (As := [.int h]) (rest := []) ⟨hx, hb, hml, hown, hts⟩ ((kX5_isKeeper l Γ a ms mt mc md (nI S) m1 m2 m3 m4 m5 h) _) (cwV 1 hts gX5_heir_X5_isKeeper rfl rfl rfl (by decide +kernel) ⟨Nat.le_of_ble_eq_true rfl, Nat.le_of_ble_eq_true rfl⟩) ⟨wPre_blind, va_recv hK hP (ci := 5) (q0 := 0) rfl rfl, wPre_mk hP hD hK hS hA hAB hAm [0] rfl rfl⟩ rfl rfl hl.1 rfl (lv_room (Nat.le_of_ble_eq_true rfl)) dX5_heir_15 ⟨Nat.zero_le _, Nat.zero_le _⟩) hP hS hA (fun H locs hP hS => ?_)
      refine lv_if_eq (tgt := 25) hx hb dX5_heir_18 (by decide) (fun c_9 => ?_) (fun c_9 => ?_)
      · have hq := hq.trans (if_pos c_9)
        refine lv_iconst (v := (nI 0)) hx hb dX5_heir_25 (by decide) ?_
        refine lv_istore_n (lv' := [(3, .int (nI 0)), (0, .ref (a 0)), (1, .int k), (2, .int h)]) hx hb dX5_heir_26 rfl hl (by decide) rfl (fun ls hl => ?_)
        refine lv_aload_n hx hb dX5_heir_27 rfl (lv_at hl 1 rfl) ?_
        refine lv_iload_n hx hb dX5_heir_28 rfl (lv_at hl 0 rfl) ?_
        refine lv_iload_n hx hb dX5_heir_29 rfl (lv_at hl 0 rfl) ?_
        refine lv_if_eq (tgt := 52) hx hb dX5_heir_30 (by decide) (fun c_30 => ?_) (fun c_30 => absurd c_30 (by decide))
        refine lv_iconst (v := (nI 0)) hx hb dX5_heir_52 (by decide) ?_
        refine cMI (bc' := [moB Γ a ms mt mc md (nI S) (gsT (nI 0) (nI 0)) m2 m3 m4 m5]) (va_runV (As := [.int (nI 0), .int (nI 0)]) (rest := []) ⟨hx, hb, hml, hown, hts⟩ ((nX5_goes l Γ a ms mt mc md (nI S) m1 m2 m3 m4 m5 (nI 0) (nI 0)) _) (cwV 2 hts gX5_heir_X5_goes rfl rfl rfl (by decide +kernel) ⟨Nat.le_of_ble_eq_true rfl, Nat.le_of_ble_eq_true rfl⟩) ⟨wPre_blind, va_recv hK hP (ci := 5) (q0 := 0) rfl rfl, wPre_mk hP hD hK hS hA hAB hAm [0] rfl rfl⟩ rfl rfl hl.1 rfl (lv_room (Nat.le_of_ble_eq_true rfl)) dX5_heir_53 ⟨Nat.zero_le _, Nat.zero_le _⟩) hP hD hS hA [0] rfl rfl (bs' := [moB Γ a ms mt mc md (nI S) (gsT (nI 0) (nI 0)) m2 m3 m4 m5]) rfl (fun H locs hP hD hS => ?_)
        refine lv_if_ne (tgt := 61) hx hb dX5_heir_56 (by decide) (fun c_10 => ?_) (fun c_10 => ?_)
        · have hq := hq.trans (if_neg c_10)
          obtain ⟨kn, hkn, rfl⟩ : ∃ j : Nat, j < K ∧ k = nI j := isK hMK hK8 (show ¬ fX5_isKeeper ms k = 0 by first | assumption | exact gs_ne1 (by assumption) | exact gs_00 (by assumption) | exact gs_01 (by assumption))
          replace hq : (fX5_heir S ms (nI kn) h) = (((svR (S) ms) (3 + kn)), (upd (svR (S) ms) (3 + kn) h), (nI (svS (S))), (gsT (nI 0) (nI 0))) := hq.trans (by first | simp only [nI_clamp (show kn < 2 ^ 31 by omega), Nat.add_sub_cancel] | rfl)
          refine lv_aload_n hx hb dX5_heir_61 rfl (lv_at hl 1 rfl) ?_
          refine cMV (bc' := [moB Γ a (svR (S) ms) mt mc md (nI (svS (S))) (gsT (nI 0) (nI 0)) m2 m3 m4 m5]) (va_runV (As := []) (rest := []) ⟨hx, hb, hml, hown, hts⟩ ((nX5_saves l Γ a (S) ms mt mc md (gsT (nI 0) (nI 0)) m2 m3 m4 m5 (by first | assumption | omega)) _) (cwV 0 hts gX5_heir_X5_saves rfl rfl rfl (by decide +kernel) ⟨Nat.le_of_ble_eq_true rfl, Nat.le_of_ble_eq_true rfl⟩) ⟨wPre_blind, va_recv hK hP (ci := 5) (q0 := 0) rfl rfl, wPre_mk hP hD hK hS hA hAB hAm [0] rfl rfl⟩ rfl rfl hl.1 rfl (lv_room (Nat.le_of_ble_eq_true rfl)) dX5_heir_62 ⟨Nat.zero_le _, Nat.zero_le _⟩) hP hD hS hA [0] rfl rfl (bs' := [moB Γ a (svR (S) ms) mt mc md (nI (svS (S))) (gsT (nI 0) (nI 0)) m2 m3 m4 m5]) rfl (fun H locs hP hD hS => ?_)
          refine lv_aload_n hx hb dX5_heir_65 rfl (lv_at hl 1 rfl) ?_
          refine va_get (D := Γ.1) (ci := 5) (v := .ref (a 1)) (C := RX5) (T := TX5) (N := 10) hx hb hts hi5 hown hK hP 0 rfl rfl 0 (by decide) kf7 (fun _ h9 => h9) rfl dX5_heir_66 ?_
          refine lv_iconst (v := (nI 3)) hx hb dX5_heir_69 (by decide) ?_
          refine lv_iload_n hx hb dX5_heir_70 rfl (lv_at hl 2 rfl) ?_
          refine lv_iadd hx hb dX5_heir_71 ?_
          refine lv_eqi (y := (nI (3 + kn))) (nI_add _ _) ?_
          refine va_iald_n (f := (svR (S) ms)) hx hb hK hP 1 0 rfl rfl (by omega) (Nat.le_of_ble_eq_true rfl) dX5_heir_72 ?_
          refine lv_istore (lv' := [(4, .int ((svR (S) ms) (3 + kn))), (3, .int (nI 0)), (0, .ref (a 0)), (1, .int (nI kn)), (2, .int h)]) hx hb dX5_heir_73 hl (by decide) rfl (fun ls hl => ?_)
          refine lv_aload_n hx hb dX5_heir_75 rfl (lv_at hl 2 rfl) ?_
          refine va_get (D := Γ.1) (ci := 5) (v := .ref (a 1)) (C := RX5) (T := TX5) (N := 10) hx hb hts hi5 hown hK hP 0 rfl rfl 0 (by decide) kf7 (fun _ h9 => h9) rfl dX5_heir_76 ?_
          refine lv_iconst (v := (nI 3)) hx hb dX5_heir_79 (by decide) ?_
          refine lv_iload_n hx hb dX5_heir_80 rfl (lv_at hl 3 rfl) ?_
          refine lv_iadd hx hb dX5_heir_81 ?_
          refine lv_eqi (y := (nI (3 + kn))) (nI_add _ _) ?_
          refine lv_iload_n hx hb dX5_heir_82 rfl (lv_at hl 4 rfl) ?_
          refine va_iast_n (f := (svR (S) ms)) hx hb hK hP hD hS 1 0 rfl rfl (by omega) (Nat.le_of_ble_eq_true rfl) dX5_heir_83 (fun H locs hP hD hS => ?_)
          have hP : va_P Γ.1 vwCl (wcat [moB Γ a (upd (svR (S) ms) (3 + kn) h) mt mc md (nI (svS (S))) (gsT (nI 0) (nI 0)) m2 m3 m4 m5]) H := hP
          have hD : va_D A (wcat [moB Γ a (upd (svR (S) ms) (3 + kn) h) mt mc md (nI (svS (S))) (gsT (nI 0) (nI 0)) m2 m3 m4 m5]) := hD
          refine lv_iload hx hb dX5_heir_84 (lv_at hl 0 rfl) ?_
          exact W.iret (v := ((svR (S) ms) (3 + kn))) hx hb hr (fun t ht hW => eMI (by rw [hq]; exact hP) hS ht (by rw [hq])) hS.2.2 dX5_heir_86
        · have hq := hq.trans (if_pos c_10)
          refine lv_iconst (v := (nI 0)) hx hb dX5_heir_59 (by decide) ?_
          exact W.iret (v := (nI 0)) hx hb hr (fun t ht hW => eMI (by rw [hq]; exact hP) hS ht (by rw [hq])) hS.2.2 dX5_heir_60
      · have hq := hq.trans (if_neg c_9)
        refine lv_iconst (v := (nI 1)) hx hb dX5_heir_21 (by decide) ?_
        refine lv_goto (tgt := 26) hx hb dX5_heir_22 (by decide) ?_
        refine lv_istore_n (lv' := [(3, .int (nI 1)), (0, .ref (a 0)), (1, .int k), (2, .int h)]) hx hb dX5_heir_26 rfl hl (by decide) rfl (fun ls hl => ?_)
        refine lv_aload_n hx hb dX5_heir_27 rfl (lv_at hl 1 rfl) ?_
        refine lv_iload_n hx hb dX5_heir_28 rfl (lv_at hl 0 rfl) ?_
        refine lv_iload_n hx hb dX5_heir_29 rfl (lv_at hl 0 rfl) ?_
        refine lv_if_eq (tgt := 52) hx hb dX5_heir_30 (by decide) (fun c_30 => absurd c_30 (by decide)) (fun c_30 => ?_)
        refine lv_iload_n hx hb dX5_heir_33 rfl (lv_at hl 2 rfl) ?_
        refine lv_iload_n hx hb dX5_heir_34 rfl (lv_at hl 3 rfl) ?_
        refine lv_icmp_eq (tgt := 52) hx hb dX5_heir_35 (by decide) (fun c_11 => ?_) (fun c_11 => ?_)
        · have hq := hq.trans (if_pos c_11)
          refine lv_iconst (v := (nI 0)) hx hb dX5_heir_52 (by decide) ?_
          refine cMI (bc' := [moB Γ a ms mt mc md (nI S) (gsT (nI 1) (nI 0)) m2 m3 m4 m5]) (va_runV (As := [.int (nI 1), .int (nI 0)]) (rest := []) ⟨hx, hb, hml, hown, hts⟩ ((nX5_goes l Γ a ms mt mc md (nI S) m1 m2 m3 m4 m5 (nI 1) (nI 0)) _) (cwV 2 hts gX5_heir_X5_goes rfl rfl rfl (by decide +kernel) ⟨Nat.le_of_ble_eq_true rfl, Nat.le_of_ble_eq_true rfl⟩) ⟨wPre_blind, va_recv hK hP (ci := 5) (q0 := 0) rfl rfl, wPre_mk hP hD hK hS hA hAB hAm [0] rfl rfl⟩ rfl rfl hl.1 rfl (lv_room (Nat.le_of_ble_eq_true rfl)) dX5_heir_53 ⟨Nat.zero_le _, Nat.zero_le _⟩) hP hD hS hA [0] rfl rfl (bs' := [moB Γ a ms mt mc md (nI S) (gsT (nI 1) (nI 0)) m2 m3 m4 m5]) rfl (fun H locs hP hD hS => ?_)
          refine lv_if_ne (tgt := 61) hx hb dX5_heir_56 (by decide) (fun c_12 => ?_) (fun c_12 => ?_)
          · have hq := hq.trans (if_neg c_12)
            obtain ⟨kn, hkn, rfl⟩ : ∃ j : Nat, j < K ∧ k = nI j := isK hMK hK8 (show ¬ fX5_isKeeper ms k = 0 by first | assumption | exact gs_ne1 (by assumption) | exact gs_00 (by assumption) | exact gs_01 (by assumption))
            replace hq : (fX5_heir S ms (nI kn) h) = (((svR (S) ms) (3 + kn)), (upd (svR (S) ms) (3 + kn) h), (nI (svS (S))), (gsT (nI 1) (nI 0))) := hq.trans (by first | simp only [nI_clamp (show kn < 2 ^ 31 by omega), Nat.add_sub_cancel] | rfl)
            refine lv_aload_n hx hb dX5_heir_61 rfl (lv_at hl 1 rfl) ?_
            refine cMV (bc' := [moB Γ a (svR (S) ms) mt mc md (nI (svS (S))) (gsT (nI 1) (nI 0)) m2 m3 m4 m5]) (va_runV (As := []) (rest := []) ⟨hx, hb, hml, hown, hts⟩ ((nX5_saves l Γ a (S) ms mt mc md (gsT (nI 1) (nI 0)) m2 m3 m4 m5 (by first | assumption | omega)) _) (cwV 0 hts gX5_heir_X5_saves rfl rfl rfl (by decide +kernel) ⟨Nat.le_of_ble_eq_true rfl, Nat.le_of_ble_eq_true rfl⟩) ⟨wPre_blind, va_recv hK hP (ci := 5) (q0 := 0) rfl rfl, wPre_mk hP hD hK hS hA hAB hAm [0] rfl rfl⟩ rfl rfl hl.1 rfl (lv_room (Nat.le_of_ble_eq_true rfl)) dX5_heir_62 ⟨Nat.zero_le _, Nat.zero_le _⟩) hP hD hS hA [0] rfl rfl (bs' := [moB Γ a (svR (S) ms) mt mc md (nI (svS (S))) (gsT (nI 1) (nI 0)) m2 m3 m4 m5]) rfl (fun H locs hP hD hS => ?_)
            refine lv_aload_n hx hb dX5_heir_65 rfl (lv_at hl 1 rfl) ?_
            refine va_get (D := Γ.1) (ci := 5) (v := .ref (a 1)) (C := RX5) (T := TX5) (N := 10) hx hb hts hi5 hown hK hP 0 rfl rfl 0 (by decide) kf7 (fun _ h9 => h9) rfl dX5_heir_66 ?_
            refine lv_iconst (v := (nI 3)) hx hb dX5_heir_69 (by decide) ?_
            refine lv_iload_n hx hb dX5_heir_70 rfl (lv_at hl 2 rfl) ?_
            refine lv_iadd hx hb dX5_heir_71 ?_
            refine lv_eqi (y := (nI (3 + kn))) (nI_add _ _) ?_
            refine va_iald_n (f := (svR (S) ms)) hx hb hK hP 1 0 rfl rfl (by omega) (Nat.le_of_ble_eq_true rfl) dX5_heir_72 ?_
            refine lv_istore (lv' := [(4, .int ((svR (S) ms) (3 + kn))), (3, .int (nI 1)), (0, .ref (a 0)), (1, .int (nI kn)), (2, .int h)]) hx hb dX5_heir_73 hl (by decide) rfl (fun ls hl => ?_)
            refine lv_aload_n hx hb dX5_heir_75 rfl (lv_at hl 2 rfl) ?_
            refine va_get (D := Γ.1) (ci := 5) (v := .ref (a 1)) (C := RX5) (T := TX5) (N := 10) hx hb hts hi5 hown hK hP 0 rfl rfl 0 (by decide) kf7 (fun _ h9 => h9) rfl dX5_heir_76 ?_
            refine lv_iconst (v := (nI 3)) hx hb dX5_heir_79 (by decide) ?_
            refine lv_iload_n hx hb dX5_heir_80 rfl (lv_at hl 3 rfl) ?_
            refine lv_iadd hx hb dX5_heir_81 ?_
            refine lv_eqi (y := (nI (3 + kn))) (nI_add _ _) ?_
            refine lv_iload_n hx hb dX5_heir_82 rfl (lv_at hl 4 rfl) ?_
            refine va_iast_n (f := (svR (S) ms)) hx hb hK hP hD hS 1 0 rfl rfl (by omega) (Nat.le_of_ble_eq_true rfl) dX5_heir_83 (fun H locs hP hD hS => ?_)
            have hP : va_P Γ.1 vwCl (wcat [moB Γ a (upd (svR (S) ms) (3 + kn) h) mt mc md (nI (svS (S))) (gsT (nI 1) (nI 0)) m2 m3 m4 m5]) H := hP
            have hD : va_D A (wcat [moB Γ a (upd (svR (S) ms) (3 + kn) h) mt mc md (nI (svS (S))) (gsT (nI 1) (nI 0)) m2 m3 m4 m5]) := hD
            refine lv_iload hx hb dX5_heir_84 (lv_at hl 0 rfl) ?_
            exact W.iret (v := ((svR (S) ms) (3 + kn))) hx hb hr (fun t ht hW => eMI (by rw [hq]; exact hP) hS ht (by rw [hq])) hS.2.2 dX5_heir_86
          · have hq := hq.trans (if_pos c_12)
            refine lv_iconst (v := (nI 0)) hx hb dX5_heir_59 (by decide) ?_
            exact W.iret (v := (nI 0)) hx hb hr (fun t ht hW => eMI (by rw [hq]; exact hP) hS ht (by rw [hq])) hS.2.2 dX5_heir_60
        · have hq := hq.trans (if_neg c_11)
          refine lv_aload_n hx hb dX5_heir_38 rfl (lv_at hl 1 rfl) ?_
          refine lv_iconst (v := (nI 0)) hx hb dX5_heir_39 (by decide) ?_
          refine lv_iload_n hx hb dX5_heir_40 rfl (lv_at hl 2 rfl) ?_
          refine lv_iload_n hx hb dX5_heir_41 rfl (lv_at hl 3 rfl) ?_
          refine cLI (va_runV (As := [.int (nI 0), .int k, .int h]) (rest := [.int (nI 1), .ref (a 0)]) ⟨hx, hb, hml, hown, hts⟩ ((kX5_areAlive l Γ a ms mt mc md (nI S) m1 m2 m3 m4 m5 (0) k h (by first | assumption | omega)) _) (cwV 3 hts gX5_heir_X5_areAlive rfl rfl rfl (by decide +kernel) ⟨Nat.le_of_ble_eq_true rfl, Nat.le_of_ble_eq_true rfl⟩) ⟨wPre_blind, va_recv hK hP (ci := 5) (q0 := 0) rfl rfl, wPre_mk hP hD hK hS hA hAB hAm [0] rfl rfl⟩ rfl rfl hl.1 rfl (lv_room (Nat.le_of_ble_eq_true rfl)) dX5_heir_42 ⟨Nat.zero_le _, Nat.zero_le _⟩) hP hS hA (fun H locs hP hS => ?_)
          refine lv_if_eq (tgt := 52) hx hb dX5_heir_45 (by decide) (fun c_13 => ?_) (fun c_13 => ?_)
          · have hq := hq.trans (if_pos c_13)
            refine lv_iconst (v := (nI 0)) hx hb dX5_heir_52 (by decide) ?_
            refine cMI (bc' := [moB Γ a ms mt mc md (nI S) (gsT (nI 1) (nI 0)) m2 m3 m4 m5]) (va_runV (As := [.int (nI 1), .int (nI 0)]) (rest := []) ⟨hx, hb, hml, hown, hts⟩ ((nX5_goes l Γ a ms mt mc md (nI S) m1 m2 m3 m4 m5 (nI 1) (nI 0)) _) (cwV 2 hts gX5_heir_X5_goes rfl rfl rfl (by decide +kernel) ⟨Nat.le_of_ble_eq_true rfl, Nat.le_of_ble_eq_true rfl⟩) ⟨wPre_blind, va_recv hK hP (ci := 5) (q0 := 0) rfl rfl, wPre_mk hP hD hK hS hA hAB hAm [0] rfl rfl⟩ rfl rfl hl.1 rfl (lv_room (Nat.le_of_ble_eq_true rfl)) dX5_heir_53 ⟨Nat.zero_le _, Nat.zero_le _⟩) hP hD hS hA [0] rfl rfl (bs' := [moB Γ a ms mt mc md (nI S) (gsT (nI 1) (nI 0)) m2 m3 m4 m5]) rfl (fun H locs hP hD hS => ?_)
            refine lv_if_ne (tgt := 61) hx hb dX5_heir_56 (by decide) (fun c_14 => ?_) (fun c_14 => ?_)
            · have hq := hq.trans (if_neg c_14)
              obtain ⟨kn, hkn, rfl⟩ : ∃ j : Nat, j < K ∧ k = nI j := isK hMK hK8 (show ¬ fX5_isKeeper ms k = 0 by first | assumption | exact gs_ne1 (by assumption) | exact gs_00 (by assumption) | exact gs_01 (by assumption))
              replace hq : (fX5_heir S ms (nI kn) h) = (((svR (S) ms) (3 + kn)), (upd (svR (S) ms) (3 + kn) h), (nI (svS (S))), (gsT (nI 1) (nI 0))) := hq.trans (by first | simp only [nI_clamp (show kn < 2 ^ 31 by omega), Nat.add_sub_cancel] | rfl)
              refine lv_aload_n hx hb dX5_heir_61 rfl (lv_at hl 1 rfl) ?_
              refine cMV (bc' := [moB Γ a (svR (S) ms) mt mc md (nI (svS (S))) (gsT (nI 1) (nI 0)) m2 m3 m4 m5]) (va_runV (As := []) (rest := []) ⟨hx, hb, hml, hown, hts⟩ ((nX5_saves l Γ a (S) ms mt mc md (gsT (nI 1) (nI 0)) m2 m3 m4 m5 (by first | assumption | omega)) _) (cwV 0 hts gX5_heir_X5_saves rfl rfl rfl (by decide +kernel) ⟨Nat.le_of_ble_eq_true rfl, Nat.le_of_ble_eq_true rfl⟩) ⟨wPre_blind, va_recv hK hP (ci := 5) (q0 := 0) rfl rfl, wPre_mk hP hD hK hS hA hAB hAm [0] rfl rfl⟩ rfl rfl hl.1 rfl (lv_room (Nat.le_of_ble_eq_true rfl)) dX5_heir_62 ⟨Nat.zero_le _, Nat.zero_le _⟩) hP hD hS hA [0] rfl rfl (bs' := [moB Γ a (svR (S) ms) mt mc md (nI (svS (S))) (gsT (nI 1) (nI 0)) m2 m3 m4 m5]) rfl (fun H locs hP hD hS => ?_)
              refine lv_aload_n hx hb dX5_heir_65 rfl (lv_at hl 1 rfl) ?_
              refine va_get (D := Γ.1) (ci := 5) (v := .ref (a 1)) (C := RX5) (T := TX5) (N := 10) hx hb hts hi5 hown hK hP 0 rfl rfl 0 (by decide) kf7 (fun _ h9 => h9) rfl dX5_heir_66 ?_
              refine lv_iconst (v := (nI 3)) hx hb dX5_heir_69 (by decide) ?_
              refine lv_iload_n hx hb dX5_heir_70 rfl (lv_at hl 2 rfl) ?_
              refine lv_iadd hx hb dX5_heir_71 ?_
              refine lv_eqi (y := (nI (3 + kn))) (nI_add _ _) ?_
              refine va_iald_n (f := (svR (S) ms)) hx hb hK hP 1 0 rfl rfl (by omega) (Nat.le_of_ble_eq_true rfl) dX5_heir_72 ?_
              refine lv_istore (lv' := [(4, .int ((svR (S) ms) (3 + kn))), (3, .int (nI 1)), (0, .ref (a 0)), (1, .int (nI kn)), (2, .int h)]) hx hb dX5_heir_73 hl (by decide) rfl (fun ls hl => ?_)
              refine lv_aload_n hx hb dX5_heir_75 rfl (lv_at hl 2 rfl) ?_
              refine va_get (D := Γ.1) (ci := 5) (v := .ref (a 1)) (C := RX5) (T := TX5) (N := 10) hx hb hts hi5 hown hK hP 0 rfl rfl 0 (by decide) kf7 (fun _ h9 => h9) rfl dX5_heir_76 ?_
              refine lv_iconst (v := (nI 3)) hx hb dX5_heir_79 (by decide) ?_
              refine lv_iload_n hx hb dX5_heir_80 rfl (lv_at hl 3 rfl) ?_
              refine lv_iadd hx hb dX5_heir_81 ?_
              refine lv_eqi (y := (nI (3 + kn))) (nI_add _ _) ?_
              refine lv_iload_n hx hb dX5_heir_82 rfl (lv_at hl 4 rfl) ?_
              refine va_iast_n (f := (svR (S) ms)) hx hb hK hP hD hS 1 0 rfl rfl (by omega) (Nat.le_of_ble_eq_true rfl) dX5_heir_83 (fun H locs hP hD hS => ?_)
              have hP : va_P Γ.1 vwCl (wcat [moB Γ a (upd (svR (S) ms) (3 + kn) h) mt mc md (nI (svS (S))) (gsT (nI 1) (nI 0)) m2 m3 m4 m5]) H := hP
              have hD : va_D A (wcat [moB Γ a (upd (svR (S) ms) (3 + kn) h) mt mc md (nI (svS (S))) (gsT (nI 1) (nI 0)) m2 m3 m4 m5]) := hD
              refine lv_iload hx hb dX5_heir_84 (lv_at hl 0 rfl) ?_
              exact W.iret (v := ((svR (S) ms) (3 + kn))) hx hb hr (fun t ht hW => eMI (by rw [hq]; exact hP) hS ht (by rw [hq])) hS.2.2 dX5_heir_86
            · have hq := hq.trans (if_pos c_14)
              refine lv_iconst (v := (nI 0)) hx hb dX5_heir_59 (by decide) ?_
              exact W.iret (v := (nI 0)) hx hb hr (fun t ht hW => eMI (by rw [hq]; exact hP) hS ht (by rw [hq])) hS.2.2 dX5_heir_60
          · have hq := hq.trans (if_neg c_13)
            refine lv_iconst (v := (nI 1)) hx hb dX5_heir_48 (by decide) ?_
            refine lv_goto (tgt := 53) hx hb dX5_heir_49 (by decide) ?_
            refine cMI (bc' := [moB Γ a ms mt mc md (nI S) (gsT (nI 1) (nI 1)) m2 m3 m4 m5]) (va_runV (As := [.int (nI 1), .int (nI 1)]) (rest := []) ⟨hx, hb, hml, hown, hts⟩ ((nX5_goes l Γ a ms mt mc md (nI S) m1 m2 m3 m4 m5 (nI 1) (nI 1)) _) (cwV 2 hts gX5_heir_X5_goes rfl rfl rfl (by decide +kernel) ⟨Nat.le_of_ble_eq_true rfl, Nat.le_of_ble_eq_true rfl⟩) ⟨wPre_blind, va_recv hK hP (ci := 5) (q0 := 0) rfl rfl, wPre_mk hP hD hK hS hA hAB hAm [0] rfl rfl⟩ rfl rfl hl.1 rfl (lv_room (Nat.le_of_ble_eq_true rfl)) dX5_heir_53 ⟨Nat.zero_le _, Nat.zero_le _⟩) hP hD hS hA [0] rfl rfl (bs' := [moB Γ a ms mt mc md (nI S) (gsT (nI 1) (nI 1)) m2 m3 m4 m5]) rfl (fun H locs hP hD hS => ?_)
            refine lv_if_ne (tgt := 61) hx hb dX5_heir_56 (by decide) (fun c_15 => ?_) (fun c_15 => ?_)
            · have hq := hq.trans (if_neg c_15)
              obtain ⟨kn, hkn, rfl⟩ : ∃ j : Nat, j < K ∧ k = nI j := isK hMK hK8 (show ¬ fX5_isKeeper ms k = 0 by first | assumption | exact gs_ne1 (by assumption) | exact gs_00 (by assumption) | exact gs_01 (by assumption))
              replace hq : (fX5_heir S ms (nI kn) h) = (((svR (S) ms) (3 + kn)), (upd (svR (S) ms) (3 + kn) h), (nI (svS (S))), (gsT (nI 1) (nI 1))) := hq.trans (by first | simp only [nI_clamp (show kn < 2 ^ 31 by omega), Nat.add_sub_cancel] | rfl)
              refine lv_aload_n hx hb dX5_heir_61 rfl (lv_at hl 1 rfl) ?_
              refine cMV (bc' := [moB Γ a (svR (S) ms) mt mc md (nI (svS (S))) (gsT (nI 1) (nI 1)) m2 m3 m4 m5]) (va_runV (As := []) (rest := []) ⟨hx, hb, hml, hown, hts⟩ ((nX5_saves l Γ a (S) ms mt mc md (gsT (nI 1) (nI 1)) m2 m3 m4 m5 (by first | assumption | omega)) _) (cwV 0 hts gX5_heir_X5_saves rfl rfl rfl (by decide +kernel) ⟨Nat.le_of_ble_eq_true rfl, Nat.le_of_ble_eq_true rfl⟩) ⟨wPre_blind, va_recv hK hP (ci := 5) (q0 := 0) rfl rfl, wPre_mk hP hD hK hS hA hAB hAm [0] rfl rfl⟩ rfl rfl hl.1 rfl (lv_room (Nat.le_of_ble_eq_true rfl)) dX5_heir_62 ⟨Nat.zero_le _, Nat.zero_le _⟩) hP hD hS hA [0] rfl rfl (bs' := [moB Γ a (svR (S) ms) mt mc md (nI (svS (S))) (gsT (nI 1) (nI 1)) m2 m3 m4 m5]) rfl (fun H locs hP hD hS => ?_)
              refine lv_aload_n hx hb dX5_heir_65 rfl (lv_at hl 1 rfl) ?_
              refine va_get (D := Γ.1) (ci := 5) (v := .ref (a 1)) (C := RX5) (T := TX5) (N := 10) hx hb hts hi5 hown hK hP 0 rfl rfl 0 (by decide) kf7 (fun _ h9 => h9) rfl dX5_heir_66 ?_
              refine lv_iconst (v := (nI 3)) hx hb dX5_heir_69 (by decide) ?_
              refine lv_iload_n hx hb dX5_heir_70 rfl (lv_at hl 2 rfl) ?_
              refine lv_iadd hx hb dX5_heir_71 ?_
              refine lv_eqi (y := (nI (3 + kn))) (nI_add _ _) ?_
              refine va_iald_n (f := (svR (S) ms)) hx hb hK hP 1 0 rfl rfl (by omega) (Nat.le_of_ble_eq_true rfl) dX5_heir_72 ?_
              refine lv_istore (lv' := [(4, .int ((svR (S) ms) (3 + kn))), (3, .int (nI 1)), (0, .ref (a 0)), (1, .int (nI kn)), (2, .int h)]) hx hb dX5_heir_73 hl (by decide) rfl (fun ls hl => ?_)
              refine lv_aload_n hx hb dX5_heir_75 rfl (lv_at hl 2 rfl) ?_
              refine va_get (D := Γ.1) (ci := 5) (v := .ref (a 1)) (C := RX5) (T := TX5) (N := 10) hx hb hts hi5 hown hK hP 0 rfl rfl 0 (by decide) kf7 (fun _ h9 => h9) rfl dX5_heir_76 ?_
              refine lv_iconst (v := (nI 3)) hx hb dX5_heir_79 (by decide) ?_
              refine lv_iload_n hx hb dX5_heir_80 rfl (lv_at hl 3 rfl) ?_
              refine lv_iadd hx hb dX5_heir_81 ?_
              refine lv_eqi (y := (nI (3 + kn))) (nI_add _ _) ?_
              refine lv_iload_n hx hb dX5_heir_82 rfl (lv_at hl 4 rfl) ?_
              refine va_iast_n (f := (svR (S) ms)) hx hb hK hP hD hS 1 0 rfl rfl (by omega) (Nat.le_of_ble_eq_true rfl) dX5_heir_83 (fun H locs hP hD hS => ?_)
              have hP : va_P Γ.1 vwCl (wcat [moB Γ a (upd (svR (S) ms) (3 + kn) h) mt mc md (nI (svS (S))) (gsT (nI 1) (nI 1)) m2 m3 m4 m5]) H := hP
              have hD : va_D A (wcat [moB Γ a (upd (svR (S) ms) (3 + kn) h) mt mc md (nI (svS (S))) (gsT (nI 1) (nI 1)) m2 m3 m4 m5]) := hD
              refine lv_iload hx hb dX5_heir_84 (lv_at hl 0 rfl) ?_
              exact W.iret (v := ((svR (S) ms) (3 + kn))) hx hb hr (fun t ht hW => eMI (by rw [hq]; exact hP) hS ht (by rw [hq])) hS.2.2 dX5_heir_86
            · have hq := hq.trans (if_pos c_15)
              refine lv_iconst (v := (nI 0)) hx hb dX5_heir_59 (by decide) ?_
              exact W.iret (v := (nI 0)) hx hb hr (fun t ht hW => eMI (by rw [hq]; exact hP) hS ht (by rw [hq])) hS.2.2 dX5_heir_60
def fX5_quarrel (S : Nat) (ms : (Nat → Int32)) (k : Int32) (o : Int32) : Int32 × (Nat → Int32) × Int32 × Int32 := (if (fX5_isKeeper ms k) = 0 then (if k = o then (if (gsR (nI 0) (nI 0)) = 0 then ((nI 0), ms, (nI S), (gsT (nI 0) (nI 0))) else ((fX5_bits ((upd (upd (svR (S) ms) (11 + (k.toNatClampNeg)) (((svR (S) ms) (11 + (k.toNatClampNeg))) ^^^ ((nI 1) <<< (o &&& 31)))) (11 + (o.toNatClampNeg)) (((upd (svR (S) ms) (11 + (k.toNatClampNeg)) (((svR (S) ms) (11 + (k.toNatClampNeg))) ^^^ ((nI 1) <<< (o &&& 31)))) (11 + (o.toNatClampNeg))) ^^^ ((nI 1) <<< (k &&& 31)))) (11 + (k.toNatClampNeg)))), (upd (upd (svR (S) ms) (11 + (k.toNatClampNeg)) (((svR (S) ms) (11 + (k.toNatClampNeg))) ^^^ ((nI 1) <<< (o &&& 31)))) (11 + (o.toNatClampNeg)) (((upd (svR (S) ms) (11 + (k.toNatClampNeg)) (((svR (S) ms) (11 + (k.toNatClampNeg))) ^^^ ((nI 1) <<< (o &&& 31)))) (11 + (o.toNatClampNeg))) ^^^ ((nI 1) <<< (k &&& 31)))), (nI (svS (S))), (gsT (nI 0) (nI 0)))) else (if (gsR (nI 0) (nI 1)) = 0 then ((nI 0), ms, (nI S), (gsT (nI 0) (nI 1))) else ((fX5_bits ((upd (upd (svR (S) ms) (11 + (k.toNatClampNeg)) (((svR (S) ms) (11 + (k.toNatClampNeg))) ^^^ ((nI 1) <<< (o &&& 31)))) (11 + (o.toNatClampNeg)) (((upd (svR (S) ms) (11 + (k.toNatClampNeg)) (((svR (S) ms) (11 + (k.toNatClampNeg))) ^^^ ((nI 1) <<< (o &&& 31)))) (11 + (o.toNatClampNeg))) ^^^ ((nI 1) <<< (k &&& 31)))) (11 + (k.toNatClampNeg)))), (upd (upd (svR (S) ms) (11 + (k.toNatClampNeg)) (((svR (S) ms) (11 + (k.toNatClampNeg))) ^^^ ((nI 1) <<< (o &&& 31)))) (11 + (o.toNatClampNeg)) (((upd (svR (S) ms) (11 + (k.toNatClampNeg)) (((svR (S) ms) (11 + (k.toNatClampNeg))) ^^^ ((nI 1) <<< (o &&& 31)))) (11 + (o.toNatClampNeg))) ^^^ ((nI 1) <<< (k &&& 31)))), (nI (svS (S))), (gsT (nI 0) (nI 1))))) else (if (fX5_isKeeper ms o) = 0 then (if k = o then (if (gsR (nI 0) (nI 0)) = 0 then ((nI 0), ms, (nI S), (gsT (nI 0) (nI 0))) else ((fX5_bits ((upd (upd (svR (S) ms) (11 + (k.toNatClampNeg)) (((svR (S) ms) (11 + (k.toNatClampNeg))) ^^^ ((nI 1) <<< (o &&& 31)))) (11 + (o.toNatClampNeg)) (((upd (svR (S) ms) (11 + (k.toNatClampNeg)) (((svR (S) ms) (11 + (k.toNatClampNeg))) ^^^ ((nI 1) <<< (o &&& 31)))) (11 + (o.toNatClampNeg))) ^^^ ((nI 1) <<< (k &&& 31)))) (11 + (k.toNatClampNeg)))), (upd (upd (svR (S) ms) (11 + (k.toNatClampNeg)) (((svR (S) ms) (11 + (k.toNatClampNeg))) ^^^ ((nI 1) <<< (o &&& 31)))) (11 + (o.toNatClampNeg)) (((upd (svR (S) ms) (11 + (k.toNatClampNeg)) (((svR (S) ms) (11 + (k.toNatClampNeg))) ^^^ ((nI 1) <<< (o &&& 31)))) (11 + (o.toNatClampNeg))) ^^^ ((nI 1) <<< (k &&& 31)))), (nI (svS (S))), (gsT (nI 0) (nI 0)))) else (if (gsR (nI 0) (nI 1)) = 0 then ((nI 0), ms, (nI S), (gsT (nI 0) (nI 1))) else ((fX5_bits ((upd (upd (svR (S) ms) (11 + (k.toNatClampNeg)) (((svR (S) ms) (11 + (k.toNatClampNeg))) ^^^ ((nI 1) <<< (o &&& 31)))) (11 + (o.toNatClampNeg)) (((upd (svR (S) ms) (11 + (k.toNatClampNeg)) (((svR (S) ms) (11 + (k.toNatClampNeg))) ^^^ ((nI 1) <<< (o &&& 31)))) (11 + (o.toNatClampNeg))) ^^^ ((nI 1) <<< (k &&& 31)))) (11 + (k.toNatClampNeg)))), (upd (upd (svR (S) ms) (11 + (k.toNatClampNeg)) (((svR (S) ms) (11 + (k.toNatClampNeg))) ^^^ ((nI 1) <<< (o &&& 31)))) (11 + (o.toNatClampNeg)) (((upd (svR (S) ms) (11 + (k.toNatClampNeg)) (((svR (S) ms) (11 + (k.toNatClampNeg))) ^^^ ((nI 1) <<< (o &&& 31)))) (11 + (o.toNatClampNeg))) ^^^ ((nI 1) <<< (k &&& 31)))), (nI (svS (S))), (gsT (nI 0) (nI 1))))) else (if k = o then (if (gsR (nI 1) (nI 0)) = 0 then ((nI 0), ms, (nI S), (gsT (nI 1) (nI 0))) else ((fX5_bits ((upd (upd (svR (S) ms) (11 + (k.toNatClampNeg)) (((svR (S) ms) (11 + (k.toNatClampNeg))) ^^^ ((nI 1) <<< (o &&& 31)))) (11 + (o.toNatClampNeg)) (((upd (svR (S) ms) (11 + (k.toNatClampNeg)) (((svR (S) ms) (11 + (k.toNatClampNeg))) ^^^ ((nI 1) <<< (o &&& 31)))) (11 + (o.toNatClampNeg))) ^^^ ((nI 1) <<< (k &&& 31)))) (11 + (k.toNatClampNeg)))), (upd (upd (svR (S) ms) (11 + (k.toNatClampNeg)) (((svR (S) ms) (11 + (k.toNatClampNeg))) ^^^ ((nI 1) <<< (o &&& 31)))) (11 + (o.toNatClampNeg)) (((upd (svR (S) ms) (11 + (k.toNatClampNeg)) (((svR (S) ms) (11 + (k.toNatClampNeg))) ^^^ ((nI 1) <<< (o &&& 31)))) (11 + (o.toNatClampNeg))) ^^^ ((nI 1) <<< (k &&& 31)))), (nI (svS (S))), (gsT (nI 1) (nI 0)))) else (if (gsR (nI 1) (nI 1)) = 0 then ((nI 0), ms, (nI S), (gsT (nI 1) (nI 1))) else ((fX5_bits ((upd (upd (svR (S) ms) (11 + (k.toNatClampNeg)) (((svR (S) ms) (11 + (k.toNatClampNeg))) ^^^ ((nI 1) <<< (o &&& 31)))) (11 + (o.toNatClampNeg)) (((upd (svR (S) ms) (11 + (k.toNatClampNeg)) (((svR (S) ms) (11 + (k.toNatClampNeg))) ^^^ ((nI 1) <<< (o &&& 31)))) (11 + (o.toNatClampNeg))) ^^^ ((nI 1) <<< (k &&& 31)))) (11 + (k.toNatClampNeg)))), (upd (upd (svR (S) ms) (11 + (k.toNatClampNeg)) (((svR (S) ms) (11 + (k.toNatClampNeg))) ^^^ ((nI 1) <<< (o &&& 31)))) (11 + (o.toNatClampNeg)) (((upd (svR (S) ms) (11 + (k.toNatClampNeg)) (((svR (S) ms) (11 + (k.toNatClampNeg))) ^^^ ((nI 1) <<< (o &&& 31)))) (11 + (o.toNatClampNeg))) ^^^ ((nI 1) <<< (k &&& 31)))), (nI (svS (S))), (gsT (nI 1) (nI 1)))))))
set_option maxHeartbeats 4000000 in
set_option maxRecDepth 100000 in
theorem kX5_quarrel (l : Launch) (Γ : wG) (a : Nat → Nat) (S : Nat) (K : Nat) (ms : (Nat → Int32)) (mt : (Nat → Int32)) (mc : (Nat → Int32)) (md : (Nat → Int32)) (m1 : Int32) (m2 : Int32) (m3 : Int32) (m4 : Int32) (m5 : Int32) (k : Int32) (o : Int32) (hS6 : S ≤ 6) (hMK : ms 1 = nI K) (hK8 : K ≤ 8) : MI l Γ yX5_quarrel wsX5_quarrel ({ frames := 2, cells := 0, slots := 0, locals := 44 }) [.ref (a 0), .int k, .int o] [moB Γ a ms mt mc md (nI S) m1 m2 m3 m4 m5] [moB Γ a (fX5_quarrel S ms k o).2.1 mt mc md (fX5_quarrel S ms k o).2.2.1 (fX5_quarrel S ms k o).2.2.2 m2 m3 m4 m5] (fX5_quarrel S ms k o).1 := by
  intro sz
  refine Met.ofW (cc := cX5_quarrel) (maxL := 3) (ret := (some .int)) (by decide) rfl ?_
  intro p e s m args below meth c s₁ B hml hv
  obtain ⟨rfl, hsz, hP, hK, hD0, hAm⟩ := hv
  have hx := B.exec
  have hb := B.bytes
  have hr := B.returns
  have hts := atoms_spec (ws := wsX5_quarrel) B.pre
  have hown : s.vm.findClass RX5 = some m.cls := findClass_of_methodNamed B.named
  have hlocks := B.notSynchronized
  subst hsz
  have hD := hD0.self (sz := s.heap.size)
  generalize hAe : va_A (wcat [moB Γ a ms mt mc md (nI S) m1 m2 m3 m4 m5]) s.heap.size = A at hD hAm ⊢
  have hA : ∀ q : Nat, s.heap.size ≤ q → A q := fun q h => by rw [← hAe]; exact Or.inr h
  have hAB : ∀ q : Nat, A q → A q := fun _ h => h
  have hS : va_S A s.heap s.heap [] := va_S.rf
  have hl := lv_entry ([.ref (a 0), .int k, .int o]) (n := 3) (Nat.le_of_ble_eq_true rfl)
  rw [lg_entry_eq]
  generalize (lg_sl ([.ref (a 0), .int k, .int o]) ++ List.replicate (3 - (lg_sl ([.ref (a 0), .int k, .int o])).length) Slot.unset).toArray = ls at hl ⊢
  have hl : lv_has ls 3 [(0, .ref (a 0)), (1, .int k), (2, .int o)] := hl
  have hi5 : ∀ w ∈ wsX50, w ∈ wsX5_quarrel := by decide +kernel
  have kf7 := hts (.fieldLink RX5 7 "CapsuleKeepersModel" "s" "[I") (by decide +kernel)
  have hq : (fX5_quarrel S ms k o) = (if (fX5_isKeeper ms k) = 0 then (if k = o then (if (gsR (nI 0) (nI 0)) = 0 then ((nI 0), ms, (nI S), (gsT (nI 0) (nI 0))) else ((fX5_bits ((upd (upd (svR (S) ms) (11 + (k.toNatClampNeg)) (((svR (S) ms) (11 + (k.toNatClampNeg))) ^^^ ((nI 1) <<< (o &&& 31)))) (11 + (o.toNatClampNeg)) (((upd (svR (S) ms) (11 + (k.toNatClampNeg)) (((svR (S) ms) (11 + (k.toNatClampNeg))) ^^^ ((nI 1) <<< (o &&& 31)))) (11 + (o.toNatClampNeg))) ^^^ ((nI 1) <<< (k &&& 31)))) (11 + (k.toNatClampNeg)))), (upd (upd (svR (S) ms) (11 + (k.toNatClampNeg)) (((svR (S) ms) (11 + (k.toNatClampNeg))) ^^^ ((nI 1) <<< (o &&& 31)))) (11 + (o.toNatClampNeg)) (((upd (svR (S) ms) (11 + (k.toNatClampNeg)) (((svR (S) ms) (11 + (k.toNatClampNeg))) ^^^ ((nI 1) <<< (o &&& 31)))) (11 + (o.toNatClampNeg))) ^^^ ((nI 1) <<< (k &&& 31)))), (nI (svS (S))), (gsT (nI 0) (nI 0)))) else (if (gsR (nI 0) (nI 1)) = 0 then ((nI 0), ms, (nI S), (gsT (nI 0) (nI 1))) else ((fX5_bits ((upd (upd (svR (S) ms) (11 + (k.toNatClampNeg)) (((svR (S) ms) (11 + (k.toNatClampNeg))) ^^^ ((nI 1) <<< (o &&& 31)))) (11 + (o.toNatClampNeg)) (((upd (svR (S) ms) (11 + (k.toNatClampNeg)) (((svR (S) ms) (11 + (k.toNatClampNeg))) ^^^ ((nI 1) <<< (o &&& 31)))) (11 + (o.toNatClampNeg))) ^^^ ((nI 1) <<< (k &&& 31)))) (11 + (k.toNatClampNeg)))), (upd (upd (svR (S) ms) (11 + (k.toNatClampNeg)) (((svR (S) ms) (11 + (k.toNatClampNeg))) ^^^ ((nI 1) <<< (o &&& 31)))) (11 + (o.toNatClampNeg)) (((upd (svR (S) ms) (11 + (k.toNatClampNeg)) (((svR (S) ms) (11 + (k.toNatClampNeg))) ^^^ ((nI 1) <<< (o &&& 31)))) (11 + (o.toNatClampNeg))) ^^^ ((nI 1) <<< (k &&& 31)))), (nI (svS (S))), (gsT (nI 0) (nI 1))))) else (if (fX5_isKeeper ms o) = 0 then (if k = o then (if (gsR (nI 0) (nI 0)) = 0 then ((nI 0), ms, (nI S), (gsT (nI 0) (nI 0))) else ((fX5_bits ((upd (upd (svR (S) ms) (11 + (k.toNatClampNeg)) (((svR (S) ms) (11 + (k.toNatClampNeg))) ^^^ ((nI 1) <<< (o &&& 31)))) (11 + (o.toNatClampNeg)) (((upd (svR (S) ms) (11 + (k.toNatClampNeg)) (((svR (S) ms) (11 + (k.toNatClampNeg))) ^^^ ((nI 1) <<< (o &&& 31)))) (11 + (o.toNatClampNeg))) ^^^ ((nI 1) <<< (k &&& 31)))) (11 + (k.toNatClampNeg)))), (upd (upd (svR (S) ms) (11 + (k.toNatClampNeg)) (((svR (S) ms) (11 + (k.toNatClampNeg))) ^^^ ((nI 1) <<< (o &&& 31)))) (11 + (o.toNatClampNeg)) (((upd (svR (S) ms) (11 + (k.toNatClampNeg)) (((svR (S) ms) (11 + (k.toNatClampNeg))) ^^^ ((nI 1) <<< (o &&& 31)))) (11 + (o.toNatClampNeg))) ^^^ ((nI 1) <<< (k &&& 31)))), (nI (svS (S))), (gsT (nI 0) (nI 0)))) else (if (gsR (nI 0) (nI 1)) = 0 then ((nI 0), ms, (nI S), (gsT (nI 0) (nI 1))) else ((fX5_bits ((upd (upd (svR (S) ms) (11 + (k.toNatClampNeg)) (((svR (S) ms) (11 + (k.toNatClampNeg))) ^^^ ((nI 1) <<< (o &&& 31)))) (11 + (o.toNatClampNeg)) (((upd (svR (S) ms) (11 + (k.toNatClampNeg)) (((svR (S) ms) (11 + (k.toNatClampNeg))) ^^^ ((nI 1) <<< (o &&& 31)))) (11 + (o.toNatClampNeg))) ^^^ ((nI 1) <<< (k &&& 31)))) (11 + (k.toNatClampNeg)))), (upd (upd (svR (S) ms) (11 + (k.toNatClampNeg)) (((svR (S) ms) (11 + (k.toNatClampNeg))) ^^^ ((nI 1) <<< (o &&& 31)))) (11 + (o.toNatClampNeg)) (((upd (svR (S) ms) (11 + (k.toNatClampNeg)) (((svR (S) ms) (11 + (k.toNatClampNeg))) ^^^ ((nI 1) <<< (o &&& 31)))) (11 + (o.toNatClampNeg))) ^^^ ((nI 1) <<< (k &&& 31)))), (nI (svS (S))), (gsT (nI 0) (nI 1))))) else (if k = o then (if (gsR (nI 1) (nI 0)) = 0 then ((nI 0), ms, (nI S), (gsT (nI 1) (nI 0))) else ((fX5_bits ((upd (upd (svR (S) ms) (11 + (k.toNatClampNeg)) (((svR (S) ms) (11 + (k.toNatClampNeg))) ^^^ ((nI 1) <<< (o &&& 31)))) (11 + (o.toNatClampNeg)) (((upd (svR (S) ms) (11 + (k.toNatClampNeg)) (((svR (S) ms) (11 + (k.toNatClampNeg))) ^^^ ((nI 1) <<< (o &&& 31)))) (11 + (o.toNatClampNeg))) ^^^ ((nI 1) <<< (k &&& 31)))) (11 + (k.toNatClampNeg)))), (upd (upd (svR (S) ms) (11 + (k.toNatClampNeg)) (((svR (S) ms) (11 + (k.toNatClampNeg))) ^^^ ((nI 1) <<< (o &&& 31)))) (11 + (o.toNatClampNeg)) (((upd (svR (S) ms) (11 + (k.toNatClampNeg)) (((svR (S) ms) (11 + (k.toNatClampNeg))) ^^^ ((nI 1) <<< (o &&& 31)))) (11 + (o.toNatClampNeg))) ^^^ ((nI 1) <<< (k &&& 31)))), (nI (svS (S))), (gsT (nI 1) (nI 0)))) else (if (gsR (nI 1) (nI 1)) = 0 then ((nI 0), ms, (nI S), (gsT (nI 1) (nI 1))) else ((fX5_bits ((upd (upd (svR (S) ms) (11 + (k.toNatClampNeg)) (((svR (S) ms) (11 + (k.toNatClampNeg))) ^^^ ((nI 1) <<< (o &&& 31)))) (11 + (o.toNatClampNeg)) (((upd (svR (S) ms) (11 + (k.toNatClampNeg)) (((svR (S) ms) (11 + (k.toNatClampNeg))) ^^^ ((nI 1) <<< (o &&& 31)))) (11 + (o.toNatClampNeg))) ^^^ ((nI 1) <<< (k &&& 31)))) (11 + (k.toNatClampNeg)))), (upd (upd (svR (S) ms) (11 + (k.toNatClampNeg)) (((svR (S) ms) (11 + (k.toNatClampNeg))) ^^^ ((nI 1) <<< (o &&& 31)))) (11 + (o.toNatClampNeg)) (((upd (svR (S) ms) (11 + (k.toNatClampNeg)) (((svR (S) ms) (11 + (k.toNatClampNeg))) ^^^ ((nI 1) <<< (o &&& 31)))) (11 + (o.toNatClampNeg))) ^^^ ((nI 1) <<< (k &&& 31)))), (nI (svS (S))), (gsT (nI 1) (nI 1))))))) := rfl
  refine lv_aload_n hx hb dX5_quarrel_0 rfl (lv_at hl 0 rfl) ?_
  refine lv_aload_n hx hb dX5_quarrel_1 rfl (lv_at hl 0 rfl) ?_
  refine lv_iload_n hx hb dX5_quarrel_2 rfl (lv_at hl 1 rfl) ?_
  refine cLI (va_runV (As := [.int k]) (rest := [.ref (a 0)]) ⟨hx, hb, hml, hown, hts⟩ ((kX5_isKeeper l Γ a ms mt mc md (nI S) m1 m2 m3 m4 m5 k) _) (cwV 1 hts gX5_quarrel_X5_isKeeper rfl rfl rfl (by decide +kernel) ⟨Nat.le_of_ble_eq_true rfl, Nat.le_of_ble_eq_true rfl⟩) ⟨wPre_blind, va_recv hK hP (ci := 5) (q0 := 0) rfl rfl, wPre_mk hP hD hK hS hA hAB hAm [0] rfl rfl⟩ rfl rfl hl.1 rfl (lv_room (Nat.le_of_ble_eq_true rfl)) dX5_quarrel_3 ⟨Nat.zero_le _, Nat.zero_le _⟩) hP hS hA (fun H locs hP hS => ?_)
  refine lv_if_eq (tgt := 21) hx hb dX5_quarrel_6 (by decide) (fun c_1 => ?_) (fun c_1 => ?_)
  · have hq := hq.trans (if_pos c_1)
    refine lv_iconst (v := (nI 0)) hx hb dX5_quarrel_21 (by decide) ?_
    refine lv_iload_n hx hb dX5_quarrel_22 rfl (lv_at hl 1 rfl) ?_
    refine lv_iload_n hx hb dX5_quarrel_23 rfl (lv_at hl 2 rfl) ?_
    refine lv_icmp_eq (tgt := 31) hx hb dX5_quarrel_24 (by decide) (fun c_2 => ?_) (fun c_2 => ?_)
    · have hq := hq.trans (if_pos c_2)
      refine lv_iconst (v := (nI 0)) hx hb dX5_quarrel_31 (by decide) ?_
      refine cMI (bc' := [moB Γ a ms mt mc md (nI S) (gsT (nI 0) (nI 0)) m2 m3 m4 m5]) (va_runV (As := [.int (nI 0), .int (nI 0)]) (rest := []) ⟨hx, hb, hml, hown, hts⟩ ((nX5_goes l Γ a ms mt mc md (nI S) m1 m2 m3 m4 m5 (nI 0) (nI 0)) _) (cwV 2 hts gX5_quarrel_X5_goes rfl rfl rfl (by decide +kernel) ⟨Nat.le_of_ble_eq_true rfl, Nat.le_of_ble_eq_true rfl⟩) ⟨wPre_blind, va_recv hK hP (ci := 5) (q0 := 0) rfl rfl, wPre_mk hP hD hK hS hA hAB hAm [0] rfl rfl⟩ rfl rfl hl.1 rfl (lv_room (Nat.le_of_ble_eq_true rfl)) dX5_quarrel_32 ⟨Nat.zero_le _, Nat.zero_le _⟩) hP hD hS hA [0] rfl rfl (bs' := [moB Γ a ms mt mc md (nI S) (gsT (nI 0) (nI 0)) m2 m3 m4 m5]) rfl (fun H locs hP hD hS => ?_)
      refine lv_if_ne (tgt := 40) hx hb dX5_quarrel_35 (by decide) (fun c_3 => ?_) (fun c_3 => ?_)
      · have hq := hq.trans (if_neg c_3)
        obtain ⟨kn, hkn, rfl⟩ : ∃ j : Nat, j < K ∧ k = nI j := isK hMK hK8 (show ¬ fX5_isKeeper ms k = 0 by first | assumption | exact gs_ne1 (by assumption) | exact gs_00 (by assumption) | exact gs_01 (by assumption))
        obtain ⟨on, hon, rfl⟩ : ∃ j : Nat, j < K ∧ o = nI j := isK hMK hK8 (show ¬ fX5_isKeeper ms o = 0 by first | assumption | exact gs_ne1 (by assumption) | exact gs_00 (by assumption) | exact gs_01 (by assumption))
        replace hq : (fX5_quarrel S ms (nI kn) (nI on)) = ((fX5_bits ((upd (upd (svR (S) ms) (11 + kn) (((svR (S) ms) (11 + kn)) ^^^ ((nI 1) <<< ((nI on) &&& 31)))) (11 + on) (((upd (svR (S) ms) (11 + kn) (((svR (S) ms) (11 + kn)) ^^^ ((nI 1) <<< ((nI on) &&& 31)))) (11 + on)) ^^^ ((nI 1) <<< ((nI kn) &&& 31)))) (11 + kn))), (upd (upd (svR (S) ms) (11 + kn) (((svR (S) ms) (11 + kn)) ^^^ ((nI 1) <<< ((nI on) &&& 31)))) (11 + on) (((upd (svR (S) ms) (11 + kn) (((svR (S) ms) (11 + kn)) ^^^ ((nI 1) <<< ((nI on) &&& 31)))) (11 + on)) ^^^ ((nI 1) <<< ((nI kn) &&& 31)))), (nI (svS (S))), (gsT (nI 0) (nI 0))) := hq.trans (by first | simp only [nI_clamp (show kn < 2 ^ 31 by omega), nI_clamp (show on < 2 ^ 31 by omega), Nat.add_sub_cancel] | rfl)
        refine lv_aload_n hx hb dX5_quarrel_40 rfl (lv_at hl 0 rfl) ?_
        refine cMV (bc' := [moB Γ a (svR (S) ms) mt mc md (nI (svS (S))) (gsT (nI 0) (nI 0)) m2 m3 m4 m5]) (va_runV (As := []) (rest := []) ⟨hx, hb, hml, hown, hts⟩ ((nX5_saves l Γ a (S) ms mt mc md (gsT (nI 0) (nI 0)) m2 m3 m4 m5 (by first | assumption | omega)) _) (cwV 0 hts gX5_quarrel_X5_saves rfl rfl rfl (by decide +kernel) ⟨Nat.le_of_ble_eq_true rfl, Nat.le_of_ble_eq_true rfl⟩) ⟨wPre_blind, va_recv hK hP (ci := 5) (q0 := 0) rfl rfl, wPre_mk hP hD hK hS hA hAB hAm [0] rfl rfl⟩ rfl rfl hl.1 rfl (lv_room (Nat.le_of_ble_eq_true rfl)) dX5_quarrel_41 ⟨Nat.zero_le _, Nat.zero_le _⟩) hP hD hS hA [0] rfl rfl (bs' := [moB Γ a (svR (S) ms) mt mc md (nI (svS (S))) (gsT (nI 0) (nI 0)) m2 m3 m4 m5]) rfl (fun H locs hP hD hS => ?_)
        refine lv_aload_n hx hb dX5_quarrel_44 rfl (lv_at hl 0 rfl) ?_
        refine va_get (D := Γ.1) (ci := 5) (v := .ref (a 1)) (C := RX5) (T := TX5) (N := 10) hx hb hts hi5 hown hK hP 0 rfl rfl 0 (by decide) kf7 (fun _ h9 => h9) rfl dX5_quarrel_45 ?_
        refine lv_bipush (v := (nI 11)) hx hb dX5_quarrel_48 (by decide) ?_
        refine lv_iload_n hx hb dX5_quarrel_50 rfl (lv_at hl 1 rfl) ?_
        refine lv_iadd hx hb dX5_quarrel_51 ?_
        refine lv_eqi (y := (nI (11 + kn))) (nI_add _ _) ?_
        refine lv_dup2_11 hx hb dX5_quarrel_52 rfl rfl ?_
        refine va_iald_n (f := (svR (S) ms)) hx hb hK hP 1 0 rfl rfl (by omega) (Nat.le_of_ble_eq_true rfl) dX5_quarrel_53 ?_
        refine lv_iconst (v := (nI 1)) hx hb dX5_quarrel_54 (by decide) ?_
        refine lv_iload_n hx hb dX5_quarrel_55 rfl (lv_at hl 2 rfl) ?_
        refine lv_ishl hx hb dX5_quarrel_56 ?_
        refine lv_ixor hx hb dX5_quarrel_57 ?_
        refine va_iast_n (f := (svR (S) ms)) hx hb hK hP hD hS 1 0 rfl rfl (by omega) (Nat.le_of_ble_eq_true rfl) dX5_quarrel_58 (fun H locs hP hD hS => ?_)
        have hP : va_P Γ.1 vwCl (wcat [moB Γ a (upd (svR (S) ms) (11 + kn) (((svR (S) ms) (11 + kn)) ^^^ ((nI 1) <<< ((nI on) &&& 31)))) mt mc md (nI (svS (S))) (gsT (nI 0) (nI 0)) m2 m3 m4 m5]) H := hP
        have hD : va_D A (wcat [moB Γ a (upd (svR (S) ms) (11 + kn) (((svR (S) ms) (11 + kn)) ^^^ ((nI 1) <<< ((nI on) &&& 31)))) mt mc md (nI (svS (S))) (gsT (nI 0) (nI 0)) m2 m3 m4 m5]) := hD
        refine lv_aload_n hx hb dX5_quarrel_59 rfl (lv_at hl 0 rfl) ?_
        refine va_get (D := Γ.1) (ci := 5) (v := .ref (a 1)) (C := RX5) (T := TX5) (N := 10) hx hb hts hi5 hown hK hP 0 rfl rfl 0 (by decide) kf7 (fun _ h9 => h9) rfl dX5_quarrel_60 ?_
        refine lv_bipush (v := (nI 11)) hx hb dX5_quarrel_63 (by decide) ?_
        refine lv_iload_n hx hb dX5_quarrel_65 rfl (lv_at hl 2 rfl) ?_
        refine lv_iadd hx hb dX5_quarrel_66 ?_
        refine lv_eqi (y := (nI (11 + on))) (nI_add _ _) ?_
        refine lv_dup2_11 hx hb dX5_quarrel_67 rfl rfl ?_
        refine va_iald_n (f := (upd (svR (S) ms) (11 + kn) (((svR (S) ms) (11 + kn)) ^^^ ((nI 1) <<< ((nI on) &&& 31))))) hx hb hK hP 1 0 rfl rfl (by omega) (Nat.le_of_ble_eq_true rfl) dX5_quarrel_68 ?_
        refine lv_iconst (v := (nI 1)) hx hb dX5_quarrel_69 (by decide) ?_
        refine lv_iload_n hx hb dX5_quarrel_70 rfl (lv_at hl 1 rfl) ?_
        refine lv_ishl hx hb dX5_quarrel_71 ?_
        refine lv_ixor hx hb dX5_quarrel_72 ?_
        refine va_iast_n (f := (upd (svR (S) ms) (11 + kn) (((svR (S) ms) (11 + kn)) ^^^ ((nI 1) <<< ((nI on) &&& 31))))) hx hb hK hP hD hS 1 0 rfl rfl (by omega) (Nat.le_of_ble_eq_true rfl) dX5_quarrel_73 (fun H locs hP hD hS => ?_)
        have hP : va_P Γ.1 vwCl (wcat [moB Γ a (upd (upd (svR (S) ms) (11 + kn) (((svR (S) ms) (11 + kn)) ^^^ ((nI 1) <<< ((nI on) &&& 31)))) (11 + on) (((upd (svR (S) ms) (11 + kn) (((svR (S) ms) (11 + kn)) ^^^ ((nI 1) <<< ((nI on) &&& 31)))) (11 + on)) ^^^ ((nI 1) <<< ((nI kn) &&& 31)))) mt mc md (nI (svS (S))) (gsT (nI 0) (nI 0)) m2 m3 m4 m5]) H := hP
        have hD : va_D A (wcat [moB Γ a (upd (upd (svR (S) ms) (11 + kn) (((svR (S) ms) (11 + kn)) ^^^ ((nI 1) <<< ((nI on) &&& 31)))) (11 + on) (((upd (svR (S) ms) (11 + kn) (((svR (S) ms) (11 + kn)) ^^^ ((nI 1) <<< ((nI on) &&& 31)))) (11 + on)) ^^^ ((nI 1) <<< ((nI kn) &&& 31)))) mt mc md (nI (svS (S))) (gsT (nI 0) (nI 0)) m2 m3 m4 m5]) := hD
        refine lv_aload_n hx hb dX5_quarrel_74 rfl (lv_at hl 0 rfl) ?_
        refine va_get (D := Γ.1) (ci := 5) (v := .ref (a 1)) (C := RX5) (T := TX5) (N := 10) hx hb hts hi5 hown hK hP 0 rfl rfl 0 (by decide) kf7 (fun _ h9 => h9) rfl dX5_quarrel_75 ?_
        refine lv_bipush (v := (nI 11)) hx hb dX5_quarrel_78 (by decide) ?_
        refine lv_iload_n hx hb dX5_quarrel_80 rfl (lv_at hl 1 rfl) ?_
        refine lv_iadd hx hb dX5_quarrel_81 ?_
        refine lv_eqi (y := (nI (11 + kn))) (nI_add _ _) ?_
        refine va_iald_n (f := (upd (upd (svR (S) ms) (11 + kn) (((svR (S) ms) (11 + kn)) ^^^ ((nI 1) <<< ((nI on) &&& 31)))) (11 + on) (((upd (svR (S) ms) (11 + kn) (((svR (S) ms) (11 + kn)) ^^^ ((nI 1) <<< ((nI on) &&& 31)))) (11 + on)) ^^^ ((nI 1) <<< ((nI kn) &&& 31))))) hx hb hK hP 1 0 rfl rfl (by omega) (Nat.le_of_ble_eq_true rfl) dX5_quarrel_82 ?_
        refine cLI (va_runS (As := [.int ((upd (upd (svR (S) ms) (11 + kn) (((svR (S) ms) (11 + kn)) ^^^ ((nI 1) <<< ((nI on) &&& 31)))) (11 + on) (((upd (svR (S) ms) (11 + kn) (((svR (S) ms) (11 + kn)) ^^^ ((nI 1) <<< ((nI on) &&& 31)))) (11 + on)) ^^^ ((nI 1) <<< ((nI kn) &&& 31)))) (11 + kn))]) (rest := []) ⟨hx, hb, hml, hown, hts⟩ ((kX5_bits l Γ ((upd (upd (svR (S) ms) (11 + kn) (((svR (S) ms) (11 + kn)) ^^^ ((nI 1) <<< ((nI on) &&& 31)))) (11 + on) (((upd (svR (S) ms) (11 + kn) (((svR (S) ms) (11 + kn)) ^^^ ((nI 1) <<< ((nI on) &&& 31)))) (11 + on)) ^^^ ((nI 1) <<< ((nI kn) &&& 31)))) (11 + kn))) _) (va_cwS 1 hts gX5_quarrel_X5_bits rfl rfl rfl (by decide +kernel) ⟨Nat.le_of_ble_eq_true rfl, Nat.le_of_ble_eq_true rfl⟩) ⟨wPre_blind, wPre_mk hP hD hK hS hA hAB hAm [] rfl rfl⟩ rfl rfl hl.1 rfl (lv_room (Nat.le_of_ble_eq_true rfl)) dX5_quarrel_83 ⟨Nat.zero_le _, Nat.zero_le _⟩) hP hS hA (fun H locs hP hS => ?_)
        exact W.iret (v := (fX5_bits ((upd (upd (svR (S) ms) (11 + kn) (((svR (S) ms) (11 + kn)) ^^^ ((nI 1) <<< ((nI on) &&& 31)))) (11 + on) (((upd (svR (S) ms) (11 + kn) (((svR (S) ms) (11 + kn)) ^^^ ((nI 1) <<< ((nI on) &&& 31)))) (11 + on)) ^^^ ((nI 1) <<< ((nI kn) &&& 31)))) (11 + kn)))) hx hb hr (fun t ht hW => eMI (by rw [hq]; exact hP) hS ht (by rw [hq])) hS.2.2 dX5_quarrel_86
      · have hq := hq.trans (if_pos c_3)
        refine lv_iconst (v := (nI 0)) hx hb dX5_quarrel_38 (by decide) ?_
        exact W.iret (v := (nI 0)) hx hb hr (fun t ht hW => eMI (by rw [hq]; exact hP) hS ht (by rw [hq])) hS.2.2 dX5_quarrel_39
    · have hq := hq.trans (if_neg c_2)
      refine lv_iconst (v := (nI 1)) hx hb dX5_quarrel_27 (by decide) ?_
      refine lv_goto (tgt := 32) hx hb dX5_quarrel_28 (by decide) ?_
      refine cMI (bc' := [moB Γ a ms mt mc md (nI S) (gsT (nI 0) (nI 1)) m2 m3 m4 m5]) (va_runV (As := [.int (nI 0), .int (nI 1)]) (rest := []) ⟨hx, hb, hml, hown, hts⟩ ((nX5_goes l Γ a ms mt mc md (nI S) m1 m2 m3 m4 m5 (nI 0) (nI 1)) _) (cwV 2 hts gX5_quarrel_X5_goes rfl rfl rfl (by decide +kernel) ⟨Nat.le_of_ble_eq_true rfl, Nat.le_of_ble_eq_true rfl⟩) ⟨wPre_blind, va_recv hK hP (ci := 5) (q0 := 0) rfl rfl, wPre_mk hP hD hK hS hA hAB hAm [0] rfl rfl⟩ rfl rfl hl.1 rfl (lv_room (Nat.le_of_ble_eq_true rfl)) dX5_quarrel_32 ⟨Nat.zero_le _, Nat.zero_le _⟩) hP hD hS hA [0] rfl rfl (bs' := [moB Γ a ms mt mc md (nI S) (gsT (nI 0) (nI 1)) m2 m3 m4 m5]) rfl (fun H locs hP hD hS => ?_)
      refine lv_if_ne (tgt := 40) hx hb dX5_quarrel_35 (by decide) (fun c_4 => ?_) (fun c_4 => ?_)
      · have hq := hq.trans (if_neg c_4)
        obtain ⟨kn, hkn, rfl⟩ : ∃ j : Nat, j < K ∧ k = nI j := isK hMK hK8 (show ¬ fX5_isKeeper ms k = 0 by first | assumption | exact gs_ne1 (by assumption) | exact gs_00 (by assumption) | exact gs_01 (by assumption))
        obtain ⟨on, hon, rfl⟩ : ∃ j : Nat, j < K ∧ o = nI j := isK hMK hK8 (show ¬ fX5_isKeeper ms o = 0 by first | assumption | exact gs_ne1 (by assumption) | exact gs_00 (by assumption) | exact gs_01 (by assumption))
        replace hq : (fX5_quarrel S ms (nI kn) (nI on)) = ((fX5_bits ((upd (upd (svR (S) ms) (11 + kn) (((svR (S) ms) (11 + kn)) ^^^ ((nI 1) <<< ((nI on) &&& 31)))) (11 + on) (((upd (svR (S) ms) (11 + kn) (((svR (S) ms) (11 + kn)) ^^^ ((nI 1) <<< ((nI on) &&& 31)))) (11 + on)) ^^^ ((nI 1) <<< ((nI kn) &&& 31)))) (11 + kn))), (upd (upd (svR (S) ms) (11 + kn) (((svR (S) ms) (11 + kn)) ^^^ ((nI 1) <<< ((nI on) &&& 31)))) (11 + on) (((upd (svR (S) ms) (11 + kn) (((svR (S) ms) (11 + kn)) ^^^ ((nI 1) <<< ((nI on) &&& 31)))) (11 + on)) ^^^ ((nI 1) <<< ((nI kn) &&& 31)))), (nI (svS (S))), (gsT (nI 0) (nI 1))) := hq.trans (by first | simp only [nI_clamp (show kn < 2 ^ 31 by omega), nI_clamp (show on < 2 ^ 31 by omega), Nat.add_sub_cancel] | rfl)
        refine lv_aload_n hx hb dX5_quarrel_40 rfl (lv_at hl 0 rfl) ?_
        refine cMV (bc' := [moB Γ a (svR (S) ms) mt mc md (nI (svS (S))) (gsT (nI 0) (nI 1)) m2 m3 m4 m5]) (va_runV (As := []) (rest := []) ⟨hx, hb, hml, hown, hts⟩ ((nX5_saves l Γ a (S) ms mt mc md (gsT (nI 0) (nI 1)) m2 m3 m4 m5 (by first | assumption | omega)) _) (cwV 0 hts gX5_quarrel_X5_saves rfl rfl rfl (by decide +kernel) ⟨Nat.le_of_ble_eq_true rfl, Nat.le_of_ble_eq_true rfl⟩) ⟨wPre_blind, va_recv hK hP (ci := 5) (q0 := 0) rfl rfl, wPre_mk hP hD hK hS hA hAB hAm [0] rfl rfl⟩ rfl rfl hl.1 rfl (lv_room (Nat.le_of_ble_eq_true rfl)) dX5_quarrel_41 ⟨Nat.zero_le _, Nat.zero_le _⟩) hP hD hS hA [0] rfl rfl (bs' := [moB Γ a (svR (S) ms) mt mc md (nI (svS (S))) (gsT (nI 0) (nI 1)) m2 m3 m4 m5]) rfl (fun H locs hP hD hS => ?_)
        refine lv_aload_n hx hb dX5_quarrel_44 rfl (lv_at hl 0 rfl) ?_
        refine va_get (D := Γ.1) (ci := 5) (v := .ref (a 1)) (C := RX5) (T := TX5) (N := 10) hx hb hts hi5 hown hK hP 0 rfl rfl 0 (by decide) kf7 (fun _ h9 => h9) rfl dX5_quarrel_45 ?_
        refine lv_bipush (v := (nI 11)) hx hb dX5_quarrel_48 (by decide) ?_
        refine lv_iload_n hx hb dX5_quarrel_50 rfl (lv_at hl 1 rfl) ?_
        refine lv_iadd hx hb dX5_quarrel_51 ?_
        refine lv_eqi (y := (nI (11 + kn))) (nI_add _ _) ?_
        refine lv_dup2_11 hx hb dX5_quarrel_52 rfl rfl ?_
        refine va_iald_n (f := (svR (S) ms)) hx hb hK hP 1 0 rfl rfl (by omega) (Nat.le_of_ble_eq_true rfl) dX5_quarrel_53 ?_
        refine lv_iconst (v := (nI 1)) hx hb dX5_quarrel_54 (by decide) ?_
        refine lv_iload_n hx hb dX5_quarrel_55 rfl (lv_at hl 2 rfl) ?_
        refine lv_ishl hx hb dX5_quarrel_56 ?_
        refine lv_ixor hx hb dX5_quarrel_57 ?_
        refine va_iast_n (f := (svR (S) ms)) hx hb hK hP hD hS 1 0 rfl rfl (by omega) (Nat.le_of_ble_eq_true rfl) dX5_quarrel_58 (fun H locs hP hD hS => ?_)
        have hP : va_P Γ.1 vwCl (wcat [moB Γ a (upd (svR (S) ms) (11 + kn) (((svR (S) ms) (11 + kn)) ^^^ ((nI 1) <<< ((nI on) &&& 31)))) mt mc md (nI (svS (S))) (gsT (nI 0) (nI 1)) m2 m3 m4 m5]) H := hP
        have hD : va_D A (wcat [moB Γ a (upd (svR (S) ms) (11 + kn) (((svR (S) ms) (11 + kn)) ^^^ ((nI 1) <<< ((nI on) &&& 31)))) mt mc md (nI (svS (S))) (gsT (nI 0) (nI 1)) m2 m3 m4 m5]) := hD
        refine lv_aload_n hx hb dX5_quarrel_59 rfl (lv_at hl 0 rfl) ?_
        refine va_get (D := Γ.1) (ci := 5) (v := .ref (a 1)) (C := RX5) (T := TX5) (N := 10) hx hb hts hi5 hown hK hP 0 rfl rfl 0 (by decide) kf7 (fun _ h9 => h9) rfl dX5_quarrel_60 ?_
        refine lv_bipush (v := (nI 11)) hx hb dX5_quarrel_63 (by decide) ?_
        refine lv_iload_n hx hb dX5_quarrel_65 rfl (lv_at hl 2 rfl) ?_
        refine lv_iadd hx hb dX5_quarrel_66 ?_
        refine lv_eqi (y := (nI (11 + on))) (nI_add _ _) ?_
        refine lv_dup2_11 hx hb dX5_quarrel_67 rfl rfl ?_
        refine va_iald_n (f := (upd (svR (S) ms) (11 + kn) (((svR (S) ms) (11 + kn)) ^^^ ((nI 1) <<< ((nI on) &&& 31))))) hx hb hK hP 1 0 rfl rfl (by omega) (Nat.le_of_ble_eq_true rfl) dX5_quarrel_68 ?_
        refine lv_iconst (v := (nI 1)) hx hb dX5_quarrel_69 (by decide) ?_
        refine lv_iload_n hx hb dX5_quarrel_70 rfl (lv_at hl 1 rfl) ?_
        refine lv_ishl hx hb dX5_quarrel_71 ?_
        refine lv_ixor hx hb dX5_quarrel_72 ?_
        refine va_iast_n (f := (upd (svR (S) ms) (11 + kn) (((svR (S) ms) (11 + kn)) ^^^ ((nI 1) <<< ((nI on) &&& 31))))) hx hb hK hP hD hS 1 0 rfl rfl (by omega) (Nat.le_of_ble_eq_true rfl) dX5_quarrel_73 (fun H locs hP hD hS => ?_)
        have hP : va_P Γ.1 vwCl (wcat [moB Γ a (upd (upd (svR (S) ms) (11 + kn) (((svR (S) ms) (11 + kn)) ^^^ ((nI 1) <<< ((nI on) &&& 31)))) (11 + on) (((upd (svR (S) ms) (11 + kn) (((svR (S) ms) (11 + kn)) ^^^ ((nI 1) <<< ((nI on) &&& 31)))) (11 + on)) ^^^ ((nI 1) <<< ((nI kn) &&& 31)))) mt mc md (nI (svS (S))) (gsT (nI 0) (nI 1)) m2 m3 m4 m5]) H := hP
        have hD : va_D A (wcat [moB Γ a (upd (upd (svR (S) ms) (11 + kn) (((svR (S) ms) (11 + kn)) ^^^ ((nI 1) <<< ((nI on) &&& 31)))) (11 + on) (((upd (svR (S) ms) (11 + kn) (((svR (S) ms) (11 + kn)) ^^^ ((nI 1) <<< ((nI on) &&& 31)))) (11 + on)) ^^^ ((nI 1) <<< ((nI kn) &&& 31)))) mt mc md (nI (svS (S))) (gsT (nI 0) (nI 1)) m2 m3 m4 m5]) := hD
        refine lv_aload_n hx hb dX5_quarrel_74 rfl (lv_at hl 0 rfl) ?_
        refine va_get (D := Γ.1) (ci := 5) (v := .ref (a 1)) (C := RX5) (T := TX5) (N := 10) hx hb hts hi5 hown hK hP 0 rfl rfl 0 (by decide) kf7 (fun _ h9 => h9) rfl dX5_quarrel_75 ?_
        refine lv_bipush (v := (nI 11)) hx hb dX5_quarrel_78 (by decide) ?_
        refine lv_iload_n hx hb dX5_quarrel_80 rfl (lv_at hl 1 rfl) ?_
        refine lv_iadd hx hb dX5_quarrel_81 ?_
        refine lv_eqi (y := (nI (11 + kn))) (nI_add _ _) ?_
        refine va_iald_n (f := (upd (upd (svR (S) ms) (11 + kn) (((svR (S) ms) (11 + kn)) ^^^ ((nI 1) <<< ((nI on) &&& 31)))) (11 + on) (((upd (svR (S) ms) (11 + kn) (((svR (S) ms) (11 + kn)) ^^^ ((nI 1) <<< ((nI on) &&& 31)))) (11 + on)) ^^^ ((nI 1) <<< ((nI kn) &&& 31))))) hx hb hK hP 1 0 rfl rfl (by omega) (Nat.le_of_ble_eq_true rfl) dX5_quarrel_82 ?_
        refine cLI (va_runS (As := [.int ((upd (upd (svR (S) ms) (11 + kn) (((svR (S) ms) (11 + kn)) ^^^ ((nI 1) <<< ((nI on) &&& 31)))) (11 + on) (((upd (svR (S) ms) (11 + kn) (((svR (S) ms) (11 + kn)) ^^^ ((nI 1) <<< ((nI on) &&& 31)))) (11 + on)) ^^^ ((nI 1) <<< ((nI kn) &&& 31)))) (11 + kn))]) (rest := []) ⟨hx, hb, hml, hown, hts⟩ ((kX5_bits l Γ ((upd (upd (svR (S) ms) (11 + kn) (((svR (S) ms) (11 + kn)) ^^^ ((nI 1) <<< ((nI on) &&& 31)))) (11 + on) (((upd (svR (S) ms) (11 + kn) (((svR (S) ms) (11 + kn)) ^^^ ((nI 1) <<< ((nI on) &&& 31)))) (11 + on)) ^^^ ((nI 1) <<< ((nI kn) &&& 31)))) (11 + kn))) _) (va_cwS 1 hts gX5_quarrel_X5_bits rfl rfl rfl (by decide +kernel) ⟨Nat.le_of_ble_eq_true rfl, Nat.le_of_ble_eq_true rfl⟩) ⟨wPre_blind, wPre_mk hP hD hK hS hA hAB hAm [] rfl rfl⟩ rfl rfl hl.1 rfl (lv_room (Nat.le_of_ble_eq_true rfl)) dX5_quarrel_83 ⟨Nat.zero_le _, Nat.zero_le _⟩) hP hS hA (fun H locs hP hS => ?_)
        exact W.iret (v := (fX5_bits ((upd (upd (svR (S) ms) (11 + kn) (((svR (S) ms) (11 + kn)) ^^^ ((nI 1) <<< ((nI on) &&& 31)))) (11 + on) (((upd (svR (S) ms) (11 + kn) (((svR (S) ms) (11 + kn)) ^^^ ((nI 1) <<< ((nI on) &&& 31)))) (11 + on)) ^^^ ((nI 1) <<< ((nI kn) &&& 31)))) (11 + kn)))) hx hb hr (fun t ht hW => eMI (by rw [hq]; exact hP) hS ht (by rw [hq])) hS.2.2 dX5_quarrel_86
      · have hq := hq.trans (if_pos c_4)
        refine lv_iconst (v := (nI 0)) hx hb dX5_quarrel_38 (by decide) ?_
        exact W.iret (v := (nI 0)) hx hb hr (fun t ht hW => eMI (by rw [hq]; exact hP) hS ht (by rw [hq])) hS.2.2 dX5_quarrel_39
  · have hq := hq.trans (if_neg c_1)
    refine lv_aload_n hx hb dX5_quarrel_9 rfl (lv_at hl 0 rfl) ?_
    refine lv_iload_n hx hb dX5_quarrel_10 rfl (lv_at hl 2 rfl) ?_
    refine cLI (va_runV (As := [.int o]) (rest := [.ref (a 0)]) ⟨hx, hb, hml, hown, hts⟩ ((kX5_isKeeper l Γ a ms mt mc md (nI S) m1 m2 m3 m4 m5 o) _) (cwV 1 hts gX5_quarrel_X5_isKeeper rfl rfl rfl (by decide +kernel) ⟨Nat.le_of_ble_eq_true rfl, Nat.le_of_ble_eq_true rfl⟩) ⟨wPre_blind, va_recv hK hP (ci := 5) (q0 := 0) rfl rfl, wPre_mk hP hD hK hS hA hAB hAm [0] rfl rfl⟩ rfl rfl hl.1 rfl (lv_room (Nat.le_of_ble_eq_true rfl)) dX5_quarrel_11 ⟨Nat.zero_le _, Nat.zero_le _⟩) hP hS hA (fun H locs hP hS => ?_)
    refine lv_if_eq (tgt := 21) hx hb dX5_quarrel_14 (by decide) (fun c_5 => ?_) (fun c_5 => ?_)
    · have hq := hq.trans (if_pos c_5)
      refine lv_iconst (v := (nI 0)) hx hb dX5_quarrel_21 (by decide) ?_
      refine lv_iload_n hx hb dX5_quarrel_22 rfl (lv_at hl 1 rfl) ?_
      refine lv_iload_n hx hb dX5_quarrel_23 rfl (lv_at hl 2 rfl) ?_
      refine lv_icmp_eq (tgt := 31) hx hb dX5_quarrel_24 (by decide) (fun c_6 => ?_) (fun c_6 => ?_)
      · have hq := hq.trans (if_pos c_6)
        refine lv_iconst (v := (nI 0)) hx hb dX5_quarrel_31 (by decide) ?_
        refine cMI (bc' := [moB Γ a ms mt mc md (nI S) (gsT (nI 0) (nI 0)) m2 m3 m4 m5]) (va_runV (As := [.int (nI 0), .int (nI 0)]) (rest := []) ⟨hx, hb, hml, hown, hts⟩ ((nX5_goes l Γ a ms mt mc md (nI S) m1 m2 m3 m4 m5 (nI 0) (nI 0)) _) (cwV 2 hts gX5_quarrel_X5_goes rfl rfl rfl (by decide +kernel) ⟨Nat.le_of_ble_eq_true rfl, Nat.le_of_ble_eq_true rfl⟩) ⟨wPre_blind, va_recv hK hP (ci := 5) (q0 := 0) rfl rfl, wPre_mk hP hD hK hS hA hAB hAm [0] rfl rfl⟩ rfl rfl hl.1 rfl (lv_room (Nat.le_of_ble_eq_true rfl)) dX5_quarrel_32 ⟨Nat.zero_le _, Nat.zero_le _⟩) hP hD hS hA [0] rfl rfl (bs' := [moB Γ a ms mt mc md (nI S) (gsT (nI 0) (nI 0)) m2 m3 m4 m5]) rfl (fun H locs hP hD hS => ?_)
        refine lv_if_ne (tgt := 40) hx hb dX5_quarrel_35 (by decide) (fun c_7 => ?_) (fun c_7 => ?_)
        · have hq := hq.trans (if_neg c_7)
          obtain ⟨kn, hkn, rfl⟩ : ∃ j : Nat, j < K ∧ k = nI j := isK hMK hK8 (show ¬ fX5_isKeeper ms k = 0 by first | assumption | exact gs_ne1 (by assumption) | exact gs_00 (by assumption) | exact gs_01 (by assumption))
          obtain ⟨on, hon, rfl⟩ : ∃ j : Nat, j < K ∧ o = nI j := isK hMK hK8 (show ¬ fX5_isKeeper ms o = 0 by first | assumption | exact gs_ne1 (by assumption) | exact gs_00 (by assumption) | exact gs_01 (by assumption))
          replace hq : (fX5_quarrel S ms (nI kn) (nI on)) = ((fX5_bits ((upd (upd (svR (S) ms) (11 + kn) (((svR (S) ms) (11 + kn)) ^^^ ((nI 1) <<< ((nI on) &&& 31)))) (11 + on) (((upd (svR (S) ms) (11 + kn) (((svR (S) ms) (11 + kn)) ^^^ ((nI 1) <<< ((nI on) &&& 31)))) (11 + on)) ^^^ ((nI 1) <<< ((nI kn) &&& 31)))) (11 + kn))), (upd (upd (svR (S) ms) (11 + kn) (((svR (S) ms) (11 + kn)) ^^^ ((nI 1) <<< ((nI on) &&& 31)))) (11 + on) (((upd (svR (S) ms) (11 + kn) (((svR (S) ms) (11 + kn)) ^^^ ((nI 1) <<< ((nI on) &&& 31)))) (11 + on)) ^^^ ((nI 1) <<< ((nI kn) &&& 31)))), (nI (svS (S))), (gsT (nI 0) (nI 0))) := hq.trans (by first | simp only [nI_clamp (show kn < 2 ^ 31 by omega), nI_clamp (show on < 2 ^ 31 by omega), Nat.add_sub_cancel] | rfl)
          refine lv_aload_n hx hb dX5_quarrel_40 rfl (lv_at hl 0 rfl) ?_
          refine cMV (bc' := [moB Γ a (svR (S) ms) mt mc md (nI (svS (S))) (gsT (nI 0) (nI 0)) m2 m3 m4 m5]) (va_runV (As := []) (rest := []) ⟨hx, hb, hml, hown, hts⟩ ((nX5_saves l Γ a (S) ms mt mc md (gsT (nI 0) (nI 0)) m2 m3 m4 m5 (by first | assumption | omega)) _) (cwV 0 hts gX5_quarrel_X5_saves rfl rfl rfl (by decide +kernel) ⟨Nat.le_of_ble_eq_true rfl, Nat.le_of_ble_eq_true rfl⟩) ⟨wPre_blind, va_recv hK hP (ci := 5) (q0 := 0) rfl rfl, wPre_mk hP hD hK hS hA hAB hAm [0] rfl rfl⟩ rfl rfl hl.1 rfl (lv_room (Nat.le_of_ble_eq_true rfl)) dX5_quarrel_41 ⟨Nat.zero_le _, Nat.zero_le _⟩) hP hD hS hA [0] rfl rfl (bs' := [moB Γ a (svR (S) ms) mt mc md (nI (svS (S))) (gsT (nI 0) (nI 0)) m2 m3 m4 m5]) rfl (fun H locs hP hD hS => ?_)
          refine lv_aload_n hx hb dX5_quarrel_44 rfl (lv_at hl 0 rfl) ?_
          refine va_get (D := Γ.1) (ci := 5) (v := .ref (a 1)) (C := RX5) (T := TX5) (N := 10) hx hb hts hi5 hown hK hP 0 rfl rfl 0 (by decide) kf7 (fun _ h9 => h9) rfl dX5_quarrel_45 ?_
          refine lv_bipush (v := (nI 11)) hx hb dX5_quarrel_48 (by decide) ?_
          refine lv_iload_n hx hb dX5_quarrel_50 rfl (lv_at hl 1 rfl) ?_
          refine lv_iadd hx hb dX5_quarrel_51 ?_
          refine lv_eqi (y := (nI (11 + kn))) (nI_add _ _) ?_
          refine lv_dup2_11 hx hb dX5_quarrel_52 rfl rfl ?_
          refine va_iald_n (f := (svR (S) ms)) hx hb hK hP 1 0 rfl rfl (by omega) (Nat.le_of_ble_eq_true rfl) dX5_quarrel_53 ?_
          refine lv_iconst (v := (nI 1)) hx hb dX5_quarrel_54 (by decide) ?_
          refine lv_iload_n hx hb dX5_quarrel_55 rfl (lv_at hl 2 rfl) ?_
          refine lv_ishl hx hb dX5_quarrel_56 ?_
          refine lv_ixor hx hb dX5_quarrel_57 ?_
          refine va_iast_n (f := (svR (S) ms)) hx hb hK hP hD hS 1 0 rfl rfl (by omega) (Nat.le_of_ble_eq_true rfl) dX5_quarrel_58 (fun H locs hP hD hS => ?_)
          have hP : va_P Γ.1 vwCl (wcat [moB Γ a (upd (svR (S) ms) (11 + kn) (((svR (S) ms) (11 + kn)) ^^^ ((nI 1) <<< ((nI on) &&& 31)))) mt mc md (nI (svS (S))) (gsT (nI 0) (nI 0)) m2 m3 m4 m5]) H := hP
          have hD : va_D A (wcat [moB Γ a (upd (svR (S) ms) (11 + kn) (((svR (S) ms) (11 + kn)) ^^^ ((nI 1) <<< ((nI on) &&& 31)))) mt mc md (nI (svS (S))) (gsT (nI 0) (nI 0)) m2 m3 m4 m5]) := hD
          refine lv_aload_n hx hb dX5_quarrel_59 rfl (lv_at hl 0 rfl) ?_
          refine va_get (D := Γ.1) (ci := 5) (v := .ref (a 1)) (C := RX5) (T := TX5) (N := 10) hx hb hts hi5 hown hK hP 0 rfl rfl 0 (by decide) kf7 (fun _ h9 => h9) rfl dX5_quarrel_60 ?_
          refine lv_bipush (v := (nI 11)) hx hb dX5_quarrel_63 (by decide) ?_
          refine lv_iload_n hx hb dX5_quarrel_65 rfl (lv_at hl 2 rfl) ?_
          refine lv_iadd hx hb dX5_quarrel_66 ?_
          refine lv_eqi (y := (nI (11 + on))) (nI_add _ _) ?_
          refine lv_dup2_11 hx hb dX5_quarrel_67 rfl rfl ?_
          refine va_iald_n (f := (upd (svR (S) ms) (11 + kn) (((svR (S) ms) (11 + kn)) ^^^ ((nI 1) <<< ((nI on) &&& 31))))) hx hb hK hP 1 0 rfl rfl (by omega) (Nat.le_of_ble_eq_true rfl) dX5_quarrel_68 ?_
          refine lv_iconst (v := (nI 1)) hx hb dX5_quarrel_69 (by decide) ?_
          refine lv_iload_n hx hb dX5_quarrel_70 rfl (lv_at hl 1 rfl) ?_
          refine lv_ishl hx hb dX5_quarrel_71 ?_
          refine lv_ixor hx hb dX5_quarrel_72 ?_
          refine va_iast_n (f := (upd (svR (S) ms) (11 + kn) (((svR (S) ms) (11 + kn)) ^^^ ((nI 1) <<< ((nI on) &&& 31))))) hx hb hK hP hD hS 1 0 rfl rfl (by omega) (Nat.le_of_ble_eq_true rfl) dX5_quarrel_73 (fun H locs hP hD hS => ?_)
          have hP : va_P Γ.1 vwCl (wcat [moB Γ a (upd (upd (svR (S) ms) (11 + kn) (((svR (S) ms) (11 + kn)) ^^^ ((nI 1) <<< ((nI on) &&& 31)))) (11 + on) (((upd (svR (S) ms) (11 + kn) (((svR (S) ms) (11 + kn)) ^^^ ((nI 1) <<< ((nI on) &&& 31)))) (11 + on)) ^^^ ((nI 1) <<< ((nI kn) &&& 31)))) mt mc md (nI (svS (S))) (gsT (nI 0) (nI 0)) m2 m3 m4 m5]) H := hP
          have hD : va_D A (wcat [moB Γ a (upd (upd (svR (S) ms) (11 + kn) (((svR (S) ms) (11 + kn)) ^^^ ((nI 1) <<< ((nI on) &&& 31)))) (11 + on) (((upd (svR (S) ms) (11 + kn) (((svR (S) ms) (11 + kn)) ^^^ ((nI 1) <<< ((nI on) &&& 31)))) (11 + on)) ^^^ ((nI 1) <<< ((nI kn) &&& 31)))) mt mc md (nI (svS (S))) (gsT (nI 0) (nI 0)) m2 m3 m4 m5]) := hD
          refine lv_aload_n hx hb dX5_quarrel_74 rfl (lv_at hl 0 rfl) ?_
          refine va_get (D := Γ.1) (ci := 5) (v := .ref (a 1)) (C := RX5) (T := TX5) (N := 10) hx hb hts hi5 hown hK hP 0 rfl rfl 0 (by decide) kf7 (fun _ h9 => h9) rfl dX5_quarrel_75 ?_
          refine lv_bipush (v := (nI 11)) hx hb dX5_quarrel_78 (by decide) ?_
          refine lv_iload_n hx hb dX5_quarrel_80 rfl (lv_at hl 1 rfl) ?_
          refine lv_iadd hx hb dX5_quarrel_81 ?_
          refine lv_eqi (y := (nI (11 + kn))) (nI_add _ _) ?_
          refine va_iald_n (f := (upd (upd (svR (S) ms) (11 + kn) (((svR (S) ms) (11 + kn)) ^^^ ((nI 1) <<< ((nI on) &&& 31)))) (11 + on) (((upd (svR (S) ms) (11 + kn) (((svR (S) ms) (11 + kn)) ^^^ ((nI 1) <<< ((nI on) &&& 31)))) (11 + on)) ^^^ ((nI 1) <<< ((nI kn) &&& 31))))) hx hb hK hP 1 0 rfl rfl (by omega) (Nat.le_of_ble_eq_true rfl) dX5_quarrel_82 ?_
          refine cLI (va_runS (As := [.int ((upd (upd (svR (S) ms) (11 + kn) (((svR (S) ms) (11 + kn)) ^^^ ((nI 1) <<< ((nI on) &&& 31)))) (11 + on) (((upd (svR (S) ms) (11 + kn) (((svR (S) ms) (11 + kn)) ^^^ ((nI 1) <<< ((nI on) &&& 31)))) (11 + on)) ^^^ ((nI 1) <<< ((nI kn) &&& 31)))) (11 + kn))]) (rest := []) ⟨hx, hb, hml, hown, hts⟩ ((kX5_bits l Γ ((upd (upd (svR (S) ms) (11 + kn) (((svR (S) ms) (11 + kn)) ^^^ ((nI 1) <<< ((nI on) &&& 31)))) (11 + on) (((upd (svR (S) ms) (11 + kn) (((svR (S) ms) (11 + kn)) ^^^ ((nI 1) <<< ((nI on) &&& 31)))) (11 + on)) ^^^ ((nI 1) <<< ((nI kn) &&& 31)))) (11 + kn))) _) (va_cwS 1 hts gX5_quarrel_X5_bits rfl rfl rfl (by decide +kernel) ⟨Nat.le_of_ble_eq_true rfl, Nat.le_of_ble_eq_true rfl⟩) ⟨wPre_blind, wPre_mk hP hD hK hS hA hAB hAm [] rfl rfl⟩ rfl rfl hl.1 rfl (lv_room (Nat.le_of_ble_eq_true rfl)) dX5_quarrel_83 ⟨Nat.zero_le _, Nat.zero_le _⟩) hP hS hA (fun H locs hP hS => ?_)
          exact W.iret (v := (fX5_bits ((upd (upd (svR (S) ms) (11 + kn) (((svR (S) ms) (11 + kn)) ^^^ ((nI 1) <<< ((nI on) &&& 31)))) (11 + on) (((upd (svR (S) ms) (11 + kn) (((svR (S) ms) (11 + kn)) ^^^ ((nI 1) <<< ((nI on) &&& 31)))) (11 + on)) ^^^ ((nI 1) <<< ((nI kn) &&& 31)))) (11 + kn)))) hx hb hr (fun t ht hW => eMI (by rw [hq]; exact hP) hS ht (by rw [hq])) hS.2.2 dX5_quarrel_86
        · have hq := hq.trans (if_pos c_7)
          refine lv_iconst (v := (nI 0)) hx hb dX5_quarrel_38 (by decide) ?_
          exact W.iret (v := (nI 0)) hx hb hr (fun t ht hW => eMI (by rw [hq]; exact hP) hS ht (by rw [hq])) hS.2.2 dX5_quarrel_39
      · have hq := hq.trans (if_neg c_6)
        refine lv_iconst (v := (nI 1)) hx hb dX5_quarrel_27 (by decide) ?_
        refine lv_goto (tgt := 32) hx hb dX5_quarrel_28 (by decide) ?_
        refine cMI (bc' := [moB Γ a ms mt mc md (nI S) (gsT (nI 0) (nI 1)) m2 m3 m4 m5]) (va_runV (As := [.int (nI 0), .int (nI 1)]) (rest := []) ⟨hx, hb, hml, hown, hts⟩ ((nX5_goes l Γ a ms mt mc md (nI S) m1 m2 m3 m4 m5 (nI 0) (nI 1)) _) (cwV 2 hts gX5_quarrel_X5_goes rfl rfl rfl (by decide +kernel) ⟨Nat.le_of_ble_eq_true rfl, Nat.le_of_ble_eq_true rfl⟩) ⟨wPre_blind, va_recv hK hP (ci := 5) (q0 := 0) rfl rfl, wPre_mk hP hD hK hS hA hAB hAm [0] rfl rfl⟩ rfl rfl hl.1 rfl (lv_room (Nat.le_of_ble_eq_true rfl)) dX5_quarrel_32 ⟨Nat.zero_le _, Nat.zero_le _⟩) hP hD hS hA [0] rfl rfl (bs' := [moB Γ a ms mt mc md (nI S) (gsT (nI 0) (nI 1)) m2 m3 m4 m5]) rfl (fun H locs hP hD hS => ?_)
        refine lv_if_ne (tgt := 40) hx hb dX5_quarrel_35 (by decide) (fun c_8 => ?_) (fun c_8 => ?_)
        · have hq := hq.trans (if_neg c_8)
          obtain ⟨kn, hkn, rfl⟩ : ∃ j : Nat, j < K ∧ k = nI j := isK hMK hK8 (show ¬ fX5_isKeeper ms k = 0 by first | assumption | exact gs_ne1 (by assumption) | exact gs_00 (by assumption) | exact gs_01 (by assumption))
          obtain ⟨on, hon, rfl⟩ : ∃ j : Nat, j < K ∧ o = nI j := isK hMK hK8 (show ¬ fX5_isKeeper ms o = 0 by first | assumption | exact gs_ne1 (by assumption) | exact gs_00 (by assumption) | exact gs_01 (by assumption))
          replace hq : (fX5_quarrel S ms (nI kn) (nI on)) = ((fX5_bits ((upd (upd (svR (S) ms) (11 + kn) (((svR (S) ms) (11 + kn)) ^^^ ((nI 1) <<< ((nI on) &&& 31)))) (11 + on) (((upd (svR (S) ms) (11 + kn) (((svR (S) ms) (11 + kn)) ^^^ ((nI 1) <<< ((nI on) &&& 31)))) (11 + on)) ^^^ ((nI 1) <<< ((nI kn) &&& 31)))) (11 + kn))), (upd (upd (svR (S) ms) (11 + kn) (((svR (S) ms) (11 + kn)) ^^^ ((nI 1) <<< ((nI on) &&& 31)))) (11 + on) (((upd (svR (S) ms) (11 + kn) (((svR (S) ms) (11 + kn)) ^^^ ((nI 1) <<< ((nI on) &&& 31)))) (11 + on)) ^^^ ((nI 1) <<< ((nI kn) &&& 31)))), (nI (svS (S))), (gsT (nI 0) (nI 1))) := hq.trans (by first | simp only [nI_clamp (show kn < 2 ^ 31 by omega), nI_clamp (show on < 2 ^ 31 by omega), Nat.add_sub_cancel] | rfl)
          refine lv_aload_n hx hb dX5_quarrel_40 rfl (lv_at hl 0 rfl) ?_
          refine cMV (bc' := [moB Γ a (svR (S) ms) mt mc md (nI (svS (S))) (gsT (nI 0) (nI 1)) m2 m3 m4 m5]) (va_runV (As := []) (rest := []) ⟨hx, hb, hml, hown, hts⟩ ((nX5_saves l Γ a (S) ms mt mc md (gsT (nI 0) (nI 1)) m2 m3 m4 m5 (by first | assumption | omega)) _) (cwV 0 hts gX5_quarrel_X5_saves rfl rfl rfl (by decide +kernel) ⟨Nat.le_of_ble_eq_true rfl, Nat.le_of_ble_eq_true rfl⟩) ⟨wPre_blind, va_recv hK hP (ci := 5) (q0 := 0) rfl rfl, wPre_mk hP hD hK hS hA hAB hAm [0] rfl rfl⟩ rfl rfl hl.1 rfl (lv_room (Nat.le_of_ble_eq_true rfl)) dX5_quarrel_41 ⟨Nat.zero_le _, Nat.zero_le _⟩) hP hD hS hA [0] rfl rfl (bs' := [moB Γ a (svR (S) ms) mt mc md (nI (svS (S))) (gsT (nI 0) (nI 1)) m2 m3 m4 m5]) rfl (fun H locs hP hD hS => ?_)
          refine lv_aload_n hx hb dX5_quarrel_44 rfl (lv_at hl 0 rfl) ?_
          refine va_get (D := Γ.1) (ci := 5) (v := .ref (a 1)) (C := RX5) (T := TX5) (N := 10) hx hb hts hi5 hown hK hP 0 rfl rfl 0 (by decide) kf7 (fun _ h9 => h9) rfl dX5_quarrel_45 ?_
          refine lv_bipush (v := (nI 11)) hx hb dX5_quarrel_48 (by decide) ?_
          refine lv_iload_n hx hb dX5_quarrel_50 rfl (lv_at hl 1 rfl) ?_
          refine lv_iadd hx hb dX5_quarrel_51 ?_
          refine lv_eqi (y := (nI (11 + kn))) (nI_add _ _) ?_
          refine lv_dup2_11 hx hb dX5_quarrel_52 rfl rfl ?_
          refine va_iald_n (f := (svR (S) ms)) hx hb hK hP 1 0 rfl rfl (by omega) (Nat.le_of_ble_eq_true rfl) dX5_quarrel_53 ?_
          refine lv_iconst (v := (nI 1)) hx hb dX5_quarrel_54 (by decide) ?_
          refine lv_iload_n hx hb dX5_quarrel_55 rfl (lv_at hl 2 rfl) ?_
          refine lv_ishl hx hb dX5_quarrel_56 ?_
          refine lv_ixor hx hb dX5_quarrel_57 ?_
          refine va_iast_n (f := (svR (S) ms)) hx hb hK hP hD hS 1 0 rfl rfl (by omega) (Nat.le_of_ble_eq_true rfl) dX5_quarrel_58 (fun H locs hP hD hS => ?_)
          have hP : va_P Γ.1 vwCl (wcat [moB Γ a (upd (svR (S) ms) (11 + kn) (((svR (S) ms) (11 + kn)) ^^^ ((nI 1) <<< ((nI on) &&& 31)))) mt mc md (nI (svS (S))) (gsT (nI 0) (nI 1)) m2 m3 m4 m5]) H := hP
          have hD : va_D A (wcat [moB Γ a (upd (svR (S) ms) (11 + kn) (((svR (S) ms) (11 + kn)) ^^^ ((nI 1) <<< ((nI on) &&& 31)))) mt mc md (nI (svS (S))) (gsT (nI 0) (nI 1)) m2 m3 m4 m5]) := hD
          refine lv_aload_n hx hb dX5_quarrel_59 rfl (lv_at hl 0 rfl) ?_
          refine va_get (D := Γ.1) (ci := 5) (v := .ref (a 1)) (C := RX5) (T := TX5) (N := 10) hx hb hts hi5 hown hK hP 0 rfl rfl 0 (by decide) kf7 (fun _ h9 => h9) rfl dX5_quarrel_60 ?_
          refine lv_bipush (v := (nI 11)) hx hb dX5_quarrel_63 (by decide) ?_
          refine lv_iload_n hx hb dX5_quarrel_65 rfl (lv_at hl 2 rfl) ?_
          refine lv_iadd hx hb dX5_quarrel_66 ?_
          refine lv_eqi (y := (nI (11 + on))) (nI_add _ _) ?_
          refine lv_dup2_11 hx hb dX5_quarrel_67 rfl rfl ?_
          refine va_iald_n (f := (upd (svR (S) ms) (11 + kn) (((svR (S) ms) (11 + kn)) ^^^ ((nI 1) <<< ((nI on) &&& 31))))) hx hb hK hP 1 0 rfl rfl (by omega) (Nat.le_of_ble_eq_true rfl) dX5_quarrel_68 ?_
          refine lv_iconst (v := (nI 1)) hx hb dX5_quarrel_69 (by decide) ?_
          refine lv_iload_n hx hb dX5_quarrel_70 rfl (lv_at hl 1 rfl) ?_
          refine lv_ishl hx hb dX5_quarrel_71 ?_
          refine lv_ixor hx hb dX5_quarrel_72 ?_
          refine va_iast_n (f := (upd (svR (S) ms) (11 + kn) (((svR (S) ms) (11 + kn)) ^^^ ((nI 1) <<< ((nI on) &&& 31))))) hx hb hK hP hD hS 1 0 rfl rfl (by omega) (Nat.le_of_ble_eq_true rfl) dX5_quarrel_73 (fun H locs hP hD hS => ?_)
          have hP : va_P Γ.1 vwCl (wcat [moB Γ a (upd (upd (svR (S) ms) (11 + kn) (((svR (S) ms) (11 + kn)) ^^^ ((nI 1) <<< ((nI on) &&& 31)))) (11 + on) (((upd (svR (S) ms) (11 + kn) (((svR (S) ms) (11 + kn)) ^^^ ((nI 1) <<< ((nI on) &&& 31)))) (11 + on)) ^^^ ((nI 1) <<< ((nI kn) &&& 31)))) mt mc md (nI (svS (S))) (gsT (nI 0) (nI 1)) m2 m3 m4 m5]) H := hP
          have hD : va_D A (wcat [moB Γ a (upd (upd (svR (S) ms) (11 + kn) (((svR (S) ms) (11 + kn)) ^^^ ((nI 1) <<< ((nI on) &&& 31)))) (11 + on) (((upd (svR (S) ms) (11 + kn) (((svR (S) ms) (11 + kn)) ^^^ ((nI 1) <<< ((nI on) &&& 31)))) (11 + on)) ^^^ ((nI 1) <<< ((nI kn) &&& 31)))) mt mc md (nI (svS (S))) (gsT (nI 0) (nI 1)) m2 m3 m4 m5]) := hD
          refine lv_aload_n hx hb dX5_quarrel_74 rfl (lv_at hl 0 rfl) ?_
          refine va_get (D := Γ.1) (ci := 5) (v := .ref (a 1)) (C := RX5) (T := TX5) (N := 10) hx hb hts hi5 hown hK hP 0 rfl rfl 0 (by decide) kf7 (fun _ h9 => h9) rfl dX5_quarrel_75 ?_
          refine lv_bipush (v := (nI 11)) hx hb dX5_quarrel_78 (by decide) ?_
          refine lv_iload_n hx hb dX5_quarrel_80 rfl (lv_at hl 1 rfl) ?_
          refine lv_iadd hx hb dX5_quarrel_81 ?_
          refine lv_eqi (y := (nI (11 + kn))) (nI_add _ _) ?_
          refine va_iald_n (f := (upd (upd (svR (S) ms) (11 + kn) (((svR (S) ms) (11 + kn)) ^^^ ((nI 1) <<< ((nI on) &&& 31)))) (11 + on) (((upd (svR (S) ms) (11 + kn) (((svR (S) ms) (11 + kn)) ^^^ ((nI 1) <<< ((nI on) &&& 31)))) (11 + on)) ^^^ ((nI 1) <<< ((nI kn) &&& 31))))) hx hb hK hP 1 0 rfl rfl (by omega) (Nat.le_of_ble_eq_true rfl) dX5_quarrel_82 ?_
          refine cLI (va_runS (As := [.int ((upd (upd (svR (S) ms) (11 + kn) (((svR (S) ms) (11 + kn)) ^^^ ((nI 1) <<< ((nI on) &&& 31)))) (11 + on) (((upd (svR (S) ms) (11 + kn) (((svR (S) ms) (11 + kn)) ^^^ ((nI 1) <<< ((nI on) &&& 31)))) (11 + on)) ^^^ ((nI 1) <<< ((nI kn) &&& 31)))) (11 + kn))]) (rest := []) ⟨hx, hb, hml, hown, hts⟩ ((kX5_bits l Γ ((upd (upd (svR (S) ms) (11 + kn) (((svR (S) ms) (11 + kn)) ^^^ ((nI 1) <<< ((nI on) &&& 31)))) (11 + on) (((upd (svR (S) ms) (11 + kn) (((svR (S) ms) (11 + kn)) ^^^ ((nI 1) <<< ((nI on) &&& 31)))) (11 + on)) ^^^ ((nI 1) <<< ((nI kn) &&& 31)))) (11 + kn))) _) (va_cwS 1 hts gX5_quarrel_X5_bits rfl rfl rfl (by decide +kernel) ⟨Nat.le_of_ble_eq_true rfl, Nat.le_of_ble_eq_true rfl⟩) ⟨wPre_blind, wPre_mk hP hD hK hS hA hAB hAm [] rfl rfl⟩ rfl rfl hl.1 rfl (lv_room (Nat.le_of_ble_eq_true rfl)) dX5_quarrel_83 ⟨Nat.zero_le _, Nat.zero_le _⟩) hP hS hA (fun H locs hP hS => ?_)
          exact W.iret (v := (fX5_bits ((upd (upd (svR (S) ms) (11 + kn) (((svR (S) ms) (11 + kn)) ^^^ ((nI 1) <<< ((nI on) &&& 31)))) (11 + on) (((upd (svR (S) ms) (11 + kn) (((svR (S) ms) (11 + kn)) ^^^ ((nI 1) <<< ((nI on) &&& 31)))) (11 + on)) ^^^ ((nI 1) <<< ((nI kn) &&& 31)))) (11 + kn)))) hx hb hr (fun t ht hW => eMI (by rw [hq]; exact hP) hS ht (by rw [hq])) hS.2.2 dX5_quarrel_86
        · have hq := hq.trans (if_pos c_8)
          refine lv_iconst (v := (nI 0)) hx hb dX5_quarrel_38 (by decide) ?_
          exact W.iret (v := (nI 0)) hx hb hr (fun t ht hW => eMI (by rw [hq]; exact hP) hS ht (by rw [hq])) hS.2.2 dX5_quarrel_39
    · have hq := hq.trans (if_neg c_5)
      refine lv_iconst (v := (nI 1)) hx hb dX5_quarrel_17 (by decide) ?_
      refine lv_goto (tgt := 22) hx hb dX5_quarrel_18 (by decide) ?_
      refine lv_iload_n hx hb dX5_quarrel_22 rfl (lv_at hl 1 rfl) ?_
      refine lv_iload_n hx hb dX5_quarrel_23 rfl (lv_at hl 2 rfl) ?_
      refine lv_icmp_eq (tgt := 31) hx hb dX5_quarrel_24 (by decide) (fun c_9 => ?_) (fun c_9 => ?_)
      · have hq := hq.trans (if_pos c_9)
        refine lv_iconst (v := (nI 0)) hx hb dX5_quarrel_31 (by decide) ?_
        refine cMI (bc' := [moB Γ a ms mt mc md (nI S) (gsT (nI 1) (nI 0)) m2 m3 m4 m5]) (va_runV (As := [.int (nI 1), .int (nI 0)]) (rest := []) ⟨hx, hb, hml, hown, hts⟩ ((nX5_goes l Γ a ms mt mc md (nI S) m1 m2 m3 m4 m5 (nI 1) (nI 0)) _) (cwV 2 hts gX5_quarrel_X5_goes rfl rfl rfl (by decide +kernel) ⟨Nat.le_of_ble_eq_true rfl, Nat.le_of_ble_eq_true rfl⟩) ⟨wPre_blind, va_recv hK hP (ci := 5) (q0 := 0) rfl rfl, wPre_mk hP hD hK hS hA hAB hAm [0] rfl rfl⟩ rfl rfl hl.1 rfl (lv_room (Nat.le_of_ble_eq_true rfl)) dX5_quarrel_32 ⟨Nat.zero_le _, Nat.zero_le _⟩) hP hD hS hA [0] rfl rfl (bs' := [moB Γ a ms mt mc md (nI S) (gsT (nI 1) (nI 0)) m2 m3 m4 m5]) rfl (fun H locs hP hD hS => ?_)
        refine lv_if_ne (tgt := 40) hx hb dX5_quarrel_35 (by decide) (fun c_10 => ?_) (fun c_10 => ?_)
        · have hq := hq.trans (if_neg c_10)
          obtain ⟨kn, hkn, rfl⟩ : ∃ j : Nat, j < K ∧ k = nI j := isK hMK hK8 (show ¬ fX5_isKeeper ms k = 0 by first | assumption | exact gs_ne1 (by assumption) | exact gs_00 (by assumption) | exact gs_01 (by assumption))
          obtain ⟨on, hon, rfl⟩ : ∃ j : Nat, j < K ∧ o = nI j := isK hMK hK8 (show ¬ fX5_isKeeper ms o = 0 by first | assumption | exact gs_ne1 (by assumption) | exact gs_00 (by assumption) | exact gs_01 (by assumption))
          replace hq : (fX5_quarrel S ms (nI kn) (nI on)) = ((fX5_bits ((upd (upd (svR (S) ms) (11 + kn) (((svR (S) ms) (11 + kn)) ^^^ ((nI 1) <<< ((nI on) &&& 31)))) (11 + on) (((upd (svR (S) ms) (11 + kn) (((svR (S) ms) (11 + kn)) ^^^ ((nI 1) <<< ((nI on) &&& 31)))) (11 + on)) ^^^ ((nI 1) <<< ((nI kn) &&& 31)))) (11 + kn))), (upd (upd (svR (S) ms) (11 + kn) (((svR (S) ms) (11 + kn)) ^^^ ((nI 1) <<< ((nI on) &&& 31)))) (11 + on) (((upd (svR (S) ms) (11 + kn) (((svR (S) ms) (11 + kn)) ^^^ ((nI 1) <<< ((nI on) &&& 31)))) (11 + on)) ^^^ ((nI 1) <<< ((nI kn) &&& 31)))), (nI (svS (S))), (gsT (nI 1) (nI 0))) := hq.trans (by first | simp only [nI_clamp (show kn < 2 ^ 31 by omega), nI_clamp (show on < 2 ^ 31 by omega), Nat.add_sub_cancel] | rfl)
          refine lv_aload_n hx hb dX5_quarrel_40 rfl (lv_at hl 0 rfl) ?_
          refine cMV (bc' := [moB Γ a (svR (S) ms) mt mc md (nI (svS (S))) (gsT (nI 1) (nI 0)) m2 m3 m4 m5]) (va_runV (As := []) (rest := []) ⟨hx, hb, hml, hown, hts⟩ ((nX5_saves l Γ a (S) ms mt mc md (gsT (nI 1) (nI 0)) m2 m3 m4 m5 (by first | assumption | omega)) _) (cwV 0 hts gX5_quarrel_X5_saves rfl rfl rfl (by decide +kernel) ⟨Nat.le_of_ble_eq_true rfl, Nat.le_of_ble_eq_true rfl⟩) ⟨wPre_blind, va_recv hK hP (ci := 5) (q0 := 0) rfl rfl, wPre_mk hP hD hK hS hA hAB hAm [0] rfl rfl⟩ rfl rfl hl.1 rfl (lv_room (Nat.le_of_ble_eq_true rfl)) dX5_quarrel_41 ⟨Nat.zero_le _, Nat.zero_le _⟩) hP hD hS hA [0] rfl rfl (bs' := [moB Γ a (svR (S) ms) mt mc md (nI (svS (S))) (gsT (nI 1) (nI 0)) m2 m3 m4 m5]) rfl (fun H locs hP hD hS => ?_)
          refine lv_aload_n hx hb dX5_quarrel_44 rfl (lv_at hl 0 rfl) ?_
          refine va_get (D := Γ.1) (ci := 5) (v := .ref (a 1)) (C := RX5) (T := TX5) (N := 10) hx hb hts hi5 hown hK hP 0 rfl rfl 0 (by decide) kf7 (fun _ h9 => h9) rfl dX5_quarrel_45 ?_
          refine lv_bipush (v := (nI 11)) hx hb dX5_quarrel_48 (by decide) ?_
          refine lv_iload_n hx hb dX5_quarrel_50 rfl (lv_at hl 1 rfl) ?_
          refine lv_iadd hx hb dX5_quarrel_51 ?_
          refine lv_eqi (y := (nI (11 + kn))) (nI_add _ _) ?_
          refine lv_dup2_11 hx hb dX5_quarrel_52 rfl rfl ?_
          refine va_iald_n (f := (svR (S) ms)) hx hb hK hP 1 0 rfl rfl (by omega) (Nat.le_of_ble_eq_true rfl) dX5_quarrel_53 ?_
          refine lv_iconst (v := (nI 1)) hx hb dX5_quarrel_54 (by decide) ?_
          refine lv_iload_n hx hb dX5_quarrel_55 rfl (lv_at hl 2 rfl) ?_
          refine lv_ishl hx hb dX5_quarrel_56 ?_
          refine lv_ixor hx hb dX5_quarrel_57 ?_
          refine va_iast_n (f := (svR (S) ms)) hx hb hK hP hD hS 1 0 rfl rfl (by omega) (Nat.le_of_ble_eq_true rfl) dX5_quarrel_58 (fun H locs hP hD hS => ?_)
          have hP : va_P Γ.1 vwCl (wcat [moB Γ a (upd (svR (S) ms) (11 + kn) (((svR (S) ms) (11 + kn)) ^^^ ((nI 1) <<< ((nI on) &&& 31)))) mt mc md (nI (svS (S))) (gsT (nI 1) (nI 0)) m2 m3 m4 m5]) H := hP
          have hD : va_D A (wcat [moB Γ a (upd (svR (S) ms) (11 + kn) (((svR (S) ms) (11 + kn)) ^^^ ((nI 1) <<< ((nI on) &&& 31)))) mt mc md (nI (svS (S))) (gsT (nI 1) (nI 0)) m2 m3 m4 m5]) := hD
          refine lv_aload_n hx hb dX5_quarrel_59 rfl (lv_at hl 0 rfl) ?_
          refine va_get (D := Γ.1) (ci := 5) (v := .ref (a 1)) (C := RX5) (T := TX5) (N := 10) hx hb hts hi5 hown hK hP 0 rfl rfl 0 (by decide) kf7 (fun _ h9 => h9) rfl dX5_quarrel_60 ?_
          refine lv_bipush (v := (nI 11)) hx hb dX5_quarrel_63 (by decide) ?_
          refine lv_iload_n hx hb dX5_quarrel_65 rfl (lv_at hl 2 rfl) ?_
          refine lv_iadd hx hb dX5_quarrel_66 ?_
          refine lv_eqi (y := (nI (11 + on))) (nI_add _ _) ?_
          refine lv_dup2_11 hx hb dX5_quarrel_67 rfl rfl ?_
          refine va_iald_n (f := (upd (svR (S) ms) (11 + kn) (((svR (S) ms) (11 + kn)) ^^^ ((nI 1) <<< ((nI on) &&& 31))))) hx hb hK hP 1 0 rfl rfl (by omega) (Nat.le_of_ble_eq_true rfl) dX5_quarrel_68 ?_
          refine lv_iconst (v := (nI 1)) hx hb dX5_quarrel_69 (by decide) ?_
          refine lv_iload_n hx hb dX5_quarrel_70 rfl (lv_at hl 1 rfl) ?_
          refine lv_ishl hx hb dX5_quarrel_71 ?_
          refine lv_ixor hx hb dX5_quarrel_72 ?_
          refine va_iast_n (f := (upd (svR (S) ms) (11 + kn) (((svR (S) ms) (11 + kn)) ^^^ ((nI 1) <<< ((nI on) &&& 31))))) hx hb hK hP hD hS 1 0 rfl rfl (by omega) (Nat.le_of_ble_eq_true rfl) dX5_quarrel_73 (fun H locs hP hD hS => ?_)
          have hP : va_P Γ.1 vwCl (wcat [moB Γ a (upd (upd (svR (S) ms) (11 + kn) (((svR (S) ms) (11 + kn)) ^^^ ((nI 1) <<< ((nI on) &&& 31)))) (11 + on) (((upd (svR (S) ms) (11 + kn) (((svR (S) ms) (11 + kn)) ^^^ ((nI 1) <<< ((nI on) &&& 31)))) (11 + on)) ^^^ ((nI 1) <<< ((nI kn) &&& 31)))) mt mc md (nI (svS (S))) (gsT (nI 1) (nI 0)) m2 m3 m4 m5]) H := hP
          have hD : va_D A (wcat [moB Γ a (upd (upd (svR (S) ms) (11 + kn) (((svR (S) ms) (11 + kn)) ^^^ ((nI 1) <<< ((nI on) &&& 31)))) (11 + on) (((upd (svR (S) ms) (11 + kn) (((svR (S) ms) (11 + kn)) ^^^ ((nI 1) <<< ((nI on) &&& 31)))) (11 + on)) ^^^ ((nI 1) <<< ((nI kn) &&& 31)))) mt mc md (nI (svS (S))) (gsT (nI 1) (nI 0)) m2 m3 m4 m5]) := hD
          refine lv_aload_n hx hb dX5_quarrel_74 rfl (lv_at hl 0 rfl) ?_
          refine va_get (D := Γ.1) (ci := 5) (v := .ref (a 1)) (C := RX5) (T := TX5) (N := 10) hx hb hts hi5 hown hK hP 0 rfl rfl 0 (by decide) kf7 (fun _ h9 => h9) rfl dX5_quarrel_75 ?_
          refine lv_bipush (v := (nI 11)) hx hb dX5_quarrel_78 (by decide) ?_
          refine lv_iload_n hx hb dX5_quarrel_80 rfl (lv_at hl 1 rfl) ?_
          refine lv_iadd hx hb dX5_quarrel_81 ?_
          refine lv_eqi (y := (nI (11 + kn))) (nI_add _ _) ?_
          refine va_iald_n (f := (upd (upd (svR (S) ms) (11 + kn) (((svR (S) ms) (11 + kn)) ^^^ ((nI 1) <<< ((nI on) &&& 31)))) (11 + on) (((upd (svR (S) ms) (11 + kn) (((svR (S) ms) (11 + kn)) ^^^ ((nI 1) <<< ((nI on) &&& 31)))) (11 + on)) ^^^ ((nI 1) <<< ((nI kn) &&& 31))))) hx hb hK hP 1 0 rfl rfl (by omega) (Nat.le_of_ble_eq_true rfl) dX5_quarrel_82 ?_
          refine cLI (va_runS (As := [.int ((upd (upd (svR (S) ms) (11 + kn) (((svR (S) ms) (11 + kn)) ^^^ ((nI 1) <<< ((nI on) &&& 31)))) (11 + on) (((upd (svR (S) ms) (11 + kn) (((svR (S) ms) (11 + kn)) ^^^ ((nI 1) <<< ((nI on) &&& 31)))) (11 + on)) ^^^ ((nI 1) <<< ((nI kn) &&& 31)))) (11 + kn))]) (rest := []) ⟨hx, hb, hml, hown, hts⟩ ((kX5_bits l Γ ((upd (upd (svR (S) ms) (11 + kn) (((svR (S) ms) (11 + kn)) ^^^ ((nI 1) <<< ((nI on) &&& 31)))) (11 + on) (((upd (svR (S) ms) (11 + kn) (((svR (S) ms) (11 + kn)) ^^^ ((nI 1) <<< ((nI on) &&& 31)))) (11 + on)) ^^^ ((nI 1) <<< ((nI kn) &&& 31)))) (11 + kn))) _) (va_cwS 1 hts gX5_quarrel_X5_bits rfl rfl rfl (by decide +kernel) ⟨Nat.le_of_ble_eq_true rfl, Nat.le_of_ble_eq_true rfl⟩) ⟨wPre_blind, wPre_mk hP hD hK hS hA hAB hAm [] rfl rfl⟩ rfl rfl hl.1 rfl (lv_room (Nat.le_of_ble_eq_true rfl)) dX5_quarrel_83 ⟨Nat.zero_le _, Nat.zero_le _⟩) hP hS hA (fun H locs hP hS => ?_)
          exact W.iret (v := (fX5_bits ((upd (upd (svR (S) ms) (11 + kn) (((svR (S) ms) (11 + kn)) ^^^ ((nI 1) <<< ((nI on) &&& 31)))) (11 + on) (((upd (svR (S) ms) (11 + kn) (((svR (S) ms) (11 + kn)) ^^^ ((nI 1) <<< ((nI on) &&& 31)))) (11 + on)) ^^^ ((nI 1) <<< ((nI kn) &&& 31)))) (11 + kn)))) hx hb hr (fun t ht hW => eMI (by rw [hq]; exact hP) hS ht (by rw [hq])) hS.2.2 dX5_quarrel_86
        · have hq := hq.trans (if_pos c_10)
          refine lv_iconst (v := (nI 0)) hx hb dX5_quarrel_38 (by decide) ?_
          exact W.iret (v := (nI 0)) hx hb hr (fun t ht hW => eMI (by rw [hq]; exact hP) hS ht (by rw [hq])) hS.2.2 dX5_quarrel_39
      · have hq := hq.trans (if_neg c_9)
        refine lv_iconst (v := (nI 1)) hx hb dX5_quarrel_27 (by decide) ?_
        refine lv_goto (tgt := 32) hx hb dX5_quarrel_28 (by decide) ?_
        refine cMI (bc' := [moB Γ a ms mt mc md (nI S) (gsT (nI 1) (nI 1)) m2 m3 m4 m5]) (va_runV (As := [.int (nI 1), .int (nI 1)]) (rest := []) ⟨hx, hb, hml, hown, hts⟩ ((nX5_goes l Γ a ms mt mc md (nI S) m1 m2 m3 m4 m5 (nI 1) (nI 1)) _) (cwV 2 hts gX5_quarrel_X5_goes rfl rfl rfl (by decide +kernel) ⟨Nat.le_of_ble_eq_true rfl, Nat.le_of_ble_eq_true rfl⟩) ⟨wPre_blind, va_recv hK hP (ci := 5) (q0 := 0) rfl rfl, wPre_mk hP hD hK hS hA hAB hAm [0] rfl rfl⟩ rfl rfl hl.1 rfl (lv_room (Nat.le_of_ble_eq_true rfl)) dX5_quarrel_32 ⟨Nat.zero_le _, Nat.zero_le _⟩) hP hD hS hA [0] rfl rfl (bs' := [moB Γ a ms mt mc md (nI S) (gsT (nI 1) (nI 1)) m2 m3 m4 m5]) rfl (fun H locs hP hD hS => ?_)
        refine lv_if_ne (tgt := 40) hx hb dX5_quarrel_35 (by decide) (fun c_11 => ?_) (fun c_11 => ?_)
        · have hq := hq.trans (if_neg c_11)
          obtain ⟨kn, hkn, rfl⟩ : ∃ j : Nat, j < K ∧ k = nI j := isK hMK hK8 (show ¬ fX5_isKeeper ms k = 0 by first | assumption | exact gs_ne1 (by assumption) | exact gs_00 (by assumption) | exact gs_01 (by assumption))
          obtain ⟨on, hon, rfl⟩ : ∃ j : Nat, j < K ∧ o = nI j := isK hMK hK8 (show ¬ fX5_isKeeper ms o = 0 by first | assumption | exact gs_ne1 (by assumption) | exact gs_00 (by assumption) | exact gs_01 (by assumption))
          replace hq : (fX5_quarrel S ms (nI kn) (nI on)) = ((fX5_bits ((upd (upd (svR (S) ms) (11 + kn) (((svR (S) ms) (11 + kn)) ^^^ ((nI 1) <<< ((nI on) &&& 31)))) (11 + on) (((upd (svR (S) ms) (11 + kn) (((svR (S) ms) (11 + kn)) ^^^ ((nI 1) <<< ((nI on) &&& 31)))) (11 + on)) ^^^ ((nI 1) <<< ((nI kn) &&& 31)))) (11 + kn))), (upd (upd (svR (S) ms) (11 + kn) (((svR (S) ms) (11 + kn)) ^^^ ((nI 1) <<< ((nI on) &&& 31)))) (11 + on) (((upd (svR (S) ms) (11 + kn) (((svR (S) ms) (11 + kn)) ^^^ ((nI 1) <<< ((nI on) &&& 31)))) (11 + on)) ^^^ ((nI 1) <<< ((nI kn) &&& 31)))), (nI (svS (S))), (gsT (nI 1) (nI 1))) := hq.trans (by first | simp only [nI_clamp (show kn < 2 ^ 31 by omega), nI_clamp (show on < 2 ^ 31 by omega), Nat.add_sub_cancel] | rfl)
          refine lv_aload_n hx hb dX5_quarrel_40 rfl (lv_at hl 0 rfl) ?_
          refine cMV (bc' := [moB Γ a (svR (S) ms) mt mc md (nI (svS (S))) (gsT (nI 1) (nI 1)) m2 m3 m4 m5]) (va_runV (As := []) (rest := []) ⟨hx, hb, hml, hown, hts⟩ ((nX5_saves l Γ a (S) ms mt mc md (gsT (nI 1) (nI 1)) m2 m3 m4 m5 (by first | assumption | omega)) _) (cwV 0 hts gX5_quarrel_X5_saves rfl rfl rfl (by decide +kernel) ⟨Nat.le_of_ble_eq_true rfl, Nat.le_of_ble_eq_true rfl⟩) ⟨wPre_blind, va_recv hK hP (ci := 5) (q0 := 0) rfl rfl, wPre_mk hP hD hK hS hA hAB hAm [0] rfl rfl⟩ rfl rfl hl.1 rfl (lv_room (Nat.le_of_ble_eq_true rfl)) dX5_quarrel_41 ⟨Nat.zero_le _, Nat.zero_le _⟩) hP hD hS hA [0] rfl rfl (bs' := [moB Γ a (svR (S) ms) mt mc md (nI (svS (S))) (gsT (nI 1) (nI 1)) m2 m3 m4 m5]) rfl (fun H locs hP hD hS => ?_)
          refine lv_aload_n hx hb dX5_quarrel_44 rfl (lv_at hl 0 rfl) ?_
          refine va_get (D := Γ.1) (ci := 5) (v := .ref (a 1)) (C := RX5) (T := TX5) (N := 10) hx hb hts hi5 hown hK hP 0 rfl rfl 0 (by decide) kf7 (fun _ h9 => h9) rfl dX5_quarrel_45 ?_
          refine lv_bipush (v := (nI 11)) hx hb dX5_quarrel_48 (by decide) ?_
          refine lv_iload_n hx hb dX5_quarrel_50 rfl (lv_at hl 1 rfl) ?_
          refine lv_iadd hx hb dX5_quarrel_51 ?_
          refine lv_eqi (y := (nI (11 + kn))) (nI_add _ _) ?_
          refine lv_dup2_11 hx hb dX5_quarrel_52 rfl rfl ?_
          refine va_iald_n (f := (svR (S) ms)) hx hb hK hP 1 0 rfl rfl (by omega) (Nat.le_of_ble_eq_true rfl) dX5_quarrel_53 ?_
          refine lv_iconst (v := (nI 1)) hx hb dX5_quarrel_54 (by decide) ?_
          refine lv_iload_n hx hb dX5_quarrel_55 rfl (lv_at hl 2 rfl) ?_
          refine lv_ishl hx hb dX5_quarrel_56 ?_
          refine lv_ixor hx hb dX5_quarrel_57 ?_
          refine va_iast_n (f := (svR (S) ms)) hx hb hK hP hD hS 1 0 rfl rfl (by omega) (Nat.le_of_ble_eq_true rfl) dX5_quarrel_58 (fun H locs hP hD hS => ?_)
          have hP : va_P Γ.1 vwCl (wcat [moB Γ a (upd (svR (S) ms) (11 + kn) (((svR (S) ms) (11 + kn)) ^^^ ((nI 1) <<< ((nI on) &&& 31)))) mt mc md (nI (svS (S))) (gsT (nI 1) (nI 1)) m2 m3 m4 m5]) H := hP
          have hD : va_D A (wcat [moB Γ a (upd (svR (S) ms) (11 + kn) (((svR (S) ms) (11 + kn)) ^^^ ((nI 1) <<< ((nI on) &&& 31)))) mt mc md (nI (svS (S))) (gsT (nI 1) (nI 1)) m2 m3 m4 m5]) := hD
          refine lv_aload_n hx hb dX5_quarrel_59 rfl (lv_at hl 0 rfl) ?_
          refine va_get (D := Γ.1) (ci := 5) (v := .ref (a 1)) (C := RX5) (T := TX5) (N := 10) hx hb hts hi5 hown hK hP 0 rfl rfl 0 (by decide) kf7 (fun _ h9 => h9) rfl dX5_quarrel_60 ?_
          refine lv_bipush (v := (nI 11)) hx hb dX5_quarrel_63 (by decide) ?_
          refine lv_iload_n hx hb dX5_quarrel_65 rfl (lv_at hl 2 rfl) ?_
          refine lv_iadd hx hb dX5_quarrel_66 ?_
          refine lv_eqi (y := (nI (11 + on))) (nI_add _ _) ?_
          refine lv_dup2_11 hx hb dX5_quarrel_67 rfl rfl ?_
          refine va_iald_n (f := (upd (svR (S) ms) (11 + kn) (((svR (S) ms) (11 + kn)) ^^^ ((nI 1) <<< ((nI on) &&& 31))))) hx hb hK hP 1 0 rfl rfl (by omega) (Nat.le_of_ble_eq_true rfl) dX5_quarrel_68 ?_
          refine lv_iconst (v := (nI 1)) hx hb dX5_quarrel_69 (by decide) ?_
          refine lv_iload_n hx hb dX5_quarrel_70 rfl (lv_at hl 1 rfl) ?_
          refine lv_ishl hx hb dX5_quarrel_71 ?_
          refine lv_ixor hx hb dX5_quarrel_72 ?_
          refine va_iast_n (f := (upd (svR (S) ms) (11 + kn) (((svR (S) ms) (11 + kn)) ^^^ ((nI 1) <<< ((nI on) &&& 31))))) hx hb hK hP hD hS 1 0 rfl rfl (by omega) (Nat.le_of_ble_eq_true rfl) dX5_quarrel_73 (fun H locs hP hD hS => ?_)
          have hP : va_P Γ.1 vwCl (wcat [moB Γ a (upd (upd (svR (S) ms) (11 + kn) (((svR (S) ms) (11 + kn)) ^^^ ((nI 1) <<< ((nI on) &&& 31)))) (11 + on) (((upd (svR (S) ms) (11 + kn) (((svR (S) ms) (11 + kn)) ^^^ ((nI 1) <<< ((nI on) &&& 31)))) (11 + on)) ^^^ ((nI 1) <<< ((nI kn) &&& 31)))) mt mc md (nI (svS (S))) (gsT (nI 1) (nI 1)) m2 m3 m4 m5]) H := hP
          have hD : va_D A (wcat [moB Γ a (upd (upd (svR (S) ms) (11 + kn) (((svR (S) ms) (11 + kn)) ^^^ ((nI 1) <<< ((nI on) &&& 31)))) (11 + on) (((upd (svR (S) ms) (11 + kn) (((svR (S) ms) (11 + kn)) ^^^ ((nI 1) <<< ((nI on) &&& 31)))) (11 + on)) ^^^ ((nI 1) <<< ((nI kn) &&& 31)))) mt mc md (nI (svS (S))) (gsT (nI 1) (nI 1)) m2 m3 m4 m5]) := hD
          refine lv_aload_n hx hb dX5_quarrel_74 rfl (lv_at hl 0 rfl) ?_
          refine va_get (D := Γ.1) (ci := 5) (v := .ref (a 1)) (C := RX5) (T := TX5) (N := 10) hx hb hts hi5 hown hK hP 0 rfl rfl 0 (by decide) kf7 (fun _ h9 => h9) rfl dX5_quarrel_75 ?_
          refine lv_bipush (v := (nI 11)) hx hb dX5_quarrel_78 (by decide) ?_
          refine lv_iload_n hx hb dX5_quarrel_80 rfl (lv_at hl 1 rfl) ?_
          refine lv_iadd hx hb dX5_quarrel_81 ?_
          refine lv_eqi (y := (nI (11 + kn))) (nI_add _ _) ?_
          refine va_iald_n (f := (upd (upd (svR (S) ms) (11 + kn) (((svR (S) ms) (11 + kn)) ^^^ ((nI 1) <<< ((nI on) &&& 31)))) (11 + on) (((upd (svR (S) ms) (11 + kn) (((svR (S) ms) (11 + kn)) ^^^ ((nI 1) <<< ((nI on) &&& 31)))) (11 + on)) ^^^ ((nI 1) <<< ((nI kn) &&& 31))))) hx hb hK hP 1 0 rfl rfl (by omega) (Nat.le_of_ble_eq_true rfl) dX5_quarrel_82 ?_
          refine cLI (va_runS (As := [.int ((upd (upd (svR (S) ms) (11 + kn) (((svR (S) ms) (11 + kn)) ^^^ ((nI 1) <<< ((nI on) &&& 31)))) (11 + on) (((upd (svR (S) ms) (11 + kn) (((svR (S) ms) (11 + kn)) ^^^ ((nI 1) <<< ((nI on) &&& 31)))) (11 + on)) ^^^ ((nI 1) <<< ((nI kn) &&& 31)))) (11 + kn))]) (rest := []) ⟨hx, hb, hml, hown, hts⟩ ((kX5_bits l Γ ((upd (upd (svR (S) ms) (11 + kn) (((svR (S) ms) (11 + kn)) ^^^ ((nI 1) <<< ((nI on) &&& 31)))) (11 + on) (((upd (svR (S) ms) (11 + kn) (((svR (S) ms) (11 + kn)) ^^^ ((nI 1) <<< ((nI on) &&& 31)))) (11 + on)) ^^^ ((nI 1) <<< ((nI kn) &&& 31)))) (11 + kn))) _) (va_cwS 1 hts gX5_quarrel_X5_bits rfl rfl rfl (by decide +kernel) ⟨Nat.le_of_ble_eq_true rfl, Nat.le_of_ble_eq_true rfl⟩) ⟨wPre_blind, wPre_mk hP hD hK hS hA hAB hAm [] rfl rfl⟩ rfl rfl hl.1 rfl (lv_room (Nat.le_of_ble_eq_true rfl)) dX5_quarrel_83 ⟨Nat.zero_le _, Nat.zero_le _⟩) hP hS hA (fun H locs hP hS => ?_)
          exact W.iret (v := (fX5_bits ((upd (upd (svR (S) ms) (11 + kn) (((svR (S) ms) (11 + kn)) ^^^ ((nI 1) <<< ((nI on) &&& 31)))) (11 + on) (((upd (svR (S) ms) (11 + kn) (((svR (S) ms) (11 + kn)) ^^^ ((nI 1) <<< ((nI on) &&& 31)))) (11 + on)) ^^^ ((nI 1) <<< ((nI kn) &&& 31)))) (11 + kn)))) hx hb hr (fun t ht hW => eMI (by rw [hq]; exact hP) hS ht (by rw [hq])) hS.2.2 dX5_quarrel_86
        · have hq := hq.trans (if_pos c_11)
          refine lv_iconst (v := (nI 0)) hx hb dX5_quarrel_38 (by decide) ?_
          exact W.iret (v := (nI 0)) hx hb hr (fun t ht hW => eMI (by rw [hq]; exact hP) hS ht (by rw [hq])) hS.2.2 dX5_quarrel_39
def fX5_forge (S : Nat) (ms : (Nat → Int32)) (k : Int32) (x : Int32) : Int32 × (Nat → Int32) × Int32 × Int32 := (if (fX5_in k (nI 0) (nI 7)) = 0 then (if (gsR (nI 0) (nI 0)) = 0 then ((nI 0), ms, (nI S), (gsT (nI 0) (nI 0))) else (((svR (S) ms) (32 + (k.toNatClampNeg))), (upd (upd (svR (S) ms) (32 + (k.toNatClampNeg)) x) (48 + (k.toNatClampNeg)) (nI 1)), (nI (svS (S))), (gsT (nI 0) (nI 0)))) else (if (fX5_in x (nI 0) (nI 250)) = 0 then (if (ms (40 + (k.toNatClampNeg))) < 0 then (if (gsR (nI 0) (nI 0)) = 0 then ((nI 0), ms, (nI S), (gsT (nI 0) (nI 0))) else (((svR (S) ms) (32 + (k.toNatClampNeg))), (upd (upd (svR (S) ms) (32 + (k.toNatClampNeg)) x) (48 + (k.toNatClampNeg)) (nI 1)), (nI (svS (S))), (gsT (nI 0) (nI 0)))) else (if (gsR (nI 0) (nI 1)) = 0 then ((nI 0), ms, (nI S), (gsT (nI 0) (nI 1))) else (((svR (S) ms) (32 + (k.toNatClampNeg))), (upd (upd (svR (S) ms) (32 + (k.toNatClampNeg)) x) (48 + (k.toNatClampNeg)) (nI 1)), (nI (svS (S))), (gsT (nI 0) (nI 1))))) else (if (ms (40 + (k.toNatClampNeg))) < 0 then (if (gsR (nI 1) (nI 0)) = 0 then ((nI 0), ms, (nI S), (gsT (nI 1) (nI 0))) else (((svR (S) ms) (32 + (k.toNatClampNeg))), (upd (upd (svR (S) ms) (32 + (k.toNatClampNeg)) x) (48 + (k.toNatClampNeg)) (nI 1)), (nI (svS (S))), (gsT (nI 1) (nI 0)))) else (if (gsR (nI 1) (nI 1)) = 0 then ((nI 0), ms, (nI S), (gsT (nI 1) (nI 1))) else (((svR (S) ms) (32 + (k.toNatClampNeg))), (upd (upd (svR (S) ms) (32 + (k.toNatClampNeg)) x) (48 + (k.toNatClampNeg)) (nI 1)), (nI (svS (S))), (gsT (nI 1) (nI 1)))))))
set_option maxHeartbeats 4000000 in
set_option maxRecDepth 100000 in
theorem kX5_forge (l : Launch) (Γ : wG) (a : Nat → Nat) (S : Nat) (ms : (Nat → Int32)) (mt : (Nat → Int32)) (mc : (Nat → Int32)) (md : (Nat → Int32)) (m1 : Int32) (m2 : Int32) (m3 : Int32) (m4 : Int32) (m5 : Int32) (k : Int32) (x : Int32) (hS6 : S ≤ 6) : MI l Γ yX5_forge wsX5_forge ({ frames := 2, cells := 0, slots := 0, locals := 44 }) [.ref (a 0), .int k, .int x] [moB Γ a ms mt mc md (nI S) m1 m2 m3 m4 m5] [moB Γ a (fX5_forge S ms k x).2.1 mt mc md (fX5_forge S ms k x).2.2.1 (fX5_forge S ms k x).2.2.2 m2 m3 m4 m5] (fX5_forge S ms k x).1 := by
  intro sz
  refine Met.ofW (cc := cX5_forge) (maxL := 4) (ret := (some .int)) (by decide) rfl ?_
  intro p e s m args below meth c s₁ B hml hv
  obtain ⟨rfl, hsz, hP, hK, hD0, hAm⟩ := hv
  have hx := B.exec
  have hb := B.bytes
  have hr := B.returns
  have hts := atoms_spec (ws := wsX5_forge) B.pre
  have hown : s.vm.findClass RX5 = some m.cls := findClass_of_methodNamed B.named
  have hlocks := B.notSynchronized
  subst hsz
  have hD := hD0.self (sz := s.heap.size)
  generalize hAe : va_A (wcat [moB Γ a ms mt mc md (nI S) m1 m2 m3 m4 m5]) s.heap.size = A at hD hAm ⊢
  have hA : ∀ q : Nat, s.heap.size ≤ q → A q := fun q h => by rw [← hAe]; exact Or.inr h
  have hAB : ∀ q : Nat, A q → A q := fun _ h => h
  have hS : va_S A s.heap s.heap [] := va_S.rf
  have hl := lv_entry ([.ref (a 0), .int k, .int x]) (n := 4) (Nat.le_of_ble_eq_true rfl)
  rw [lg_entry_eq]
  generalize (lg_sl ([.ref (a 0), .int k, .int x]) ++ List.replicate (4 - (lg_sl ([.ref (a 0), .int k, .int x])).length) Slot.unset).toArray = ls at hl ⊢
  have hl : lv_has ls 4 [(0, .ref (a 0)), (1, .int k), (2, .int x)] := hl
  have hi5 : ∀ w ∈ wsX50, w ∈ wsX5_forge := by decide +kernel
  have kf7 := hts (.fieldLink RX5 7 "CapsuleKeepersModel" "s" "[I") (by decide +kernel)
  have hq : (fX5_forge S ms k x) = (if (fX5_in k (nI 0) (nI 7)) = 0 then (if (gsR (nI 0) (nI 0)) = 0 then ((nI 0), ms, (nI S), (gsT (nI 0) (nI 0))) else (((svR (S) ms) (32 + (k.toNatClampNeg))), (upd (upd (svR (S) ms) (32 + (k.toNatClampNeg)) x) (48 + (k.toNatClampNeg)) (nI 1)), (nI (svS (S))), (gsT (nI 0) (nI 0)))) else (if (fX5_in x (nI 0) (nI 250)) = 0 then (if (ms (40 + (k.toNatClampNeg))) < 0 then (if (gsR (nI 0) (nI 0)) = 0 then ((nI 0), ms, (nI S), (gsT (nI 0) (nI 0))) else (((svR (S) ms) (32 + (k.toNatClampNeg))), (upd (upd (svR (S) ms) (32 + (k.toNatClampNeg)) x) (48 + (k.toNatClampNeg)) (nI 1)), (nI (svS (S))), (gsT (nI 0) (nI 0)))) else (if (gsR (nI 0) (nI 1)) = 0 then ((nI 0), ms, (nI S), (gsT (nI 0) (nI 1))) else (((svR (S) ms) (32 + (k.toNatClampNeg))), (upd (upd (svR (S) ms) (32 + (k.toNatClampNeg)) x) (48 + (k.toNatClampNeg)) (nI 1)), (nI (svS (S))), (gsT (nI 0) (nI 1))))) else (if (ms (40 + (k.toNatClampNeg))) < 0 then (if (gsR (nI 1) (nI 0)) = 0 then ((nI 0), ms, (nI S), (gsT (nI 1) (nI 0))) else (((svR (S) ms) (32 + (k.toNatClampNeg))), (upd (upd (svR (S) ms) (32 + (k.toNatClampNeg)) x) (48 + (k.toNatClampNeg)) (nI 1)), (nI (svS (S))), (gsT (nI 1) (nI 0)))) else (if (gsR (nI 1) (nI 1)) = 0 then ((nI 0), ms, (nI S), (gsT (nI 1) (nI 1))) else (((svR (S) ms) (32 + (k.toNatClampNeg))), (upd (upd (svR (S) ms) (32 + (k.toNatClampNeg)) x) (48 + (k.toNatClampNeg)) (nI 1)), (nI (svS (S))), (gsT (nI 1) (nI 1))))))) := rfl
  refine lv_aload_n hx hb dX5_forge_0 rfl (lv_at hl 0 rfl) ?_
  refine lv_iload_n hx hb dX5_forge_1 rfl (lv_at hl 1 rfl) ?_
  refine lv_iconst (v := (nI 0)) hx hb dX5_forge_2 (by decide) ?_
  refine lv_bipush (v := (nI 7)) hx hb dX5_forge_3 (by decide) ?_
  refine cLI (va_runS (As := [.int k, .int (nI 0), .int (nI 7)]) (rest := [.ref (a 0)]) ⟨hx, hb, hml, hown, hts⟩ ((kX5_in l Γ k (nI 0) (nI 7)) _) (va_cwS 3 hts gX5_forge_X5_in rfl rfl rfl (by decide +kernel) ⟨Nat.le_of_ble_eq_true rfl, Nat.le_of_ble_eq_true rfl⟩) ⟨wPre_blind, wPre_mk hP hD hK hS hA hAB hAm [] rfl rfl⟩ rfl rfl hl.1 rfl (lv_room (Nat.le_of_ble_eq_true rfl)) dX5_forge_5 ⟨Nat.zero_le _, Nat.zero_le _⟩) hP hS hA (fun H locs hP hS => ?_)
  refine lv_if_eq (tgt := 26) hx hb dX5_forge_8 (by decide) (fun c_1 => ?_) (fun c_1 => ?_)
  · have hq := hq.trans (if_pos c_1)
    refine lv_iconst (v := (nI 0)) hx hb dX5_forge_26 (by decide) ?_
    refine lv_iload_n hx hb dX5_forge_27 rfl (lv_at hl 1 rfl) ?_
    refine lv_iconst (v := (nI 0)) hx hb dX5_forge_28 (by decide) ?_
    refine lv_bipush (v := (nI 7)) hx hb dX5_forge_29 (by decide) ?_
    refine cLI (va_runS (As := [.int k, .int (nI 0), .int (nI 7)]) (rest := [.int (nI 0), .ref (a 0)]) ⟨hx, hb, hml, hown, hts⟩ ((kX5_in l Γ k (nI 0) (nI 7)) _) (va_cwS 3 hts gX5_forge_X5_in rfl rfl rfl (by decide +kernel) ⟨Nat.le_of_ble_eq_true rfl, Nat.le_of_ble_eq_true rfl⟩) ⟨wPre_blind, wPre_mk hP hD hK hS hA hAB hAm [] rfl rfl⟩ rfl rfl hl.1 rfl (lv_room (Nat.le_of_ble_eq_true rfl)) dX5_forge_31 ⟨Nat.zero_le _, Nat.zero_le _⟩) hP hS hA (fun H locs hP hS => ?_)
    refine lv_if_eq (tgt := 53) hx hb dX5_forge_34 (by decide) (fun c_34 => ?_) (fun c_34 => absurd c_1 c_34)
    refine lv_iconst (v := (nI 0)) hx hb dX5_forge_53 (by decide) ?_
    refine cMI (bc' := [moB Γ a ms mt mc md (nI S) (gsT (nI 0) (nI 0)) m2 m3 m4 m5]) (va_runV (As := [.int (nI 0), .int (nI 0)]) (rest := []) ⟨hx, hb, hml, hown, hts⟩ ((nX5_goes l Γ a ms mt mc md (nI S) m1 m2 m3 m4 m5 (nI 0) (nI 0)) _) (cwV 2 hts gX5_forge_X5_goes rfl rfl rfl (by decide +kernel) ⟨Nat.le_of_ble_eq_true rfl, Nat.le_of_ble_eq_true rfl⟩) ⟨wPre_blind, va_recv hK hP (ci := 5) (q0 := 0) rfl rfl, wPre_mk hP hD hK hS hA hAB hAm [0] rfl rfl⟩ rfl rfl hl.1 rfl (lv_room (Nat.le_of_ble_eq_true rfl)) dX5_forge_54 ⟨Nat.zero_le _, Nat.zero_le _⟩) hP hD hS hA [0] rfl rfl (bs' := [moB Γ a ms mt mc md (nI S) (gsT (nI 0) (nI 0)) m2 m3 m4 m5]) rfl (fun H locs hP hD hS => ?_)
    refine lv_if_ne (tgt := 62) hx hb dX5_forge_57 (by decide) (fun c_2 => ?_) (fun c_2 => ?_)
    · have hq := hq.trans (if_neg c_2)
      obtain ⟨kn, hkn, rfl⟩ : ∃ j : Nat, j ≤ 7 ∧ k = nI j := in_nat (by decide) (show ¬ fX5_in k (nI 0) (nI 7) = 0 by first | assumption | exact gs_ne1 (by assumption) | exact gs_00 (by assumption) | exact gs_01 (by assumption))
      replace hq : (fX5_forge S ms (nI kn) x) = (((svR (S) ms) (32 + kn)), (upd (upd (svR (S) ms) (32 + kn) x) (48 + kn) (nI 1)), (nI (svS (S))), (gsT (nI 0) (nI 0))) := hq.trans (by first | simp only [nI_clamp (show kn < 2 ^ 31 by omega), Nat.add_sub_cancel] | rfl)
      refine lv_aload_n hx hb dX5_forge_62 rfl (lv_at hl 0 rfl) ?_
      refine cMV (bc' := [moB Γ a (svR (S) ms) mt mc md (nI (svS (S))) (gsT (nI 0) (nI 0)) m2 m3 m4 m5]) (va_runV (As := []) (rest := []) ⟨hx, hb, hml, hown, hts⟩ ((nX5_saves l Γ a (S) ms mt mc md (gsT (nI 0) (nI 0)) m2 m3 m4 m5 (by first | assumption | omega)) _) (cwV 0 hts gX5_forge_X5_saves rfl rfl rfl (by decide +kernel) ⟨Nat.le_of_ble_eq_true rfl, Nat.le_of_ble_eq_true rfl⟩) ⟨wPre_blind, va_recv hK hP (ci := 5) (q0 := 0) rfl rfl, wPre_mk hP hD hK hS hA hAB hAm [0] rfl rfl⟩ rfl rfl hl.1 rfl (lv_room (Nat.le_of_ble_eq_true rfl)) dX5_forge_63 ⟨Nat.zero_le _, Nat.zero_le _⟩) hP hD hS hA [0] rfl rfl (bs' := [moB Γ a (svR (S) ms) mt mc md (nI (svS (S))) (gsT (nI 0) (nI 0)) m2 m3 m4 m5]) rfl (fun H locs hP hD hS => ?_)
      refine lv_aload_n hx hb dX5_forge_66 rfl (lv_at hl 0 rfl) ?_
      refine va_get (D := Γ.1) (ci := 5) (v := .ref (a 1)) (C := RX5) (T := TX5) (N := 10) hx hb hts hi5 hown hK hP 0 rfl rfl 0 (by decide) kf7 (fun _ h9 => h9) rfl dX5_forge_67 ?_
      refine lv_bipush (v := (nI 32)) hx hb dX5_forge_70 (by decide) ?_
      refine lv_iload_n hx hb dX5_forge_72 rfl (lv_at hl 1 rfl) ?_
      refine lv_iadd hx hb dX5_forge_73 ?_
      refine lv_eqi (y := (nI (32 + kn))) (nI_add _ _) ?_
      refine va_iald_n (f := (svR (S) ms)) hx hb hK hP 1 0 rfl rfl (by omega) (Nat.le_of_ble_eq_true rfl) dX5_forge_74 ?_
      refine lv_istore_n (lv' := [(3, .int ((svR (S) ms) (32 + kn))), (0, .ref (a 0)), (1, .int (nI kn)), (2, .int x)]) hx hb dX5_forge_75 rfl hl (by decide) rfl (fun ls hl => ?_)
      refine lv_aload_n hx hb dX5_forge_76 rfl (lv_at hl 1 rfl) ?_
      refine va_get (D := Γ.1) (ci := 5) (v := .ref (a 1)) (C := RX5) (T := TX5) (N := 10) hx hb hts hi5 hown hK hP 0 rfl rfl 0 (by decide) kf7 (fun _ h9 => h9) rfl dX5_forge_77 ?_
      refine lv_bipush (v := (nI 32)) hx hb dX5_forge_80 (by decide) ?_
      refine lv_iload_n hx hb dX5_forge_82 rfl (lv_at hl 2 rfl) ?_
      refine lv_iadd hx hb dX5_forge_83 ?_
      refine lv_eqi (y := (nI (32 + kn))) (nI_add _ _) ?_
      refine lv_iload_n hx hb dX5_forge_84 rfl (lv_at hl 3 rfl) ?_
      refine va_iast_n (f := (svR (S) ms)) hx hb hK hP hD hS 1 0 rfl rfl (by omega) (Nat.le_of_ble_eq_true rfl) dX5_forge_85 (fun H locs hP hD hS => ?_)
      have hP : va_P Γ.1 vwCl (wcat [moB Γ a (upd (svR (S) ms) (32 + kn) x) mt mc md (nI (svS (S))) (gsT (nI 0) (nI 0)) m2 m3 m4 m5]) H := hP
      have hD : va_D A (wcat [moB Γ a (upd (svR (S) ms) (32 + kn) x) mt mc md (nI (svS (S))) (gsT (nI 0) (nI 0)) m2 m3 m4 m5]) := hD
      refine lv_aload_n hx hb dX5_forge_86 rfl (lv_at hl 1 rfl) ?_
      refine va_get (D := Γ.1) (ci := 5) (v := .ref (a 1)) (C := RX5) (T := TX5) (N := 10) hx hb hts hi5 hown hK hP 0 rfl rfl 0 (by decide) kf7 (fun _ h9 => h9) rfl dX5_forge_87 ?_
      refine lv_bipush (v := (nI 48)) hx hb dX5_forge_90 (by decide) ?_
      refine lv_iload_n hx hb dX5_forge_92 rfl (lv_at hl 2 rfl) ?_
      refine lv_iadd hx hb dX5_forge_93 ?_
      refine lv_eqi (y := (nI (48 + kn))) (nI_add _ _) ?_
      refine lv_iconst (v := (nI 1)) hx hb dX5_forge_94 (by decide) ?_
      refine va_iast_n (f := (upd (svR (S) ms) (32 + kn) x)) hx hb hK hP hD hS 1 0 rfl rfl (by omega) (Nat.le_of_ble_eq_true rfl) dX5_forge_95 (fun H locs hP hD hS => ?_)
      have hP : va_P Γ.1 vwCl (wcat [moB Γ a (upd (upd (svR (S) ms) (32 + kn) x) (48 + kn) (nI 1)) mt mc md (nI (svS (S))) (gsT (nI 0) (nI 0)) m2 m3 m4 m5]) H := hP
      have hD : va_D A (wcat [moB Γ a (upd (upd (svR (S) ms) (32 + kn) x) (48 + kn) (nI 1)) mt mc md (nI (svS (S))) (gsT (nI 0) (nI 0)) m2 m3 m4 m5]) := hD
      refine lv_iload_n hx hb dX5_forge_96 rfl (lv_at hl 0 rfl) ?_
      exact W.iret (v := ((svR (S) ms) (32 + kn))) hx hb hr (fun t ht hW => eMI (by rw [hq]; exact hP) hS ht (by rw [hq])) hS.2.2 dX5_forge_97
    · have hq := hq.trans (if_pos c_2)
      refine lv_iconst (v := (nI 0)) hx hb dX5_forge_60 (by decide) ?_
      exact W.iret (v := (nI 0)) hx hb hr (fun t ht hW => eMI (by rw [hq]; exact hP) hS ht (by rw [hq])) hS.2.2 dX5_forge_61
  · have hq := hq.trans (if_neg c_1)
    refine lv_iload_n hx hb dX5_forge_11 rfl (lv_at hl 2 rfl) ?_
    refine lv_iconst (v := (nI 0)) hx hb dX5_forge_12 (by decide) ?_
    refine lv_sipush (v := (nI 250)) hx hb dX5_forge_13 (by decide) ?_
    refine cLI (va_runS (As := [.int x, .int (nI 0), .int (nI 250)]) (rest := [.ref (a 0)]) ⟨hx, hb, hml, hown, hts⟩ ((kX5_in l Γ x (nI 0) (nI 250)) _) (va_cwS 3 hts gX5_forge_X5_in rfl rfl rfl (by decide +kernel) ⟨Nat.le_of_ble_eq_true rfl, Nat.le_of_ble_eq_true rfl⟩) ⟨wPre_blind, wPre_mk hP hD hK hS hA hAB hAm [] rfl rfl⟩ rfl rfl hl.1 rfl (lv_room (Nat.le_of_ble_eq_true rfl)) dX5_forge_16 ⟨Nat.zero_le _, Nat.zero_le _⟩) hP hS hA (fun H locs hP hS => ?_)
    refine lv_if_eq (tgt := 26) hx hb dX5_forge_19 (by decide) (fun c_3 => ?_) (fun c_3 => ?_)
    · have hq := hq.trans (if_pos c_3)
      refine lv_iconst (v := (nI 0)) hx hb dX5_forge_26 (by decide) ?_
      refine lv_iload_n hx hb dX5_forge_27 rfl (lv_at hl 1 rfl) ?_
      refine lv_iconst (v := (nI 0)) hx hb dX5_forge_28 (by decide) ?_
      refine lv_bipush (v := (nI 7)) hx hb dX5_forge_29 (by decide) ?_
      refine cLI (va_runS (As := [.int k, .int (nI 0), .int (nI 7)]) (rest := [.int (nI 0), .ref (a 0)]) ⟨hx, hb, hml, hown, hts⟩ ((kX5_in l Γ k (nI 0) (nI 7)) _) (va_cwS 3 hts gX5_forge_X5_in rfl rfl rfl (by decide +kernel) ⟨Nat.le_of_ble_eq_true rfl, Nat.le_of_ble_eq_true rfl⟩) ⟨wPre_blind, wPre_mk hP hD hK hS hA hAB hAm [] rfl rfl⟩ rfl rfl hl.1 rfl (lv_room (Nat.le_of_ble_eq_true rfl)) dX5_forge_31 ⟨Nat.zero_le _, Nat.zero_le _⟩) hP hS hA (fun H locs hP hS => ?_)
      refine lv_if_eq (tgt := 53) hx hb dX5_forge_34 (by decide) (fun c_34 => absurd c_34 c_1) (fun c_34 => ?_)
      obtain ⟨kn, hkn, rfl⟩ : ∃ j : Nat, j ≤ 7 ∧ k = nI j := in_nat (by decide) (by assumption)
      replace hq : (fX5_forge S ms (nI kn) x) = (if (ms (40 + kn)) < 0 then (if (gsR (nI 0) (nI 0)) = 0 then ((nI 0), ms, (nI S), (gsT (nI 0) (nI 0))) else (((svR (S) ms) (32 + kn)), (upd (upd (svR (S) ms) (32 + kn) x) (48 + kn) (nI 1)), (nI (svS (S))), (gsT (nI 0) (nI 0)))) else (if (gsR (nI 0) (nI 1)) = 0 then ((nI 0), ms, (nI S), (gsT (nI 0) (nI 1))) else (((svR (S) ms) (32 + kn)), (upd (upd (svR (S) ms) (32 + kn) x) (48 + kn) (nI 1)), (nI (svS (S))), (gsT (nI 0) (nI 1))))) := hq.trans (by first | simp only [nI_clamp (show kn < 2 ^ 31 by omega), Nat.add_sub_cancel] | rfl)
      refine lv_aload_n hx hb dX5_forge_37 rfl (lv_at hl 0 rfl) ?_
      refine va_get (D := Γ.1) (ci := 5) (v := .ref (a 1)) (C := RX5) (T := TX5) (N := 10) hx hb hts hi5 hown hK hP 0 rfl rfl 0 (by decide) kf7 (fun _ h9 => h9) rfl dX5_forge_38 ?_
      refine lv_bipush (v := (nI 40)) hx hb dX5_forge_41 (by decide) ?_
      refine lv_iload_n hx hb dX5_forge_43 rfl (lv_at hl 1 rfl) ?_
      refine lv_iadd hx hb dX5_forge_44 ?_
      refine lv_eqi (y := (nI (40 + kn))) (nI_add _ _) ?_
      refine va_iald_n (f := ms) hx hb hK hP 1 0 rfl rfl (by omega) (Nat.le_of_ble_eq_true rfl) dX5_forge_45 ?_
      refine lv_if_lt (tgt := 53) hx hb dX5_forge_46 (by decide) (fun c_4 => ?_) (fun c_4 => ?_)
      · have hq := hq.trans (if_pos c_4)
        refine lv_iconst (v := (nI 0)) hx hb dX5_forge_53 (by decide) ?_
        refine cMI (bc' := [moB Γ a ms mt mc md (nI S) (gsT (nI 0) (nI 0)) m2 m3 m4 m5]) (va_runV (As := [.int (nI 0), .int (nI 0)]) (rest := []) ⟨hx, hb, hml, hown, hts⟩ ((nX5_goes l Γ a ms mt mc md (nI S) m1 m2 m3 m4 m5 (nI 0) (nI 0)) _) (cwV 2 hts gX5_forge_X5_goes rfl rfl rfl (by decide +kernel) ⟨Nat.le_of_ble_eq_true rfl, Nat.le_of_ble_eq_true rfl⟩) ⟨wPre_blind, va_recv hK hP (ci := 5) (q0 := 0) rfl rfl, wPre_mk hP hD hK hS hA hAB hAm [0] rfl rfl⟩ rfl rfl hl.1 rfl (lv_room (Nat.le_of_ble_eq_true rfl)) dX5_forge_54 ⟨Nat.zero_le _, Nat.zero_le _⟩) hP hD hS hA [0] rfl rfl (bs' := [moB Γ a ms mt mc md (nI S) (gsT (nI 0) (nI 0)) m2 m3 m4 m5]) rfl (fun H locs hP hD hS => ?_)
        refine lv_if_ne (tgt := 62) hx hb dX5_forge_57 (by decide) (fun c_5 => ?_) (fun c_5 => ?_)
        · have hq := hq.trans (if_neg c_5)
          refine lv_aload_n hx hb dX5_forge_62 rfl (lv_at hl 0 rfl) ?_
          refine cMV (bc' := [moB Γ a (svR (S) ms) mt mc md (nI (svS (S))) (gsT (nI 0) (nI 0)) m2 m3 m4 m5]) (va_runV (As := []) (rest := []) ⟨hx, hb, hml, hown, hts⟩ ((nX5_saves l Γ a (S) ms mt mc md (gsT (nI 0) (nI 0)) m2 m3 m4 m5 (by first | assumption | omega)) _) (cwV 0 hts gX5_forge_X5_saves rfl rfl rfl (by decide +kernel) ⟨Nat.le_of_ble_eq_true rfl, Nat.le_of_ble_eq_true rfl⟩) ⟨wPre_blind, va_recv hK hP (ci := 5) (q0 := 0) rfl rfl, wPre_mk hP hD hK hS hA hAB hAm [0] rfl rfl⟩ rfl rfl hl.1 rfl (lv_room (Nat.le_of_ble_eq_true rfl)) dX5_forge_63 ⟨Nat.zero_le _, Nat.zero_le _⟩) hP hD hS hA [0] rfl rfl (bs' := [moB Γ a (svR (S) ms) mt mc md (nI (svS (S))) (gsT (nI 0) (nI 0)) m2 m3 m4 m5]) rfl (fun H locs hP hD hS => ?_)
          refine lv_aload_n hx hb dX5_forge_66 rfl (lv_at hl 0 rfl) ?_
          refine va_get (D := Γ.1) (ci := 5) (v := .ref (a 1)) (C := RX5) (T := TX5) (N := 10) hx hb hts hi5 hown hK hP 0 rfl rfl 0 (by decide) kf7 (fun _ h9 => h9) rfl dX5_forge_67 ?_
          refine lv_bipush (v := (nI 32)) hx hb dX5_forge_70 (by decide) ?_
          refine lv_iload_n hx hb dX5_forge_72 rfl (lv_at hl 1 rfl) ?_
          refine lv_iadd hx hb dX5_forge_73 ?_
          refine lv_eqi (y := (nI (32 + kn))) (nI_add _ _) ?_
          refine va_iald_n (f := (svR (S) ms)) hx hb hK hP 1 0 rfl rfl (by omega) (Nat.le_of_ble_eq_true rfl) dX5_forge_74 ?_
          refine lv_istore_n (lv' := [(3, .int ((svR (S) ms) (32 + kn))), (0, .ref (a 0)), (1, .int (nI kn)), (2, .int x)]) hx hb dX5_forge_75 rfl hl (by decide) rfl (fun ls hl => ?_)
          refine lv_aload_n hx hb dX5_forge_76 rfl (lv_at hl 1 rfl) ?_
          refine va_get (D := Γ.1) (ci := 5) (v := .ref (a 1)) (C := RX5) (T := TX5) (N := 10) hx hb hts hi5 hown hK hP 0 rfl rfl 0 (by decide) kf7 (fun _ h9 => h9) rfl dX5_forge_77 ?_
          refine lv_bipush (v := (nI 32)) hx hb dX5_forge_80 (by decide) ?_
          refine lv_iload_n hx hb dX5_forge_82 rfl (lv_at hl 2 rfl) ?_
          refine lv_iadd hx hb dX5_forge_83 ?_
          refine lv_eqi (y := (nI (32 + kn))) (nI_add _ _) ?_
          refine lv_iload_n hx hb dX5_forge_84 rfl (lv_at hl 3 rfl) ?_
          refine va_iast_n (f := (svR (S) ms)) hx hb hK hP hD hS 1 0 rfl rfl (by omega) (Nat.le_of_ble_eq_true rfl) dX5_forge_85 (fun H locs hP hD hS => ?_)
          have hP : va_P Γ.1 vwCl (wcat [moB Γ a (upd (svR (S) ms) (32 + kn) x) mt mc md (nI (svS (S))) (gsT (nI 0) (nI 0)) m2 m3 m4 m5]) H := hP
          have hD : va_D A (wcat [moB Γ a (upd (svR (S) ms) (32 + kn) x) mt mc md (nI (svS (S))) (gsT (nI 0) (nI 0)) m2 m3 m4 m5]) := hD
          refine lv_aload_n hx hb dX5_forge_86 rfl (lv_at hl 1 rfl) ?_
          refine va_get (D := Γ.1) (ci := 5) (v := .ref (a 1)) (C := RX5) (T := TX5) (N := 10) hx hb hts hi5 hown hK hP 0 rfl rfl 0 (by decide) kf7 (fun _ h9 => h9) rfl dX5_forge_87 ?_
          refine lv_bipush (v := (nI 48)) hx hb dX5_forge_90 (by decide) ?_
          refine lv_iload_n hx hb dX5_forge_92 rfl (lv_at hl 2 rfl) ?_
          refine lv_iadd hx hb dX5_forge_93 ?_
          refine lv_eqi (y := (nI (48 + kn))) (nI_add _ _) ?_
          refine lv_iconst (v := (nI 1)) hx hb dX5_forge_94 (by decide) ?_
          refine va_iast_n (f := (upd (svR (S) ms) (32 + kn) x)) hx hb hK hP hD hS 1 0 rfl rfl (by omega) (Nat.le_of_ble_eq_true rfl) dX5_forge_95 (fun H locs hP hD hS => ?_)
          have hP : va_P Γ.1 vwCl (wcat [moB Γ a (upd (upd (svR (S) ms) (32 + kn) x) (48 + kn) (nI 1)) mt mc md (nI (svS (S))) (gsT (nI 0) (nI 0)) m2 m3 m4 m5]) H := hP
          have hD : va_D A (wcat [moB Γ a (upd (upd (svR (S) ms) (32 + kn) x) (48 + kn) (nI 1)) mt mc md (nI (svS (S))) (gsT (nI 0) (nI 0)) m2 m3 m4 m5]) := hD
          refine lv_iload_n hx hb dX5_forge_96 rfl (lv_at hl 0 rfl) ?_
          exact W.iret (v := ((svR (S) ms) (32 + kn))) hx hb hr (fun t ht hW => eMI (by rw [hq]; exact hP) hS ht (by rw [hq])) hS.2.2 dX5_forge_97
        · have hq := hq.trans (if_pos c_5)
          refine lv_iconst (v := (nI 0)) hx hb dX5_forge_60 (by decide) ?_
          exact W.iret (v := (nI 0)) hx hb hr (fun t ht hW => eMI (by rw [hq]; exact hP) hS ht (by rw [hq])) hS.2.2 dX5_forge_61
      · have hq := hq.trans (if_neg c_4)
        refine lv_iconst (v := (nI 1)) hx hb dX5_forge_49 (by decide) ?_
        refine lv_goto (tgt := 54) hx hb dX5_forge_50 (by decide) ?_
        refine cMI (bc' := [moB Γ a ms mt mc md (nI S) (gsT (nI 0) (nI 1)) m2 m3 m4 m5]) (va_runV (As := [.int (nI 0), .int (nI 1)]) (rest := []) ⟨hx, hb, hml, hown, hts⟩ ((nX5_goes l Γ a ms mt mc md (nI S) m1 m2 m3 m4 m5 (nI 0) (nI 1)) _) (cwV 2 hts gX5_forge_X5_goes rfl rfl rfl (by decide +kernel) ⟨Nat.le_of_ble_eq_true rfl, Nat.le_of_ble_eq_true rfl⟩) ⟨wPre_blind, va_recv hK hP (ci := 5) (q0 := 0) rfl rfl, wPre_mk hP hD hK hS hA hAB hAm [0] rfl rfl⟩ rfl rfl hl.1 rfl (lv_room (Nat.le_of_ble_eq_true rfl)) dX5_forge_54 ⟨Nat.zero_le _, Nat.zero_le _⟩) hP hD hS hA [0] rfl rfl (bs' := [moB Γ a ms mt mc md (nI S) (gsT (nI 0) (nI 1)) m2 m3 m4 m5]) rfl (fun H locs hP hD hS => ?_)
        refine lv_if_ne (tgt := 62) hx hb dX5_forge_57 (by decide) (fun c_6 => ?_) (fun c_6 => ?_)
        · have hq := hq.trans (if_neg c_6)
          refine lv_aload_n hx hb dX5_forge_62 rfl (lv_at hl 0 rfl) ?_
          refine cMV (bc' := [moB Γ a (svR (S) ms) mt mc md (nI (svS (S))) (gsT (nI 0) (nI 1)) m2 m3 m4 m5]) (va_runV (As := []) (rest := []) ⟨hx, hb, hml, hown, hts⟩ ((nX5_saves l Γ a (S) ms mt mc md (gsT (nI 0) (nI 1)) m2 m3 m4 m5 (by first | assumption | omega)) _) (cwV 0 hts gX5_forge_X5_saves rfl rfl rfl (by decide +kernel) ⟨Nat.le_of_ble_eq_true rfl, Nat.le_of_ble_eq_true rfl⟩) ⟨wPre_blind, va_recv hK hP (ci := 5) (q0 := 0) rfl rfl, wPre_mk hP hD hK hS hA hAB hAm [0] rfl rfl⟩ rfl rfl hl.1 rfl (lv_room (Nat.le_of_ble_eq_true rfl)) dX5_forge_63 ⟨Nat.zero_le _, Nat.zero_le _⟩) hP hD hS hA [0] rfl rfl (bs' := [moB Γ a (svR (S) ms) mt mc md (nI (svS (S))) (gsT (nI 0) (nI 1)) m2 m3 m4 m5]) rfl (fun H locs hP hD hS => ?_)
          refine lv_aload_n hx hb dX5_forge_66 rfl (lv_at hl 0 rfl) ?_
          refine va_get (D := Γ.1) (ci := 5) (v := .ref (a 1)) (C := RX5) (T := TX5) (N := 10) hx hb hts hi5 hown hK hP 0 rfl rfl 0 (by decide) kf7 (fun _ h9 => h9) rfl dX5_forge_67 ?_
          refine lv_bipush (v := (nI 32)) hx hb dX5_forge_70 (by decide) ?_
          refine lv_iload_n hx hb dX5_forge_72 rfl (lv_at hl 1 rfl) ?_
          refine lv_iadd hx hb dX5_forge_73 ?_
          refine lv_eqi (y := (nI (32 + kn))) (nI_add _ _) ?_
          refine va_iald_n (f := (svR (S) ms)) hx hb hK hP 1 0 rfl rfl (by omega) (Nat.le_of_ble_eq_true rfl) dX5_forge_74 ?_
          refine lv_istore_n (lv' := [(3, .int ((svR (S) ms) (32 + kn))), (0, .ref (a 0)), (1, .int (nI kn)), (2, .int x)]) hx hb dX5_forge_75 rfl hl (by decide) rfl (fun ls hl => ?_)
          refine lv_aload_n hx hb dX5_forge_76 rfl (lv_at hl 1 rfl) ?_
          refine va_get (D := Γ.1) (ci := 5) (v := .ref (a 1)) (C := RX5) (T := TX5) (N := 10) hx hb hts hi5 hown hK hP 0 rfl rfl 0 (by decide) kf7 (fun _ h9 => h9) rfl dX5_forge_77 ?_
          refine lv_bipush (v := (nI 32)) hx hb dX5_forge_80 (by decide) ?_
          refine lv_iload_n hx hb dX5_forge_82 rfl (lv_at hl 2 rfl) ?_
          refine lv_iadd hx hb dX5_forge_83 ?_
          refine lv_eqi (y := (nI (32 + kn))) (nI_add _ _) ?_
          refine lv_iload_n hx hb dX5_forge_84 rfl (lv_at hl 3 rfl) ?_
          refine va_iast_n (f := (svR (S) ms)) hx hb hK hP hD hS 1 0 rfl rfl (by omega) (Nat.le_of_ble_eq_true rfl) dX5_forge_85 (fun H locs hP hD hS => ?_)
          have hP : va_P Γ.1 vwCl (wcat [moB Γ a (upd (svR (S) ms) (32 + kn) x) mt mc md (nI (svS (S))) (gsT (nI 0) (nI 1)) m2 m3 m4 m5]) H := hP
          have hD : va_D A (wcat [moB Γ a (upd (svR (S) ms) (32 + kn) x) mt mc md (nI (svS (S))) (gsT (nI 0) (nI 1)) m2 m3 m4 m5]) := hD
          refine lv_aload_n hx hb dX5_forge_86 rfl (lv_at hl 1 rfl) ?_
          refine va_get (D := Γ.1) (ci := 5) (v := .ref (a 1)) (C := RX5) (T := TX5) (N := 10) hx hb hts hi5 hown hK hP 0 rfl rfl 0 (by decide) kf7 (fun _ h9 => h9) rfl dX5_forge_87 ?_
          refine lv_bipush (v := (nI 48)) hx hb dX5_forge_90 (by decide) ?_
          refine lv_iload_n hx hb dX5_forge_92 rfl (lv_at hl 2 rfl) ?_
          refine lv_iadd hx hb dX5_forge_93 ?_
          refine lv_eqi (y := (nI (48 + kn))) (nI_add _ _) ?_
          refine lv_iconst (v := (nI 1)) hx hb dX5_forge_94 (by decide) ?_
          refine va_iast_n (f := (upd (svR (S) ms) (32 + kn) x)) hx hb hK hP hD hS 1 0 rfl rfl (by omega) (Nat.le_of_ble_eq_true rfl) dX5_forge_95 (fun H locs hP hD hS => ?_)
          have hP : va_P Γ.1 vwCl (wcat [moB Γ a (upd (upd (svR (S) ms) (32 + kn) x) (48 + kn) (nI 1)) mt mc md (nI (svS (S))) (gsT (nI 0) (nI 1)) m2 m3 m4 m5]) H := hP
          have hD : va_D A (wcat [moB Γ a (upd (upd (svR (S) ms) (32 + kn) x) (48 + kn) (nI 1)) mt mc md (nI (svS (S))) (gsT (nI 0) (nI 1)) m2 m3 m4 m5]) := hD
          refine lv_iload_n hx hb dX5_forge_96 rfl (lv_at hl 0 rfl) ?_
          exact W.iret (v := ((svR (S) ms) (32 + kn))) hx hb hr (fun t ht hW => eMI (by rw [hq]; exact hP) hS ht (by rw [hq])) hS.2.2 dX5_forge_97
        · have hq := hq.trans (if_pos c_6)
          refine lv_iconst (v := (nI 0)) hx hb dX5_forge_60 (by decide) ?_
          exact W.iret (v := (nI 0)) hx hb hr (fun t ht hW => eMI (by rw [hq]; exact hP) hS ht (by rw [hq])) hS.2.2 dX5_forge_61
    · have hq := hq.trans (if_neg c_3)
      refine lv_iconst (v := (nI 1)) hx hb dX5_forge_22 (by decide) ?_
      refine lv_goto (tgt := 27) hx hb dX5_forge_23 (by decide) ?_
      refine lv_iload_n hx hb dX5_forge_27 rfl (lv_at hl 1 rfl) ?_
      refine lv_iconst (v := (nI 0)) hx hb dX5_forge_28 (by decide) ?_
      refine lv_bipush (v := (nI 7)) hx hb dX5_forge_29 (by decide) ?_
      refine cLI (va_runS (As := [.int k, .int (nI 0), .int (nI 7)]) (rest := [.int (nI 1), .ref (a 0)]) ⟨hx, hb, hml, hown, hts⟩ ((kX5_in l Γ k (nI 0) (nI 7)) _) (va_cwS 3 hts gX5_forge_X5_in rfl rfl rfl (by decide +kernel) ⟨Nat.le_of_ble_eq_true rfl, Nat.le_of_ble_eq_true rfl⟩) ⟨wPre_blind, wPre_mk hP hD hK hS hA hAB hAm [] rfl rfl⟩ rfl rfl hl.1 rfl (lv_room (Nat.le_of_ble_eq_true rfl)) dX5_forge_31 ⟨Nat.zero_le _, Nat.zero_le _⟩) hP hS hA (fun H locs hP hS => ?_)
      refine lv_if_eq (tgt := 53) hx hb dX5_forge_34 (by decide) (fun c_34 => absurd c_34 c_1) (fun c_34 => ?_)
      obtain ⟨kn, hkn, rfl⟩ : ∃ j : Nat, j ≤ 7 ∧ k = nI j := in_nat (by decide) (by assumption)
      replace hq : (fX5_forge S ms (nI kn) x) = (if (ms (40 + kn)) < 0 then (if (gsR (nI 1) (nI 0)) = 0 then ((nI 0), ms, (nI S), (gsT (nI 1) (nI 0))) else (((svR (S) ms) (32 + kn)), (upd (upd (svR (S) ms) (32 + kn) x) (48 + kn) (nI 1)), (nI (svS (S))), (gsT (nI 1) (nI 0)))) else (if (gsR (nI 1) (nI 1)) = 0 then ((nI 0), ms, (nI S), (gsT (nI 1) (nI 1))) else (((svR (S) ms) (32 + kn)), (upd (upd (svR (S) ms) (32 + kn) x) (48 + kn) (nI 1)), (nI (svS (S))), (gsT (nI 1) (nI 1))))) := hq.trans (by first | simp only [nI_clamp (show kn < 2 ^ 31 by omega), Nat.add_sub_cancel] | rfl)
      refine lv_aload_n hx hb dX5_forge_37 rfl (lv_at hl 0 rfl) ?_
      refine va_get (D := Γ.1) (ci := 5) (v := .ref (a 1)) (C := RX5) (T := TX5) (N := 10) hx hb hts hi5 hown hK hP 0 rfl rfl 0 (by decide) kf7 (fun _ h9 => h9) rfl dX5_forge_38 ?_
      refine lv_bipush (v := (nI 40)) hx hb dX5_forge_41 (by decide) ?_
      refine lv_iload_n hx hb dX5_forge_43 rfl (lv_at hl 1 rfl) ?_
      refine lv_iadd hx hb dX5_forge_44 ?_
      refine lv_eqi (y := (nI (40 + kn))) (nI_add _ _) ?_
      refine va_iald_n (f := ms) hx hb hK hP 1 0 rfl rfl (by omega) (Nat.le_of_ble_eq_true rfl) dX5_forge_45 ?_
      refine lv_if_lt (tgt := 53) hx hb dX5_forge_46 (by decide) (fun c_7 => ?_) (fun c_7 => ?_)
      · have hq := hq.trans (if_pos c_7)
        refine lv_iconst (v := (nI 0)) hx hb dX5_forge_53 (by decide) ?_
        refine cMI (bc' := [moB Γ a ms mt mc md (nI S) (gsT (nI 1) (nI 0)) m2 m3 m4 m5]) (va_runV (As := [.int (nI 1), .int (nI 0)]) (rest := []) ⟨hx, hb, hml, hown, hts⟩ ((nX5_goes l Γ a ms mt mc md (nI S) m1 m2 m3 m4 m5 (nI 1) (nI 0)) _) (cwV 2 hts gX5_forge_X5_goes rfl rfl rfl (by decide +kernel) ⟨Nat.le_of_ble_eq_true rfl, Nat.le_of_ble_eq_true rfl⟩) ⟨wPre_blind, va_recv hK hP (ci := 5) (q0 := 0) rfl rfl, wPre_mk hP hD hK hS hA hAB hAm [0] rfl rfl⟩ rfl rfl hl.1 rfl (lv_room (Nat.le_of_ble_eq_true rfl)) dX5_forge_54 ⟨Nat.zero_le _, Nat.zero_le _⟩) hP hD hS hA [0] rfl rfl (bs' := [moB Γ a ms mt mc md (nI S) (gsT (nI 1) (nI 0)) m2 m3 m4 m5]) rfl (fun H locs hP hD hS => ?_)
        refine lv_if_ne (tgt := 62) hx hb dX5_forge_57 (by decide) (fun c_8 => ?_) (fun c_8 => ?_)
        · have hq := hq.trans (if_neg c_8)
          refine lv_aload_n hx hb dX5_forge_62 rfl (lv_at hl 0 rfl) ?_
          refine cMV (bc' := [moB Γ a (svR (S) ms) mt mc md (nI (svS (S))) (gsT (nI 1) (nI 0)) m2 m3 m4 m5]) (va_runV (As := []) (rest := []) ⟨hx, hb, hml, hown, hts⟩ ((nX5_saves l Γ a (S) ms mt mc md (gsT (nI 1) (nI 0)) m2 m3 m4 m5 (by first | assumption | omega)) _) (cwV 0 hts gX5_forge_X5_saves rfl rfl rfl (by decide +kernel) ⟨Nat.le_of_ble_eq_true rfl, Nat.le_of_ble_eq_true rfl⟩) ⟨wPre_blind, va_recv hK hP (ci := 5) (q0 := 0) rfl rfl, wPre_mk hP hD hK hS hA hAB hAm [0] rfl rfl⟩ rfl rfl hl.1 rfl (lv_room (Nat.le_of_ble_eq_true rfl)) dX5_forge_63 ⟨Nat.zero_le _, Nat.zero_le _⟩) hP hD hS hA [0] rfl rfl (bs' := [moB Γ a (svR (S) ms) mt mc md (nI (svS (S))) (gsT (nI 1) (nI 0)) m2 m3 m4 m5]) rfl (fun H locs hP hD hS => ?_)
          refine lv_aload_n hx hb dX5_forge_66 rfl (lv_at hl 0 rfl) ?_
          refine va_get (D := Γ.1) (ci := 5) (v := .ref (a 1)) (C := RX5) (T := TX5) (N := 10) hx hb hts hi5 hown hK hP 0 rfl rfl 0 (by decide) kf7 (fun _ h9 => h9) rfl dX5_forge_67 ?_
          refine lv_bipush (v := (nI 32)) hx hb dX5_forge_70 (by decide) ?_
          refine lv_iload_n hx hb dX5_forge_72 rfl (lv_at hl 1 rfl) ?_
          refine lv_iadd hx hb dX5_forge_73 ?_
          refine lv_eqi (y := (nI (32 + kn))) (nI_add _ _) ?_
          refine va_iald_n (f := (svR (S) ms)) hx hb hK hP 1 0 rfl rfl (by omega) (Nat.le_of_ble_eq_true rfl) dX5_forge_74 ?_
          refine lv_istore_n (lv' := [(3, .int ((svR (S) ms) (32 + kn))), (0, .ref (a 0)), (1, .int (nI kn)), (2, .int x)]) hx hb dX5_forge_75 rfl hl (by decide) rfl (fun ls hl => ?_)
          refine lv_aload_n hx hb dX5_forge_76 rfl (lv_at hl 1 rfl) ?_
          refine va_get (D := Γ.1) (ci := 5) (v := .ref (a 1)) (C := RX5) (T := TX5) (N := 10) hx hb hts hi5 hown hK hP 0 rfl rfl 0 (by decide) kf7 (fun _ h9 => h9) rfl dX5_forge_77 ?_
          refine lv_bipush (v := (nI 32)) hx hb dX5_forge_80 (by decide) ?_
          refine lv_iload_n hx hb dX5_forge_82 rfl (lv_at hl 2 rfl) ?_
          refine lv_iadd hx hb dX5_forge_83 ?_
          refine lv_eqi (y := (nI (32 + kn))) (nI_add _ _) ?_
          refine lv_iload_n hx hb dX5_forge_84 rfl (lv_at hl 3 rfl) ?_
          refine va_iast_n (f := (svR (S) ms)) hx hb hK hP hD hS 1 0 rfl rfl (by omega) (Nat.le_of_ble_eq_true rfl) dX5_forge_85 (fun H locs hP hD hS => ?_)
          have hP : va_P Γ.1 vwCl (wcat [moB Γ a (upd (svR (S) ms) (32 + kn) x) mt mc md (nI (svS (S))) (gsT (nI 1) (nI 0)) m2 m3 m4 m5]) H := hP
          have hD : va_D A (wcat [moB Γ a (upd (svR (S) ms) (32 + kn) x) mt mc md (nI (svS (S))) (gsT (nI 1) (nI 0)) m2 m3 m4 m5]) := hD
          refine lv_aload_n hx hb dX5_forge_86 rfl (lv_at hl 1 rfl) ?_
          refine va_get (D := Γ.1) (ci := 5) (v := .ref (a 1)) (C := RX5) (T := TX5) (N := 10) hx hb hts hi5 hown hK hP 0 rfl rfl 0 (by decide) kf7 (fun _ h9 => h9) rfl dX5_forge_87 ?_
          refine lv_bipush (v := (nI 48)) hx hb dX5_forge_90 (by decide) ?_
          refine lv_iload_n hx hb dX5_forge_92 rfl (lv_at hl 2 rfl) ?_
          refine lv_iadd hx hb dX5_forge_93 ?_
          refine lv_eqi (y := (nI (48 + kn))) (nI_add _ _) ?_
          refine lv_iconst (v := (nI 1)) hx hb dX5_forge_94 (by decide) ?_
          refine va_iast_n (f := (upd (svR (S) ms) (32 + kn) x)) hx hb hK hP hD hS 1 0 rfl rfl (by omega) (Nat.le_of_ble_eq_true rfl) dX5_forge_95 (fun H locs hP hD hS => ?_)
          have hP : va_P Γ.1 vwCl (wcat [moB Γ a (upd (upd (svR (S) ms) (32 + kn) x) (48 + kn) (nI 1)) mt mc md (nI (svS (S))) (gsT (nI 1) (nI 0)) m2 m3 m4 m5]) H := hP
          have hD : va_D A (wcat [moB Γ a (upd (upd (svR (S) ms) (32 + kn) x) (48 + kn) (nI 1)) mt mc md (nI (svS (S))) (gsT (nI 1) (nI 0)) m2 m3 m4 m5]) := hD
          refine lv_iload_n hx hb dX5_forge_96 rfl (lv_at hl 0 rfl) ?_
          exact W.iret (v := ((svR (S) ms) (32 + kn))) hx hb hr (fun t ht hW => eMI (by rw [hq]; exact hP) hS ht (by rw [hq])) hS.2.2 dX5_forge_97
        · have hq := hq.trans (if_pos c_8)
          refine lv_iconst (v := (nI 0)) hx hb dX5_forge_60 (by decide) ?_
          exact W.iret (v := (nI 0)) hx hb hr (fun t ht hW => eMI (by rw [hq]; exact hP) hS ht (by rw [hq])) hS.2.2 dX5_forge_61
      · have hq := hq.trans (if_neg c_7)
        refine lv_iconst (v := (nI 1)) hx hb dX5_forge_49 (by decide) ?_
        refine lv_goto (tgt := 54) hx hb dX5_forge_50 (by decide) ?_
        refine cMI (bc' := [moB Γ a ms mt mc md (nI S) (gsT (nI 1) (nI 1)) m2 m3 m4 m5]) (va_runV (As := [.int (nI 1), .int (nI 1)]) (rest := []) ⟨hx, hb, hml, hown, hts⟩ ((nX5_goes l Γ a ms mt mc md (nI S) m1 m2 m3 m4 m5 (nI 1) (nI 1)) _) (cwV 2 hts gX5_forge_X5_goes rfl rfl rfl (by decide +kernel) ⟨Nat.le_of_ble_eq_true rfl, Nat.le_of_ble_eq_true rfl⟩) ⟨wPre_blind, va_recv hK hP (ci := 5) (q0 := 0) rfl rfl, wPre_mk hP hD hK hS hA hAB hAm [0] rfl rfl⟩ rfl rfl hl.1 rfl (lv_room (Nat.le_of_ble_eq_true rfl)) dX5_forge_54 ⟨Nat.zero_le _, Nat.zero_le _⟩) hP hD hS hA [0] rfl rfl (bs' := [moB Γ a ms mt mc md (nI S) (gsT (nI 1) (nI 1)) m2 m3 m4 m5]) rfl (fun H locs hP hD hS => ?_)
        refine lv_if_ne (tgt := 62) hx hb dX5_forge_57 (by decide) (fun c_9 => ?_) (fun c_9 => ?_)
        · have hq := hq.trans (if_neg c_9)
          refine lv_aload_n hx hb dX5_forge_62 rfl (lv_at hl 0 rfl) ?_
          refine cMV (bc' := [moB Γ a (svR (S) ms) mt mc md (nI (svS (S))) (gsT (nI 1) (nI 1)) m2 m3 m4 m5]) (va_runV (As := []) (rest := []) ⟨hx, hb, hml, hown, hts⟩ ((nX5_saves l Γ a (S) ms mt mc md (gsT (nI 1) (nI 1)) m2 m3 m4 m5 (by first | assumption | omega)) _) (cwV 0 hts gX5_forge_X5_saves rfl rfl rfl (by decide +kernel) ⟨Nat.le_of_ble_eq_true rfl, Nat.le_of_ble_eq_true rfl⟩) ⟨wPre_blind, va_recv hK hP (ci := 5) (q0 := 0) rfl rfl, wPre_mk hP hD hK hS hA hAB hAm [0] rfl rfl⟩ rfl rfl hl.1 rfl (lv_room (Nat.le_of_ble_eq_true rfl)) dX5_forge_63 ⟨Nat.zero_le _, Nat.zero_le _⟩) hP hD hS hA [0] rfl rfl (bs' := [moB Γ a (svR (S) ms) mt mc md (nI (svS (S))) (gsT (nI 1) (nI 1)) m2 m3 m4 m5]) rfl (fun H locs hP hD hS => ?_)
          refine lv_aload_n hx hb dX5_forge_66 rfl (lv_at hl 0 rfl) ?_
          refine va_get (D := Γ.1) (ci := 5) (v := .ref (a 1)) (C := RX5) (T := TX5) (N := 10) hx hb hts hi5 hown hK hP 0 rfl rfl 0 (by decide) kf7 (fun _ h9 => h9) rfl dX5_forge_67 ?_
          refine lv_bipush (v := (nI 32)) hx hb dX5_forge_70 (by decide) ?_
          refine lv_iload_n hx hb dX5_forge_72 rfl (lv_at hl 1 rfl) ?_
          refine lv_iadd hx hb dX5_forge_73 ?_
          refine lv_eqi (y := (nI (32 + kn))) (nI_add _ _) ?_
          refine va_iald_n (f := (svR (S) ms)) hx hb hK hP 1 0 rfl rfl (by omega) (Nat.le_of_ble_eq_true rfl) dX5_forge_74 ?_
          refine lv_istore_n (lv' := [(3, .int ((svR (S) ms) (32 + kn))), (0, .ref (a 0)), (1, .int (nI kn)), (2, .int x)]) hx hb dX5_forge_75 rfl hl (by decide) rfl (fun ls hl => ?_)
          refine lv_aload_n hx hb dX5_forge_76 rfl (lv_at hl 1 rfl) ?_
          refine va_get (D := Γ.1) (ci := 5) (v := .ref (a 1)) (C := RX5) (T := TX5) (N := 10) hx hb hts hi5 hown hK hP 0 rfl rfl 0 (by decide) kf7 (fun _ h9 => h9) rfl dX5_forge_77 ?_
          refine lv_bipush (v := (nI 32)) hx hb dX5_forge_80 (by decide) ?_
          refine lv_iload_n hx hb dX5_forge_82 rfl (lv_at hl 2 rfl) ?_
          refine lv_iadd hx hb dX5_forge_83 ?_
          refine lv_eqi (y := (nI (32 + kn))) (nI_add _ _) ?_
          refine lv_iload_n hx hb dX5_forge_84 rfl (lv_at hl 3 rfl) ?_
          refine va_iast_n (f := (svR (S) ms)) hx hb hK hP hD hS 1 0 rfl rfl (by omega) (Nat.le_of_ble_eq_true rfl) dX5_forge_85 (fun H locs hP hD hS => ?_)
          have hP : va_P Γ.1 vwCl (wcat [moB Γ a (upd (svR (S) ms) (32 + kn) x) mt mc md (nI (svS (S))) (gsT (nI 1) (nI 1)) m2 m3 m4 m5]) H := hP
          have hD : va_D A (wcat [moB Γ a (upd (svR (S) ms) (32 + kn) x) mt mc md (nI (svS (S))) (gsT (nI 1) (nI 1)) m2 m3 m4 m5]) := hD
          refine lv_aload_n hx hb dX5_forge_86 rfl (lv_at hl 1 rfl) ?_
          refine va_get (D := Γ.1) (ci := 5) (v := .ref (a 1)) (C := RX5) (T := TX5) (N := 10) hx hb hts hi5 hown hK hP 0 rfl rfl 0 (by decide) kf7 (fun _ h9 => h9) rfl dX5_forge_87 ?_
          refine lv_bipush (v := (nI 48)) hx hb dX5_forge_90 (by decide) ?_
          refine lv_iload_n hx hb dX5_forge_92 rfl (lv_at hl 2 rfl) ?_
          refine lv_iadd hx hb dX5_forge_93 ?_
          refine lv_eqi (y := (nI (48 + kn))) (nI_add _ _) ?_
          refine lv_iconst (v := (nI 1)) hx hb dX5_forge_94 (by decide) ?_
          refine va_iast_n (f := (upd (svR (S) ms) (32 + kn) x)) hx hb hK hP hD hS 1 0 rfl rfl (by omega) (Nat.le_of_ble_eq_true rfl) dX5_forge_95 (fun H locs hP hD hS => ?_)
          have hP : va_P Γ.1 vwCl (wcat [moB Γ a (upd (upd (svR (S) ms) (32 + kn) x) (48 + kn) (nI 1)) mt mc md (nI (svS (S))) (gsT (nI 1) (nI 1)) m2 m3 m4 m5]) H := hP
          have hD : va_D A (wcat [moB Γ a (upd (upd (svR (S) ms) (32 + kn) x) (48 + kn) (nI 1)) mt mc md (nI (svS (S))) (gsT (nI 1) (nI 1)) m2 m3 m4 m5]) := hD
          refine lv_iload_n hx hb dX5_forge_96 rfl (lv_at hl 0 rfl) ?_
          exact W.iret (v := ((svR (S) ms) (32 + kn))) hx hb hr (fun t ht hW => eMI (by rw [hq]; exact hP) hS ht (by rw [hq])) hS.2.2 dX5_forge_97
        · have hq := hq.trans (if_pos c_9)
          refine lv_iconst (v := (nI 0)) hx hb dX5_forge_60 (by decide) ?_
          exact W.iret (v := (nI 0)) hx hb hr (fun t ht hW => eMI (by rw [hq]; exact hP) hS ht (by rw [hq])) hS.2.2 dX5_forge_61
def fX5_pass (S : Nat) (ms : (Nat → Int32)) (d : Int32) : Int32 × (Nat → Int32) × Int32 × Int32 := (if (fX5_in d (nI 1) (nI 999)) = 0 then (if (gsR (fX5_in d (nI 1) (nI 999)) (nI 0)) = 0 then ((nI 0), ms, (nI S), (gsT (fX5_in d (nI 1) (nI 999)) (nI 0))) else (((upd (svR (S) ms) 31 (((svR (S) ms) 31) + d)) 31), (upd (svR (S) ms) 31 (((svR (S) ms) 31) + d)), (nI (svS (S))), (gsT (fX5_in d (nI 1) (nI 999)) (nI 0)))) else (if ((nI 99999) - d) < (ms 31) then (if (gsR (fX5_in d (nI 1) (nI 999)) (nI 0)) = 0 then ((nI 0), ms, (nI S), (gsT (fX5_in d (nI 1) (nI 999)) (nI 0))) else (((upd (svR (S) ms) 31 (((svR (S) ms) 31) + d)) 31), (upd (svR (S) ms) 31 (((svR (S) ms) 31) + d)), (nI (svS (S))), (gsT (fX5_in d (nI 1) (nI 999)) (nI 0)))) else (if (gsR (fX5_in d (nI 1) (nI 999)) (nI 1)) = 0 then ((nI 0), ms, (nI S), (gsT (fX5_in d (nI 1) (nI 999)) (nI 1))) else (((upd (svR (S) ms) 31 (((svR (S) ms) 31) + d)) 31), (upd (svR (S) ms) 31 (((svR (S) ms) 31) + d)), (nI (svS (S))), (gsT (fX5_in d (nI 1) (nI 999)) (nI 1))))))
set_option maxHeartbeats 4000000 in
set_option maxRecDepth 100000 in
theorem kX5_pass (l : Launch) (Γ : wG) (a : Nat → Nat) (S : Nat) (ms : (Nat → Int32)) (mt : (Nat → Int32)) (mc : (Nat → Int32)) (md : (Nat → Int32)) (m1 : Int32) (m2 : Int32) (m3 : Int32) (m4 : Int32) (m5 : Int32) (d : Int32) (hS6 : S ≤ 6) : MI l Γ yX5_pass wsX5_pass ({ frames := 2, cells := 0, slots := 0, locals := 44 }) [.ref (a 0), .int d] [moB Γ a ms mt mc md (nI S) m1 m2 m3 m4 m5] [moB Γ a (fX5_pass S ms d).2.1 mt mc md (fX5_pass S ms d).2.2.1 (fX5_pass S ms d).2.2.2 m2 m3 m4 m5] (fX5_pass S ms d).1 := by
  intro sz
  refine Met.ofW (cc := cX5_pass) (maxL := 2) (ret := (some .int)) (by decide) rfl ?_
  intro p e s m args below meth c s₁ B hml hv
  obtain ⟨rfl, hsz, hP, hK, hD0, hAm⟩ := hv
  have hx := B.exec
  have hb := B.bytes
  have hr := B.returns
  have hts := atoms_spec (ws := wsX5_pass) B.pre
  have hown : s.vm.findClass RX5 = some m.cls := findClass_of_methodNamed B.named
  have hlocks := B.notSynchronized
  subst hsz
  have hD := hD0.self (sz := s.heap.size)
  generalize hAe : va_A (wcat [moB Γ a ms mt mc md (nI S) m1 m2 m3 m4 m5]) s.heap.size = A at hD hAm ⊢
  have hA : ∀ q : Nat, s.heap.size ≤ q → A q := fun q h => by rw [← hAe]; exact Or.inr h
  have hAB : ∀ q : Nat, A q → A q := fun _ h => h
  have hS : va_S A s.heap s.heap [] := va_S.rf
  have hl := lv_entry ([.ref (a 0), .int d]) (n := 2) (Nat.le_of_ble_eq_true rfl)
  rw [lg_entry_eq]
  generalize (lg_sl ([.ref (a 0), .int d]) ++ List.replicate (2 - (lg_sl ([.ref (a 0), .int d])).length) Slot.unset).toArray = ls at hl ⊢
  have hl : lv_has ls 2 [(0, .ref (a 0)), (1, .int d)] := hl
  have hi5 : ∀ w ∈ wsX50, w ∈ wsX5_pass := by decide +kernel
  have kc97 := hts (.constant RX5 97 (99999)) (by decide +kernel)
  have kf7 := hts (.fieldLink RX5 7 "CapsuleKeepersModel" "s" "[I") (by decide +kernel)
  have hq : (fX5_pass S ms d) = (if (fX5_in d (nI 1) (nI 999)) = 0 then (if (gsR (fX5_in d (nI 1) (nI 999)) (nI 0)) = 0 then ((nI 0), ms, (nI S), (gsT (fX5_in d (nI 1) (nI 999)) (nI 0))) else (((upd (svR (S) ms) 31 (((svR (S) ms) 31) + d)) 31), (upd (svR (S) ms) 31 (((svR (S) ms) 31) + d)), (nI (svS (S))), (gsT (fX5_in d (nI 1) (nI 999)) (nI 0)))) else (if ((nI 99999) - d) < (ms 31) then (if (gsR (fX5_in d (nI 1) (nI 999)) (nI 0)) = 0 then ((nI 0), ms, (nI S), (gsT (fX5_in d (nI 1) (nI 999)) (nI 0))) else (((upd (svR (S) ms) 31 (((svR (S) ms) 31) + d)) 31), (upd (svR (S) ms) 31 (((svR (S) ms) 31) + d)), (nI (svS (S))), (gsT (fX5_in d (nI 1) (nI 999)) (nI 0)))) else (if (gsR (fX5_in d (nI 1) (nI 999)) (nI 1)) = 0 then ((nI 0), ms, (nI S), (gsT (fX5_in d (nI 1) (nI 999)) (nI 1))) else (((upd (svR (S) ms) 31 (((svR (S) ms) 31) + d)) 31), (upd (svR (S) ms) 31 (((svR (S) ms) 31) + d)), (nI (svS (S))), (gsT (fX5_in d (nI 1) (nI 999)) (nI 1)))))) := rfl
  refine lv_aload_n hx hb dX5_pass_0 rfl (lv_at hl 0 rfl) ?_
  refine lv_iload_n hx hb dX5_pass_1 rfl (lv_at hl 1 rfl) ?_
  refine lv_iconst (v := (nI 1)) hx hb dX5_pass_2 (by decide) ?_
  refine lv_sipush (v := (nI 999)) hx hb dX5_pass_3 (by decide) ?_
  refine cLI (va_runS (As := [.int d, .int (nI 1), .int (nI 999)]) (rest := [.ref (a 0)]) ⟨hx, hb, hml, hown, hts⟩ ((kX5_in l Γ d (nI 1) (nI 999)) _) (va_cwS 3 hts gX5_pass_X5_in rfl rfl rfl (by decide +kernel) ⟨Nat.le_of_ble_eq_true rfl, Nat.le_of_ble_eq_true rfl⟩) ⟨wPre_blind, wPre_mk hP hD hK hS hA hAB hAm [] rfl rfl⟩ rfl rfl hl.1 rfl (lv_room (Nat.le_of_ble_eq_true rfl)) dX5_pass_6 ⟨Nat.zero_le _, Nat.zero_le _⟩) hP hS hA (fun H locs hP hS => ?_)
  refine lv_iload_n hx hb dX5_pass_9 rfl (lv_at hl 1 rfl) ?_
  refine lv_iconst (v := (nI 1)) hx hb dX5_pass_10 (by decide) ?_
  refine lv_sipush (v := (nI 999)) hx hb dX5_pass_11 (by decide) ?_
  refine cLI (va_runS (As := [.int d, .int (nI 1), .int (nI 999)]) (rest := [.int (fX5_in d (nI 1) (nI 999)), .ref (a 0)]) ⟨hx, hb, hml, hown, hts⟩ ((kX5_in l Γ d (nI 1) (nI 999)) _) (va_cwS 3 hts gX5_pass_X5_in rfl rfl rfl (by decide +kernel) ⟨Nat.le_of_ble_eq_true rfl, Nat.le_of_ble_eq_true rfl⟩) ⟨wPre_blind, wPre_mk hP hD hK hS hA hAB hAm [] rfl rfl⟩ rfl rfl hl.1 rfl (lv_room (Nat.le_of_ble_eq_true rfl)) dX5_pass_14 ⟨Nat.zero_le _, Nat.zero_le _⟩) hP hS hA (fun H locs hP hS => ?_)
  refine lv_if_eq (tgt := 38) hx hb dX5_pass_17 (by decide) (fun c_1 => ?_) (fun c_1 => ?_)
  · have hq := hq.trans (if_pos c_1)
    refine lv_iconst (v := (nI 0)) hx hb dX5_pass_38 (by decide) ?_
    refine cMI (bc' := [moB Γ a ms mt mc md (nI S) (gsT (fX5_in d (nI 1) (nI 999)) (nI 0)) m2 m3 m4 m5]) (va_runV (As := [.int (fX5_in d (nI 1) (nI 999)), .int (nI 0)]) (rest := []) ⟨hx, hb, hml, hown, hts⟩ ((nX5_goes l Γ a ms mt mc md (nI S) m1 m2 m3 m4 m5 (fX5_in d (nI 1) (nI 999)) (nI 0)) _) (cwV 2 hts gX5_pass_X5_goes rfl rfl rfl (by decide +kernel) ⟨Nat.le_of_ble_eq_true rfl, Nat.le_of_ble_eq_true rfl⟩) ⟨wPre_blind, va_recv hK hP (ci := 5) (q0 := 0) rfl rfl, wPre_mk hP hD hK hS hA hAB hAm [0] rfl rfl⟩ rfl rfl hl.1 rfl (lv_room (Nat.le_of_ble_eq_true rfl)) dX5_pass_39 ⟨Nat.zero_le _, Nat.zero_le _⟩) hP hD hS hA [0] rfl rfl (bs' := [moB Γ a ms mt mc md (nI S) (gsT (fX5_in d (nI 1) (nI 999)) (nI 0)) m2 m3 m4 m5]) rfl (fun H locs hP hD hS => ?_)
    refine lv_if_ne (tgt := 47) hx hb dX5_pass_42 (by decide) (fun c_2 => ?_) (fun c_2 => ?_)
    · have hq := hq.trans (if_neg c_2)
      refine lv_aload_n hx hb dX5_pass_47 rfl (lv_at hl 0 rfl) ?_
      refine cMV (bc' := [moB Γ a (svR (S) ms) mt mc md (nI (svS (S))) (gsT (fX5_in d (nI 1) (nI 999)) (nI 0)) m2 m3 m4 m5]) (va_runV (As := []) (rest := []) ⟨hx, hb, hml, hown, hts⟩ ((nX5_saves l Γ a (S) ms mt mc md (gsT (fX5_in d (nI 1) (nI 999)) (nI 0)) m2 m3 m4 m5 (by first | assumption | omega)) _) (cwV 0 hts gX5_pass_X5_saves rfl rfl rfl (by decide +kernel) ⟨Nat.le_of_ble_eq_true rfl, Nat.le_of_ble_eq_true rfl⟩) ⟨wPre_blind, va_recv hK hP (ci := 5) (q0 := 0) rfl rfl, wPre_mk hP hD hK hS hA hAB hAm [0] rfl rfl⟩ rfl rfl hl.1 rfl (lv_room (Nat.le_of_ble_eq_true rfl)) dX5_pass_48 ⟨Nat.zero_le _, Nat.zero_le _⟩) hP hD hS hA [0] rfl rfl (bs' := [moB Γ a (svR (S) ms) mt mc md (nI (svS (S))) (gsT (fX5_in d (nI 1) (nI 999)) (nI 0)) m2 m3 m4 m5]) rfl (fun H locs hP hD hS => ?_)
      refine lv_aload_n hx hb dX5_pass_51 rfl (lv_at hl 0 rfl) ?_
      refine va_get (D := Γ.1) (ci := 5) (v := .ref (a 1)) (C := RX5) (T := TX5) (N := 10) hx hb hts hi5 hown hK hP 0 rfl rfl 0 (by decide) kf7 (fun _ h9 => h9) rfl dX5_pass_52 ?_
      refine lv_bipush (v := (nI 31)) hx hb dX5_pass_55 (by decide) ?_
      refine lv_dup2_11 hx hb dX5_pass_57 rfl rfl ?_
      refine va_iald_n (f := (svR (S) ms)) hx hb hK hP 1 0 rfl rfl (by omega) (Nat.le_of_ble_eq_true rfl) dX5_pass_58 ?_
      refine lv_iload_n hx hb dX5_pass_59 rfl (lv_at hl 1 rfl) ?_
      refine lv_iadd hx hb dX5_pass_60 ?_
      refine va_iast_n (f := (svR (S) ms)) hx hb hK hP hD hS 1 0 rfl rfl (by omega) (Nat.le_of_ble_eq_true rfl) dX5_pass_61 (fun H locs hP hD hS => ?_)
      have hP : va_P Γ.1 vwCl (wcat [moB Γ a (upd (svR (S) ms) 31 (((svR (S) ms) 31) + d)) mt mc md (nI (svS (S))) (gsT (fX5_in d (nI 1) (nI 999)) (nI 0)) m2 m3 m4 m5]) H := hP
      have hD : va_D A (wcat [moB Γ a (upd (svR (S) ms) 31 (((svR (S) ms) 31) + d)) mt mc md (nI (svS (S))) (gsT (fX5_in d (nI 1) (nI 999)) (nI 0)) m2 m3 m4 m5]) := hD
      refine lv_aload_n hx hb dX5_pass_62 rfl (lv_at hl 0 rfl) ?_
      refine va_get (D := Γ.1) (ci := 5) (v := .ref (a 1)) (C := RX5) (T := TX5) (N := 10) hx hb hts hi5 hown hK hP 0 rfl rfl 0 (by decide) kf7 (fun _ h9 => h9) rfl dX5_pass_63 ?_
      refine lv_bipush (v := (nI 31)) hx hb dX5_pass_66 (by decide) ?_
      refine va_iald_n (f := (upd (svR (S) ms) 31 (((svR (S) ms) 31) + d))) hx hb hK hP 1 0 rfl rfl (by omega) (Nat.le_of_ble_eq_true rfl) dX5_pass_68 ?_
      exact W.iret (v := ((upd (svR (S) ms) 31 (((svR (S) ms) 31) + d)) 31)) hx hb hr (fun t ht hW => eMI (by rw [hq]; exact hP) hS ht (by rw [hq])) hS.2.2 dX5_pass_69
    · have hq := hq.trans (if_pos c_2)
      refine lv_iconst (v := (nI 0)) hx hb dX5_pass_45 (by decide) ?_
      exact W.iret (v := (nI 0)) hx hb hr (fun t ht hW => eMI (by rw [hq]; exact hP) hS ht (by rw [hq])) hS.2.2 dX5_pass_46
  · have hq := hq.trans (if_neg c_1)
    refine lv_aload_n hx hb dX5_pass_20 rfl (lv_at hl 0 rfl) ?_
    refine va_get (D := Γ.1) (ci := 5) (v := .ref (a 1)) (C := RX5) (T := TX5) (N := 10) hx hb hts hi5 hown hK hP 0 rfl rfl 0 (by decide) kf7 (fun _ h9 => h9) rfl dX5_pass_21 ?_
    refine lv_bipush (v := (nI 31)) hx hb dX5_pass_24 (by decide) ?_
    refine va_iald_n (f := ms) hx hb hK hP 1 0 rfl rfl (by omega) (Nat.le_of_ble_eq_true rfl) dX5_pass_26 ?_
    refine lv_ldc (v := (nI 99999)) hx hb hown kc97 dX5_pass_27 ?_
    refine lv_iload_n hx hb dX5_pass_29 rfl (lv_at hl 1 rfl) ?_
    refine lv_isub hx hb dX5_pass_30 ?_
    refine lv_icmp_gt (tgt := 38) hx hb dX5_pass_31 (by decide) (fun c_3 => ?_) (fun c_3 => ?_)
    · have hq := hq.trans (if_pos c_3)
      refine lv_iconst (v := (nI 0)) hx hb dX5_pass_38 (by decide) ?_
      refine cMI (bc' := [moB Γ a ms mt mc md (nI S) (gsT (fX5_in d (nI 1) (nI 999)) (nI 0)) m2 m3 m4 m5]) (va_runV (As := [.int (fX5_in d (nI 1) (nI 999)), .int (nI 0)]) (rest := []) ⟨hx, hb, hml, hown, hts⟩ ((nX5_goes l Γ a ms mt mc md (nI S) m1 m2 m3 m4 m5 (fX5_in d (nI 1) (nI 999)) (nI 0)) _) (cwV 2 hts gX5_pass_X5_goes rfl rfl rfl (by decide +kernel) ⟨Nat.le_of_ble_eq_true rfl, Nat.le_of_ble_eq_true rfl⟩) ⟨wPre_blind, va_recv hK hP (ci := 5) (q0 := 0) rfl rfl, wPre_mk hP hD hK hS hA hAB hAm [0] rfl rfl⟩ rfl rfl hl.1 rfl (lv_room (Nat.le_of_ble_eq_true rfl)) dX5_pass_39 ⟨Nat.zero_le _, Nat.zero_le _⟩) hP hD hS hA [0] rfl rfl (bs' := [moB Γ a ms mt mc md (nI S) (gsT (fX5_in d (nI 1) (nI 999)) (nI 0)) m2 m3 m4 m5]) rfl (fun H locs hP hD hS => ?_)
      refine lv_if_ne (tgt := 47) hx hb dX5_pass_42 (by decide) (fun c_4 => ?_) (fun c_4 => ?_)
      · have hq := hq.trans (if_neg c_4)
        refine lv_aload_n hx hb dX5_pass_47 rfl (lv_at hl 0 rfl) ?_
        refine cMV (bc' := [moB Γ a (svR (S) ms) mt mc md (nI (svS (S))) (gsT (fX5_in d (nI 1) (nI 999)) (nI 0)) m2 m3 m4 m5]) (va_runV (As := []) (rest := []) ⟨hx, hb, hml, hown, hts⟩ ((nX5_saves l Γ a (S) ms mt mc md (gsT (fX5_in d (nI 1) (nI 999)) (nI 0)) m2 m3 m4 m5 (by first | assumption | omega)) _) (cwV 0 hts gX5_pass_X5_saves rfl rfl rfl (by decide +kernel) ⟨Nat.le_of_ble_eq_true rfl, Nat.le_of_ble_eq_true rfl⟩) ⟨wPre_blind, va_recv hK hP (ci := 5) (q0 := 0) rfl rfl, wPre_mk hP hD hK hS hA hAB hAm [0] rfl rfl⟩ rfl rfl hl.1 rfl (lv_room (Nat.le_of_ble_eq_true rfl)) dX5_pass_48 ⟨Nat.zero_le _, Nat.zero_le _⟩) hP hD hS hA [0] rfl rfl (bs' := [moB Γ a (svR (S) ms) mt mc md (nI (svS (S))) (gsT (fX5_in d (nI 1) (nI 999)) (nI 0)) m2 m3 m4 m5]) rfl (fun H locs hP hD hS => ?_)
        refine lv_aload_n hx hb dX5_pass_51 rfl (lv_at hl 0 rfl) ?_
        refine va_get (D := Γ.1) (ci := 5) (v := .ref (a 1)) (C := RX5) (T := TX5) (N := 10) hx hb hts hi5 hown hK hP 0 rfl rfl 0 (by decide) kf7 (fun _ h9 => h9) rfl dX5_pass_52 ?_
        refine lv_bipush (v := (nI 31)) hx hb dX5_pass_55 (by decide) ?_
        refine lv_dup2_11 hx hb dX5_pass_57 rfl rfl ?_
        refine va_iald_n (f := (svR (S) ms)) hx hb hK hP 1 0 rfl rfl (by omega) (Nat.le_of_ble_eq_true rfl) dX5_pass_58 ?_
        refine lv_iload_n hx hb dX5_pass_59 rfl (lv_at hl 1 rfl) ?_
        refine lv_iadd hx hb dX5_pass_60 ?_
        refine va_iast_n (f := (svR (S) ms)) hx hb hK hP hD hS 1 0 rfl rfl (by omega) (Nat.le_of_ble_eq_true rfl) dX5_pass_61 (fun H locs hP hD hS => ?_)
        have hP : va_P Γ.1 vwCl (wcat [moB Γ a (upd (svR (S) ms) 31 (((svR (S) ms) 31) + d)) mt mc md (nI (svS (S))) (gsT (fX5_in d (nI 1) (nI 999)) (nI 0)) m2 m3 m4 m5]) H := hP
        have hD : va_D A (wcat [moB Γ a (upd (svR (S) ms) 31 (((svR (S) ms) 31) + d)) mt mc md (nI (svS (S))) (gsT (fX5_in d (nI 1) (nI 999)) (nI 0)) m2 m3 m4 m5]) := hD
        refine lv_aload_n hx hb dX5_pass_62 rfl (lv_at hl 0 rfl) ?_
        refine va_get (D := Γ.1) (ci := 5) (v := .ref (a 1)) (C := RX5) (T := TX5) (N := 10) hx hb hts hi5 hown hK hP 0 rfl rfl 0 (by decide) kf7 (fun _ h9 => h9) rfl dX5_pass_63 ?_
        refine lv_bipush (v := (nI 31)) hx hb dX5_pass_66 (by decide) ?_
        refine va_iald_n (f := (upd (svR (S) ms) 31 (((svR (S) ms) 31) + d))) hx hb hK hP 1 0 rfl rfl (by omega) (Nat.le_of_ble_eq_true rfl) dX5_pass_68 ?_
        exact W.iret (v := ((upd (svR (S) ms) 31 (((svR (S) ms) 31) + d)) 31)) hx hb hr (fun t ht hW => eMI (by rw [hq]; exact hP) hS ht (by rw [hq])) hS.2.2 dX5_pass_69
      · have hq := hq.trans (if_pos c_4)
        refine lv_iconst (v := (nI 0)) hx hb dX5_pass_45 (by decide) ?_
        exact W.iret (v := (nI 0)) hx hb hr (fun t ht hW => eMI (by rw [hq]; exact hP) hS ht (by rw [hq])) hS.2.2 dX5_pass_46
    · have hq := hq.trans (if_neg c_3)
      refine lv_iconst (v := (nI 1)) hx hb dX5_pass_34 (by decide) ?_
      refine lv_goto (tgt := 39) hx hb dX5_pass_35 (by decide) ?_
      refine cMI (bc' := [moB Γ a ms mt mc md (nI S) (gsT (fX5_in d (nI 1) (nI 999)) (nI 1)) m2 m3 m4 m5]) (va_runV (As := [.int (fX5_in d (nI 1) (nI 999)), .int (nI 1)]) (rest := []) ⟨hx, hb, hml, hown, hts⟩ ((nX5_goes l Γ a ms mt mc md (nI S) m1 m2 m3 m4 m5 (fX5_in d (nI 1) (nI 999)) (nI 1)) _) (cwV 2 hts gX5_pass_X5_goes rfl rfl rfl (by decide +kernel) ⟨Nat.le_of_ble_eq_true rfl, Nat.le_of_ble_eq_true rfl⟩) ⟨wPre_blind, va_recv hK hP (ci := 5) (q0 := 0) rfl rfl, wPre_mk hP hD hK hS hA hAB hAm [0] rfl rfl⟩ rfl rfl hl.1 rfl (lv_room (Nat.le_of_ble_eq_true rfl)) dX5_pass_39 ⟨Nat.zero_le _, Nat.zero_le _⟩) hP hD hS hA [0] rfl rfl (bs' := [moB Γ a ms mt mc md (nI S) (gsT (fX5_in d (nI 1) (nI 999)) (nI 1)) m2 m3 m4 m5]) rfl (fun H locs hP hD hS => ?_)
      refine lv_if_ne (tgt := 47) hx hb dX5_pass_42 (by decide) (fun c_5 => ?_) (fun c_5 => ?_)
      · have hq := hq.trans (if_neg c_5)
        refine lv_aload_n hx hb dX5_pass_47 rfl (lv_at hl 0 rfl) ?_
        refine cMV (bc' := [moB Γ a (svR (S) ms) mt mc md (nI (svS (S))) (gsT (fX5_in d (nI 1) (nI 999)) (nI 1)) m2 m3 m4 m5]) (va_runV (As := []) (rest := []) ⟨hx, hb, hml, hown, hts⟩ ((nX5_saves l Γ a (S) ms mt mc md (gsT (fX5_in d (nI 1) (nI 999)) (nI 1)) m2 m3 m4 m5 (by first | assumption | omega)) _) (cwV 0 hts gX5_pass_X5_saves rfl rfl rfl (by decide +kernel) ⟨Nat.le_of_ble_eq_true rfl, Nat.le_of_ble_eq_true rfl⟩) ⟨wPre_blind, va_recv hK hP (ci := 5) (q0 := 0) rfl rfl, wPre_mk hP hD hK hS hA hAB hAm [0] rfl rfl⟩ rfl rfl hl.1 rfl (lv_room (Nat.le_of_ble_eq_true rfl)) dX5_pass_48 ⟨Nat.zero_le _, Nat.zero_le _⟩) hP hD hS hA [0] rfl rfl (bs' := [moB Γ a (svR (S) ms) mt mc md (nI (svS (S))) (gsT (fX5_in d (nI 1) (nI 999)) (nI 1)) m2 m3 m4 m5]) rfl (fun H locs hP hD hS => ?_)
        refine lv_aload_n hx hb dX5_pass_51 rfl (lv_at hl 0 rfl) ?_
        refine va_get (D := Γ.1) (ci := 5) (v := .ref (a 1)) (C := RX5) (T := TX5) (N := 10) hx hb hts hi5 hown hK hP 0 rfl rfl 0 (by decide) kf7 (fun _ h9 => h9) rfl dX5_pass_52 ?_
        refine lv_bipush (v := (nI 31)) hx hb dX5_pass_55 (by decide) ?_
        refine lv_dup2_11 hx hb dX5_pass_57 rfl rfl ?_
        refine va_iald_n (f := (svR (S) ms)) hx hb hK hP 1 0 rfl rfl (by omega) (Nat.le_of_ble_eq_true rfl) dX5_pass_58 ?_
        refine lv_iload_n hx hb dX5_pass_59 rfl (lv_at hl 1 rfl) ?_
        refine lv_iadd hx hb dX5_pass_60 ?_
        refine va_iast_n (f := (svR (S) ms)) hx hb hK hP hD hS 1 0 rfl rfl (by omega) (Nat.le_of_ble_eq_true rfl) dX5_pass_61 (fun H locs hP hD hS => ?_)
        have hP : va_P Γ.1 vwCl (wcat [moB Γ a (upd (svR (S) ms) 31 (((svR (S) ms) 31) + d)) mt mc md (nI (svS (S))) (gsT (fX5_in d (nI 1) (nI 999)) (nI 1)) m2 m3 m4 m5]) H := hP
        have hD : va_D A (wcat [moB Γ a (upd (svR (S) ms) 31 (((svR (S) ms) 31) + d)) mt mc md (nI (svS (S))) (gsT (fX5_in d (nI 1) (nI 999)) (nI 1)) m2 m3 m4 m5]) := hD
        refine lv_aload_n hx hb dX5_pass_62 rfl (lv_at hl 0 rfl) ?_
        refine va_get (D := Γ.1) (ci := 5) (v := .ref (a 1)) (C := RX5) (T := TX5) (N := 10) hx hb hts hi5 hown hK hP 0 rfl rfl 0 (by decide) kf7 (fun _ h9 => h9) rfl dX5_pass_63 ?_
        refine lv_bipush (v := (nI 31)) hx hb dX5_pass_66 (by decide) ?_
        refine va_iald_n (f := (upd (svR (S) ms) 31 (((svR (S) ms) 31) + d))) hx hb hK hP 1 0 rfl rfl (by omega) (Nat.le_of_ble_eq_true rfl) dX5_pass_68 ?_
        exact W.iret (v := ((upd (svR (S) ms) 31 (((svR (S) ms) 31) + d)) 31)) hx hb hr (fun t ht hW => eMI (by rw [hq]; exact hP) hS ht (by rw [hq])) hS.2.2 dX5_pass_69
      · have hq := hq.trans (if_pos c_5)
        refine lv_iconst (v := (nI 0)) hx hb dX5_pass_45 (by decide) ?_
        exact W.iret (v := (nI 0)) hx hb hr (fun t ht hW => eMI (by rw [hq]; exact hP) hS ht (by rw [hq])) hS.2.2 dX5_pass_46
def fX5_open_L29 (S : Nat) (ms : (Nat → Int32)) (g : Int32) : Nat → Nat → (Nat → Int32) → Int32 × (Nat → Int32) × Int32 × Int32
  | 0, i29, ms0_29 => (if (fX5_reason (svR (S) ms) (0) g (nI 0)) = 0 then ((fX5_reason (svR (S) ms) (0) g (nI 0)), (upd (upd ms0_29 27 (nI 2)) 57 (((upd ms0_29 27 (nI 2)) 57) + (nI 0))), (nI (svS (S))), (gsT (fX5_isGroup ms g) (nI 1))) else ((fX5_reason (svR (S) ms) (0) g (nI 0)), (upd (upd ms0_29 27 (ms0_29 27)) 57 (((upd ms0_29 27 (ms0_29 27)) 57) + (nI 1))), (nI (svS (S))), (gsT (fX5_isGroup ms g) (nI 1))))
  | n29 + 1, i29, ms0_29 => (if (fX5_has g (nI i29)) = 0 then (fX5_open_L29 S ms g n29 (i29 + 1) (upd ms0_29 (19 + i29) ((ms0_29 (19 + i29)) + (nI 0)))) else (fX5_open_L29 S ms g n29 (i29 + 1) (upd ms0_29 (19 + i29) ((ms0_29 (19 + i29)) + (nI 1)))))
def fX5_open (S : Nat) (ms : (Nat → Int32)) (g : Int32) : Int32 × (Nat → Int32) × Int32 × Int32 := (if (gsR (fX5_isGroup ms g) (nI 1)) = 0 then ((nI 0), ms, (nI S), (gsT (fX5_isGroup ms g) (nI 1))) else (fX5_open_L29 S ms g (8) 0 (svR (S) ms)))
set_option maxHeartbeats 4000000 in
set_option maxRecDepth 100000 in
theorem kX5_open (l : Launch) (Γ : wG) (a : Nat → Nat) (S : Nat) (ms : (Nat → Int32)) (mt : (Nat → Int32)) (mc : (Nat → Int32)) (md : (Nat → Int32)) (m1 : Int32) (m2 : Int32) (m3 : Int32) (m4 : Int32) (m5 : Int32) (g : Int32) (hS6 : S ≤ 6) : MI l Γ yX5_open wsX5_open ({ frames := 4, cells := 0, slots := 0, locals := 97 }) [.ref (a 0), .int g] [moB Γ a ms mt mc md (nI S) m1 m2 m3 m4 m5] [moB Γ a (fX5_open S ms g).2.1 mt mc md (fX5_open S ms g).2.2.1 (fX5_open S ms g).2.2.2 m2 m3 m4 m5] (fX5_open S ms g).1 := by
  intro sz
  refine Met.ofW (cc := cX5_open) (maxL := 4) (ret := (some .int)) (by decide) rfl ?_
  intro p e s m args below meth c s₁ B hml hv
  obtain ⟨rfl, hsz, hP, hK, hD0, hAm⟩ := hv
  have hx := B.exec
  have hb := B.bytes
  have hr := B.returns
  have hts := atoms_spec (ws := wsX5_open) B.pre
  have hown : s.vm.findClass RX5 = some m.cls := findClass_of_methodNamed B.named
  have hlocks := B.notSynchronized
  subst hsz
  have hD := hD0.self (sz := s.heap.size)
  generalize hAe : va_A (wcat [moB Γ a ms mt mc md (nI S) m1 m2 m3 m4 m5]) s.heap.size = A at hD hAm ⊢
  have hA : ∀ q : Nat, s.heap.size ≤ q → A q := fun q h => by rw [← hAe]; exact Or.inr h
  have hAB : ∀ q : Nat, A q → A q := fun _ h => h
  have hS : va_S A s.heap s.heap [] := va_S.rf
  have hl := lv_entry ([.ref (a 0), .int g]) (n := 4) (Nat.le_of_ble_eq_true rfl)
  rw [lg_entry_eq]
  generalize (lg_sl ([.ref (a 0), .int g]) ++ List.replicate (4 - (lg_sl ([.ref (a 0), .int g])).length) Slot.unset).toArray = ls at hl ⊢
  have hl : lv_has ls 4 [(0, .ref (a 0)), (1, .int g)] := hl
  have hi5 : ∀ w ∈ wsX50, w ∈ wsX5_open := by decide +kernel
  have kf7 := hts (.fieldLink RX5 7 "CapsuleKeepersModel" "s" "[I") (by decide +kernel)
  have hq : (fX5_open S ms g) = (if (gsR (fX5_isGroup ms g) (nI 1)) = 0 then ((nI 0), ms, (nI S), (gsT (fX5_isGroup ms g) (nI 1))) else (fX5_open_L29 S ms g (8) 0 (svR (S) ms))) := rfl
  refine lv_aload_n hx hb dX5_open_0 rfl (lv_at hl 0 rfl) ?_
  refine lv_aload_n hx hb dX5_open_1 rfl (lv_at hl 0 rfl) ?_
  refine lv_iload_n hx hb dX5_open_2 rfl (lv_at hl 1 rfl) ?_
  refine cLI (va_runV (As := [.int g]) (rest := [.ref (a 0)]) ⟨hx, hb, hml, hown, hts⟩ ((kX5_isGroup l Γ a ms mt mc md (nI S) m1 m2 m3 m4 m5 g) _) (cwV 1 hts gX5_open_X5_isGroup rfl rfl rfl (by decide +kernel) ⟨Nat.le_of_ble_eq_true rfl, Nat.le_of_ble_eq_true rfl⟩) ⟨wPre_blind, va_recv hK hP (ci := 5) (q0 := 0) rfl rfl, wPre_mk hP hD hK hS hA hAB hAm [0] rfl rfl⟩ rfl rfl hl.1 rfl (lv_room (Nat.le_of_ble_eq_true rfl)) dX5_open_3 ⟨Nat.zero_le _, Nat.zero_le _⟩) hP hS hA (fun H locs hP hS => ?_)
  refine lv_iconst (v := (nI 1)) hx hb dX5_open_6 (by decide) ?_
  refine cMI (bc' := [moB Γ a ms mt mc md (nI S) (gsT (fX5_isGroup ms g) (nI 1)) m2 m3 m4 m5]) (va_runV (As := [.int (fX5_isGroup ms g), .int (nI 1)]) (rest := []) ⟨hx, hb, hml, hown, hts⟩ ((nX5_goes l Γ a ms mt mc md (nI S) m1 m2 m3 m4 m5 (fX5_isGroup ms g) (nI 1)) _) (cwV 2 hts gX5_open_X5_goes rfl rfl rfl (by decide +kernel) ⟨Nat.le_of_ble_eq_true rfl, Nat.le_of_ble_eq_true rfl⟩) ⟨wPre_blind, va_recv hK hP (ci := 5) (q0 := 0) rfl rfl, wPre_mk hP hD hK hS hA hAB hAm [0] rfl rfl⟩ rfl rfl hl.1 rfl (lv_room (Nat.le_of_ble_eq_true rfl)) dX5_open_7 ⟨Nat.zero_le _, Nat.zero_le _⟩) hP hD hS hA [0] rfl rfl (bs' := [moB Γ a ms mt mc md (nI S) (gsT (fX5_isGroup ms g) (nI 1)) m2 m3 m4 m5]) rfl (fun H locs hP hD hS => ?_)
  refine lv_if_ne (tgt := 15) hx hb dX5_open_10 (by decide) (fun c_1 => ?_) (fun c_1 => ?_)
  · have hq := hq.trans (if_neg c_1)
    refine lv_aload_n hx hb dX5_open_15 rfl (lv_at hl 0 rfl) ?_
    refine cMV (bc' := [moB Γ a (svR (S) ms) mt mc md (nI (svS (S))) (gsT (fX5_isGroup ms g) (nI 1)) m2 m3 m4 m5]) (va_runV (As := []) (rest := []) ⟨hx, hb, hml, hown, hts⟩ ((nX5_saves l Γ a (S) ms mt mc md (gsT (fX5_isGroup ms g) (nI 1)) m2 m3 m4 m5 (by first | assumption | omega)) _) (cwV 0 hts gX5_open_X5_saves rfl rfl rfl (by decide +kernel) ⟨Nat.le_of_ble_eq_true rfl, Nat.le_of_ble_eq_true rfl⟩) ⟨wPre_blind, va_recv hK hP (ci := 5) (q0 := 0) rfl rfl, wPre_mk hP hD hK hS hA hAB hAm [0] rfl rfl⟩ rfl rfl hl.1 rfl (lv_room (Nat.le_of_ble_eq_true rfl)) dX5_open_16 ⟨Nat.zero_le _, Nat.zero_le _⟩) hP hD hS hA [0] rfl rfl (bs' := [moB Γ a (svR (S) ms) mt mc md (nI (svS (S))) (gsT (fX5_isGroup ms g) (nI 1)) m2 m3 m4 m5]) rfl (fun H locs hP hD hS => ?_)
    refine lv_aload_n hx hb dX5_open_19 rfl (lv_at hl 0 rfl) ?_
    refine lv_iconst (v := (nI 0)) hx hb dX5_open_20 (by decide) ?_
    refine lv_iload_n hx hb dX5_open_21 rfl (lv_at hl 1 rfl) ?_
    refine lv_iconst (v := (nI 0)) hx hb dX5_open_22 (by decide) ?_
    refine cLI (va_runV (As := [.int (nI 0), .int g, .int (nI 0)]) (rest := []) ⟨hx, hb, hml, hown, hts⟩ ((kX5_reason l Γ a (svR (S) ms) mt mc md (nI (svS (S))) (gsT (fX5_isGroup ms g) (nI 1)) m2 m3 m4 m5 (0) g (nI 0) (by first | assumption | omega)) _) (cwV 3 hts gX5_open_X5_reason rfl rfl rfl (by decide +kernel) ⟨Nat.le_of_ble_eq_true rfl, Nat.le_of_ble_eq_true rfl⟩) ⟨wPre_blind, va_recv hK hP (ci := 5) (q0 := 0) rfl rfl, wPre_mk hP hD hK hS hA hAB hAm [0] rfl rfl⟩ rfl rfl hl.1 rfl (lv_room (Nat.le_of_ble_eq_true rfl)) dX5_open_23 ⟨Nat.zero_le _, Nat.zero_le _⟩) hP hS hA (fun H locs hP hS => ?_)
    refine lv_istore_n (lv' := [(2, .int (fX5_reason (svR (S) ms) (0) g (nI 0))), (0, .ref (a 0)), (1, .int g)]) hx hb dX5_open_26 rfl hl (by decide) rfl (fun ls hl => ?_)
    refine lv_iconst (v := (nI 0)) hx hb dX5_open_27 (by decide) ?_
    refine lv_istore_n (lv' := [(3, .int (nI 0)), (2, .int (fX5_reason (svR (S) ms) (0) g (nI 0))), (0, .ref (a 0)), (1, .int g)]) hx hb dX5_open_28 rfl hl (by decide) rfl (fun ls hl => ?_)
    refine wl (pc := 29) (σ := Nat × (Nat → Int32)) (fun n (i29, ms0_29) H locs ls => (i29 + n = 8) ∧ (fX5_open S ms g) = fX5_open_L29 S ms g n i29 ms0_29 ∧ va_P Γ.1 vwCl (wcat [moB Γ a ms0_29 mt mc md (nI (svS (S))) (gsT (fX5_isGroup ms g) (nI 1)) m2 m3 m4 m5]) H ∧ va_D A (wcat [moB Γ a ms0_29 mt mc md (nI (svS (S))) (gsT (fX5_isGroup ms g) (nI 1)) m2 m3 m4 m5]) ∧ va_S A s.heap H locs ∧ lv_has ls 4 [(3, .int (nI i29)), (2, .int (fX5_reason (svR (S) ms) (0) g (nI 0))), (0, .ref (a 0)), (1, .int g)]) ?_ ?_ (8) (0, (svR (S) ms)) _ _ _ ⟨by omega, hq, hP, hD, hS, lv_sub hl [0, 1, 2, 3] rfl⟩
    · intro ⟨i29, ms0_29⟩ H locs ls h
      obtain ⟨hn29, hq, hP, hD, hS, hl⟩ := h
      try dsimp only at hn29 hq hP hD hl
      replace hq : (fX5_open S ms g) = (if (fX5_reason (svR (S) ms) (0) g (nI 0)) = 0 then ((fX5_reason (svR (S) ms) (0) g (nI 0)), (upd (upd ms0_29 27 (nI 2)) 57 (((upd ms0_29 27 (nI 2)) 57) + (nI 0))), (nI (svS (S))), (gsT (fX5_isGroup ms g) (nI 1))) else ((fX5_reason (svR (S) ms) (0) g (nI 0)), (upd (upd ms0_29 27 (ms0_29 27)) 57 (((upd ms0_29 27 (ms0_29 27)) 57) + (nI 1))), (nI (svS (S))), (gsT (fX5_isGroup ms g) (nI 1)))) := hq
      refine lv_iload_n hx hb dX5_open_29 rfl (lv_at hl 0 rfl) ?_
      refine lv_bipush (v := (nI 8)) hx hb dX5_open_30 (by decide) ?_
      refine lv_icmp_ge (tgt := 66) hx hb dX5_open_32 (by decide) (fun c_32 => ?_) (fun c_32 => absurd (nI_le (by omega) (by omega)) c_32)
      refine lv_aload_n hx hb dX5_open_66 rfl (lv_at hl 2 rfl) ?_
      refine va_get (D := Γ.1) (ci := 5) (v := .ref (a 1)) (C := RX5) (T := TX5) (N := 10) hx hb hts hi5 hown hK hP 0 rfl rfl 0 (by decide) kf7 (fun _ h9 => h9) rfl dX5_open_67 ?_
      refine lv_bipush (v := (nI 27)) hx hb dX5_open_70 (by decide) ?_
      refine lv_iload_n hx hb dX5_open_72 rfl (lv_at hl 1 rfl) ?_
      refine lv_if_ne (tgt := 80) hx hb dX5_open_73 (by decide) (fun c_2 => ?_) (fun c_2 => ?_)
      · have hq := hq.trans (if_neg c_2)
        refine lv_aload_n hx hb dX5_open_80 rfl (lv_at hl 2 rfl) ?_
        refine va_get (D := Γ.1) (ci := 5) (v := .ref (a 1)) (C := RX5) (T := TX5) (N := 10) hx hb hts hi5 hown hK hP 0 rfl rfl 0 (by decide) kf7 (fun _ h9 => h9) rfl dX5_open_81 ?_
        refine lv_bipush (v := (nI 27)) hx hb dX5_open_84 (by decide) ?_
        refine va_iald_n (f := ms0_29) hx hb hK hP 1 0 rfl rfl (by omega) (Nat.le_of_ble_eq_true rfl) dX5_open_86 ?_
        refine va_iast_n (f := ms0_29) hx hb hK hP hD hS 1 0 rfl rfl (by omega) (Nat.le_of_ble_eq_true rfl) dX5_open_87 (fun H locs hP hD hS => ?_)
        have hP : va_P Γ.1 vwCl (wcat [moB Γ a (upd ms0_29 27 (ms0_29 27)) mt mc md (nI (svS (S))) (gsT (fX5_isGroup ms g) (nI 1)) m2 m3 m4 m5]) H := hP
        have hD : va_D A (wcat [moB Γ a (upd ms0_29 27 (ms0_29 27)) mt mc md (nI (svS (S))) (gsT (fX5_isGroup ms g) (nI 1)) m2 m3 m4 m5]) := hD
        refine lv_aload_n hx hb dX5_open_88 rfl (lv_at hl 2 rfl) ?_
        refine va_get (D := Γ.1) (ci := 5) (v := .ref (a 1)) (C := RX5) (T := TX5) (N := 10) hx hb hts hi5 hown hK hP 0 rfl rfl 0 (by decide) kf7 (fun _ h9 => h9) rfl dX5_open_89 ?_
        refine lv_bipush (v := (nI 57)) hx hb dX5_open_92 (by decide) ?_
        refine lv_dup2_11 hx hb dX5_open_94 rfl rfl ?_
        refine va_iald_n (f := (upd ms0_29 27 (ms0_29 27))) hx hb hK hP 1 0 rfl rfl (by omega) (Nat.le_of_ble_eq_true rfl) dX5_open_95 ?_
        refine lv_iload_n hx hb dX5_open_96 rfl (lv_at hl 1 rfl) ?_
        refine lv_if_ne (tgt := 104) hx hb dX5_open_97 (by decide) (fun c_97 => ?_) (fun c_97 => absurd c_97 c_2)
        refine lv_iconst (v := (nI 1)) hx hb dX5_open_104 (by decide) ?_
        refine lv_iadd hx hb dX5_open_105 ?_
        refine va_iast_n (f := (upd ms0_29 27 (ms0_29 27))) hx hb hK hP hD hS 1 0 rfl rfl (by omega) (Nat.le_of_ble_eq_true rfl) dX5_open_106 (fun H locs hP hD hS => ?_)
        have hP : va_P Γ.1 vwCl (wcat [moB Γ a (upd (upd ms0_29 27 (ms0_29 27)) 57 (((upd ms0_29 27 (ms0_29 27)) 57) + (nI 1))) mt mc md (nI (svS (S))) (gsT (fX5_isGroup ms g) (nI 1)) m2 m3 m4 m5]) H := hP
        have hD : va_D A (wcat [moB Γ a (upd (upd ms0_29 27 (ms0_29 27)) 57 (((upd ms0_29 27 (ms0_29 27)) 57) + (nI 1))) mt mc md (nI (svS (S))) (gsT (fX5_isGroup ms g) (nI 1)) m2 m3 m4 m5]) := hD
        refine lv_iload_n hx hb dX5_open_107 rfl (lv_at hl 1 rfl) ?_
        exact W.iret (v := (fX5_reason (svR (S) ms) (0) g (nI 0))) hx hb hr (fun t ht hW => eMI (by rw [hq]; exact hP) hS ht (by rw [hq])) hS.2.2 dX5_open_108
      · have hq := hq.trans (if_pos c_2)
        refine lv_iconst (v := (nI 2)) hx hb dX5_open_76 (by decide) ?_
        refine lv_goto (tgt := 87) hx hb dX5_open_77 (by decide) ?_
        refine va_iast_n (f := ms0_29) hx hb hK hP hD hS 1 0 rfl rfl (by omega) (Nat.le_of_ble_eq_true rfl) dX5_open_87 (fun H locs hP hD hS => ?_)
        have hP : va_P Γ.1 vwCl (wcat [moB Γ a (upd ms0_29 27 (nI 2)) mt mc md (nI (svS (S))) (gsT (fX5_isGroup ms g) (nI 1)) m2 m3 m4 m5]) H := hP
        have hD : va_D A (wcat [moB Γ a (upd ms0_29 27 (nI 2)) mt mc md (nI (svS (S))) (gsT (fX5_isGroup ms g) (nI 1)) m2 m3 m4 m5]) := hD
        refine lv_aload_n hx hb dX5_open_88 rfl (lv_at hl 2 rfl) ?_
        refine va_get (D := Γ.1) (ci := 5) (v := .ref (a 1)) (C := RX5) (T := TX5) (N := 10) hx hb hts hi5 hown hK hP 0 rfl rfl 0 (by decide) kf7 (fun _ h9 => h9) rfl dX5_open_89 ?_
        refine lv_bipush (v := (nI 57)) hx hb dX5_open_92 (by decide) ?_
        refine lv_dup2_11 hx hb dX5_open_94 rfl rfl ?_
        refine va_iald_n (f := (upd ms0_29 27 (nI 2))) hx hb hK hP 1 0 rfl rfl (by omega) (Nat.le_of_ble_eq_true rfl) dX5_open_95 ?_
        refine lv_iload_n hx hb dX5_open_96 rfl (lv_at hl 1 rfl) ?_
        refine lv_if_ne (tgt := 104) hx hb dX5_open_97 (by decide) (fun c_97 => absurd c_2 c_97) (fun c_97 => ?_)
        refine lv_iconst (v := (nI 0)) hx hb dX5_open_100 (by decide) ?_
        refine lv_goto (tgt := 105) hx hb dX5_open_101 (by decide) ?_
        refine lv_iadd hx hb dX5_open_105 ?_
        refine va_iast_n (f := (upd ms0_29 27 (nI 2))) hx hb hK hP hD hS 1 0 rfl rfl (by omega) (Nat.le_of_ble_eq_true rfl) dX5_open_106 (fun H locs hP hD hS => ?_)
        have hP : va_P Γ.1 vwCl (wcat [moB Γ a (upd (upd ms0_29 27 (nI 2)) 57 (((upd ms0_29 27 (nI 2)) 57) + (nI 0))) mt mc md (nI (svS (S))) (gsT (fX5_isGroup ms g) (nI 1)) m2 m3 m4 m5]) H := hP
        have hD : va_D A (wcat [moB Γ a (upd (upd ms0_29 27 (nI 2)) 57 (((upd ms0_29 27 (nI 2)) 57) + (nI 0))) mt mc md (nI (svS (S))) (gsT (fX5_isGroup ms g) (nI 1)) m2 m3 m4 m5]) := hD
        refine lv_iload_n hx hb dX5_open_107 rfl (lv_at hl 1 rfl) ?_
        exact W.iret (v := (fX5_reason (svR (S) ms) (0) g (nI 0))) hx hb hr (fun t ht hW => eMI (by rw [hq]; exact hP) hS ht (by rw [hq])) hS.2.2 dX5_open_108
    · intro n29 ih29 ⟨i29, ms0_29⟩ H locs ls h
      obtain ⟨hn29, hq, hP, hD, hS, hl⟩ := h
      try dsimp only at hn29 hq hP hD hl
      replace hq : (fX5_open S ms g) = (if (fX5_has g (nI i29)) = 0 then (fX5_open_L29 S ms g n29 (i29 + 1) (upd ms0_29 (19 + i29) ((ms0_29 (19 + i29)) + (nI 0)))) else (fX5_open_L29 S ms g n29 (i29 + 1) (upd ms0_29 (19 + i29) ((ms0_29 (19 + i29)) + (nI 1))))) := hq
      refine lv_iload_n hx hb dX5_open_29 rfl (lv_at hl 0 rfl) ?_
      refine lv_bipush (v := (nI 8)) hx hb dX5_open_30 (by decide) ?_
      refine lv_icmp_ge (tgt := 66) hx hb dX5_open_32 (by decide) (fun c_32 => absurd c_32 (nI_ge (by omega) (by omega))) (fun c_32 => ?_)
      refine lv_aload_n hx hb dX5_open_35 rfl (lv_at hl 2 rfl) ?_
      refine va_get (D := Γ.1) (ci := 5) (v := .ref (a 1)) (C := RX5) (T := TX5) (N := 10) hx hb hts hi5 hown hK hP 0 rfl rfl 0 (by decide) kf7 (fun _ h9 => h9) rfl dX5_open_36 ?_
      refine lv_bipush (v := (nI 19)) hx hb dX5_open_39 (by decide) ?_
      refine lv_iload_n hx hb dX5_open_41 rfl (lv_at hl 0 rfl) ?_
      refine lv_iadd hx hb dX5_open_42 ?_
      refine lv_eqi (y := (nI (19 + i29))) (nI_add _ _) ?_
      refine lv_dup2_11 hx hb dX5_open_43 rfl rfl ?_
      refine va_iald_n (f := ms0_29) hx hb hK hP 1 0 rfl rfl (by omega) (Nat.le_of_ble_eq_true rfl) dX5_open_44 ?_
      refine lv_iload_n hx hb dX5_open_45 rfl (lv_at hl 3 rfl) ?_
      refine lv_iload_n hx hb dX5_open_46 rfl (lv_at hl 0 rfl) ?_
      refine cLI (va_runS (As := [.int g, .int (nI i29)]) (rest := [.int (ms0_29 (19 + i29)), .int (nI (19 + i29)), .ref (a 1)]) ⟨hx, hb, hml, hown, hts⟩ ((kX5_has l Γ g (nI i29)) _) (va_cwS 2 hts gX5_open_X5_has rfl rfl rfl (by decide +kernel) ⟨Nat.le_of_ble_eq_true rfl, Nat.le_of_ble_eq_true rfl⟩) ⟨wPre_blind, wPre_mk hP hD hK hS hA hAB hAm [] rfl rfl⟩ rfl rfl hl.1 rfl (lv_room (Nat.le_of_ble_eq_true rfl)) dX5_open_47 ⟨Nat.zero_le _, Nat.zero_le _⟩) hP hS hA (fun H locs hP hS => ?_)
      refine lv_if_eq (tgt := 57) hx hb dX5_open_50 (by decide) (fun c_3 => ?_) (fun c_3 => ?_)
      · have hq := hq.trans (if_pos c_3)
        refine lv_iconst (v := (nI 0)) hx hb dX5_open_57 (by decide) ?_
        refine lv_iadd hx hb dX5_open_58 ?_
        refine va_iast_n (f := ms0_29) hx hb hK hP hD hS 1 0 rfl rfl (by omega) (Nat.le_of_ble_eq_true rfl) dX5_open_59 (fun H locs hP hD hS => ?_)
        have hP : va_P Γ.1 vwCl (wcat [moB Γ a (upd ms0_29 (19 + i29) ((ms0_29 (19 + i29)) + (nI 0))) mt mc md (nI (svS (S))) (gsT (fX5_isGroup ms g) (nI 1)) m2 m3 m4 m5]) H := hP
        have hD : va_D A (wcat [moB Γ a (upd ms0_29 (19 + i29) ((ms0_29 (19 + i29)) + (nI 0))) mt mc md (nI (svS (S))) (gsT (fX5_isGroup ms g) (nI 1)) m2 m3 m4 m5]) := hD
        refine lv_iinc (v := (nI (i29 + 1))) (lv' := [(3, .int (nI (i29 + 1))), (2, .int (fX5_reason (svR (S) ms) (0) g (nI 0))), (0, .ref (a 0)), (1, .int g)]) hx hb dX5_open_60 hl (k := 0) rfl (nI_1 _) (by decide) rfl (fun ls hl => ?_)
        refine lv_goto (tgt := 29) hx hb dX5_open_63 (by decide) ?_
        exact ih29 ((i29 + 1), (upd ms0_29 (19 + i29) ((ms0_29 (19 + i29)) + (nI 0)))) H locs ls ⟨by omega, hq, hP, hD, hS, lv_sub hl [0, 1, 2, 3] rfl⟩
      · have hq := hq.trans (if_neg c_3)
        refine lv_iconst (v := (nI 1)) hx hb dX5_open_53 (by decide) ?_
        refine lv_goto (tgt := 58) hx hb dX5_open_54 (by decide) ?_
        refine lv_iadd hx hb dX5_open_58 ?_
        refine va_iast_n (f := ms0_29) hx hb hK hP hD hS 1 0 rfl rfl (by omega) (Nat.le_of_ble_eq_true rfl) dX5_open_59 (fun H locs hP hD hS => ?_)
        have hP : va_P Γ.1 vwCl (wcat [moB Γ a (upd ms0_29 (19 + i29) ((ms0_29 (19 + i29)) + (nI 1))) mt mc md (nI (svS (S))) (gsT (fX5_isGroup ms g) (nI 1)) m2 m3 m4 m5]) H := hP
        have hD : va_D A (wcat [moB Γ a (upd ms0_29 (19 + i29) ((ms0_29 (19 + i29)) + (nI 1))) mt mc md (nI (svS (S))) (gsT (fX5_isGroup ms g) (nI 1)) m2 m3 m4 m5]) := hD
        refine lv_iinc (v := (nI (i29 + 1))) (lv' := [(3, .int (nI (i29 + 1))), (2, .int (fX5_reason (svR (S) ms) (0) g (nI 0))), (0, .ref (a 0)), (1, .int g)]) hx hb dX5_open_60 hl (k := 0) rfl (nI_1 _) (by decide) rfl (fun ls hl => ?_)
        refine lv_goto (tgt := 29) hx hb dX5_open_63 (by decide) ?_
        exact ih29 ((i29 + 1), (upd ms0_29 (19 + i29) ((ms0_29 (19 + i29)) + (nI 1)))) H locs ls ⟨by omega, hq, hP, hD, hS, lv_sub hl [0, 1, 2, 3] rfl⟩
  · have hq := hq.trans (if_pos c_1)
    refine lv_iconst (v := (nI 0)) hx hb dX5_open_13 (by decide) ?_
    exact W.iret (v := (nI 0)) hx hb hr (fun t ht hW => eMI (by rw [hq]; exact hP) hS ht (by rw [hq])) hS.2.2 dX5_open_14
def fX5_clearBuffer (m2 : Int32) : Int32 × Int32 × Int32 := (m2, (nI 0), (nI 0))
set_option maxHeartbeats 4000000 in
set_option maxRecDepth 100000 in
theorem kX5_clearBuffer (l : Launch) (Γ : wG) (a : Nat → Nat) (ms : (Nat → Int32)) (mt : (Nat → Int32)) (mc : (Nat → Int32)) (md : (Nat → Int32)) (m0 : Int32) (m1 : Int32) (m2 : Int32) (m3 : Int32) (m4 : Int32) (m5 : Int32) : MI l Γ yX5_clearBuffer wsX5_clearBuffer ({ frames := 0, cells := 0, slots := 0, locals := 0 }) [.ref (a 0)] [moB Γ a ms mt mc md m0 m1 m2 m3 m4 m5] [moB Γ a ms mt mc md m0 (fX5_clearBuffer m2).2.1 (fX5_clearBuffer m2).2.2 m3 m4 m5] (fX5_clearBuffer m2).1 := by
  intro sz
  refine Met.ofW (cc := cX5_clearBuffer) (maxL := 2) (ret := (some .int)) (by decide) rfl ?_
  intro p e s m args below meth c s₁ B hml hv
  obtain ⟨rfl, hsz, hP, hK, hD0, hAm⟩ := hv
  have hx := B.exec
  have hb := B.bytes
  have hr := B.returns
  have hts := atoms_spec (ws := wsX5_clearBuffer) B.pre
  have hown : s.vm.findClass RX5 = some m.cls := findClass_of_methodNamed B.named
  have hlocks := B.notSynchronized
  subst hsz
  have hD := hD0.self (sz := s.heap.size)
  generalize hAe : va_A (wcat [moB Γ a ms mt mc md m0 m1 m2 m3 m4 m5]) s.heap.size = A at hD hAm ⊢
  have hA : ∀ q : Nat, s.heap.size ≤ q → A q := fun q h => by rw [← hAe]; exact Or.inr h
  have hAB : ∀ q : Nat, A q → A q := fun _ h => h
  have hS : va_S A s.heap s.heap [] := va_S.rf
  have hl := lv_entry ([.ref (a 0)]) (n := 2) (Nat.le_of_ble_eq_true rfl)
  rw [lg_entry_eq]
  generalize (lg_sl ([.ref (a 0)]) ++ List.replicate (2 - (lg_sl ([.ref (a 0)])).length) Slot.unset).toArray = ls at hl ⊢
  have hl : lv_has ls 2 [(0, .ref (a 0))] := hl
  have hi5 : ∀ w ∈ wsX50, w ∈ wsX5_clearBuffer := by decide +kernel
  have kf101 := hts (.fieldLink RX5 101 "CapsuleKeepersModel" "typed" "I") (by decide +kernel)
  have kf23 := hts (.fieldLink RX5 23 "CapsuleKeepersModel" "thrown" "I") (by decide +kernel)
  have hq : (fX5_clearBuffer m2) = (m2, (nI 0), (nI 0)) := rfl
  refine lv_aload_n hx hb dX5_clearBuffer_0 rfl (lv_at hl 0 rfl) ?_
  refine lv_iconst (v := (nI 0)) hx hb dX5_clearBuffer_1 (by decide) ?_
  refine va_put (D := Γ.1) (ci := 5) (v := .int (nI 0)) (ty := .int) (C := RX5) (T := TX5) (N := 10) hx hb hts hi5 tyX5 tyX5_ok nmX5 hown hK hP hD hS 0 rfl rfl 2 (by decide) kf23 (fun _ h9 => h9) rfl (by decide +kernel) rfl rfl (Nat.le_of_ble_eq_true rfl) dX5_clearBuffer_2 (fun H locs hP hD hS => ?_)
  have hP : va_P Γ.1 vwCl (wcat [moB Γ a ms mt mc md m0 (nI 0) m2 m3 m4 m5]) H := hP
  have hD : va_D A (wcat [moB Γ a ms mt mc md m0 (nI 0) m2 m3 m4 m5]) := hD
  refine lv_aload_n hx hb dX5_clearBuffer_5 rfl (lv_at hl 0 rfl) ?_
  refine va_get (D := Γ.1) (ci := 5) (v := .int m2) (C := RX5) (T := TX5) (N := 10) hx hb hts hi5 hown hK hP 0 rfl rfl 4 (by decide) kf101 (fun _ h9 => h9) rfl dX5_clearBuffer_6 ?_
  refine lv_istore_n (lv' := [(1, .int m2), (0, .ref (a 0))]) hx hb dX5_clearBuffer_9 rfl hl (by decide) rfl (fun ls hl => ?_)
  refine lv_aload_n hx hb dX5_clearBuffer_10 rfl (lv_at hl 1 rfl) ?_
  refine lv_iconst (v := (nI 0)) hx hb dX5_clearBuffer_11 (by decide) ?_
  refine va_put (D := Γ.1) (ci := 5) (v := .int (nI 0)) (ty := .int) (C := RX5) (T := TX5) (N := 10) hx hb hts hi5 tyX5 tyX5_ok nmX5 hown hK hP hD hS 0 rfl rfl 4 (by decide) kf101 (fun _ h9 => h9) rfl (by decide +kernel) rfl rfl (Nat.le_of_ble_eq_true rfl) dX5_clearBuffer_12 (fun H locs hP hD hS => ?_)
  have hP : va_P Γ.1 vwCl (wcat [moB Γ a ms mt mc md m0 (nI 0) (nI 0) m3 m4 m5]) H := hP
  have hD : va_D A (wcat [moB Γ a ms mt mc md m0 (nI 0) (nI 0) m3 m4 m5]) := hD
  refine lv_iload_n hx hb dX5_clearBuffer_15 rfl (lv_at hl 0 rfl) ?_
  exact W.iret (v := m2) hx hb hr (fun t ht hW => eMI (by rw [hq]; exact hP) hS ht (by rw [hq])) hS.2.2 dX5_clearBuffer_16
def fX5_keepers (ms : (Nat → Int32)) (k : Nat) (w : Int32) : Int32 := (if w = (nI 0) then ((((ms 2) >>> ((nI k) &&& 31)) &&& (nI 1))) else (if w = (nI 1) then ((ms (3 + k))) else (if w = (nI 2) then ((fX5_owned ms (0) ((nI 1) <<< ((nI k) &&& 31)))) else (if w = (nI 3) then ((ms (11 + k))) else ((ms (19 + k)))))))
set_option maxHeartbeats 4000000 in
set_option maxRecDepth 100000 in
theorem kX5_keepers (l : Launch) (Γ : wG) (a : Nat → Nat) (ms : (Nat → Int32)) (mt : (Nat → Int32)) (mc : (Nat → Int32)) (md : (Nat → Int32)) (m0 : Int32) (m1 : Int32) (m2 : Int32) (m3 : Int32) (m4 : Int32) (m5 : Int32) (k : Nat) (w : Int32) (hk : k < 8) : LI l Γ yX5_keepers wsX5_keepers ({ frames := 2, cells := 0, slots := 0, locals := 45 }) [.ref (a 0), .int (nI k), .int w] [moB Γ a ms mt mc md m0 m1 m2 m3 m4 m5] (fX5_keepers ms k w) := by
  intro sz
  refine Met.ofW (cc := cX5_keepers) (maxL := 3) (ret := (some .int)) (by decide) rfl ?_
  intro p e s m args below meth c s₁ B hml hv
  obtain ⟨rfl, hsz, hP, hK, hD0, hAm⟩ := hv
  have hx := B.exec
  have hb := B.bytes
  have hr := B.returns
  have hts := atoms_spec (ws := wsX5_keepers) B.pre
  have hown : s.vm.findClass RX5 = some m.cls := findClass_of_methodNamed B.named
  have hlocks := B.notSynchronized
  subst hsz
  have hD := hD0.self (sz := s.heap.size)
  generalize hBe : va_A (wcat [moB Γ a ms mt mc md m0 m1 m2 m3 m4 m5]) s.heap.size = B0 at hD hAm
  obtain ⟨A, hAe⟩ : ∃ A, A = va_A [] s.heap.size := ⟨_, rfl⟩
  rw [← hAe]
  have hA : ∀ q : Nat, s.heap.size ≤ q → A q := fun q h => by rw [hAe]; exact Or.inr h
  have hAB : ∀ q : Nat, A q → B0 q := fun q h => by rw [hAe] at h; rw [← hBe]; exact Or.inr (wnone h)
  have hS : va_S A s.heap s.heap [] := va_S.rf
  have hl := lv_entry ([.ref (a 0), .int (nI k), .int w]) (n := 3) (Nat.le_of_ble_eq_true rfl)
  rw [lg_entry_eq]
  generalize (lg_sl ([.ref (a 0), .int (nI k), .int w]) ++ List.replicate (3 - (lg_sl ([.ref (a 0), .int (nI k), .int w])).length) Slot.unset).toArray = ls at hl ⊢
  have hl : lv_has ls 3 [(0, .ref (a 0)), (1, .int (nI k)), (2, .int w)] := hl
  have hi5 : ∀ w ∈ wsX50, w ∈ wsX5_keepers := by decide +kernel
  have kf7 := hts (.fieldLink RX5 7 "CapsuleKeepersModel" "s" "[I") (by decide +kernel)
  have hq : (fX5_keepers ms k w) = (if w = (nI 0) then ((((ms 2) >>> ((nI k) &&& 31)) &&& (nI 1))) else (if w = (nI 1) then ((ms (3 + k))) else (if w = (nI 2) then ((fX5_owned ms (0) ((nI 1) <<< ((nI k) &&& 31)))) else (if w = (nI 3) then ((ms (11 + k))) else ((ms (19 + k))))))) := rfl
  refine lv_iload_n hx hb dX5_keepers_0 rfl (lv_at hl 2 rfl) ?_
  by_cases c_1 : w = (nI 0)
  · have hq := hq.trans (if_pos c_1)
    refine lv_tableIn (off := 31) (tgt := 32) hx hb dX5_keepers_1 (by rw [c_1]; decide) (by rw [c_1]; decide) (by rw [c_1]; decide +kernel) (by decide) ?_
    refine lv_aload_n hx hb dX5_keepers_32 rfl (lv_at hl 0 rfl) ?_
    refine va_get (D := Γ.1) (ci := 5) (v := .ref (a 1)) (C := RX5) (T := TX5) (N := 10) hx hb hts hi5 hown hK hP 0 rfl rfl 0 (by decide) kf7 (fun _ h9 => h9) rfl dX5_keepers_33 ?_
    refine lv_iconst (v := (nI 2)) hx hb dX5_keepers_36 (by decide) ?_
    refine va_iald_n (f := ms) hx hb hK hP 1 0 rfl rfl (by omega) (Nat.le_of_ble_eq_true rfl) dX5_keepers_37 ?_
    refine lv_iload_n hx hb dX5_keepers_38 rfl (lv_at hl 1 rfl) ?_
    refine lv_ishr hx hb dX5_keepers_39 ?_
    refine lv_iconst (v := (nI 1)) hx hb dX5_keepers_40 (by decide) ?_
    refine lv_iand hx hb dX5_keepers_41 ?_
    exact W.iret (v := (((ms 2) >>> ((nI k) &&& 31)) &&& (nI 1))) hx hb hr (fun t ht hW => eLI hS ht (by rw [hq])) hS.2.2 dX5_keepers_42
  replace hq := hq.trans (if_neg c_1)
  by_cases c_2 : w = (nI 1)
  · have hq := hq.trans (if_pos c_2)
    refine lv_tableIn (off := 42) (tgt := 43) hx hb dX5_keepers_1 (by rw [c_2]; decide) (by rw [c_2]; decide) (by rw [c_2]; decide +kernel) (by decide) ?_
    refine lv_aload_n hx hb dX5_keepers_43 rfl (lv_at hl 0 rfl) ?_
    refine va_get (D := Γ.1) (ci := 5) (v := .ref (a 1)) (C := RX5) (T := TX5) (N := 10) hx hb hts hi5 hown hK hP 0 rfl rfl 0 (by decide) kf7 (fun _ h9 => h9) rfl dX5_keepers_44 ?_
    refine lv_iconst (v := (nI 3)) hx hb dX5_keepers_47 (by decide) ?_
    refine lv_iload_n hx hb dX5_keepers_48 rfl (lv_at hl 1 rfl) ?_
    refine lv_iadd hx hb dX5_keepers_49 ?_
    refine lv_eqi (y := (nI (3 + k))) (nI_add _ _) ?_
    refine va_iald_n (f := ms) hx hb hK hP 1 0 rfl rfl (by omega) (Nat.le_of_ble_eq_true rfl) dX5_keepers_50 ?_
    exact W.iret (v := (ms (3 + k))) hx hb hr (fun t ht hW => eLI hS ht (by rw [hq])) hS.2.2 dX5_keepers_51
  replace hq := hq.trans (if_neg c_2)
  by_cases c_3 : w = (nI 2)
  · have hq := hq.trans (if_pos c_3)
    refine lv_tableIn (off := 51) (tgt := 52) hx hb dX5_keepers_1 (by rw [c_3]; decide) (by rw [c_3]; decide) (by rw [c_3]; decide +kernel) (by decide) ?_
    refine lv_aload_n hx hb dX5_keepers_52 rfl (lv_at hl 0 rfl) ?_
    refine lv_iconst (v := (nI 0)) hx hb dX5_keepers_53 (by decide) ?_
    refine lv_iconst (v := (nI 1)) hx hb dX5_keepers_54 (by decide) ?_
    refine lv_iload_n hx hb dX5_keepers_55 rfl (lv_at hl 1 rfl) ?_
    refine lv_ishl hx hb dX5_keepers_56 ?_
    refine cLI (va_runV (As := [.int (nI 0), .int ((nI 1) <<< ((nI k) &&& 31))]) (rest := []) ⟨hx, hb, hml, hown, hts⟩ ((kX5_owned l Γ a ms mt mc md m0 m1 m2 m3 m4 m5 (0) ((nI 1) <<< ((nI k) &&& 31)) (by first | assumption | omega)) _) (cwV 2 hts gX5_keepers_X5_owned rfl rfl rfl (by decide +kernel) ⟨Nat.le_of_ble_eq_true rfl, Nat.le_of_ble_eq_true rfl⟩) ⟨wPre_blind, va_recv hK hP (ci := 5) (q0 := 0) rfl rfl, wPre_mk hP hD hK hS hA hAB hAm [0] rfl rfl⟩ rfl rfl hl.1 rfl (lv_room (Nat.le_of_ble_eq_true rfl)) dX5_keepers_57 ⟨Nat.zero_le _, Nat.zero_le _⟩) hP hS hA (fun H locs hP hS => ?_)
    exact W.iret (v := (fX5_owned ms (0) ((nI 1) <<< ((nI k) &&& 31)))) hx hb hr (fun t ht hW => eLI hS ht (by rw [hq])) hS.2.2 dX5_keepers_60
  replace hq := hq.trans (if_neg c_3)
  by_cases c_4 : w = (nI 3)
  · have hq := hq.trans (if_pos c_4)
    refine lv_tableIn (off := 60) (tgt := 61) hx hb dX5_keepers_1 (by rw [c_4]; decide) (by rw [c_4]; decide) (by rw [c_4]; decide +kernel) (by decide) ?_
    refine lv_aload_n hx hb dX5_keepers_61 rfl (lv_at hl 0 rfl) ?_
    refine va_get (D := Γ.1) (ci := 5) (v := .ref (a 1)) (C := RX5) (T := TX5) (N := 10) hx hb hts hi5 hown hK hP 0 rfl rfl 0 (by decide) kf7 (fun _ h9 => h9) rfl dX5_keepers_62 ?_
    refine lv_bipush (v := (nI 11)) hx hb dX5_keepers_65 (by decide) ?_
    refine lv_iload_n hx hb dX5_keepers_67 rfl (lv_at hl 1 rfl) ?_
    refine lv_iadd hx hb dX5_keepers_68 ?_
    refine lv_eqi (y := (nI (11 + k))) (nI_add _ _) ?_
    refine va_iald_n (f := ms) hx hb hK hP 1 0 rfl rfl (by omega) (Nat.le_of_ble_eq_true rfl) dX5_keepers_69 ?_
    exact W.iret (v := (ms (11 + k))) hx hb hr (fun t ht hW => eLI hS ht (by rw [hq])) hS.2.2 dX5_keepers_70
  replace hq := hq.trans (if_neg c_4)
  have tc_1 := lv_neT (a := 0) c_1 (by decide)
  have tc_2 := lv_neT (a := 1) c_2 (by decide)
  have tc_3 := lv_neT (a := 2) c_3 (by decide)
  have tc_4 := lv_neT (a := 3) c_4 (by decide)
  refine lv_tableOut (tgt := 71) hx hb dX5_keepers_1 (by omega) (by decide) ?_
  refine lv_aload_n hx hb dX5_keepers_71 rfl (lv_at hl 0 rfl) ?_
  refine va_get (D := Γ.1) (ci := 5) (v := .ref (a 1)) (C := RX5) (T := TX5) (N := 10) hx hb hts hi5 hown hK hP 0 rfl rfl 0 (by decide) kf7 (fun _ h9 => h9) rfl dX5_keepers_72 ?_
  refine lv_bipush (v := (nI 19)) hx hb dX5_keepers_75 (by decide) ?_
  refine lv_iload_n hx hb dX5_keepers_77 rfl (lv_at hl 1 rfl) ?_
  refine lv_iadd hx hb dX5_keepers_78 ?_
  refine lv_eqi (y := (nI (19 + k))) (nI_add _ _) ?_
  refine va_iald_n (f := ms) hx hb hK hP 1 0 rfl rfl (by omega) (Nat.le_of_ble_eq_true rfl) dX5_keepers_79 ?_
  exact W.iret (v := (ms (19 + k))) hx hb hr (fun t ht hW => eLI hS ht (by rw [hq])) hS.2.2 dX5_keepers_80
def fX5_keeperOf (ms : (Nat → Int32)) (k : Int32) (w : Int32) : Int32 × Int32 := (if (gsR (fX5_isKeeper ms k) (fX5_in w (nI 0) (nI 4))) = 0 then ((nI 0), (gsT (fX5_isKeeper ms k) (fX5_in w (nI 0) (nI 4)))) else ((fX5_keepers ms ((k.toNatClampNeg)) w), (gsT (fX5_isKeeper ms k) (fX5_in w (nI 0) (nI 4)))))
set_option maxHeartbeats 4000000 in
set_option maxRecDepth 100000 in
theorem kX5_keeperOf (l : Launch) (Γ : wG) (a : Nat → Nat) (K : Nat) (ms : (Nat → Int32)) (mt : (Nat → Int32)) (mc : (Nat → Int32)) (md : (Nat → Int32)) (m0 : Int32) (m1 : Int32) (m2 : Int32) (m3 : Int32) (m4 : Int32) (m5 : Int32) (k : Int32) (w : Int32) (hMK : ms 1 = nI K) (hK8 : K ≤ 8) : MI l Γ yX5_keeperOf wsX5_keeperOf ({ frames := 3, cells := 0, slots := 0, locals := 67 }) [.ref (a 0), .int k, .int w] [moB Γ a ms mt mc md m0 m1 m2 m3 m4 m5] [moB Γ a ms mt mc md m0 (fX5_keeperOf ms k w).2 m2 m3 m4 m5] (fX5_keeperOf ms k w).1 := by
  intro sz
  refine Met.ofW (cc := cX5_keeperOf) (maxL := 3) (ret := (some .int)) (by decide) rfl ?_
  intro p e s m args below meth c s₁ B hml hv
  obtain ⟨rfl, hsz, hP, hK, hD0, hAm⟩ := hv
  have hx := B.exec
  have hb := B.bytes
  have hr := B.returns
  have hts := atoms_spec (ws := wsX5_keeperOf) B.pre
  have hown : s.vm.findClass RX5 = some m.cls := findClass_of_methodNamed B.named
  have hlocks := B.notSynchronized
  subst hsz
  have hD := hD0.self (sz := s.heap.size)
  generalize hAe : va_A (wcat [moB Γ a ms mt mc md m0 m1 m2 m3 m4 m5]) s.heap.size = A at hD hAm ⊢
  have hA : ∀ q : Nat, s.heap.size ≤ q → A q := fun q h => by rw [← hAe]; exact Or.inr h
  have hAB : ∀ q : Nat, A q → A q := fun _ h => h
  have hS : va_S A s.heap s.heap [] := va_S.rf
  have hl := lv_entry ([.ref (a 0), .int k, .int w]) (n := 3) (Nat.le_of_ble_eq_true rfl)
  rw [lg_entry_eq]
  generalize (lg_sl ([.ref (a 0), .int k, .int w]) ++ List.replicate (3 - (lg_sl ([.ref (a 0), .int k, .int w])).length) Slot.unset).toArray = ls at hl ⊢
  have hl : lv_has ls 3 [(0, .ref (a 0)), (1, .int k), (2, .int w)] := hl
  have hq : (fX5_keeperOf ms k w) = (if (gsR (fX5_isKeeper ms k) (fX5_in w (nI 0) (nI 4))) = 0 then ((nI 0), (gsT (fX5_isKeeper ms k) (fX5_in w (nI 0) (nI 4)))) else ((fX5_keepers ms ((k.toNatClampNeg)) w), (gsT (fX5_isKeeper ms k) (fX5_in w (nI 0) (nI 4))))) := rfl
  refine lv_aload_n hx hb dX5_keeperOf_0 rfl (lv_at hl 0 rfl) ?_
  refine lv_aload_n hx hb dX5_keeperOf_1 rfl (lv_at hl 0 rfl) ?_
  refine lv_iload_n hx hb dX5_keeperOf_2 rfl (lv_at hl 1 rfl) ?_
  refine cLI (va_runV (As := [.int k]) (rest := [.ref (a 0)]) ⟨hx, hb, hml, hown, hts⟩ ((kX5_isKeeper l Γ a ms mt mc md m0 m1 m2 m3 m4 m5 k) _) (cwV 1 hts gX5_keeperOf_X5_isKeeper rfl rfl rfl (by decide +kernel) ⟨Nat.le_of_ble_eq_true rfl, Nat.le_of_ble_eq_true rfl⟩) ⟨wPre_blind, va_recv hK hP (ci := 5) (q0 := 0) rfl rfl, wPre_mk hP hD hK hS hA hAB hAm [0] rfl rfl⟩ rfl rfl hl.1 rfl (lv_room (Nat.le_of_ble_eq_true rfl)) dX5_keeperOf_3 ⟨Nat.zero_le _, Nat.zero_le _⟩) hP hS hA (fun H locs hP hS => ?_)
  refine lv_iload_n hx hb dX5_keeperOf_6 rfl (lv_at hl 2 rfl) ?_
  refine lv_iconst (v := (nI 0)) hx hb dX5_keeperOf_7 (by decide) ?_
  refine lv_iconst (v := (nI 4)) hx hb dX5_keeperOf_8 (by decide) ?_
  refine cLI (va_runS (As := [.int w, .int (nI 0), .int (nI 4)]) (rest := [.int (fX5_isKeeper ms k), .ref (a 0)]) ⟨hx, hb, hml, hown, hts⟩ ((kX5_in l Γ w (nI 0) (nI 4)) _) (va_cwS 3 hts gX5_keeperOf_X5_in rfl rfl rfl (by decide +kernel) ⟨Nat.le_of_ble_eq_true rfl, Nat.le_of_ble_eq_true rfl⟩) ⟨wPre_blind, wPre_mk hP hD hK hS hA hAB hAm [] rfl rfl⟩ rfl rfl hl.1 rfl (lv_room (Nat.le_of_ble_eq_true rfl)) dX5_keeperOf_9 ⟨Nat.zero_le _, Nat.zero_le _⟩) hP hS hA (fun H locs hP hS => ?_)
  refine cMI (bc' := [moB Γ a ms mt mc md m0 (gsT (fX5_isKeeper ms k) (fX5_in w (nI 0) (nI 4))) m2 m3 m4 m5]) (va_runV (As := [.int (fX5_isKeeper ms k), .int (fX5_in w (nI 0) (nI 4))]) (rest := []) ⟨hx, hb, hml, hown, hts⟩ ((nX5_goes l Γ a ms mt mc md m0 m1 m2 m3 m4 m5 (fX5_isKeeper ms k) (fX5_in w (nI 0) (nI 4))) _) (cwV 2 hts gX5_keeperOf_X5_goes rfl rfl rfl (by decide +kernel) ⟨Nat.le_of_ble_eq_true rfl, Nat.le_of_ble_eq_true rfl⟩) ⟨wPre_blind, va_recv hK hP (ci := 5) (q0 := 0) rfl rfl, wPre_mk hP hD hK hS hA hAB hAm [0] rfl rfl⟩ rfl rfl hl.1 rfl (lv_room (Nat.le_of_ble_eq_true rfl)) dX5_keeperOf_12 ⟨Nat.zero_le _, Nat.zero_le _⟩) hP hD hS hA [0] rfl rfl (bs' := [moB Γ a ms mt mc md m0 (gsT (fX5_isKeeper ms k) (fX5_in w (nI 0) (nI 4))) m2 m3 m4 m5]) rfl (fun H locs hP hD hS => ?_)
  refine lv_if_eq (tgt := 27) hx hb dX5_keeperOf_15 (by decide) (fun c_1 => ?_) (fun c_1 => ?_)
  · have hq := hq.trans (if_pos c_1)
    refine lv_iconst (v := (nI 0)) hx hb dX5_keeperOf_27 (by decide) ?_
    exact W.iret (v := (nI 0)) hx hb hr (fun t ht hW => eMI (by rw [hq]; exact hP) hS ht (by rw [hq])) hS.2.2 dX5_keeperOf_28
  · have hq := hq.trans (if_neg c_1)
    obtain ⟨kn, hkn, rfl⟩ : ∃ j : Nat, j < K ∧ k = nI j := isK hMK hK8 (show ¬ fX5_isKeeper ms k = 0 by first | assumption | exact gs_ne1 (by assumption) | exact gs_00 (by assumption) | exact gs_01 (by assumption))
    replace hq : (fX5_keeperOf ms (nI kn) w) = ((fX5_keepers ms (kn) w), (gsT (fX5_isKeeper ms (nI kn)) (fX5_in w (nI 0) (nI 4)))) := hq.trans (by first | simp only [nI_clamp (show kn < 2 ^ 31 by omega), Nat.add_sub_cancel] | rfl)
    refine lv_aload_n hx hb dX5_keeperOf_18 rfl (lv_at hl 0 rfl) ?_
    refine lv_iload_n hx hb dX5_keeperOf_19 rfl (lv_at hl 1 rfl) ?_
    refine lv_iload_n hx hb dX5_keeperOf_20 rfl (lv_at hl 2 rfl) ?_
    refine cLI (va_runV (As := [.int (nI kn), .int w]) (rest := []) ⟨hx, hb, hml, hown, hts⟩ ((kX5_keepers l Γ a ms mt mc md m0 (gsT (fX5_isKeeper ms (nI kn)) (fX5_in w (nI 0) (nI 4))) m2 m3 m4 m5 (kn) w (by first | assumption | omega)) _) (cwV 2 hts gX5_keeperOf_X5_keepers rfl rfl rfl (by decide +kernel) ⟨Nat.le_of_ble_eq_true rfl, Nat.le_of_ble_eq_true rfl⟩) ⟨wPre_blind, va_recv hK hP (ci := 5) (q0 := 0) rfl rfl, wPre_mk hP hD hK hS hA hAB hAm [0] rfl rfl⟩ rfl rfl hl.1 rfl (lv_room (Nat.le_of_ble_eq_true rfl)) dX5_keeperOf_21 ⟨Nat.zero_le _, Nat.zero_le _⟩) hP hS hA (fun H locs hP hS => ?_)
    refine lv_goto (tgt := 28) hx hb dX5_keeperOf_24 (by decide) ?_
    exact W.iret (v := (fX5_keepers ms (kn) w)) hx hb hr (fun t ht hW => eMI (by rw [hq]; exact hP) hS ht (by rw [hq])) hS.2.2 dX5_keeperOf_28
def fX5_share (ms : (Nat → Int32)) (k : Int32) (w : Int32) : Int32 × Int32 := (if (fX5_in k (nI 0) (nI 7)) = 0 then (if (gsR (nI 0) (nI 1)) = 0 then ((nI 0), (gsT (nI 0) (nI 1))) else ((fX5_shareOf ms ((k.toNatClampNeg)) w), (gsT (nI 0) (nI 1)))) else (if (fX5_in w (nI 0) (nI 2)) = 0 then (if (gsR (nI 0) (nI 1)) = 0 then ((nI 0), (gsT (nI 0) (nI 1))) else ((fX5_shareOf ms ((k.toNatClampNeg)) w), (gsT (nI 0) (nI 1)))) else (if (gsR (nI 1) (nI 1)) = 0 then ((nI 0), (gsT (nI 1) (nI 1))) else ((fX5_shareOf ms ((k.toNatClampNeg)) w), (gsT (nI 1) (nI 1))))))
set_option maxHeartbeats 4000000 in
set_option maxRecDepth 100000 in
theorem kX5_share (l : Launch) (Γ : wG) (a : Nat → Nat) (ms : (Nat → Int32)) (mt : (Nat → Int32)) (mc : (Nat → Int32)) (md : (Nat → Int32)) (m0 : Int32) (m1 : Int32) (m2 : Int32) (m3 : Int32) (m4 : Int32) (m5 : Int32) (k : Int32) (w : Int32) : MI l Γ yX5_share wsX5_share ({ frames := 1, cells := 0, slots := 0, locals := 22 }) [.ref (a 0), .int k, .int w] [moB Γ a ms mt mc md m0 m1 m2 m3 m4 m5] [moB Γ a ms mt mc md m0 (fX5_share ms k w).2 m2 m3 m4 m5] (fX5_share ms k w).1 := by
  intro sz
  refine Met.ofW (cc := cX5_share) (maxL := 3) (ret := (some .int)) (by decide) rfl ?_
  intro p e s m args below meth c s₁ B hml hv
  obtain ⟨rfl, hsz, hP, hK, hD0, hAm⟩ := hv
  have hx := B.exec
  have hb := B.bytes
  have hr := B.returns
  have hts := atoms_spec (ws := wsX5_share) B.pre
  have hown : s.vm.findClass RX5 = some m.cls := findClass_of_methodNamed B.named
  have hlocks := B.notSynchronized
  subst hsz
  have hD := hD0.self (sz := s.heap.size)
  generalize hAe : va_A (wcat [moB Γ a ms mt mc md m0 m1 m2 m3 m4 m5]) s.heap.size = A at hD hAm ⊢
  have hA : ∀ q : Nat, s.heap.size ≤ q → A q := fun q h => by rw [← hAe]; exact Or.inr h
  have hAB : ∀ q : Nat, A q → A q := fun _ h => h
  have hS : va_S A s.heap s.heap [] := va_S.rf
  have hl := lv_entry ([.ref (a 0), .int k, .int w]) (n := 3) (Nat.le_of_ble_eq_true rfl)
  rw [lg_entry_eq]
  generalize (lg_sl ([.ref (a 0), .int k, .int w]) ++ List.replicate (3 - (lg_sl ([.ref (a 0), .int k, .int w])).length) Slot.unset).toArray = ls at hl ⊢
  have hl : lv_has ls 3 [(0, .ref (a 0)), (1, .int k), (2, .int w)] := hl
  have hq : (fX5_share ms k w) = (if (fX5_in k (nI 0) (nI 7)) = 0 then (if (gsR (nI 0) (nI 1)) = 0 then ((nI 0), (gsT (nI 0) (nI 1))) else ((fX5_shareOf ms ((k.toNatClampNeg)) w), (gsT (nI 0) (nI 1)))) else (if (fX5_in w (nI 0) (nI 2)) = 0 then (if (gsR (nI 0) (nI 1)) = 0 then ((nI 0), (gsT (nI 0) (nI 1))) else ((fX5_shareOf ms ((k.toNatClampNeg)) w), (gsT (nI 0) (nI 1)))) else (if (gsR (nI 1) (nI 1)) = 0 then ((nI 0), (gsT (nI 1) (nI 1))) else ((fX5_shareOf ms ((k.toNatClampNeg)) w), (gsT (nI 1) (nI 1)))))) := rfl
  refine lv_aload_n hx hb dX5_share_0 rfl (lv_at hl 0 rfl) ?_
  refine lv_iload_n hx hb dX5_share_1 rfl (lv_at hl 1 rfl) ?_
  refine lv_iconst (v := (nI 0)) hx hb dX5_share_2 (by decide) ?_
  refine lv_bipush (v := (nI 7)) hx hb dX5_share_3 (by decide) ?_
  refine cLI (va_runS (As := [.int k, .int (nI 0), .int (nI 7)]) (rest := [.ref (a 0)]) ⟨hx, hb, hml, hown, hts⟩ ((kX5_in l Γ k (nI 0) (nI 7)) _) (va_cwS 3 hts gX5_share_X5_in rfl rfl rfl (by decide +kernel) ⟨Nat.le_of_ble_eq_true rfl, Nat.le_of_ble_eq_true rfl⟩) ⟨wPre_blind, wPre_mk hP hD hK hS hA hAB hAm [] rfl rfl⟩ rfl rfl hl.1 rfl (lv_room (Nat.le_of_ble_eq_true rfl)) dX5_share_5 ⟨Nat.zero_le _, Nat.zero_le _⟩) hP hS hA (fun H locs hP hS => ?_)
  refine lv_if_eq (tgt := 24) hx hb dX5_share_8 (by decide) (fun c_1 => ?_) (fun c_1 => ?_)
  · have hq := hq.trans (if_pos c_1)
    refine lv_iconst (v := (nI 0)) hx hb dX5_share_24 (by decide) ?_
    refine lv_iconst (v := (nI 1)) hx hb dX5_share_25 (by decide) ?_
    refine cMI (bc' := [moB Γ a ms mt mc md m0 (gsT (nI 0) (nI 1)) m2 m3 m4 m5]) (va_runV (As := [.int (nI 0), .int (nI 1)]) (rest := []) ⟨hx, hb, hml, hown, hts⟩ ((nX5_goes l Γ a ms mt mc md m0 m1 m2 m3 m4 m5 (nI 0) (nI 1)) _) (cwV 2 hts gX5_share_X5_goes rfl rfl rfl (by decide +kernel) ⟨Nat.le_of_ble_eq_true rfl, Nat.le_of_ble_eq_true rfl⟩) ⟨wPre_blind, va_recv hK hP (ci := 5) (q0 := 0) rfl rfl, wPre_mk hP hD hK hS hA hAB hAm [0] rfl rfl⟩ rfl rfl hl.1 rfl (lv_room (Nat.le_of_ble_eq_true rfl)) dX5_share_26 ⟨Nat.zero_le _, Nat.zero_le _⟩) hP hD hS hA [0] rfl rfl (bs' := [moB Γ a ms mt mc md m0 (gsT (nI 0) (nI 1)) m2 m3 m4 m5]) rfl (fun H locs hP hD hS => ?_)
    refine lv_if_eq (tgt := 41) hx hb dX5_share_29 (by decide) (fun c_2 => ?_) (fun c_2 => ?_)
    · have hq := hq.trans (if_pos c_2)
      refine lv_iconst (v := (nI 0)) hx hb dX5_share_41 (by decide) ?_
      exact W.iret (v := (nI 0)) hx hb hr (fun t ht hW => eMI (by rw [hq]; exact hP) hS ht (by rw [hq])) hS.2.2 dX5_share_42
    · have hq := hq.trans (if_neg c_2)
      obtain ⟨kn, hkn, rfl⟩ : ∃ j : Nat, j ≤ 7 ∧ k = nI j := in_nat (by decide) (show ¬ fX5_in k (nI 0) (nI 7) = 0 by first | assumption | exact gs_ne1 (by assumption) | exact gs_00 (by assumption) | exact gs_01 (by assumption))
      replace hq : (fX5_share ms (nI kn) w) = ((fX5_shareOf ms (kn) w), (gsT (nI 0) (nI 1))) := hq.trans (by first | simp only [nI_clamp (show kn < 2 ^ 31 by omega), Nat.add_sub_cancel] | rfl)
      refine lv_aload_n hx hb dX5_share_32 rfl (lv_at hl 0 rfl) ?_
      refine lv_iload_n hx hb dX5_share_33 rfl (lv_at hl 1 rfl) ?_
      refine lv_iload_n hx hb dX5_share_34 rfl (lv_at hl 2 rfl) ?_
      refine cLI (va_runV (As := [.int (nI kn), .int w]) (rest := []) ⟨hx, hb, hml, hown, hts⟩ ((kX5_shareOf l Γ a ms mt mc md m0 (gsT (nI 0) (nI 1)) m2 m3 m4 m5 (kn) w (by first | assumption | omega)) _) (cwV 2 hts gX5_share_X5_shareOf rfl rfl rfl (by decide +kernel) ⟨Nat.le_of_ble_eq_true rfl, Nat.le_of_ble_eq_true rfl⟩) ⟨wPre_blind, va_recv hK hP (ci := 5) (q0 := 0) rfl rfl, wPre_mk hP hD hK hS hA hAB hAm [0] rfl rfl⟩ rfl rfl hl.1 rfl (lv_room (Nat.le_of_ble_eq_true rfl)) dX5_share_35 ⟨Nat.zero_le _, Nat.zero_le _⟩) hP hS hA (fun H locs hP hS => ?_)
      refine lv_goto (tgt := 42) hx hb dX5_share_38 (by decide) ?_
      exact W.iret (v := (fX5_shareOf ms (kn) w)) hx hb hr (fun t ht hW => eMI (by rw [hq]; exact hP) hS ht (by rw [hq])) hS.2.2 dX5_share_42
  · have hq := hq.trans (if_neg c_1)
    refine lv_iload_n hx hb dX5_share_11 rfl (lv_at hl 2 rfl) ?_
    refine lv_iconst (v := (nI 0)) hx hb dX5_share_12 (by decide) ?_
    refine lv_iconst (v := (nI 2)) hx hb dX5_share_13 (by decide) ?_
    refine cLI (va_runS (As := [.int w, .int (nI 0), .int (nI 2)]) (rest := [.ref (a 0)]) ⟨hx, hb, hml, hown, hts⟩ ((kX5_in l Γ w (nI 0) (nI 2)) _) (va_cwS 3 hts gX5_share_X5_in rfl rfl rfl (by decide +kernel) ⟨Nat.le_of_ble_eq_true rfl, Nat.le_of_ble_eq_true rfl⟩) ⟨wPre_blind, wPre_mk hP hD hK hS hA hAB hAm [] rfl rfl⟩ rfl rfl hl.1 rfl (lv_room (Nat.le_of_ble_eq_true rfl)) dX5_share_14 ⟨Nat.zero_le _, Nat.zero_le _⟩) hP hS hA (fun H locs hP hS => ?_)
    refine lv_if_eq (tgt := 24) hx hb dX5_share_17 (by decide) (fun c_3 => ?_) (fun c_3 => ?_)
    · have hq := hq.trans (if_pos c_3)
      refine lv_iconst (v := (nI 0)) hx hb dX5_share_24 (by decide) ?_
      refine lv_iconst (v := (nI 1)) hx hb dX5_share_25 (by decide) ?_
      refine cMI (bc' := [moB Γ a ms mt mc md m0 (gsT (nI 0) (nI 1)) m2 m3 m4 m5]) (va_runV (As := [.int (nI 0), .int (nI 1)]) (rest := []) ⟨hx, hb, hml, hown, hts⟩ ((nX5_goes l Γ a ms mt mc md m0 m1 m2 m3 m4 m5 (nI 0) (nI 1)) _) (cwV 2 hts gX5_share_X5_goes rfl rfl rfl (by decide +kernel) ⟨Nat.le_of_ble_eq_true rfl, Nat.le_of_ble_eq_true rfl⟩) ⟨wPre_blind, va_recv hK hP (ci := 5) (q0 := 0) rfl rfl, wPre_mk hP hD hK hS hA hAB hAm [0] rfl rfl⟩ rfl rfl hl.1 rfl (lv_room (Nat.le_of_ble_eq_true rfl)) dX5_share_26 ⟨Nat.zero_le _, Nat.zero_le _⟩) hP hD hS hA [0] rfl rfl (bs' := [moB Γ a ms mt mc md m0 (gsT (nI 0) (nI 1)) m2 m3 m4 m5]) rfl (fun H locs hP hD hS => ?_)
      refine lv_if_eq (tgt := 41) hx hb dX5_share_29 (by decide) (fun c_4 => ?_) (fun c_4 => ?_)
      · have hq := hq.trans (if_pos c_4)
        refine lv_iconst (v := (nI 0)) hx hb dX5_share_41 (by decide) ?_
        exact W.iret (v := (nI 0)) hx hb hr (fun t ht hW => eMI (by rw [hq]; exact hP) hS ht (by rw [hq])) hS.2.2 dX5_share_42
      · have hq := hq.trans (if_neg c_4)
        obtain ⟨kn, hkn, rfl⟩ : ∃ j : Nat, j ≤ 7 ∧ k = nI j := in_nat (by decide) (show ¬ fX5_in k (nI 0) (nI 7) = 0 by first | assumption | exact gs_ne1 (by assumption) | exact gs_00 (by assumption) | exact gs_01 (by assumption))
        replace hq : (fX5_share ms (nI kn) w) = ((fX5_shareOf ms (kn) w), (gsT (nI 0) (nI 1))) := hq.trans (by first | simp only [nI_clamp (show kn < 2 ^ 31 by omega), Nat.add_sub_cancel] | rfl)
        refine lv_aload_n hx hb dX5_share_32 rfl (lv_at hl 0 rfl) ?_
        refine lv_iload_n hx hb dX5_share_33 rfl (lv_at hl 1 rfl) ?_
        refine lv_iload_n hx hb dX5_share_34 rfl (lv_at hl 2 rfl) ?_
        refine cLI (va_runV (As := [.int (nI kn), .int w]) (rest := []) ⟨hx, hb, hml, hown, hts⟩ ((kX5_shareOf l Γ a ms mt mc md m0 (gsT (nI 0) (nI 1)) m2 m3 m4 m5 (kn) w (by first | assumption | omega)) _) (cwV 2 hts gX5_share_X5_shareOf rfl rfl rfl (by decide +kernel) ⟨Nat.le_of_ble_eq_true rfl, Nat.le_of_ble_eq_true rfl⟩) ⟨wPre_blind, va_recv hK hP (ci := 5) (q0 := 0) rfl rfl, wPre_mk hP hD hK hS hA hAB hAm [0] rfl rfl⟩ rfl rfl hl.1 rfl (lv_room (Nat.le_of_ble_eq_true rfl)) dX5_share_35 ⟨Nat.zero_le _, Nat.zero_le _⟩) hP hS hA (fun H locs hP hS => ?_)
        refine lv_goto (tgt := 42) hx hb dX5_share_38 (by decide) ?_
        exact W.iret (v := (fX5_shareOf ms (kn) w)) hx hb hr (fun t ht hW => eMI (by rw [hq]; exact hP) hS ht (by rw [hq])) hS.2.2 dX5_share_42
    · have hq := hq.trans (if_neg c_3)
      refine lv_iconst (v := (nI 1)) hx hb dX5_share_20 (by decide) ?_
      refine lv_goto (tgt := 25) hx hb dX5_share_21 (by decide) ?_
      refine lv_iconst (v := (nI 1)) hx hb dX5_share_25 (by decide) ?_
      refine cMI (bc' := [moB Γ a ms mt mc md m0 (gsT (nI 1) (nI 1)) m2 m3 m4 m5]) (va_runV (As := [.int (nI 1), .int (nI 1)]) (rest := []) ⟨hx, hb, hml, hown, hts⟩ ((nX5_goes l Γ a ms mt mc md m0 m1 m2 m3 m4 m5 (nI 1) (nI 1)) _) (cwV 2 hts gX5_share_X5_goes rfl rfl rfl (by decide +kernel) ⟨Nat.le_of_ble_eq_true rfl, Nat.le_of_ble_eq_true rfl⟩) ⟨wPre_blind, va_recv hK hP (ci := 5) (q0 := 0) rfl rfl, wPre_mk hP hD hK hS hA hAB hAm [0] rfl rfl⟩ rfl rfl hl.1 rfl (lv_room (Nat.le_of_ble_eq_true rfl)) dX5_share_26 ⟨Nat.zero_le _, Nat.zero_le _⟩) hP hD hS hA [0] rfl rfl (bs' := [moB Γ a ms mt mc md m0 (gsT (nI 1) (nI 1)) m2 m3 m4 m5]) rfl (fun H locs hP hD hS => ?_)
      refine lv_if_eq (tgt := 41) hx hb dX5_share_29 (by decide) (fun c_5 => ?_) (fun c_5 => ?_)
      · have hq := hq.trans (if_pos c_5)
        refine lv_iconst (v := (nI 0)) hx hb dX5_share_41 (by decide) ?_
        exact W.iret (v := (nI 0)) hx hb hr (fun t ht hW => eMI (by rw [hq]; exact hP) hS ht (by rw [hq])) hS.2.2 dX5_share_42
      · have hq := hq.trans (if_neg c_5)
        obtain ⟨kn, hkn, rfl⟩ : ∃ j : Nat, j ≤ 7 ∧ k = nI j := in_nat (by decide) (show ¬ fX5_in k (nI 0) (nI 7) = 0 by first | assumption | exact gs_ne1 (by assumption) | exact gs_00 (by assumption) | exact gs_01 (by assumption))
        replace hq : (fX5_share ms (nI kn) w) = ((fX5_shareOf ms (kn) w), (gsT (nI 1) (nI 1))) := hq.trans (by first | simp only [nI_clamp (show kn < 2 ^ 31 by omega), Nat.add_sub_cancel] | rfl)
        refine lv_aload_n hx hb dX5_share_32 rfl (lv_at hl 0 rfl) ?_
        refine lv_iload_n hx hb dX5_share_33 rfl (lv_at hl 1 rfl) ?_
        refine lv_iload_n hx hb dX5_share_34 rfl (lv_at hl 2 rfl) ?_
        refine cLI (va_runV (As := [.int (nI kn), .int w]) (rest := []) ⟨hx, hb, hml, hown, hts⟩ ((kX5_shareOf l Γ a ms mt mc md m0 (gsT (nI 1) (nI 1)) m2 m3 m4 m5 (kn) w (by first | assumption | omega)) _) (cwV 2 hts gX5_share_X5_shareOf rfl rfl rfl (by decide +kernel) ⟨Nat.le_of_ble_eq_true rfl, Nat.le_of_ble_eq_true rfl⟩) ⟨wPre_blind, va_recv hK hP (ci := 5) (q0 := 0) rfl rfl, wPre_mk hP hD hK hS hA hAB hAm [0] rfl rfl⟩ rfl rfl hl.1 rfl (lv_room (Nat.le_of_ble_eq_true rfl)) dX5_share_35 ⟨Nat.zero_le _, Nat.zero_le _⟩) hP hS hA (fun H locs hP hS => ?_)
        refine lv_goto (tgt := 42) hx hb dX5_share_38 (by decide) ?_
        exact W.iret (v := (fX5_shareOf ms (kn) w)) hx hb hr (fun t ht hW => eMI (by rw [hq]; exact hP) hS ht (by rw [hq])) hS.2.2 dX5_share_42
def fX5_counted_L148 (ms : (Nat → Int32)) : Nat → Nat → Int32 → Int32
  | 0, i148, x2_148 => ((x2_148 / (nI 2)))
  | n148 + 1, i148, x2_148 => (fX5_counted_L148 ms n148 (i148 + 1) (x2_148 + (fX5_bits (ms (11 + i148)))))
def fX5_counted (ms : (Nat → Int32)) (m0 : Int32) (w : Int32) : Int32 := (if w = (nI 0) then ((ms 1)) else (if w = (nI 1) then ((fX5_bits (ms 2))) else (if w = (nI 2) then ((ms 31)) else (if w = (nI 3) then ((ms 27)) else (if w = (nI 4) then (if (ms 27) = 0 then ((-1)) else ((ms 29))) else (if w = (nI 5) then (if (ms 27) = 0 then ((-1)) else ((ms 30))) else (if w = (nI 6) then ((fX5_bits (fX5_shares ms (0)))) else (if w = (nI 7) then (fX5_counted_L148 ms (8) 0 (nI 0)) else (if w = (nI 8) then ((ms 56)) else (if w = (nI 9) then ((ms 57)) else (if w = (nI 10) then ((ms 0)) else (m0))))))))))))
set_option maxHeartbeats 4000000 in
set_option maxRecDepth 100000 in
theorem kX5_counted (l : Launch) (Γ : wG) (a : Nat → Nat) (ms : (Nat → Int32)) (mt : (Nat → Int32)) (mc : (Nat → Int32)) (md : (Nat → Int32)) (m0 : Int32) (m1 : Int32) (m2 : Int32) (m3 : Int32) (m4 : Int32) (m5 : Int32) (w : Int32) : LI l Γ yX5_counted wsX5_counted ({ frames := 1, cells := 0, slots := 0, locals := 23 }) [.ref (a 0), .int w] [moB Γ a ms mt mc md m0 m1 m2 m3 m4 m5] (fX5_counted ms m0 w) := by
  intro sz
  refine Met.ofW (cc := cX5_counted) (maxL := 4) (ret := (some .int)) (by decide) rfl ?_
  intro p e s m args below meth c s₁ B hml hv
  obtain ⟨rfl, hsz, hP, hK, hD0, hAm⟩ := hv
  have hx := B.exec
  have hb := B.bytes
  have hr := B.returns
  have hts := atoms_spec (ws := wsX5_counted) B.pre
  have hown : s.vm.findClass RX5 = some m.cls := findClass_of_methodNamed B.named
  have hlocks := B.notSynchronized
  subst hsz
  have hD := hD0.self (sz := s.heap.size)
  generalize hBe : va_A (wcat [moB Γ a ms mt mc md m0 m1 m2 m3 m4 m5]) s.heap.size = B0 at hD hAm
  obtain ⟨A, hAe⟩ : ∃ A, A = va_A [] s.heap.size := ⟨_, rfl⟩
  rw [← hAe]
  have hA : ∀ q : Nat, s.heap.size ≤ q → A q := fun q h => by rw [hAe]; exact Or.inr h
  have hAB : ∀ q : Nat, A q → B0 q := fun q h => by rw [hAe] at h; rw [← hBe]; exact Or.inr (wnone h)
  have hS : va_S A s.heap s.heap [] := va_S.rf
  have hl := lv_entry ([.ref (a 0), .int w]) (n := 4) (Nat.le_of_ble_eq_true rfl)
  rw [lg_entry_eq]
  generalize (lg_sl ([.ref (a 0), .int w]) ++ List.replicate (4 - (lg_sl ([.ref (a 0), .int w])).length) Slot.unset).toArray = ls at hl ⊢
  have hl : lv_has ls 4 [(0, .ref (a 0)), (1, .int w)] := hl
  have hi5 : ∀ w ∈ wsX50, w ∈ wsX5_counted := by decide +kernel
  have kf27 := hts (.fieldLink RX5 27 "CapsuleKeepersModel" "states" "I") (by decide +kernel)
  have kf7 := hts (.fieldLink RX5 7 "CapsuleKeepersModel" "s" "[I") (by decide +kernel)
  have hq : (fX5_counted ms m0 w) = (if w = (nI 0) then ((ms 1)) else (if w = (nI 1) then ((fX5_bits (ms 2))) else (if w = (nI 2) then ((ms 31)) else (if w = (nI 3) then ((ms 27)) else (if w = (nI 4) then (if (ms 27) = 0 then ((-1)) else ((ms 29))) else (if w = (nI 5) then (if (ms 27) = 0 then ((-1)) else ((ms 30))) else (if w = (nI 6) then ((fX5_bits (fX5_shares ms (0)))) else (if w = (nI 7) then (fX5_counted_L148 ms (8) 0 (nI 0)) else (if w = (nI 8) then ((ms 56)) else (if w = (nI 9) then ((ms 57)) else (if w = (nI 10) then ((ms 0)) else (m0)))))))))))) := rfl
  refine lv_iconst (v := (nI 0)) hx hb dX5_counted_0 (by decide) ?_
  refine lv_istore_n (lv' := [(2, .int (nI 0)), (0, .ref (a 0)), (1, .int w)]) hx hb dX5_counted_1 rfl hl (by decide) rfl (fun ls hl => ?_)
  refine lv_iload_n hx hb dX5_counted_2 rfl (lv_at hl 2 rfl) ?_
  by_cases c_1 : w = (nI 0)
  · have hq := hq.trans (if_pos c_1)
    refine lv_tableIn (off := 57) (tgt := 60) hx hb dX5_counted_3 (by rw [c_1]; decide) (by rw [c_1]; decide) (by rw [c_1]; decide +kernel) (by decide) ?_
    refine lv_aload_n hx hb dX5_counted_60 rfl (lv_at hl 1 rfl) ?_
    refine va_get (D := Γ.1) (ci := 5) (v := .ref (a 1)) (C := RX5) (T := TX5) (N := 10) hx hb hts hi5 hown hK hP 0 rfl rfl 0 (by decide) kf7 (fun _ h9 => h9) rfl dX5_counted_61 ?_
    refine lv_iconst (v := (nI 1)) hx hb dX5_counted_64 (by decide) ?_
    refine va_iald_n (f := ms) hx hb hK hP 1 0 rfl rfl (by omega) (Nat.le_of_ble_eq_true rfl) dX5_counted_65 ?_
    exact W.iret (v := (ms 1)) hx hb hr (fun t ht hW => eLI hS ht (by rw [hq])) hS.2.2 dX5_counted_66
  replace hq := hq.trans (if_neg c_1)
  by_cases c_2 : w = (nI 1)
  · have hq := hq.trans (if_pos c_2)
    refine lv_tableIn (off := 64) (tgt := 67) hx hb dX5_counted_3 (by rw [c_2]; decide) (by rw [c_2]; decide) (by rw [c_2]; decide +kernel) (by decide) ?_
    refine lv_aload_n hx hb dX5_counted_67 rfl (lv_at hl 1 rfl) ?_
    refine va_get (D := Γ.1) (ci := 5) (v := .ref (a 1)) (C := RX5) (T := TX5) (N := 10) hx hb hts hi5 hown hK hP 0 rfl rfl 0 (by decide) kf7 (fun _ h9 => h9) rfl dX5_counted_68 ?_
    refine lv_iconst (v := (nI 2)) hx hb dX5_counted_71 (by decide) ?_
    refine va_iald_n (f := ms) hx hb hK hP 1 0 rfl rfl (by omega) (Nat.le_of_ble_eq_true rfl) dX5_counted_72 ?_
    refine cLI (va_runS (As := [.int (ms 2)]) (rest := []) ⟨hx, hb, hml, hown, hts⟩ ((kX5_bits l Γ (ms 2)) _) (va_cwS 1 hts gX5_counted_X5_bits rfl rfl rfl (by decide +kernel) ⟨Nat.le_of_ble_eq_true rfl, Nat.le_of_ble_eq_true rfl⟩) ⟨wPre_blind, wPre_mk hP hD hK hS hA hAB hAm [] rfl rfl⟩ rfl rfl hl.1 rfl (lv_room (Nat.le_of_ble_eq_true rfl)) dX5_counted_73 ⟨Nat.zero_le _, Nat.zero_le _⟩) hP hS hA (fun H locs hP hS => ?_)
    exact W.iret (v := (fX5_bits (ms 2))) hx hb hr (fun t ht hW => eLI hS ht (by rw [hq])) hS.2.2 dX5_counted_76
  replace hq := hq.trans (if_neg c_2)
  by_cases c_3 : w = (nI 2)
  · have hq := hq.trans (if_pos c_3)
    refine lv_tableIn (off := 74) (tgt := 77) hx hb dX5_counted_3 (by rw [c_3]; decide) (by rw [c_3]; decide) (by rw [c_3]; decide +kernel) (by decide) ?_
    refine lv_aload_n hx hb dX5_counted_77 rfl (lv_at hl 1 rfl) ?_
    refine va_get (D := Γ.1) (ci := 5) (v := .ref (a 1)) (C := RX5) (T := TX5) (N := 10) hx hb hts hi5 hown hK hP 0 rfl rfl 0 (by decide) kf7 (fun _ h9 => h9) rfl dX5_counted_78 ?_
    refine lv_bipush (v := (nI 31)) hx hb dX5_counted_81 (by decide) ?_
    refine va_iald_n (f := ms) hx hb hK hP 1 0 rfl rfl (by omega) (Nat.le_of_ble_eq_true rfl) dX5_counted_83 ?_
    exact W.iret (v := (ms 31)) hx hb hr (fun t ht hW => eLI hS ht (by rw [hq])) hS.2.2 dX5_counted_84
  replace hq := hq.trans (if_neg c_3)
  by_cases c_4 : w = (nI 3)
  · have hq := hq.trans (if_pos c_4)
    refine lv_tableIn (off := 82) (tgt := 85) hx hb dX5_counted_3 (by rw [c_4]; decide) (by rw [c_4]; decide) (by rw [c_4]; decide +kernel) (by decide) ?_
    refine lv_aload_n hx hb dX5_counted_85 rfl (lv_at hl 1 rfl) ?_
    refine va_get (D := Γ.1) (ci := 5) (v := .ref (a 1)) (C := RX5) (T := TX5) (N := 10) hx hb hts hi5 hown hK hP 0 rfl rfl 0 (by decide) kf7 (fun _ h9 => h9) rfl dX5_counted_86 ?_
    refine lv_bipush (v := (nI 27)) hx hb dX5_counted_89 (by decide) ?_
    refine va_iald_n (f := ms) hx hb hK hP 1 0 rfl rfl (by omega) (Nat.le_of_ble_eq_true rfl) dX5_counted_91 ?_
    exact W.iret (v := (ms 27)) hx hb hr (fun t ht hW => eLI hS ht (by rw [hq])) hS.2.2 dX5_counted_92
  replace hq := hq.trans (if_neg c_4)
  by_cases c_5 : w = (nI 4)
  · have hq := hq.trans (if_pos c_5)
    refine lv_tableIn (off := 90) (tgt := 93) hx hb dX5_counted_3 (by rw [c_5]; decide) (by rw [c_5]; decide) (by rw [c_5]; decide +kernel) (by decide) ?_
    refine lv_aload_n hx hb dX5_counted_93 rfl (lv_at hl 1 rfl) ?_
    refine va_get (D := Γ.1) (ci := 5) (v := .ref (a 1)) (C := RX5) (T := TX5) (N := 10) hx hb hts hi5 hown hK hP 0 rfl rfl 0 (by decide) kf7 (fun _ h9 => h9) rfl dX5_counted_94 ?_
    refine lv_bipush (v := (nI 27)) hx hb dX5_counted_97 (by decide) ?_
    refine va_iald_n (f := ms) hx hb hK hP 1 0 rfl rfl (by omega) (Nat.le_of_ble_eq_true rfl) dX5_counted_99 ?_
    refine lv_if_ne (tgt := 107) hx hb dX5_counted_100 (by decide) (fun c_6 => ?_) (fun c_6 => ?_)
    · have hq := hq.trans (if_neg c_6)
      refine lv_aload_n hx hb dX5_counted_107 rfl (lv_at hl 1 rfl) ?_
      refine va_get (D := Γ.1) (ci := 5) (v := .ref (a 1)) (C := RX5) (T := TX5) (N := 10) hx hb hts hi5 hown hK hP 0 rfl rfl 0 (by decide) kf7 (fun _ h9 => h9) rfl dX5_counted_108 ?_
      refine lv_bipush (v := (nI 29)) hx hb dX5_counted_111 (by decide) ?_
      refine va_iald_n (f := ms) hx hb hK hP 1 0 rfl rfl (by omega) (Nat.le_of_ble_eq_true rfl) dX5_counted_113 ?_
      exact W.iret (v := (ms 29)) hx hb hr (fun t ht hW => eLI hS ht (by rw [hq])) hS.2.2 dX5_counted_114
    · have hq := hq.trans (if_pos c_6)
      refine lv_iconst (v := (-1)) hx hb dX5_counted_103 (by decide) ?_
      refine lv_goto (tgt := 114) hx hb dX5_counted_104 (by decide) ?_
      exact W.iret (v := (-1)) hx hb hr (fun t ht hW => eLI hS ht (by rw [hq])) hS.2.2 dX5_counted_114
  replace hq := hq.trans (if_neg c_5)
  by_cases c_7 : w = (nI 5)
  · have hq := hq.trans (if_pos c_7)
    refine lv_tableIn (off := 112) (tgt := 115) hx hb dX5_counted_3 (by rw [c_7]; decide) (by rw [c_7]; decide) (by rw [c_7]; decide +kernel) (by decide) ?_
    refine lv_aload_n hx hb dX5_counted_115 rfl (lv_at hl 1 rfl) ?_
    refine va_get (D := Γ.1) (ci := 5) (v := .ref (a 1)) (C := RX5) (T := TX5) (N := 10) hx hb hts hi5 hown hK hP 0 rfl rfl 0 (by decide) kf7 (fun _ h9 => h9) rfl dX5_counted_116 ?_
    refine lv_bipush (v := (nI 27)) hx hb dX5_counted_119 (by decide) ?_
    refine va_iald_n (f := ms) hx hb hK hP 1 0 rfl rfl (by omega) (Nat.le_of_ble_eq_true rfl) dX5_counted_121 ?_
    refine lv_if_ne (tgt := 129) hx hb dX5_counted_122 (by decide) (fun c_8 => ?_) (fun c_8 => ?_)
    · have hq := hq.trans (if_neg c_8)
      refine lv_aload_n hx hb dX5_counted_129 rfl (lv_at hl 1 rfl) ?_
      refine va_get (D := Γ.1) (ci := 5) (v := .ref (a 1)) (C := RX5) (T := TX5) (N := 10) hx hb hts hi5 hown hK hP 0 rfl rfl 0 (by decide) kf7 (fun _ h9 => h9) rfl dX5_counted_130 ?_
      refine lv_bipush (v := (nI 30)) hx hb dX5_counted_133 (by decide) ?_
      refine va_iald_n (f := ms) hx hb hK hP 1 0 rfl rfl (by omega) (Nat.le_of_ble_eq_true rfl) dX5_counted_135 ?_
      exact W.iret (v := (ms 30)) hx hb hr (fun t ht hW => eLI hS ht (by rw [hq])) hS.2.2 dX5_counted_136
    · have hq := hq.trans (if_pos c_8)
      refine lv_iconst (v := (-1)) hx hb dX5_counted_125 (by decide) ?_
      refine lv_goto (tgt := 136) hx hb dX5_counted_126 (by decide) ?_
      exact W.iret (v := (-1)) hx hb hr (fun t ht hW => eLI hS ht (by rw [hq])) hS.2.2 dX5_counted_136
  replace hq := hq.trans (if_neg c_7)
  by_cases c_9 : w = (nI 6)
  · have hq := hq.trans (if_pos c_9)
    refine lv_tableIn (off := 134) (tgt := 137) hx hb dX5_counted_3 (by rw [c_9]; decide) (by rw [c_9]; decide) (by rw [c_9]; decide +kernel) (by decide) ?_
    refine lv_aload_n hx hb dX5_counted_137 rfl (lv_at hl 1 rfl) ?_
    refine lv_iconst (v := (nI 0)) hx hb dX5_counted_138 (by decide) ?_
    refine cLI (va_runV (As := [.int (nI 0)]) (rest := []) ⟨hx, hb, hml, hown, hts⟩ ((kX5_shares l Γ a ms mt mc md m0 m1 m2 m3 m4 m5 (0) (by first | assumption | omega)) _) (cwV 1 hts gX5_counted_X5_shares rfl rfl rfl (by decide +kernel) ⟨Nat.le_of_ble_eq_true rfl, Nat.le_of_ble_eq_true rfl⟩) ⟨wPre_blind, va_recv hK hP (ci := 5) (q0 := 0) rfl rfl, wPre_mk hP hD hK hS hA hAB hAm [0] rfl rfl⟩ rfl rfl hl.1 rfl (lv_room (Nat.le_of_ble_eq_true rfl)) dX5_counted_139 ⟨Nat.zero_le _, Nat.zero_le _⟩) hP hS hA (fun H locs hP hS => ?_)
    refine cLI (va_runS (As := [.int (fX5_shares ms (0))]) (rest := []) ⟨hx, hb, hml, hown, hts⟩ ((kX5_bits l Γ (fX5_shares ms (0))) _) (va_cwS 1 hts gX5_counted_X5_bits rfl rfl rfl (by decide +kernel) ⟨Nat.le_of_ble_eq_true rfl, Nat.le_of_ble_eq_true rfl⟩) ⟨wPre_blind, wPre_mk hP hD hK hS hA hAB hAm [] rfl rfl⟩ rfl rfl hl.1 rfl (lv_room (Nat.le_of_ble_eq_true rfl)) dX5_counted_142 ⟨Nat.zero_le _, Nat.zero_le _⟩) hP hS hA (fun H locs hP hS => ?_)
    exact W.iret (v := (fX5_bits (fX5_shares ms (0)))) hx hb hr (fun t ht hW => eLI hS ht (by rw [hq])) hS.2.2 dX5_counted_145
  replace hq := hq.trans (if_neg c_9)
  by_cases c_10 : w = (nI 7)
  · have hq := hq.trans (if_pos c_10)
    refine lv_tableIn (off := 143) (tgt := 146) hx hb dX5_counted_3 (by rw [c_10]; decide) (by rw [c_10]; decide) (by rw [c_10]; decide +kernel) (by decide) ?_
    refine lv_iconst (v := (nI 0)) hx hb dX5_counted_146 (by decide) ?_
    refine lv_istore_n (lv' := [(3, .int (nI 0)), (2, .int (nI 0)), (0, .ref (a 0)), (1, .int w)]) hx hb dX5_counted_147 rfl hl (by decide) rfl (fun ls hl => ?_)
    refine wl (pc := 148) (σ := Nat × Int32) (fun n (i148, x2_148) H locs ls => (i148 + n = 8) ∧ (fX5_counted ms m0 w) = fX5_counted_L148 ms n i148 x2_148 ∧ va_P Γ.1 vwCl (wcat [moB Γ a ms mt mc md m0 m1 m2 m3 m4 m5]) H ∧ va_S A s.heap H locs ∧ lv_has ls 4 [(3, .int (nI i148)), (2, .int x2_148), (0, .ref (a 0)), (1, .int w)]) ?_ ?_ (8) (0, (nI 0)) _ _ _ ⟨by omega, hq, hP, hS, lv_sub hl [0, 1, 2, 3] rfl⟩
    · intro ⟨i148, x2_148⟩ H locs ls h
      obtain ⟨hn148, hq, hP, hS, hl⟩ := h
      try dsimp only at hn148 hq hP hl
      replace hq : (fX5_counted ms m0 w) = ((x2_148 / (nI 2))) := hq
      refine lv_iload_n hx hb dX5_counted_148 rfl (lv_at hl 0 rfl) ?_
      refine lv_bipush (v := (nI 8)) hx hb dX5_counted_149 (by decide) ?_
      refine lv_icmp_ge (tgt := 175) hx hb dX5_counted_151 (by decide) (fun c_151 => ?_) (fun c_151 => absurd (nI_le (by omega) (by omega)) c_151)
      refine lv_iload_n hx hb dX5_counted_175 rfl (lv_at hl 1 rfl) ?_
      refine lv_iconst (v := (nI 2)) hx hb dX5_counted_176 (by decide) ?_
      refine lv_idiv hx hb dX5_counted_177 (by decide) ?_
      exact W.iret (v := (x2_148 / (nI 2))) hx hb hr (fun t ht hW => eLI hS ht (by rw [hq])) hS.2.2 dX5_counted_178
    · intro n148 ih148 ⟨i148, x2_148⟩ H locs ls h
      obtain ⟨hn148, hq, hP, hS, hl⟩ := h
      try dsimp only at hn148 hq hP hl
      replace hq : (fX5_counted ms m0 w) = (fX5_counted_L148 ms n148 (i148 + 1) (x2_148 + (fX5_bits (ms (11 + i148))))) := hq
      refine lv_iload_n hx hb dX5_counted_148 rfl (lv_at hl 0 rfl) ?_
      refine lv_bipush (v := (nI 8)) hx hb dX5_counted_149 (by decide) ?_
      refine lv_icmp_ge (tgt := 175) hx hb dX5_counted_151 (by decide) (fun c_151 => absurd c_151 (nI_ge (by omega) (by omega))) (fun c_151 => ?_)
      refine lv_iload_n hx hb dX5_counted_154 rfl (lv_at hl 1 rfl) ?_
      refine lv_aload_n hx hb dX5_counted_155 rfl (lv_at hl 2 rfl) ?_
      refine va_get (D := Γ.1) (ci := 5) (v := .ref (a 1)) (C := RX5) (T := TX5) (N := 10) hx hb hts hi5 hown hK hP 0 rfl rfl 0 (by decide) kf7 (fun _ h9 => h9) rfl dX5_counted_156 ?_
      refine lv_bipush (v := (nI 11)) hx hb dX5_counted_159 (by decide) ?_
      refine lv_iload_n hx hb dX5_counted_161 rfl (lv_at hl 0 rfl) ?_
      refine lv_iadd hx hb dX5_counted_162 ?_
      refine lv_eqi (y := (nI (11 + i148))) (nI_add _ _) ?_
      refine va_iald_n (f := ms) hx hb hK hP 1 0 rfl rfl (by omega) (Nat.le_of_ble_eq_true rfl) dX5_counted_163 ?_
      refine cLI (va_runS (As := [.int (ms (11 + i148))]) (rest := [.int x2_148]) ⟨hx, hb, hml, hown, hts⟩ ((kX5_bits l Γ (ms (11 + i148))) _) (va_cwS 1 hts gX5_counted_X5_bits rfl rfl rfl (by decide +kernel) ⟨Nat.le_of_ble_eq_true rfl, Nat.le_of_ble_eq_true rfl⟩) ⟨wPre_blind, wPre_mk hP hD hK hS hA hAB hAm [] rfl rfl⟩ rfl rfl hl.1 rfl (lv_room (Nat.le_of_ble_eq_true rfl)) dX5_counted_164 ⟨Nat.zero_le _, Nat.zero_le _⟩) hP hS hA (fun H locs hP hS => ?_)
      refine lv_iadd hx hb dX5_counted_167 ?_
      refine lv_istore_n (lv' := [(2, .int (x2_148 + (fX5_bits (ms (11 + i148))))), (3, .int (nI i148)), (0, .ref (a 0)), (1, .int w)]) hx hb dX5_counted_168 rfl hl (by decide) rfl (fun ls hl => ?_)
      refine lv_iinc (v := (nI (i148 + 1))) (lv' := [(3, .int (nI (i148 + 1))), (2, .int (x2_148 + (fX5_bits (ms (11 + i148))))), (0, .ref (a 0)), (1, .int w)]) hx hb dX5_counted_169 hl (k := 1) rfl (nI_1 _) (by decide) rfl (fun ls hl => ?_)
      refine lv_goto (tgt := 148) hx hb dX5_counted_172 (by decide) ?_
      exact ih148 ((i148 + 1), (x2_148 + (fX5_bits (ms (11 + i148))))) H locs ls ⟨by omega, hq, hP, hS, lv_sub hl [0, 1, 2, 3] rfl⟩
  replace hq := hq.trans (if_neg c_10)
  by_cases c_11 : w = (nI 8)
  · have hq := hq.trans (if_pos c_11)
    refine lv_tableIn (off := 176) (tgt := 179) hx hb dX5_counted_3 (by rw [c_11]; decide) (by rw [c_11]; decide) (by rw [c_11]; decide +kernel) (by decide) ?_
    refine lv_aload_n hx hb dX5_counted_179 rfl (lv_at hl 1 rfl) ?_
    refine va_get (D := Γ.1) (ci := 5) (v := .ref (a 1)) (C := RX5) (T := TX5) (N := 10) hx hb hts hi5 hown hK hP 0 rfl rfl 0 (by decide) kf7 (fun _ h9 => h9) rfl dX5_counted_180 ?_
    refine lv_bipush (v := (nI 56)) hx hb dX5_counted_183 (by decide) ?_
    refine va_iald_n (f := ms) hx hb hK hP 1 0 rfl rfl (by omega) (Nat.le_of_ble_eq_true rfl) dX5_counted_185 ?_
    exact W.iret (v := (ms 56)) hx hb hr (fun t ht hW => eLI hS ht (by rw [hq])) hS.2.2 dX5_counted_186
  replace hq := hq.trans (if_neg c_11)
  by_cases c_12 : w = (nI 9)
  · have hq := hq.trans (if_pos c_12)
    refine lv_tableIn (off := 184) (tgt := 187) hx hb dX5_counted_3 (by rw [c_12]; decide) (by rw [c_12]; decide) (by rw [c_12]; decide +kernel) (by decide) ?_
    refine lv_aload_n hx hb dX5_counted_187 rfl (lv_at hl 1 rfl) ?_
    refine va_get (D := Γ.1) (ci := 5) (v := .ref (a 1)) (C := RX5) (T := TX5) (N := 10) hx hb hts hi5 hown hK hP 0 rfl rfl 0 (by decide) kf7 (fun _ h9 => h9) rfl dX5_counted_188 ?_
    refine lv_bipush (v := (nI 57)) hx hb dX5_counted_191 (by decide) ?_
    refine va_iald_n (f := ms) hx hb hK hP 1 0 rfl rfl (by omega) (Nat.le_of_ble_eq_true rfl) dX5_counted_193 ?_
    exact W.iret (v := (ms 57)) hx hb hr (fun t ht hW => eLI hS ht (by rw [hq])) hS.2.2 dX5_counted_194
  replace hq := hq.trans (if_neg c_12)
  by_cases c_13 : w = (nI 10)
  · have hq := hq.trans (if_pos c_13)
    refine lv_tableIn (off := 192) (tgt := 195) hx hb dX5_counted_3 (by rw [c_13]; decide) (by rw [c_13]; decide) (by rw [c_13]; decide +kernel) (by decide) ?_
    refine lv_aload_n hx hb dX5_counted_195 rfl (lv_at hl 1 rfl) ?_
    refine va_get (D := Γ.1) (ci := 5) (v := .ref (a 1)) (C := RX5) (T := TX5) (N := 10) hx hb hts hi5 hown hK hP 0 rfl rfl 0 (by decide) kf7 (fun _ h9 => h9) rfl dX5_counted_196 ?_
    refine lv_iconst (v := (nI 0)) hx hb dX5_counted_199 (by decide) ?_
    refine va_iald_n (f := ms) hx hb hK hP 1 0 rfl rfl (by omega) (Nat.le_of_ble_eq_true rfl) dX5_counted_200 ?_
    exact W.iret (v := (ms 0)) hx hb hr (fun t ht hW => eLI hS ht (by rw [hq])) hS.2.2 dX5_counted_201
  replace hq := hq.trans (if_neg c_13)
  have tc_1 := lv_neT (a := 0) c_1 (by decide)
  have tc_2 := lv_neT (a := 1) c_2 (by decide)
  have tc_3 := lv_neT (a := 2) c_3 (by decide)
  have tc_4 := lv_neT (a := 3) c_4 (by decide)
  have tc_5 := lv_neT (a := 4) c_5 (by decide)
  have tc_7 := lv_neT (a := 5) c_7 (by decide)
  have tc_9 := lv_neT (a := 6) c_9 (by decide)
  have tc_10 := lv_neT (a := 7) c_10 (by decide)
  have tc_11 := lv_neT (a := 8) c_11 (by decide)
  have tc_12 := lv_neT (a := 9) c_12 (by decide)
  have tc_13 := lv_neT (a := 10) c_13 (by decide)
  refine lv_tableOut (tgt := 202) hx hb dX5_counted_3 (by omega) (by decide) ?_
  refine lv_aload_n hx hb dX5_counted_202 rfl (lv_at hl 1 rfl) ?_
  refine va_get (D := Γ.1) (ci := 5) (v := .int m0) (C := RX5) (T := TX5) (N := 10) hx hb hts hi5 hown hK hP 0 rfl rfl 1 (by decide) kf27 (fun _ h9 => h9) rfl dX5_counted_203 ?_
  exact W.iret (v := m0) hx hb hr (fun t ht hW => eLI hS ht (by rw [hq])) hS.2.2 dX5_counted_206
def fX5_count (ms : (Nat → Int32)) (m0 : Int32) (w : Int32) : Int32 × Int32 := (if (gsR (fX5_in w (nI 0) (nI 11)) (nI 1)) = 0 then ((nI 0), (gsT (fX5_in w (nI 0) (nI 11)) (nI 1))) else ((fX5_counted ms m0 w), (gsT (fX5_in w (nI 0) (nI 11)) (nI 1))))
set_option maxHeartbeats 4000000 in
set_option maxRecDepth 100000 in
theorem kX5_count (l : Launch) (Γ : wG) (a : Nat → Nat) (ms : (Nat → Int32)) (mt : (Nat → Int32)) (mc : (Nat → Int32)) (md : (Nat → Int32)) (m0 : Int32) (m1 : Int32) (m2 : Int32) (m3 : Int32) (m4 : Int32) (m5 : Int32) (w : Int32) : MI l Γ yX5_count wsX5_count ({ frames := 2, cells := 0, slots := 0, locals := 46 }) [.ref (a 0), .int w] [moB Γ a ms mt mc md m0 m1 m2 m3 m4 m5] [moB Γ a ms mt mc md m0 (fX5_count ms m0 w).2 m2 m3 m4 m5] (fX5_count ms m0 w).1 := by
  intro sz
  refine Met.ofW (cc := cX5_count) (maxL := 2) (ret := (some .int)) (by decide) rfl ?_
  intro p e s m args below meth c s₁ B hml hv
  obtain ⟨rfl, hsz, hP, hK, hD0, hAm⟩ := hv
  have hx := B.exec
  have hb := B.bytes
  have hr := B.returns
  have hts := atoms_spec (ws := wsX5_count) B.pre
  have hown : s.vm.findClass RX5 = some m.cls := findClass_of_methodNamed B.named
  have hlocks := B.notSynchronized
  subst hsz
  have hD := hD0.self (sz := s.heap.size)
  generalize hAe : va_A (wcat [moB Γ a ms mt mc md m0 m1 m2 m3 m4 m5]) s.heap.size = A at hD hAm ⊢
  have hA : ∀ q : Nat, s.heap.size ≤ q → A q := fun q h => by rw [← hAe]; exact Or.inr h
  have hAB : ∀ q : Nat, A q → A q := fun _ h => h
  have hS : va_S A s.heap s.heap [] := va_S.rf
  have hl := lv_entry ([.ref (a 0), .int w]) (n := 2) (Nat.le_of_ble_eq_true rfl)
  rw [lg_entry_eq]
  generalize (lg_sl ([.ref (a 0), .int w]) ++ List.replicate (2 - (lg_sl ([.ref (a 0), .int w])).length) Slot.unset).toArray = ls at hl ⊢
  have hl : lv_has ls 2 [(0, .ref (a 0)), (1, .int w)] := hl
  have hq : (fX5_count ms m0 w) = (if (gsR (fX5_in w (nI 0) (nI 11)) (nI 1)) = 0 then ((nI 0), (gsT (fX5_in w (nI 0) (nI 11)) (nI 1))) else ((fX5_counted ms m0 w), (gsT (fX5_in w (nI 0) (nI 11)) (nI 1)))) := rfl
  refine lv_aload_n hx hb dX5_count_0 rfl (lv_at hl 0 rfl) ?_
  refine lv_iload_n hx hb dX5_count_1 rfl (lv_at hl 1 rfl) ?_
  refine lv_iconst (v := (nI 0)) hx hb dX5_count_2 (by decide) ?_
  refine lv_bipush (v := (nI 11)) hx hb dX5_count_3 (by decide) ?_
  refine cLI (va_runS (As := [.int w, .int (nI 0), .int (nI 11)]) (rest := [.ref (a 0)]) ⟨hx, hb, hml, hown, hts⟩ ((kX5_in l Γ w (nI 0) (nI 11)) _) (va_cwS 3 hts gX5_count_X5_in rfl rfl rfl (by decide +kernel) ⟨Nat.le_of_ble_eq_true rfl, Nat.le_of_ble_eq_true rfl⟩) ⟨wPre_blind, wPre_mk hP hD hK hS hA hAB hAm [] rfl rfl⟩ rfl rfl hl.1 rfl (lv_room (Nat.le_of_ble_eq_true rfl)) dX5_count_5 ⟨Nat.zero_le _, Nat.zero_le _⟩) hP hS hA (fun H locs hP hS => ?_)
  refine lv_iconst (v := (nI 1)) hx hb dX5_count_8 (by decide) ?_
  refine cMI (bc' := [moB Γ a ms mt mc md m0 (gsT (fX5_in w (nI 0) (nI 11)) (nI 1)) m2 m3 m4 m5]) (va_runV (As := [.int (fX5_in w (nI 0) (nI 11)), .int (nI 1)]) (rest := []) ⟨hx, hb, hml, hown, hts⟩ ((nX5_goes l Γ a ms mt mc md m0 m1 m2 m3 m4 m5 (fX5_in w (nI 0) (nI 11)) (nI 1)) _) (cwV 2 hts gX5_count_X5_goes rfl rfl rfl (by decide +kernel) ⟨Nat.le_of_ble_eq_true rfl, Nat.le_of_ble_eq_true rfl⟩) ⟨wPre_blind, va_recv hK hP (ci := 5) (q0 := 0) rfl rfl, wPre_mk hP hD hK hS hA hAB hAm [0] rfl rfl⟩ rfl rfl hl.1 rfl (lv_room (Nat.le_of_ble_eq_true rfl)) dX5_count_9 ⟨Nat.zero_le _, Nat.zero_le _⟩) hP hD hS hA [0] rfl rfl (bs' := [moB Γ a ms mt mc md m0 (gsT (fX5_in w (nI 0) (nI 11)) (nI 1)) m2 m3 m4 m5]) rfl (fun H locs hP hD hS => ?_)
  refine lv_if_eq (tgt := 23) hx hb dX5_count_12 (by decide) (fun c_1 => ?_) (fun c_1 => ?_)
  · have hq := hq.trans (if_pos c_1)
    refine lv_iconst (v := (nI 0)) hx hb dX5_count_23 (by decide) ?_
    exact W.iret (v := (nI 0)) hx hb hr (fun t ht hW => eMI (by rw [hq]; exact hP) hS ht (by rw [hq])) hS.2.2 dX5_count_24
  · have hq := hq.trans (if_neg c_1)
    refine lv_aload_n hx hb dX5_count_15 rfl (lv_at hl 0 rfl) ?_
    refine lv_iload_n hx hb dX5_count_16 rfl (lv_at hl 1 rfl) ?_
    refine cLI (va_runV (As := [.int w]) (rest := []) ⟨hx, hb, hml, hown, hts⟩ ((kX5_counted l Γ a ms mt mc md m0 (gsT (fX5_in w (nI 0) (nI 11)) (nI 1)) m2 m3 m4 m5 w) _) (cwV 1 hts gX5_count_X5_counted rfl rfl rfl (by decide +kernel) ⟨Nat.le_of_ble_eq_true rfl, Nat.le_of_ble_eq_true rfl⟩) ⟨wPre_blind, va_recv hK hP (ci := 5) (q0 := 0) rfl rfl, wPre_mk hP hD hK hS hA hAB hAm [0] rfl rfl⟩ rfl rfl hl.1 rfl (lv_room (Nat.le_of_ble_eq_true rfl)) dX5_count_17 ⟨Nat.zero_le _, Nat.zero_le _⟩) hP hS hA (fun H locs hP hS => ?_)
    refine lv_goto (tgt := 24) hx hb dX5_count_20 (by decide) ?_
    exact W.iret (v := (fX5_counted ms m0 w)) hx hb hr (fun t ht hW => eMI (by rw [hq]; exact hP) hS ht (by rw [hq])) hS.2.2 dX5_count_24
def fX5_why (ms : (Nat → Int32)) (g : Int32) : Int32 × Int32 := (if (gsR (fX5_isGroup ms g) (nI 1)) = 0 then ((nI 0), (gsT (fX5_isGroup ms g) (nI 1))) else ((fX5_reason ms (0) g (nI 0)), (gsT (fX5_isGroup ms g) (nI 1))))
set_option maxHeartbeats 4000000 in
set_option maxRecDepth 100000 in
theorem kX5_why (l : Launch) (Γ : wG) (a : Nat → Nat) (ms : (Nat → Int32)) (mt : (Nat → Int32)) (mc : (Nat → Int32)) (md : (Nat → Int32)) (m0 : Int32) (m1 : Int32) (m2 : Int32) (m3 : Int32) (m4 : Int32) (m5 : Int32) (g : Int32) : MI l Γ yX5_why wsX5_why ({ frames := 4, cells := 0, slots := 0, locals := 97 }) [.ref (a 0), .int g] [moB Γ a ms mt mc md m0 m1 m2 m3 m4 m5] [moB Γ a ms mt mc md m0 (fX5_why ms g).2 m2 m3 m4 m5] (fX5_why ms g).1 := by
  intro sz
  refine Met.ofW (cc := cX5_why) (maxL := 2) (ret := (some .int)) (by decide) rfl ?_
  intro p e s m args below meth c s₁ B hml hv
  obtain ⟨rfl, hsz, hP, hK, hD0, hAm⟩ := hv
  have hx := B.exec
  have hb := B.bytes
  have hr := B.returns
  have hts := atoms_spec (ws := wsX5_why) B.pre
  have hown : s.vm.findClass RX5 = some m.cls := findClass_of_methodNamed B.named
  have hlocks := B.notSynchronized
  subst hsz
  have hD := hD0.self (sz := s.heap.size)
  generalize hAe : va_A (wcat [moB Γ a ms mt mc md m0 m1 m2 m3 m4 m5]) s.heap.size = A at hD hAm ⊢
  have hA : ∀ q : Nat, s.heap.size ≤ q → A q := fun q h => by rw [← hAe]; exact Or.inr h
  have hAB : ∀ q : Nat, A q → A q := fun _ h => h
  have hS : va_S A s.heap s.heap [] := va_S.rf
  have hl := lv_entry ([.ref (a 0), .int g]) (n := 2) (Nat.le_of_ble_eq_true rfl)
  rw [lg_entry_eq]
  generalize (lg_sl ([.ref (a 0), .int g]) ++ List.replicate (2 - (lg_sl ([.ref (a 0), .int g])).length) Slot.unset).toArray = ls at hl ⊢
  have hl : lv_has ls 2 [(0, .ref (a 0)), (1, .int g)] := hl
  have hq : (fX5_why ms g) = (if (gsR (fX5_isGroup ms g) (nI 1)) = 0 then ((nI 0), (gsT (fX5_isGroup ms g) (nI 1))) else ((fX5_reason ms (0) g (nI 0)), (gsT (fX5_isGroup ms g) (nI 1)))) := rfl
  refine lv_aload_n hx hb dX5_why_0 rfl (lv_at hl 0 rfl) ?_
  refine lv_aload_n hx hb dX5_why_1 rfl (lv_at hl 0 rfl) ?_
  refine lv_iload_n hx hb dX5_why_2 rfl (lv_at hl 1 rfl) ?_
  refine cLI (va_runV (As := [.int g]) (rest := [.ref (a 0)]) ⟨hx, hb, hml, hown, hts⟩ ((kX5_isGroup l Γ a ms mt mc md m0 m1 m2 m3 m4 m5 g) _) (cwV 1 hts gX5_why_X5_isGroup rfl rfl rfl (by decide +kernel) ⟨Nat.le_of_ble_eq_true rfl, Nat.le_of_ble_eq_true rfl⟩) ⟨wPre_blind, va_recv hK hP (ci := 5) (q0 := 0) rfl rfl, wPre_mk hP hD hK hS hA hAB hAm [0] rfl rfl⟩ rfl rfl hl.1 rfl (lv_room (Nat.le_of_ble_eq_true rfl)) dX5_why_3 ⟨Nat.zero_le _, Nat.zero_le _⟩) hP hS hA (fun H locs hP hS => ?_)
  refine lv_iconst (v := (nI 1)) hx hb dX5_why_6 (by decide) ?_
  refine cMI (bc' := [moB Γ a ms mt mc md m0 (gsT (fX5_isGroup ms g) (nI 1)) m2 m3 m4 m5]) (va_runV (As := [.int (fX5_isGroup ms g), .int (nI 1)]) (rest := []) ⟨hx, hb, hml, hown, hts⟩ ((nX5_goes l Γ a ms mt mc md m0 m1 m2 m3 m4 m5 (fX5_isGroup ms g) (nI 1)) _) (cwV 2 hts gX5_why_X5_goes rfl rfl rfl (by decide +kernel) ⟨Nat.le_of_ble_eq_true rfl, Nat.le_of_ble_eq_true rfl⟩) ⟨wPre_blind, va_recv hK hP (ci := 5) (q0 := 0) rfl rfl, wPre_mk hP hD hK hS hA hAB hAm [0] rfl rfl⟩ rfl rfl hl.1 rfl (lv_room (Nat.le_of_ble_eq_true rfl)) dX5_why_7 ⟨Nat.zero_le _, Nat.zero_le _⟩) hP hD hS hA [0] rfl rfl (bs' := [moB Γ a ms mt mc md m0 (gsT (fX5_isGroup ms g) (nI 1)) m2 m3 m4 m5]) rfl (fun H locs hP hD hS => ?_)
  refine lv_if_eq (tgt := 23) hx hb dX5_why_10 (by decide) (fun c_1 => ?_) (fun c_1 => ?_)
  · have hq := hq.trans (if_pos c_1)
    refine lv_iconst (v := (nI 0)) hx hb dX5_why_23 (by decide) ?_
    exact W.iret (v := (nI 0)) hx hb hr (fun t ht hW => eMI (by rw [hq]; exact hP) hS ht (by rw [hq])) hS.2.2 dX5_why_24
  · have hq := hq.trans (if_neg c_1)
    refine lv_aload_n hx hb dX5_why_13 rfl (lv_at hl 0 rfl) ?_
    refine lv_iconst (v := (nI 0)) hx hb dX5_why_14 (by decide) ?_
    refine lv_iload_n hx hb dX5_why_15 rfl (lv_at hl 1 rfl) ?_
    refine lv_iconst (v := (nI 0)) hx hb dX5_why_16 (by decide) ?_
    refine cLI (va_runV (As := [.int (nI 0), .int g, .int (nI 0)]) (rest := []) ⟨hx, hb, hml, hown, hts⟩ ((kX5_reason l Γ a ms mt mc md m0 (gsT (fX5_isGroup ms g) (nI 1)) m2 m3 m4 m5 (0) g (nI 0) (by first | assumption | omega)) _) (cwV 3 hts gX5_why_X5_reason rfl rfl rfl (by decide +kernel) ⟨Nat.le_of_ble_eq_true rfl, Nat.le_of_ble_eq_true rfl⟩) ⟨wPre_blind, va_recv hK hP (ci := 5) (q0 := 0) rfl rfl, wPre_mk hP hD hK hS hA hAB hAm [0] rfl rfl⟩ rfl rfl hl.1 rfl (lv_room (Nat.le_of_ble_eq_true rfl)) dX5_why_17 ⟨Nat.zero_le _, Nat.zero_le _⟩) hP hS hA (fun H locs hP hS => ?_)
    refine lv_goto (tgt := 24) hx hb dX5_why_20 (by decide) ?_
    exact W.iret (v := (fX5_reason ms (0) g (nI 0))) hx hb hr (fun t ht hW => eMI (by rw [hq]; exact hP) hS ht (by rw [hq])) hS.2.2 dX5_why_24
def fX5_told (ms : (Nat → Int32)) (g : Int32) : Int32 × Int32 := (if (gsR (fX5_in g (nI 0) (nI 255)) (nI 1)) = 0 then ((nI 0), (gsT (fX5_in g (nI 0) (nI 255)) (nI 1))) else ((fX5_tells ms g), (gsT (fX5_in g (nI 0) (nI 255)) (nI 1))))
set_option maxHeartbeats 4000000 in
set_option maxRecDepth 100000 in
theorem kX5_told (l : Launch) (Γ : wG) (a : Nat → Nat) (ms : (Nat → Int32)) (mt : (Nat → Int32)) (mc : (Nat → Int32)) (md : (Nat → Int32)) (m0 : Int32) (m1 : Int32) (m2 : Int32) (m3 : Int32) (m4 : Int32) (m5 : Int32) (g : Int32) : MI l Γ yX5_told wsX5_told ({ frames := 4, cells := 0, slots := 0, locals := 95 }) [.ref (a 0), .int g] [moB Γ a ms mt mc md m0 m1 m2 m3 m4 m5] [moB Γ a ms mt mc md m0 (fX5_told ms g).2 m2 m3 m4 m5] (fX5_told ms g).1 := by
  intro sz
  refine Met.ofW (cc := cX5_told) (maxL := 2) (ret := (some .int)) (by decide) rfl ?_
  intro p e s m args below meth c s₁ B hml hv
  obtain ⟨rfl, hsz, hP, hK, hD0, hAm⟩ := hv
  have hx := B.exec
  have hb := B.bytes
  have hr := B.returns
  have hts := atoms_spec (ws := wsX5_told) B.pre
  have hown : s.vm.findClass RX5 = some m.cls := findClass_of_methodNamed B.named
  have hlocks := B.notSynchronized
  subst hsz
  have hD := hD0.self (sz := s.heap.size)
  generalize hAe : va_A (wcat [moB Γ a ms mt mc md m0 m1 m2 m3 m4 m5]) s.heap.size = A at hD hAm ⊢
  have hA : ∀ q : Nat, s.heap.size ≤ q → A q := fun q h => by rw [← hAe]; exact Or.inr h
  have hAB : ∀ q : Nat, A q → A q := fun _ h => h
  have hS : va_S A s.heap s.heap [] := va_S.rf
  have hl := lv_entry ([.ref (a 0), .int g]) (n := 2) (Nat.le_of_ble_eq_true rfl)
  rw [lg_entry_eq]
  generalize (lg_sl ([.ref (a 0), .int g]) ++ List.replicate (2 - (lg_sl ([.ref (a 0), .int g])).length) Slot.unset).toArray = ls at hl ⊢
  have hl : lv_has ls 2 [(0, .ref (a 0)), (1, .int g)] := hl
  have hq : (fX5_told ms g) = (if (gsR (fX5_in g (nI 0) (nI 255)) (nI 1)) = 0 then ((nI 0), (gsT (fX5_in g (nI 0) (nI 255)) (nI 1))) else ((fX5_tells ms g), (gsT (fX5_in g (nI 0) (nI 255)) (nI 1)))) := rfl
  refine lv_aload_n hx hb dX5_told_0 rfl (lv_at hl 0 rfl) ?_
  refine lv_iload_n hx hb dX5_told_1 rfl (lv_at hl 1 rfl) ?_
  refine lv_iconst (v := (nI 0)) hx hb dX5_told_2 (by decide) ?_
  refine lv_sipush (v := (nI 255)) hx hb dX5_told_3 (by decide) ?_
  refine cLI (va_runS (As := [.int g, .int (nI 0), .int (nI 255)]) (rest := [.ref (a 0)]) ⟨hx, hb, hml, hown, hts⟩ ((kX5_in l Γ g (nI 0) (nI 255)) _) (va_cwS 3 hts gX5_told_X5_in rfl rfl rfl (by decide +kernel) ⟨Nat.le_of_ble_eq_true rfl, Nat.le_of_ble_eq_true rfl⟩) ⟨wPre_blind, wPre_mk hP hD hK hS hA hAB hAm [] rfl rfl⟩ rfl rfl hl.1 rfl (lv_room (Nat.le_of_ble_eq_true rfl)) dX5_told_6 ⟨Nat.zero_le _, Nat.zero_le _⟩) hP hS hA (fun H locs hP hS => ?_)
  refine lv_iconst (v := (nI 1)) hx hb dX5_told_9 (by decide) ?_
  refine cMI (bc' := [moB Γ a ms mt mc md m0 (gsT (fX5_in g (nI 0) (nI 255)) (nI 1)) m2 m3 m4 m5]) (va_runV (As := [.int (fX5_in g (nI 0) (nI 255)), .int (nI 1)]) (rest := []) ⟨hx, hb, hml, hown, hts⟩ ((nX5_goes l Γ a ms mt mc md m0 m1 m2 m3 m4 m5 (fX5_in g (nI 0) (nI 255)) (nI 1)) _) (cwV 2 hts gX5_told_X5_goes rfl rfl rfl (by decide +kernel) ⟨Nat.le_of_ble_eq_true rfl, Nat.le_of_ble_eq_true rfl⟩) ⟨wPre_blind, va_recv hK hP (ci := 5) (q0 := 0) rfl rfl, wPre_mk hP hD hK hS hA hAB hAm [0] rfl rfl⟩ rfl rfl hl.1 rfl (lv_room (Nat.le_of_ble_eq_true rfl)) dX5_told_10 ⟨Nat.zero_le _, Nat.zero_le _⟩) hP hD hS hA [0] rfl rfl (bs' := [moB Γ a ms mt mc md m0 (gsT (fX5_in g (nI 0) (nI 255)) (nI 1)) m2 m3 m4 m5]) rfl (fun H locs hP hD hS => ?_)
  refine lv_if_eq (tgt := 24) hx hb dX5_told_13 (by decide) (fun c_1 => ?_) (fun c_1 => ?_)
  · have hq := hq.trans (if_pos c_1)
    refine lv_iconst (v := (nI 0)) hx hb dX5_told_24 (by decide) ?_
    exact W.iret (v := (nI 0)) hx hb hr (fun t ht hW => eMI (by rw [hq]; exact hP) hS ht (by rw [hq])) hS.2.2 dX5_told_25
  · have hq := hq.trans (if_neg c_1)
    refine lv_aload_n hx hb dX5_told_16 rfl (lv_at hl 0 rfl) ?_
    refine lv_iload_n hx hb dX5_told_17 rfl (lv_at hl 1 rfl) ?_
    refine cLI (va_runV (As := [.int g]) (rest := []) ⟨hx, hb, hml, hown, hts⟩ ((kX5_tells l Γ a ms mt mc md m0 (gsT (fX5_in g (nI 0) (nI 255)) (nI 1)) m2 m3 m4 m5 g) _) (cwV 1 hts gX5_told_X5_tells rfl rfl rfl (by decide +kernel) ⟨Nat.le_of_ble_eq_true rfl, Nat.le_of_ble_eq_true rfl⟩) ⟨wPre_blind, va_recv hK hP (ci := 5) (q0 := 0) rfl rfl, wPre_mk hP hD hK hS hA hAB hAm [0] rfl rfl⟩ rfl rfl hl.1 rfl (lv_room (Nat.le_of_ble_eq_true rfl)) dX5_told_18 ⟨Nat.zero_le _, Nat.zero_le _⟩) hP hS hA (fun H locs hP hS => ?_)
    refine lv_goto (tgt := 25) hx hb dX5_told_21 (by decide) ?_
    exact W.iret (v := (fX5_tells ms g)) hx hb hr (fun t ht hW => eMI (by rw [hq]; exact hP) hS ht (by rw [hq])) hS.2.2 dX5_told_25
def fX5_possible (ms : (Nat → Int32)) (g : Int32) : Int32 × Int32 := (if (gsR (fX5_in g (nI 0) (nI 255)) (nI 1)) = 0 then ((nI 0), (gsT (fX5_in g (nI 0) (nI 255)) (nI 1))) else ((fX5_keys ms g), (gsT (fX5_in g (nI 0) (nI 255)) (nI 1))))
set_option maxHeartbeats 4000000 in
set_option maxRecDepth 100000 in
theorem kX5_possible (l : Launch) (Γ : wG) (a : Nat → Nat) (ms : (Nat → Int32)) (mt : (Nat → Int32)) (mc : (Nat → Int32)) (md : (Nat → Int32)) (m0 : Int32) (m1 : Int32) (m2 : Int32) (m3 : Int32) (m4 : Int32) (m5 : Int32) (g : Int32) : MI l Γ yX5_possible wsX5_possible ({ frames := 3, cells := 0, slots := 0, locals := 75 }) [.ref (a 0), .int g] [moB Γ a ms mt mc md m0 m1 m2 m3 m4 m5] [moB Γ a ms mt mc md m0 (fX5_possible ms g).2 m2 m3 m4 m5] (fX5_possible ms g).1 := by
  intro sz
  refine Met.ofW (cc := cX5_possible) (maxL := 2) (ret := (some .int)) (by decide) rfl ?_
  intro p e s m args below meth c s₁ B hml hv
  obtain ⟨rfl, hsz, hP, hK, hD0, hAm⟩ := hv
  have hx := B.exec
  have hb := B.bytes
  have hr := B.returns
  have hts := atoms_spec (ws := wsX5_possible) B.pre
  have hown : s.vm.findClass RX5 = some m.cls := findClass_of_methodNamed B.named
  have hlocks := B.notSynchronized
  subst hsz
  have hD := hD0.self (sz := s.heap.size)
  generalize hAe : va_A (wcat [moB Γ a ms mt mc md m0 m1 m2 m3 m4 m5]) s.heap.size = A at hD hAm ⊢
  have hA : ∀ q : Nat, s.heap.size ≤ q → A q := fun q h => by rw [← hAe]; exact Or.inr h
  have hAB : ∀ q : Nat, A q → A q := fun _ h => h
  have hS : va_S A s.heap s.heap [] := va_S.rf
  have hl := lv_entry ([.ref (a 0), .int g]) (n := 2) (Nat.le_of_ble_eq_true rfl)
  rw [lg_entry_eq]
  generalize (lg_sl ([.ref (a 0), .int g]) ++ List.replicate (2 - (lg_sl ([.ref (a 0), .int g])).length) Slot.unset).toArray = ls at hl ⊢
  have hl : lv_has ls 2 [(0, .ref (a 0)), (1, .int g)] := hl
  have hq : (fX5_possible ms g) = (if (gsR (fX5_in g (nI 0) (nI 255)) (nI 1)) = 0 then ((nI 0), (gsT (fX5_in g (nI 0) (nI 255)) (nI 1))) else ((fX5_keys ms g), (gsT (fX5_in g (nI 0) (nI 255)) (nI 1)))) := rfl
  refine lv_aload_n hx hb dX5_possible_0 rfl (lv_at hl 0 rfl) ?_
  refine lv_iload_n hx hb dX5_possible_1 rfl (lv_at hl 1 rfl) ?_
  refine lv_iconst (v := (nI 0)) hx hb dX5_possible_2 (by decide) ?_
  refine lv_sipush (v := (nI 255)) hx hb dX5_possible_3 (by decide) ?_
  refine cLI (va_runS (As := [.int g, .int (nI 0), .int (nI 255)]) (rest := [.ref (a 0)]) ⟨hx, hb, hml, hown, hts⟩ ((kX5_in l Γ g (nI 0) (nI 255)) _) (va_cwS 3 hts gX5_possible_X5_in rfl rfl rfl (by decide +kernel) ⟨Nat.le_of_ble_eq_true rfl, Nat.le_of_ble_eq_true rfl⟩) ⟨wPre_blind, wPre_mk hP hD hK hS hA hAB hAm [] rfl rfl⟩ rfl rfl hl.1 rfl (lv_room (Nat.le_of_ble_eq_true rfl)) dX5_possible_6 ⟨Nat.zero_le _, Nat.zero_le _⟩) hP hS hA (fun H locs hP hS => ?_)
  refine lv_iconst (v := (nI 1)) hx hb dX5_possible_9 (by decide) ?_
  refine cMI (bc' := [moB Γ a ms mt mc md m0 (gsT (fX5_in g (nI 0) (nI 255)) (nI 1)) m2 m3 m4 m5]) (va_runV (As := [.int (fX5_in g (nI 0) (nI 255)), .int (nI 1)]) (rest := []) ⟨hx, hb, hml, hown, hts⟩ ((nX5_goes l Γ a ms mt mc md m0 m1 m2 m3 m4 m5 (fX5_in g (nI 0) (nI 255)) (nI 1)) _) (cwV 2 hts gX5_possible_X5_goes rfl rfl rfl (by decide +kernel) ⟨Nat.le_of_ble_eq_true rfl, Nat.le_of_ble_eq_true rfl⟩) ⟨wPre_blind, va_recv hK hP (ci := 5) (q0 := 0) rfl rfl, wPre_mk hP hD hK hS hA hAB hAm [0] rfl rfl⟩ rfl rfl hl.1 rfl (lv_room (Nat.le_of_ble_eq_true rfl)) dX5_possible_10 ⟨Nat.zero_le _, Nat.zero_le _⟩) hP hD hS hA [0] rfl rfl (bs' := [moB Γ a ms mt mc md m0 (gsT (fX5_in g (nI 0) (nI 255)) (nI 1)) m2 m3 m4 m5]) rfl (fun H locs hP hD hS => ?_)
  refine lv_if_eq (tgt := 24) hx hb dX5_possible_13 (by decide) (fun c_1 => ?_) (fun c_1 => ?_)
  · have hq := hq.trans (if_pos c_1)
    refine lv_iconst (v := (nI 0)) hx hb dX5_possible_24 (by decide) ?_
    exact W.iret (v := (nI 0)) hx hb hr (fun t ht hW => eMI (by rw [hq]; exact hP) hS ht (by rw [hq])) hS.2.2 dX5_possible_25
  · have hq := hq.trans (if_neg c_1)
    refine lv_aload_n hx hb dX5_possible_16 rfl (lv_at hl 0 rfl) ?_
    refine lv_iload_n hx hb dX5_possible_17 rfl (lv_at hl 1 rfl) ?_
    refine cLI (va_runV (As := [.int g]) (rest := []) ⟨hx, hb, hml, hown, hts⟩ ((kX5_keys l Γ a ms mt mc md m0 (gsT (fX5_in g (nI 0) (nI 255)) (nI 1)) m2 m3 m4 m5 g) _) (cwV 1 hts gX5_possible_X5_keys rfl rfl rfl (by decide +kernel) ⟨Nat.le_of_ble_eq_true rfl, Nat.le_of_ble_eq_true rfl⟩) ⟨wPre_blind, va_recv hK hP (ci := 5) (q0 := 0) rfl rfl, wPre_mk hP hD hK hS hA hAB hAm [0] rfl rfl⟩ rfl rfl hl.1 rfl (lv_room (Nat.le_of_ble_eq_true rfl)) dX5_possible_18 ⟨Nat.zero_le _, Nat.zero_le _⟩) hP hS hA (fun H locs hP hS => ?_)
    refine lv_goto (tgt := 25) hx hb dX5_possible_21 (by decide) ?_
    exact W.iret (v := (fX5_keys ms g)) hx hb hr (fun t ht hW => eMI (by rw [hq]; exact hP) hS ht (by rw [hq])) hS.2.2 dX5_possible_25
def fX5_least_L6 (ms : (Nat → Int32)) (w : Int32) : Nat → Int32 → Int32
  | 0, x2_6 => (if 0 ≤ x2_6 then (if w = 0 then ((fX5_bits x2_6)) else (x2_6)) else ((-1)))
  | n6 + 1, x2_6 => (if (fX5_reason ms (0) (nI (n6 + 1)) (nI 1)) = 0 then (if x2_6 < 0 then (fX5_least_L6 ms w n6 (nI (n6 + 1))) else (if (fX5_bits x2_6) < (fX5_bits (nI (n6 + 1))) then (fX5_least_L6 ms w n6 x2_6) else (fX5_least_L6 ms w n6 (nI (n6 + 1))))) else (fX5_least_L6 ms w n6 x2_6))
def fX5_least (ms : (Nat → Int32)) (w : Int32) : Int32 := (fX5_least_L6 ms w (255) (-1))
set_option maxHeartbeats 4000000 in
set_option maxRecDepth 100000 in
theorem kX5_least (l : Launch) (Γ : wG) (a : Nat → Nat) (ms : (Nat → Int32)) (mt : (Nat → Int32)) (mc : (Nat → Int32)) (md : (Nat → Int32)) (m0 : Int32) (m1 : Int32) (m2 : Int32) (m3 : Int32) (m4 : Int32) (m5 : Int32) (w : Int32) : LI l Γ yX5_least wsX5_least ({ frames := 4, cells := 0, slots := 0, locals := 97 }) [.ref (a 0), .int w] [moB Γ a ms mt mc md m0 m1 m2 m3 m4 m5] (fX5_least ms w) := by
  intro sz
  refine Met.ofW (cc := cX5_least) (maxL := 5) (ret := (some .int)) (by decide) rfl ?_
  intro p e s m args below meth c s₁ B hml hv
  obtain ⟨rfl, hsz, hP, hK, hD0, hAm⟩ := hv
  have hx := B.exec
  have hb := B.bytes
  have hr := B.returns
  have hts := atoms_spec (ws := wsX5_least) B.pre
  have hown : s.vm.findClass RX5 = some m.cls := findClass_of_methodNamed B.named
  have hlocks := B.notSynchronized
  subst hsz
  have hD := hD0.self (sz := s.heap.size)
  generalize hBe : va_A (wcat [moB Γ a ms mt mc md m0 m1 m2 m3 m4 m5]) s.heap.size = B0 at hD hAm
  obtain ⟨A, hAe⟩ : ∃ A, A = va_A [] s.heap.size := ⟨_, rfl⟩
  rw [← hAe]
  have hA : ∀ q : Nat, s.heap.size ≤ q → A q := fun q h => by rw [hAe]; exact Or.inr h
  have hAB : ∀ q : Nat, A q → B0 q := fun q h => by rw [hAe] at h; rw [← hBe]; exact Or.inr (wnone h)
  have hS : va_S A s.heap s.heap [] := va_S.rf
  have hl := lv_entry ([.ref (a 0), .int w]) (n := 5) (Nat.le_of_ble_eq_true rfl)
  rw [lg_entry_eq]
  generalize (lg_sl ([.ref (a 0), .int w]) ++ List.replicate (5 - (lg_sl ([.ref (a 0), .int w])).length) Slot.unset).toArray = ls at hl ⊢
  have hl : lv_has ls 5 [(0, .ref (a 0)), (1, .int w)] := hl
  have hq : (fX5_least ms w) = (fX5_least_L6 ms w (255) (-1)) := rfl
  refine lv_iconst (v := (-1)) hx hb dX5_least_0 (by decide) ?_
  refine lv_istore_n (lv' := [(2, .int (-1)), (0, .ref (a 0)), (1, .int w)]) hx hb dX5_least_1 rfl hl (by decide) rfl (fun ls hl => ?_)
  refine lv_sipush (v := (nI 255)) hx hb dX5_least_2 (by decide) ?_
  refine lv_istore_n (lv' := [(3, .int (nI 255)), (2, .int (-1)), (0, .ref (a 0)), (1, .int w)]) hx hb dX5_least_5 rfl hl (by decide) rfl (fun ls hl => ?_)
  refine wl (pc := 6) (σ := Int32) (fun n x2_6 H locs ls => (n ≤ 255) ∧ (fX5_least ms w) = fX5_least_L6 ms w n x2_6 ∧ va_P Γ.1 vwCl (wcat [moB Γ a ms mt mc md m0 m1 m2 m3 m4 m5]) H ∧ va_S A s.heap H locs ∧ lv_has ls 5 [(3, .int (nI n)), (2, .int x2_6), (0, .ref (a 0)), (1, .int w)]) ?_ ?_ (255) (-1) _ _ _ ⟨by omega, hq, hP, hS, lv_sub hl [0, 1, 2, 3] rfl⟩
  · intro x2_6 H locs ls h
    obtain ⟨hn6, hq, hP, hS, hl⟩ := h
    try dsimp only at hn6 hq hP hl
    replace hq : (fX5_least ms w) = (if 0 ≤ x2_6 then (if w = 0 then ((fX5_bits x2_6)) else (x2_6)) else ((-1))) := hq
    refine lv_iload_n hx hb dX5_least_6 rfl (lv_at hl 0 rfl) ?_
    refine lv_if_le (tgt := 59) hx hb dX5_least_7 (by decide) (fun c_7 => ?_) (fun c_7 => absurd c_7 (by decide))
    refine lv_iload_n hx hb dX5_least_59 rfl (lv_at hl 1 rfl) ?_
    refine lv_if_ge (tgt := 67) hx hb dX5_least_60 (by decide) (fun c_1 => ?_) (fun c_1 => ?_)
    · have hq := hq.trans (if_pos c_1)
      refine lv_iload_n hx hb dX5_least_67 rfl (lv_at hl 3 rfl) ?_
      refine lv_if_ne (tgt := 78) hx hb dX5_least_68 (by decide) (fun c_2 => ?_) (fun c_2 => ?_)
      · have hq := hq.trans (if_neg c_2)
        refine lv_iload_n hx hb dX5_least_78 rfl (lv_at hl 1 rfl) ?_
        exact W.iret (v := x2_6) hx hb hr (fun t ht hW => eLI hS ht (by rw [hq])) hS.2.2 dX5_least_79
      · have hq := hq.trans (if_pos c_2)
        refine lv_iload_n hx hb dX5_least_71 rfl (lv_at hl 1 rfl) ?_
        refine cLI (va_runS (As := [.int x2_6]) (rest := []) ⟨hx, hb, hml, hown, hts⟩ ((kX5_bits l Γ x2_6) _) (va_cwS 1 hts gX5_least_X5_bits rfl rfl rfl (by decide +kernel) ⟨Nat.le_of_ble_eq_true rfl, Nat.le_of_ble_eq_true rfl⟩) ⟨wPre_blind, wPre_mk hP hD hK hS hA hAB hAm [] rfl rfl⟩ rfl rfl hl.1 rfl (lv_room (Nat.le_of_ble_eq_true rfl)) dX5_least_72 ⟨Nat.zero_le _, Nat.zero_le _⟩) hP hS hA (fun H locs hP hS => ?_)
        refine lv_goto (tgt := 79) hx hb dX5_least_75 (by decide) ?_
        exact W.iret (v := (fX5_bits x2_6)) hx hb hr (fun t ht hW => eLI hS ht (by rw [hq])) hS.2.2 dX5_least_79
    · have hq := hq.trans (if_neg c_1)
      refine lv_iconst (v := (-1)) hx hb dX5_least_63 (by decide) ?_
      refine lv_goto (tgt := 79) hx hb dX5_least_64 (by decide) ?_
      exact W.iret (v := (-1)) hx hb hr (fun t ht hW => eLI hS ht (by rw [hq])) hS.2.2 dX5_least_79
  · intro n6 ih6 x2_6 H locs ls h
    obtain ⟨hn6, hq, hP, hS, hl⟩ := h
    try dsimp only at hn6 hq hP hl
    replace hq : (fX5_least ms w) = (if (fX5_reason ms (0) (nI (n6 + 1)) (nI 1)) = 0 then (if x2_6 < 0 then (fX5_least_L6 ms w n6 (nI (n6 + 1))) else (if (fX5_bits x2_6) < (fX5_bits (nI (n6 + 1))) then (fX5_least_L6 ms w n6 x2_6) else (fX5_least_L6 ms w n6 (nI (n6 + 1))))) else (fX5_least_L6 ms w n6 x2_6)) := hq
    refine lv_iload_n hx hb dX5_least_6 rfl (lv_at hl 0 rfl) ?_
    refine lv_if_le (tgt := 59) hx hb dX5_least_7 (by decide) (fun c_7 => absurd c_7 (nI_nle (by omega) (by omega))) (fun c_7 => ?_)
    refine lv_aload_n hx hb dX5_least_10 rfl (lv_at hl 2 rfl) ?_
    refine lv_iconst (v := (nI 0)) hx hb dX5_least_11 (by decide) ?_
    refine lv_iload_n hx hb dX5_least_12 rfl (lv_at hl 0 rfl) ?_
    refine lv_iconst (v := (nI 1)) hx hb dX5_least_13 (by decide) ?_
    refine cLI (va_runV (As := [.int (nI 0), .int (nI (n6 + 1)), .int (nI 1)]) (rest := []) ⟨hx, hb, hml, hown, hts⟩ ((kX5_reason l Γ a ms mt mc md m0 m1 m2 m3 m4 m5 (0) (nI (n6 + 1)) (nI 1) (by first | assumption | omega)) _) (cwV 3 hts gX5_least_X5_reason rfl rfl rfl (by decide +kernel) ⟨Nat.le_of_ble_eq_true rfl, Nat.le_of_ble_eq_true rfl⟩) ⟨wPre_blind, va_recv hK hP (ci := 5) (q0 := 0) rfl rfl, wPre_mk hP hD hK hS hA hAB hAm [0] rfl rfl⟩ rfl rfl hl.1 rfl (lv_room (Nat.le_of_ble_eq_true rfl)) dX5_least_14 ⟨Nat.zero_le _, Nat.zero_le _⟩) hP hS hA (fun H locs hP hS => ?_)
    refine lv_if_ne (tgt := 39) hx hb dX5_least_17 (by decide) (fun c_3 => ?_) (fun c_3 => ?_)
    · have hq := hq.trans (if_neg c_3)
      refine lv_iconst (v := (nI 0)) hx hb dX5_least_39 (by decide) ?_
      refine lv_istore (lv' := [(4, .int (nI 0)), (3, .int (nI (n6 + 1))), (2, .int x2_6), (0, .ref (a 0)), (1, .int w)]) hx hb dX5_least_40 hl (by decide) rfl (fun ls hl => ?_)
      refine lv_iload hx hb dX5_least_42 (lv_at hl 0 rfl) ?_
      refine lv_if_eq (tgt := 51) hx hb dX5_least_44 (by decide) (fun c_44 => ?_) (fun c_44 => absurd c_44 (by decide))
      refine lv_iload_n hx hb dX5_least_51 rfl (lv_at hl 2 rfl) ?_
      refine lv_istore_n (lv' := [(2, .int x2_6), (4, .int (nI 0)), (3, .int (nI (n6 + 1))), (0, .ref (a 0)), (1, .int w)]) hx hb dX5_least_52 rfl hl (by decide) rfl (fun ls hl => ?_)
      refine lv_iinc (v := (nI n6)) (lv' := [(3, .int (nI n6)), (2, .int x2_6), (4, .int (nI 0)), (0, .ref (a 0)), (1, .int w)]) hx hb dX5_least_53 hl (k := 2) rfl (pk_m1 _) (by decide) rfl (fun ls hl => ?_)
      refine lv_goto (tgt := 6) hx hb dX5_least_56 (by decide) ?_
      exact ih6 x2_6 H locs ls ⟨by omega, hq, hP, hS, lv_sub hl [0, 1, 3, 4] rfl⟩
    · have hq := hq.trans (if_pos c_3)
      refine lv_iload_n hx hb dX5_least_20 rfl (lv_at hl 1 rfl) ?_
      refine lv_if_lt (tgt := 35) hx hb dX5_least_21 (by decide) (fun c_4 => ?_) (fun c_4 => ?_)
      · have hq := hq.trans (if_pos c_4)
        refine lv_iconst (v := (nI 1)) hx hb dX5_least_35 (by decide) ?_
        refine lv_goto (tgt := 40) hx hb dX5_least_36 (by decide) ?_
        refine lv_istore (lv' := [(4, .int (nI 1)), (3, .int (nI (n6 + 1))), (2, .int x2_6), (0, .ref (a 0)), (1, .int w)]) hx hb dX5_least_40 hl (by decide) rfl (fun ls hl => ?_)
        refine lv_iload hx hb dX5_least_42 (lv_at hl 0 rfl) ?_
        refine lv_if_eq (tgt := 51) hx hb dX5_least_44 (by decide) (fun c_44 => absurd c_44 (by decide)) (fun c_44 => ?_)
        refine lv_iload_n hx hb dX5_least_47 rfl (lv_at hl 1 rfl) ?_
        refine lv_goto (tgt := 52) hx hb dX5_least_48 (by decide) ?_
        refine lv_istore_n (lv' := [(2, .int (nI (n6 + 1))), (4, .int (nI 1)), (3, .int (nI (n6 + 1))), (0, .ref (a 0)), (1, .int w)]) hx hb dX5_least_52 rfl hl (by decide) rfl (fun ls hl => ?_)
        refine lv_iinc (v := (nI n6)) (lv' := [(3, .int (nI n6)), (2, .int (nI (n6 + 1))), (4, .int (nI 1)), (0, .ref (a 0)), (1, .int w)]) hx hb dX5_least_53 hl (k := 2) rfl (pk_m1 _) (by decide) rfl (fun ls hl => ?_)
        refine lv_goto (tgt := 6) hx hb dX5_least_56 (by decide) ?_
        exact ih6 (nI (n6 + 1)) H locs ls ⟨by omega, hq, hP, hS, lv_sub hl [0, 1, 3, 4] rfl⟩
      · have hq := hq.trans (if_neg c_4)
        refine lv_iload_n hx hb dX5_least_24 rfl (lv_at hl 0 rfl) ?_
        refine cLI (va_runS (As := [.int (nI (n6 + 1))]) (rest := []) ⟨hx, hb, hml, hown, hts⟩ ((kX5_bits l Γ (nI (n6 + 1))) _) (va_cwS 1 hts gX5_least_X5_bits rfl rfl rfl (by decide +kernel) ⟨Nat.le_of_ble_eq_true rfl, Nat.le_of_ble_eq_true rfl⟩) ⟨wPre_blind, wPre_mk hP hD hK hS hA hAB hAm [] rfl rfl⟩ rfl rfl hl.1 rfl (lv_room (Nat.le_of_ble_eq_true rfl)) dX5_least_25 ⟨Nat.zero_le _, Nat.zero_le _⟩) hP hS hA (fun H locs hP hS => ?_)
        refine lv_iload_n hx hb dX5_least_28 rfl (lv_at hl 1 rfl) ?_
        refine cLI (va_runS (As := [.int x2_6]) (rest := [.int (fX5_bits (nI (n6 + 1)))]) ⟨hx, hb, hml, hown, hts⟩ ((kX5_bits l Γ x2_6) _) (va_cwS 1 hts gX5_least_X5_bits rfl rfl rfl (by decide +kernel) ⟨Nat.le_of_ble_eq_true rfl, Nat.le_of_ble_eq_true rfl⟩) ⟨wPre_blind, wPre_mk hP hD hK hS hA hAB hAm [] rfl rfl⟩ rfl rfl hl.1 rfl (lv_room (Nat.le_of_ble_eq_true rfl)) dX5_least_29 ⟨Nat.zero_le _, Nat.zero_le _⟩) hP hS hA (fun H locs hP hS => ?_)
        refine lv_icmp_gt (tgt := 39) hx hb dX5_least_32 (by decide) (fun c_5 => ?_) (fun c_5 => ?_)
        · have hq := hq.trans (if_pos c_5)
          refine lv_iconst (v := (nI 0)) hx hb dX5_least_39 (by decide) ?_
          refine lv_istore (lv' := [(4, .int (nI 0)), (3, .int (nI (n6 + 1))), (2, .int x2_6), (0, .ref (a 0)), (1, .int w)]) hx hb dX5_least_40 hl (by decide) rfl (fun ls hl => ?_)
          refine lv_iload hx hb dX5_least_42 (lv_at hl 0 rfl) ?_
          refine lv_if_eq (tgt := 51) hx hb dX5_least_44 (by decide) (fun c_44 => ?_) (fun c_44 => absurd c_44 (by decide))
          refine lv_iload_n hx hb dX5_least_51 rfl (lv_at hl 2 rfl) ?_
          refine lv_istore_n (lv' := [(2, .int x2_6), (4, .int (nI 0)), (3, .int (nI (n6 + 1))), (0, .ref (a 0)), (1, .int w)]) hx hb dX5_least_52 rfl hl (by decide) rfl (fun ls hl => ?_)
          refine lv_iinc (v := (nI n6)) (lv' := [(3, .int (nI n6)), (2, .int x2_6), (4, .int (nI 0)), (0, .ref (a 0)), (1, .int w)]) hx hb dX5_least_53 hl (k := 2) rfl (pk_m1 _) (by decide) rfl (fun ls hl => ?_)
          refine lv_goto (tgt := 6) hx hb dX5_least_56 (by decide) ?_
          exact ih6 x2_6 H locs ls ⟨by omega, hq, hP, hS, lv_sub hl [0, 1, 3, 4] rfl⟩
        · have hq := hq.trans (if_neg c_5)
          refine lv_iconst (v := (nI 1)) hx hb dX5_least_35 (by decide) ?_
          refine lv_goto (tgt := 40) hx hb dX5_least_36 (by decide) ?_
          refine lv_istore (lv' := [(4, .int (nI 1)), (3, .int (nI (n6 + 1))), (2, .int x2_6), (0, .ref (a 0)), (1, .int w)]) hx hb dX5_least_40 hl (by decide) rfl (fun ls hl => ?_)
          refine lv_iload hx hb dX5_least_42 (lv_at hl 0 rfl) ?_
          refine lv_if_eq (tgt := 51) hx hb dX5_least_44 (by decide) (fun c_44 => absurd c_44 (by decide)) (fun c_44 => ?_)
          refine lv_iload_n hx hb dX5_least_47 rfl (lv_at hl 1 rfl) ?_
          refine lv_goto (tgt := 52) hx hb dX5_least_48 (by decide) ?_
          refine lv_istore_n (lv' := [(2, .int (nI (n6 + 1))), (4, .int (nI 1)), (3, .int (nI (n6 + 1))), (0, .ref (a 0)), (1, .int w)]) hx hb dX5_least_52 rfl hl (by decide) rfl (fun ls hl => ?_)
          refine lv_iinc (v := (nI n6)) (lv' := [(3, .int (nI n6)), (2, .int (nI (n6 + 1))), (4, .int (nI 1)), (0, .ref (a 0)), (1, .int w)]) hx hb dX5_least_53 hl (k := 2) rfl (pk_m1 _) (by decide) rfl (fun ls hl => ?_)
          refine lv_goto (tgt := 6) hx hb dX5_least_56 (by decide) ?_
          exact ih6 (nI (n6 + 1)) H locs ls ⟨by omega, hq, hP, hS, lv_sub hl [0, 1, 3, 4] rfl⟩
def fX5_smallest (ms : (Nat → Int32)) (w : Int32) : Int32 × Int32 := (if (gsR (fX5_in w (nI 0) (nI 1)) (nI 1)) = 0 then ((nI 0), (gsT (fX5_in w (nI 0) (nI 1)) (nI 1))) else ((fX5_least ms w), (gsT (fX5_in w (nI 0) (nI 1)) (nI 1))))
set_option maxHeartbeats 4000000 in
set_option maxRecDepth 100000 in
theorem kX5_smallest (l : Launch) (Γ : wG) (a : Nat → Nat) (ms : (Nat → Int32)) (mt : (Nat → Int32)) (mc : (Nat → Int32)) (md : (Nat → Int32)) (m0 : Int32) (m1 : Int32) (m2 : Int32) (m3 : Int32) (m4 : Int32) (m5 : Int32) (w : Int32) : MI l Γ yX5_smallest wsX5_smallest ({ frames := 5, cells := 0, slots := 0, locals := 121 }) [.ref (a 0), .int w] [moB Γ a ms mt mc md m0 m1 m2 m3 m4 m5] [moB Γ a ms mt mc md m0 (fX5_smallest ms w).2 m2 m3 m4 m5] (fX5_smallest ms w).1 := by
  intro sz
  refine Met.ofW (cc := cX5_smallest) (maxL := 2) (ret := (some .int)) (by decide) rfl ?_
  intro p e s m args below meth c s₁ B hml hv
  obtain ⟨rfl, hsz, hP, hK, hD0, hAm⟩ := hv
  have hx := B.exec
  have hb := B.bytes
  have hr := B.returns
  have hts := atoms_spec (ws := wsX5_smallest) B.pre
  have hown : s.vm.findClass RX5 = some m.cls := findClass_of_methodNamed B.named
  have hlocks := B.notSynchronized
  subst hsz
  have hD := hD0.self (sz := s.heap.size)
  generalize hAe : va_A (wcat [moB Γ a ms mt mc md m0 m1 m2 m3 m4 m5]) s.heap.size = A at hD hAm ⊢
  have hA : ∀ q : Nat, s.heap.size ≤ q → A q := fun q h => by rw [← hAe]; exact Or.inr h
  have hAB : ∀ q : Nat, A q → A q := fun _ h => h
  have hS : va_S A s.heap s.heap [] := va_S.rf
  have hl := lv_entry ([.ref (a 0), .int w]) (n := 2) (Nat.le_of_ble_eq_true rfl)
  rw [lg_entry_eq]
  generalize (lg_sl ([.ref (a 0), .int w]) ++ List.replicate (2 - (lg_sl ([.ref (a 0), .int w])).length) Slot.unset).toArray = ls at hl ⊢
  have hl : lv_has ls 2 [(0, .ref (a 0)), (1, .int w)] := hl
  have hq : (fX5_smallest ms w) = (if (gsR (fX5_in w (nI 0) (nI 1)) (nI 1)) = 0 then ((nI 0), (gsT (fX5_in w (nI 0) (nI 1)) (nI 1))) else ((fX5_least ms w), (gsT (fX5_in w (nI 0) (nI 1)) (nI 1)))) := rfl
  refine lv_aload_n hx hb dX5_smallest_0 rfl (lv_at hl 0 rfl) ?_
  refine lv_iload_n hx hb dX5_smallest_1 rfl (lv_at hl 1 rfl) ?_
  refine lv_iconst (v := (nI 0)) hx hb dX5_smallest_2 (by decide) ?_
  refine lv_iconst (v := (nI 1)) hx hb dX5_smallest_3 (by decide) ?_
  refine cLI (va_runS (As := [.int w, .int (nI 0), .int (nI 1)]) (rest := [.ref (a 0)]) ⟨hx, hb, hml, hown, hts⟩ ((kX5_in l Γ w (nI 0) (nI 1)) _) (va_cwS 3 hts gX5_smallest_X5_in rfl rfl rfl (by decide +kernel) ⟨Nat.le_of_ble_eq_true rfl, Nat.le_of_ble_eq_true rfl⟩) ⟨wPre_blind, wPre_mk hP hD hK hS hA hAB hAm [] rfl rfl⟩ rfl rfl hl.1 rfl (lv_room (Nat.le_of_ble_eq_true rfl)) dX5_smallest_4 ⟨Nat.zero_le _, Nat.zero_le _⟩) hP hS hA (fun H locs hP hS => ?_)
  refine lv_iconst (v := (nI 1)) hx hb dX5_smallest_7 (by decide) ?_
  refine cMI (bc' := [moB Γ a ms mt mc md m0 (gsT (fX5_in w (nI 0) (nI 1)) (nI 1)) m2 m3 m4 m5]) (va_runV (As := [.int (fX5_in w (nI 0) (nI 1)), .int (nI 1)]) (rest := []) ⟨hx, hb, hml, hown, hts⟩ ((nX5_goes l Γ a ms mt mc md m0 m1 m2 m3 m4 m5 (fX5_in w (nI 0) (nI 1)) (nI 1)) _) (cwV 2 hts gX5_smallest_X5_goes rfl rfl rfl (by decide +kernel) ⟨Nat.le_of_ble_eq_true rfl, Nat.le_of_ble_eq_true rfl⟩) ⟨wPre_blind, va_recv hK hP (ci := 5) (q0 := 0) rfl rfl, wPre_mk hP hD hK hS hA hAB hAm [0] rfl rfl⟩ rfl rfl hl.1 rfl (lv_room (Nat.le_of_ble_eq_true rfl)) dX5_smallest_8 ⟨Nat.zero_le _, Nat.zero_le _⟩) hP hD hS hA [0] rfl rfl (bs' := [moB Γ a ms mt mc md m0 (gsT (fX5_in w (nI 0) (nI 1)) (nI 1)) m2 m3 m4 m5]) rfl (fun H locs hP hD hS => ?_)
  refine lv_if_eq (tgt := 22) hx hb dX5_smallest_11 (by decide) (fun c_1 => ?_) (fun c_1 => ?_)
  · have hq := hq.trans (if_pos c_1)
    refine lv_iconst (v := (nI 0)) hx hb dX5_smallest_22 (by decide) ?_
    exact W.iret (v := (nI 0)) hx hb hr (fun t ht hW => eMI (by rw [hq]; exact hP) hS ht (by rw [hq])) hS.2.2 dX5_smallest_23
  · have hq := hq.trans (if_neg c_1)
    refine lv_aload_n hx hb dX5_smallest_14 rfl (lv_at hl 0 rfl) ?_
    refine lv_iload_n hx hb dX5_smallest_15 rfl (lv_at hl 1 rfl) ?_
    refine cLI (va_runV (As := [.int w]) (rest := []) ⟨hx, hb, hml, hown, hts⟩ ((kX5_least l Γ a ms mt mc md m0 (gsT (fX5_in w (nI 0) (nI 1)) (nI 1)) m2 m3 m4 m5 w) _) (cwV 1 hts gX5_smallest_X5_least rfl rfl rfl (by decide +kernel) ⟨Nat.le_of_ble_eq_true rfl, Nat.le_of_ble_eq_true rfl⟩) ⟨wPre_blind, va_recv hK hP (ci := 5) (q0 := 0) rfl rfl, wPre_mk hP hD hK hS hA hAB hAm [0] rfl rfl⟩ rfl rfl hl.1 rfl (lv_room (Nat.le_of_ble_eq_true rfl)) dX5_smallest_16 ⟨Nat.zero_le _, Nat.zero_le _⟩) hP hS hA (fun H locs hP hS => ?_)
    refine lv_goto (tgt := 23) hx hb dX5_smallest_19 (by decide) ?_
    exact W.iret (v := (fX5_least ms w)) hx hb hr (fun t ht hW => eMI (by rw [hq]; exact hP) hS ht (by rw [hq])) hS.2.2 dX5_smallest_23
def fX5_groups (ms : (Nat → Int32)) : Int32 × Int32 := ((fX5_groupsOf ms (0)), (nI 0))
set_option maxHeartbeats 4000000 in
set_option maxRecDepth 100000 in
theorem kX5_groups (l : Launch) (Γ : wG) (a : Nat → Nat) (ms : (Nat → Int32)) (mt : (Nat → Int32)) (mc : (Nat → Int32)) (md : (Nat → Int32)) (m0 : Int32) (m1 : Int32) (m2 : Int32) (m3 : Int32) (m4 : Int32) (m5 : Int32) : MI l Γ yX5_groups wsX5_groups ({ frames := 5, cells := 0, slots := 0, locals := 120 }) [.ref (a 0)] [moB Γ a ms mt mc md m0 m1 m2 m3 m4 m5] [moB Γ a ms mt mc md m0 (fX5_groups ms).2 m2 m3 m4 m5] (fX5_groups ms).1 := by
  intro sz
  refine Met.ofW (cc := cX5_groups) (maxL := 1) (ret := (some .int)) (by decide) rfl ?_
  intro p e s m args below meth c s₁ B hml hv
  obtain ⟨rfl, hsz, hP, hK, hD0, hAm⟩ := hv
  have hx := B.exec
  have hb := B.bytes
  have hr := B.returns
  have hts := atoms_spec (ws := wsX5_groups) B.pre
  have hown : s.vm.findClass RX5 = some m.cls := findClass_of_methodNamed B.named
  have hlocks := B.notSynchronized
  subst hsz
  have hD := hD0.self (sz := s.heap.size)
  generalize hAe : va_A (wcat [moB Γ a ms mt mc md m0 m1 m2 m3 m4 m5]) s.heap.size = A at hD hAm ⊢
  have hA : ∀ q : Nat, s.heap.size ≤ q → A q := fun q h => by rw [← hAe]; exact Or.inr h
  have hAB : ∀ q : Nat, A q → A q := fun _ h => h
  have hS : va_S A s.heap s.heap [] := va_S.rf
  have hl := lv_entry ([.ref (a 0)]) (n := 1) (Nat.le_of_ble_eq_true rfl)
  rw [lg_entry_eq]
  generalize (lg_sl ([.ref (a 0)]) ++ List.replicate (1 - (lg_sl ([.ref (a 0)])).length) Slot.unset).toArray = ls at hl ⊢
  have hl : lv_has ls 1 [(0, .ref (a 0))] := hl
  have hi5 : ∀ w ∈ wsX50, w ∈ wsX5_groups := by decide +kernel
  have kf23 := hts (.fieldLink RX5 23 "CapsuleKeepersModel" "thrown" "I") (by decide +kernel)
  have hq : (fX5_groups ms) = ((fX5_groupsOf ms (0)), (nI 0)) := rfl
  refine lv_aload_n hx hb dX5_groups_0 rfl (lv_at hl 0 rfl) ?_
  refine lv_iconst (v := (nI 0)) hx hb dX5_groups_1 (by decide) ?_
  refine va_put (D := Γ.1) (ci := 5) (v := .int (nI 0)) (ty := .int) (C := RX5) (T := TX5) (N := 10) hx hb hts hi5 tyX5 tyX5_ok nmX5 hown hK hP hD hS 0 rfl rfl 2 (by decide) kf23 (fun _ h9 => h9) rfl (by decide +kernel) rfl rfl (Nat.le_of_ble_eq_true rfl) dX5_groups_2 (fun H locs hP hD hS => ?_)
  have hP : va_P Γ.1 vwCl (wcat [moB Γ a ms mt mc md m0 (nI 0) m2 m3 m4 m5]) H := hP
  have hD : va_D A (wcat [moB Γ a ms mt mc md m0 (nI 0) m2 m3 m4 m5]) := hD
  refine lv_aload_n hx hb dX5_groups_5 rfl (lv_at hl 0 rfl) ?_
  refine lv_iconst (v := (nI 0)) hx hb dX5_groups_6 (by decide) ?_
  refine cLI (va_runV (As := [.int (nI 0)]) (rest := []) ⟨hx, hb, hml, hown, hts⟩ ((kX5_groupsOf l Γ a ms mt mc md m0 (nI 0) m2 m3 m4 m5 (0) (by first | assumption | omega)) _) (cwV 1 hts gX5_groups_X5_groupsOf rfl rfl rfl (by decide +kernel) ⟨Nat.le_of_ble_eq_true rfl, Nat.le_of_ble_eq_true rfl⟩) ⟨wPre_blind, va_recv hK hP (ci := 5) (q0 := 0) rfl rfl, wPre_mk hP hD hK hS hA hAB hAm [0] rfl rfl⟩ rfl rfl hl.1 rfl (lv_room (Nat.le_of_ble_eq_true rfl)) dX5_groups_7 ⟨Nat.zero_le _, Nat.zero_le _⟩) hP hS hA (fun H locs hP hS => ?_)
  exact W.iret (v := (fX5_groupsOf ms (0))) hx hb hr (fun t ht hW => eMI (by rw [hq]; exact hP) hS ht (by rw [hq])) hS.2.2 dX5_groups_10
