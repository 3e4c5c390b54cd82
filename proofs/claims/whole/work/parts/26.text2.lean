def fX5_firstError (T : Nat) (mt : (Nat → Int32)) (md : (Nat → Int32)) : Int32 × (Nat → Int32) × Int32 × Nat × Nat × Int32 := ((nI ((fX5_areDays (T) mt md).2.2.2.1)), (fX5_areDays (T) mt md).2.1, (nI 0), ((fX5_areDays (T) mt md).2.2.1), ((fX5_areDays (T) mt md).2.2.2.1), (fX5_areDays (T) mt md).2.2.2.2)
set_option maxHeartbeats 4000000 in
set_option maxRecDepth 100000 in
theorem kX5_firstError (l : Launch) (Γ : wG) (a : Nat → Nat) (T : Nat) (ms : (Nat → Int32)) (mt : (Nat → Int32)) (mc : (Nat → Int32)) (md : (Nat → Int32)) (m0 : Int32) (m1 : Int32) (m3 : Int32) (m4 : Int32) (m5 : Int32) (hT : T ≤ 60) : MI l Γ yX5_firstError wsX5_firstError ({ frames := 5, cells := 0, slots := 0, locals := 109 }) [.ref (a 0)] [moB Γ a ms mt mc md m0 m1 (nI T) m3 m4 m5] [moB Γ a ms mt mc (fX5_firstError T mt md).2.1 m0 (fX5_firstError T mt md).2.2.1 (nI T) (nI (((fX5_firstError T mt md).2.2.2.1))) (nI (((fX5_firstError T mt md).2.2.2.2.1))) (fX5_firstError T mt md).2.2.2.2.2] (fX5_firstError T mt md).1 := by
  intro sz
  refine Met.ofW (cc := cX5_firstError) (maxL := 1) (ret := (some .int)) (by decide) rfl ?_
  intro p e s m args below meth c s₁ B hml hv
  obtain ⟨rfl, hsz, hP, hK, hD0, hAm⟩ := hv
  have hx := B.exec
  have hb := B.bytes
  have hr := B.returns
  have hts := atoms_spec (ws := wsX5_firstError) B.pre
  have hown : s.vm.findClass RX5 = some m.cls := findClass_of_methodNamed B.named
  have hlocks := B.notSynchronized
  subst hsz
  have hD := hD0.self (sz := s.heap.size)
  generalize hAe : va_A (wcat [moB Γ a ms mt mc md m0 m1 (nI T) m3 m4 m5]) s.heap.size = A at hD hAm ⊢
  have hA : ∀ q : Nat, s.heap.size ≤ q → A q := fun q h => by rw [← hAe]; exact Or.inr h
  have hAB : ∀ q : Nat, A q → A q := fun _ h => h
  have hS : va_S A s.heap s.heap [] := va_S.rf
  have hl := lv_entry ([.ref (a 0)]) (n := 1) (Nat.le_of_ble_eq_true rfl)
  rw [lg_entry_eq]
  generalize (lg_sl ([.ref (a 0)]) ++ List.replicate (1 - (lg_sl ([.ref (a 0)])).length) Slot.unset).toArray = ls at hl ⊢
  have hl : lv_has ls 1 [(0, .ref (a 0))] := hl
  have hi5 : ∀ w ∈ wsX50, w ∈ wsX5_firstError := by decide +kernel
  have kf108 := hts (.fieldLink RX5 108 "CapsuleKeepersModel" "at" "I") (by decide +kernel)
  have kf23 := hts (.fieldLink RX5 23 "CapsuleKeepersModel" "thrown" "I") (by decide +kernel)
  have hq : (fX5_firstError T mt md) = ((nI ((fX5_areDays (T) mt md).2.2.2.1)), (fX5_areDays (T) mt md).2.1, (nI 0), ((fX5_areDays (T) mt md).2.2.1), ((fX5_areDays (T) mt md).2.2.2.1), (fX5_areDays (T) mt md).2.2.2.2) := rfl
  refine lv_aload_n hx hb dX5_firstError_0 rfl (lv_at hl 0 rfl) ?_
  refine lv_iconst (v := (nI 0)) hx hb dX5_firstError_1 (by decide) ?_
  refine va_put (D := Γ.1) (ci := 5) (v := .int (nI 0)) (ty := .int) (C := RX5) (T := TX5) (N := 10) hx hb hts hi5 tyX5 tyX5_ok nmX5 hown hK hP hD hS 0 rfl rfl 2 (by decide) kf23 (fun _ h9 => h9) rfl (by decide +kernel) rfl rfl (Nat.le_of_ble_eq_true rfl) dX5_firstError_2 (fun H locs hP hD hS => ?_)
  have hP : va_P Γ.1 vwCl (wcat [moB Γ a ms mt mc md m0 (nI 0) (nI T) m3 m4 m5]) H := hP
  have hD : va_D A (wcat [moB Γ a ms mt mc md m0 (nI 0) (nI T) m3 m4 m5]) := hD
  refine lv_aload_n hx hb dX5_firstError_5 rfl (lv_at hl 0 rfl) ?_
  refine cMI (bc' := [moB Γ a ms mt mc (fX5_areDays (T) mt md).2.1 m0 (nI 0) (nI T) (nI ((fX5_areDays (T) mt md).2.2.1)) (nI ((fX5_areDays (T) mt md).2.2.2.1)) (fX5_areDays (T) mt md).2.2.2.2]) (va_runV (As := []) (rest := []) ⟨hx, hb, hml, hown, hts⟩ ((kX5_areDays l Γ a (T) ms mt mc md m0 (nI 0) m3 m4 m5 (by first | assumption | omega)) _) (cwV 0 hts gX5_firstError_X5_areDays rfl rfl rfl (by decide +kernel) ⟨Nat.le_of_ble_eq_true rfl, Nat.le_of_ble_eq_true rfl⟩) ⟨wPre_blind, va_recv hK hP (ci := 5) (q0 := 0) rfl rfl, wPre_mk hP hD hK hS hA hAB hAm [0] rfl rfl⟩ rfl rfl hl.1 rfl (lv_room (Nat.le_of_ble_eq_true rfl)) dX5_firstError_6 ⟨Nat.zero_le _, Nat.zero_le _⟩) hP hD hS hA [0] rfl rfl (bs' := [moB Γ a ms mt mc (fX5_areDays (T) mt md).2.1 m0 (nI 0) (nI T) (nI ((fX5_areDays (T) mt md).2.2.1)) (nI ((fX5_areDays (T) mt md).2.2.2.1)) (fX5_areDays (T) mt md).2.2.2.2]) rfl (fun H locs hP hD hS => ?_)
  refine lv_pop hx hb dX5_firstError_9 rfl ?_
  refine lv_aload_n hx hb dX5_firstError_10 rfl (lv_at hl 0 rfl) ?_
  refine va_get (D := Γ.1) (ci := 5) (v := .int (nI ((fX5_areDays (T) mt md).2.2.2.1))) (C := RX5) (T := TX5) (N := 10) hx hb hts hi5 hown hK hP 0 rfl rfl 8 (by decide) kf108 (fun _ h9 => h9) rfl dX5_firstError_11 ?_
  exact W.iret (v := (nI ((fX5_areDays (T) mt md).2.2.2.1))) hx hb hr (fun t ht hW => eMI (by rw [hq]; exact hP) hS ht (by rw [hq])) hS.2.2 dX5_firstError_14
def fX5_does (Q : Nat) (ms : (Nat → Int32)) (mc : (Nat → Int32)) (md : (Nat → Int32)) (k : Nat) : Int32 × (Nat → Int32) × (Nat → Int32) := (let y_1 := (md (3 * k)); (let y_2 := (md (3 * k + 1)); (let y_3 := (md (3 * k + 2)); (if y_1 = (nI 116) then (if ((nI 99999) - y_2) < (ms 31) then ((nI 0), ms, mc) else (if y_1 = (nI 100) then (if (fX5_areAlive ms (0) y_2 (-1)) = 0 then ((nI 0), ms, mc) else ((nI 1), (upd ms 31 ((ms 31) + y_2)), mc)) else (if y_1 = (nI 104) then (if (fX5_areAlive ms (0) y_2 y_3) = 0 then ((nI 0), ms, mc) else ((nI 1), (upd ms 31 ((ms 31) + y_2)), mc)) else ((nI 1), (upd ms 31 ((ms 31) + y_2)), mc)))) else (if y_1 = (nI 114) then (if (fX5_canRenew ms (0)) = 0 then ((nI 0), ms, mc) else (if y_1 = (nI 100) then (if (fX5_areAlive ms (0) y_2 (-1)) = 0 then ((nI 0), ms, mc) else ((nI 1), (fX5_deals Q ms mc (0)).2.1, (fX5_deals Q ms mc (0)).2.2)) else (if y_1 = (nI 104) then (if (fX5_areAlive ms (0) y_2 y_3) = 0 then ((nI 0), ms, mc) else ((nI 1), (fX5_deals Q ms mc (0)).2.1, (fX5_deals Q ms mc (0)).2.2)) else ((nI 1), (fX5_deals Q ms mc (0)).2.1, (fX5_deals Q ms mc (0)).2.2)))) else (if (fX5_isKeeper ms y_2) = 0 then ((nI 0), ms, mc) else (if y_1 = (nI 100) then (if (fX5_areAlive ms (0) y_2 (-1)) = 0 then ((nI 0), ms, mc) else ((nI 1), (fX5_dies ms (0) ((y_2.toNatClampNeg))).2, mc)) else (if (fX5_isKeeper ms y_3) = 0 then ((nI 0), ms, mc) else (if y_2 = y_3 then ((nI 0), ms, mc) else (if y_1 = (nI 104) then (if (fX5_areAlive ms (0) y_2 y_3) = 0 then ((nI 0), ms, mc) else ((nI 1), (upd ms (3 + (y_2.toNatClampNeg)) y_3), mc)) else ((nI 1), (upd (upd ms (11 + (y_2.toNatClampNeg)) ((ms (11 + (y_2.toNatClampNeg))) ^^^ ((nI 1) <<< (y_3 &&& 31)))) (11 + (y_3.toNatClampNeg)) (((upd ms (11 + (y_2.toNatClampNeg)) ((ms (11 + (y_2.toNatClampNeg))) ^^^ ((nI 1) <<< (y_3 &&& 31)))) (11 + (y_3.toNatClampNeg))) ^^^ ((nI 1) <<< (y_2 &&& 31)))), mc)))))))))))
set_option maxHeartbeats 4000000 in
set_option maxRecDepth 100000 in
theorem kX5_does (l : Launch) (Γ : wG) (a : Nat → Nat) (K : Nat) (Q : Nat) (ms : (Nat → Int32)) (mt : (Nat → Int32)) (mc : (Nat → Int32)) (md : (Nat → Int32)) (m0 : Int32) (m1 : Int32) (m2 : Int32) (m3 : Int32) (m4 : Int32) (m5 : Int32) (k : Nat) (hk : k < 60) (hMK : ms 1 = nI K) (hK8 : K ≤ 8) (hQ : ms 27 = nI 1 → ms 29 = nI (Q + 1)) (hQ7 : Q ≤ 7) : MI l Γ yX5_does wsX5_does ({ frames := 2, cells := 0, slots := 0, locals := 47 }) [.ref (a 0), .int (nI k)] [moB Γ a ms mt mc md m0 m1 m2 m3 m4 m5] [moB Γ a (fX5_does Q ms mc md k).2.1 mt (fX5_does Q ms mc md k).2.2 md m0 m1 m2 m3 m4 m5] (fX5_does Q ms mc md k).1 := by
  intro sz
  refine Met.ofW (cc := cX5_does) (maxL := 6) (ret := (some .boolean)) (by decide) rfl ?_
  intro p e s m args below meth c s₁ B hml hv
  obtain ⟨rfl, hsz, hP, hK, hD0, hAm⟩ := hv
  have hx := B.exec
  have hb := B.bytes
  have hr := B.returns
  have hts := atoms_spec (ws := wsX5_does) B.pre
  have hown : s.vm.findClass RX5 = some m.cls := findClass_of_methodNamed B.named
  have hlocks := B.notSynchronized
  subst hsz
  have hD := hD0.self (sz := s.heap.size)
  generalize hAe : va_A (wcat [moB Γ a ms mt mc md m0 m1 m2 m3 m4 m5]) s.heap.size = A at hD hAm ⊢
  have hA : ∀ q : Nat, s.heap.size ≤ q → A q := fun q h => by rw [← hAe]; exact Or.inr h
  have hAB : ∀ q : Nat, A q → A q := fun _ h => h
  have hS : va_S A s.heap s.heap [] := va_S.rf
  have hl := lv_entry ([.ref (a 0), .int (nI k)]) (n := 6) (Nat.le_of_ble_eq_true rfl)
  rw [lg_entry_eq]
  generalize (lg_sl ([.ref (a 0), .int (nI k)]) ++ List.replicate (6 - (lg_sl ([.ref (a 0), .int (nI k)])).length) Slot.unset).toArray = ls at hl ⊢
  have hl : lv_has ls 6 [(0, .ref (a 0)), (1, .int (nI k))] := hl
  have hi5 : ∀ w ∈ wsX50, w ∈ wsX5_does := by decide +kernel
  have kc97 := hts (.constant RX5 97 (99999)) (by decide +kernel)
  have kf20 := hts (.fieldLink RX5 20 "CapsuleKeepersModel" "order" "[I") (by decide +kernel)
  have kf7 := hts (.fieldLink RX5 7 "CapsuleKeepersModel" "s" "[I") (by decide +kernel)
  have hq : (fX5_does Q ms mc md k) = (let y_1 := (md (3 * k)); (let y_2 := (md (3 * k + 1)); (let y_3 := (md (3 * k + 2)); (if y_1 = (nI 116) then (if ((nI 99999) - y_2) < (ms 31) then ((nI 0), ms, mc) else (if y_1 = (nI 100) then (if (fX5_areAlive ms (0) y_2 (-1)) = 0 then ((nI 0), ms, mc) else ((nI 1), (upd ms 31 ((ms 31) + y_2)), mc)) else (if y_1 = (nI 104) then (if (fX5_areAlive ms (0) y_2 y_3) = 0 then ((nI 0), ms, mc) else ((nI 1), (upd ms 31 ((ms 31) + y_2)), mc)) else ((nI 1), (upd ms 31 ((ms 31) + y_2)), mc)))) else (if y_1 = (nI 114) then (if (fX5_canRenew ms (0)) = 0 then ((nI 0), ms, mc) else (if y_1 = (nI 100) then (if (fX5_areAlive ms (0) y_2 (-1)) = 0 then ((nI 0), ms, mc) else ((nI 1), (fX5_deals Q ms mc (0)).2.1, (fX5_deals Q ms mc (0)).2.2)) else (if y_1 = (nI 104) then (if (fX5_areAlive ms (0) y_2 y_3) = 0 then ((nI 0), ms, mc) else ((nI 1), (fX5_deals Q ms mc (0)).2.1, (fX5_deals Q ms mc (0)).2.2)) else ((nI 1), (fX5_deals Q ms mc (0)).2.1, (fX5_deals Q ms mc (0)).2.2)))) else (if (fX5_isKeeper ms y_2) = 0 then ((nI 0), ms, mc) else (if y_1 = (nI 100) then (if (fX5_areAlive ms (0) y_2 (-1)) = 0 then ((nI 0), ms, mc) else ((nI 1), (fX5_dies ms (0) ((y_2.toNatClampNeg))).2, mc)) else (if (fX5_isKeeper ms y_3) = 0 then ((nI 0), ms, mc) else (if y_2 = y_3 then ((nI 0), ms, mc) else (if y_1 = (nI 104) then (if (fX5_areAlive ms (0) y_2 y_3) = 0 then ((nI 0), ms, mc) else ((nI 1), (upd ms (3 + (y_2.toNatClampNeg)) y_3), mc)) else ((nI 1), (upd (upd ms (11 + (y_2.toNatClampNeg)) ((ms (11 + (y_2.toNatClampNeg))) ^^^ ((nI 1) <<< (y_3 &&& 31)))) (11 + (y_3.toNatClampNeg)) (((upd ms (11 + (y_2.toNatClampNeg)) ((ms (11 + (y_2.toNatClampNeg))) ^^^ ((nI 1) <<< (y_3 &&& 31)))) (11 + (y_3.toNatClampNeg))) ^^^ ((nI 1) <<< (y_2 &&& 31)))), mc))))))))))) := rfl
  refine lv_aload_n hx hb dX5_does_0 rfl (lv_at hl 0 rfl) ?_
  refine va_get (D := Γ.1) (ci := 5) (v := .ref (a 4)) (C := RX5) (T := TX5) (N := 10) hx hb hts hi5 hown hK hP 0 rfl rfl 6 (by decide) kf20 (fun _ h9 => h9) rfl dX5_does_1 ?_
  refine lv_iconst (v := (nI 3)) hx hb dX5_does_4 (by decide) ?_
  refine lv_iload_n hx hb dX5_does_5 rfl (lv_at hl 1 rfl) ?_
  refine lv_imul hx hb dX5_does_6 ?_
  refine lv_eqi (y := (nI (3 * k))) (pk_mul _ _) ?_
  refine va_iald_n (f := md) hx hb hK hP 4 0 rfl rfl (by omega) (Nat.le_of_ble_eq_true rfl) dX5_does_7 ?_
  refine lv_topi (fun y_1 ey_1 => ?_)
  replace hq : (fX5_does Q ms mc md k) = (let y_2 := (md (3 * k + 1)); (let y_3 := (md (3 * k + 2)); (if y_1 = (nI 116) then (if ((nI 99999) - y_2) < (ms 31) then ((nI 0), ms, mc) else (if y_1 = (nI 100) then (if (fX5_areAlive ms (0) y_2 (-1)) = 0 then ((nI 0), ms, mc) else ((nI 1), (upd ms 31 ((ms 31) + y_2)), mc)) else (if y_1 = (nI 104) then (if (fX5_areAlive ms (0) y_2 y_3) = 0 then ((nI 0), ms, mc) else ((nI 1), (upd ms 31 ((ms 31) + y_2)), mc)) else ((nI 1), (upd ms 31 ((ms 31) + y_2)), mc)))) else (if y_1 = (nI 114) then (if (fX5_canRenew ms (0)) = 0 then ((nI 0), ms, mc) else (if y_1 = (nI 100) then (if (fX5_areAlive ms (0) y_2 (-1)) = 0 then ((nI 0), ms, mc) else ((nI 1), (fX5_deals Q ms mc (0)).2.1, (fX5_deals Q ms mc (0)).2.2)) else (if y_1 = (nI 104) then (if (fX5_areAlive ms (0) y_2 y_3) = 0 then ((nI 0), ms, mc) else ((nI 1), (fX5_deals Q ms mc (0)).2.1, (fX5_deals Q ms mc (0)).2.2)) else ((nI 1), (fX5_deals Q ms mc (0)).2.1, (fX5_deals Q ms mc (0)).2.2)))) else (if (fX5_isKeeper ms y_2) = 0 then ((nI 0), ms, mc) else (if y_1 = (nI 100) then (if (fX5_areAlive ms (0) y_2 (-1)) = 0 then ((nI 0), ms, mc) else ((nI 1), (fX5_dies ms (0) ((y_2.toNatClampNeg))).2, mc)) else (if (fX5_isKeeper ms y_3) = 0 then ((nI 0), ms, mc) else (if y_2 = y_3 then ((nI 0), ms, mc) else (if y_1 = (nI 104) then (if (fX5_areAlive ms (0) y_2 y_3) = 0 then ((nI 0), ms, mc) else ((nI 1), (upd ms (3 + (y_2.toNatClampNeg)) y_3), mc)) else ((nI 1), (upd (upd ms (11 + (y_2.toNatClampNeg)) ((ms (11 + (y_2.toNatClampNeg))) ^^^ ((nI 1) <<< (y_3 &&& 31)))) (11 + (y_3.toNatClampNeg)) (((upd ms (11 + (y_2.toNatClampNeg)) ((ms (11 + (y_2.toNatClampNeg))) ^^^ ((nI 1) <<< (y_3 &&& 31)))) (11 + (y_3.toNatClampNeg))) ^^^ ((nI 1) <<< (y_2 &&& 31)))), mc)))))))))) := hq.trans (by first | rw [ey_1] | rfl)
  refine lv_istore_n (lv' := [(2, .int y_1), (0, .ref (a 0)), (1, .int (nI k))]) hx hb dX5_does_8 rfl hl (by decide) rfl (fun ls hl => ?_)
  refine lv_aload_n hx hb dX5_does_9 rfl (lv_at hl 1 rfl) ?_
  refine va_get (D := Γ.1) (ci := 5) (v := .ref (a 4)) (C := RX5) (T := TX5) (N := 10) hx hb hts hi5 hown hK hP 0 rfl rfl 6 (by decide) kf20 (fun _ h9 => h9) rfl dX5_does_10 ?_
  refine lv_iconst (v := (nI 3)) hx hb dX5_does_13 (by decide) ?_
  refine lv_iload_n hx hb dX5_does_14 rfl (lv_at hl 2 rfl) ?_
  refine lv_imul hx hb dX5_does_15 ?_
  refine lv_eqi (y := (nI (3 * k))) (pk_mul _ _) ?_
  refine lv_iconst (v := (nI 1)) hx hb dX5_does_16 (by decide) ?_
  refine lv_iadd hx hb dX5_does_17 ?_
  refine lv_eqi (y := (nI (3 * k + 1))) (nI_add _ _) ?_
  refine va_iald_n (f := md) hx hb hK hP 4 0 rfl rfl (by omega) (Nat.le_of_ble_eq_true rfl) dX5_does_18 ?_
  refine lv_topi (fun y_2 ey_2 => ?_)
  replace hq : (fX5_does Q ms mc md k) = (let y_3 := (md (3 * k + 2)); (if y_1 = (nI 116) then (if ((nI 99999) - y_2) < (ms 31) then ((nI 0), ms, mc) else (if y_1 = (nI 100) then (if (fX5_areAlive ms (0) y_2 (-1)) = 0 then ((nI 0), ms, mc) else ((nI 1), (upd ms 31 ((ms 31) + y_2)), mc)) else (if y_1 = (nI 104) then (if (fX5_areAlive ms (0) y_2 y_3) = 0 then ((nI 0), ms, mc) else ((nI 1), (upd ms 31 ((ms 31) + y_2)), mc)) else ((nI 1), (upd ms 31 ((ms 31) + y_2)), mc)))) else (if y_1 = (nI 114) then (if (fX5_canRenew ms (0)) = 0 then ((nI 0), ms, mc) else (if y_1 = (nI 100) then (if (fX5_areAlive ms (0) y_2 (-1)) = 0 then ((nI 0), ms, mc) else ((nI 1), (fX5_deals Q ms mc (0)).2.1, (fX5_deals Q ms mc (0)).2.2)) else (if y_1 = (nI 104) then (if (fX5_areAlive ms (0) y_2 y_3) = 0 then ((nI 0), ms, mc) else ((nI 1), (fX5_deals Q ms mc (0)).2.1, (fX5_deals Q ms mc (0)).2.2)) else ((nI 1), (fX5_deals Q ms mc (0)).2.1, (fX5_deals Q ms mc (0)).2.2)))) else (if (fX5_isKeeper ms y_2) = 0 then ((nI 0), ms, mc) else (if y_1 = (nI 100) then (if (fX5_areAlive ms (0) y_2 (-1)) = 0 then ((nI 0), ms, mc) else ((nI 1), (fX5_dies ms (0) ((y_2.toNatClampNeg))).2, mc)) else (if (fX5_isKeeper ms y_3) = 0 then ((nI 0), ms, mc) else (if y_2 = y_3 then ((nI 0), ms, mc) else (if y_1 = (nI 104) then (if (fX5_areAlive ms (0) y_2 y_3) = 0 then ((nI 0), ms, mc) else ((nI 1), (upd ms (3 + (y_2.toNatClampNeg)) y_3), mc)) else ((nI 1), (upd (upd ms (11 + (y_2.toNatClampNeg)) ((ms (11 + (y_2.toNatClampNeg))) ^^^ ((nI 1) <<< (y_3 &&& 31)))) (11 + (y_3.toNatClampNeg)) (((upd ms (11 + (y_2.toNatClampNeg)) ((ms (11 + (y_2.toNatClampNeg))) ^^^ ((nI 1) <<< (y_3 &&& 31)))) (11 + (y_3.toNatClampNeg))) ^^^ ((nI 1) <<< (y_2 &&& 31)))), mc))))))))) := hq.trans (by first | rw [ey_2] | rfl)
  refine lv_istore_n (lv' := [(3, .int y_2), (2, .int y_1), (0, .ref (a 0)), (1, .int (nI k))]) hx hb dX5_does_19 rfl hl (by decide) rfl (fun ls hl => ?_)
  refine lv_aload_n hx hb dX5_does_20 rfl (lv_at hl 2 rfl) ?_
  refine va_get (D := Γ.1) (ci := 5) (v := .ref (a 4)) (C := RX5) (T := TX5) (N := 10) hx hb hts hi5 hown hK hP 0 rfl rfl 6 (by decide) kf20 (fun _ h9 => h9) rfl dX5_does_21 ?_
  refine lv_iconst (v := (nI 3)) hx hb dX5_does_24 (by decide) ?_
  refine lv_iload_n hx hb dX5_does_25 rfl (lv_at hl 3 rfl) ?_
  refine lv_imul hx hb dX5_does_26 ?_
  refine lv_eqi (y := (nI (3 * k))) (pk_mul _ _) ?_
  refine lv_iconst (v := (nI 2)) hx hb dX5_does_27 (by decide) ?_
  refine lv_iadd hx hb dX5_does_28 ?_
  refine lv_eqi (y := (nI (3 * k + 2))) (nI_add _ _) ?_
  refine va_iald_n (f := md) hx hb hK hP 4 0 rfl rfl (by omega) (Nat.le_of_ble_eq_true rfl) dX5_does_29 ?_
  refine lv_topi (fun y_3 ey_3 => ?_)
  replace hq : (fX5_does Q ms mc md k) = (if y_1 = (nI 116) then (if ((nI 99999) - y_2) < (ms 31) then ((nI 0), ms, mc) else (if y_1 = (nI 100) then (if (fX5_areAlive ms (0) y_2 (-1)) = 0 then ((nI 0), ms, mc) else ((nI 1), (upd ms 31 ((ms 31) + y_2)), mc)) else (if y_1 = (nI 104) then (if (fX5_areAlive ms (0) y_2 y_3) = 0 then ((nI 0), ms, mc) else ((nI 1), (upd ms 31 ((ms 31) + y_2)), mc)) else ((nI 1), (upd ms 31 ((ms 31) + y_2)), mc)))) else (if y_1 = (nI 114) then (if (fX5_canRenew ms (0)) = 0 then ((nI 0), ms, mc) else (if y_1 = (nI 100) then (if (fX5_areAlive ms (0) y_2 (-1)) = 0 then ((nI 0), ms, mc) else ((nI 1), (fX5_deals Q ms mc (0)).2.1, (fX5_deals Q ms mc (0)).2.2)) else (if y_1 = (nI 104) then (if (fX5_areAlive ms (0) y_2 y_3) = 0 then ((nI 0), ms, mc) else ((nI 1), (fX5_deals Q ms mc (0)).2.1, (fX5_deals Q ms mc (0)).2.2)) else ((nI 1), (fX5_deals Q ms mc (0)).2.1, (fX5_deals Q ms mc (0)).2.2)))) else (if (fX5_isKeeper ms y_2) = 0 then ((nI 0), ms, mc) else (if y_1 = (nI 100) then (if (fX5_areAlive ms (0) y_2 (-1)) = 0 then ((nI 0), ms, mc) else ((nI 1), (fX5_dies ms (0) ((y_2.toNatClampNeg))).2, mc)) else (if (fX5_isKeeper ms y_3) = 0 then ((nI 0), ms, mc) else (if y_2 = y_3 then ((nI 0), ms, mc) else (if y_1 = (nI 104) then (if (fX5_areAlive ms (0) y_2 y_3) = 0 then ((nI 0), ms, mc) else ((nI 1), (upd ms (3 + (y_2.toNatClampNeg)) y_3), mc)) else ((nI 1), (upd (upd ms (11 + (y_2.toNatClampNeg)) ((ms (11 + (y_2.toNatClampNeg))) ^^^ ((nI 1) <<< (y_3 &&& 31)))) (11 + (y_3.toNatClampNeg)) (((upd ms (11 + (y_2.toNatClampNeg)) ((ms (11 + (y_2.toNatClampNeg))) ^^^ ((nI 1) <<< (y_3 &&& 31)))) (11 + (y_3.toNatClampNeg))) ^^^ ((nI 1) <<< (y_2 &&& 31)))), mc)))))))) := hq.trans (by first | rw [ey_3] | rfl)
  refine lv_istore (lv' := [(4, .int y_3), (3, .int y_2), (2, .int y_1), (0, .ref (a 0)), (1, .int (nI k))]) hx hb dX5_does_30 hl (by decide) rfl (fun ls hl => ?_)
  refine lv_iload_n hx hb dX5_does_32 rfl (lv_at hl 2 rfl) ?_
  refine lv_bipush (v := (nI 116)) hx hb dX5_does_33 (by decide) ?_
  refine lv_icmp_ne (tgt := 60) hx hb dX5_does_35 (by decide) (fun c_4 => ?_) (fun c_4 => ?_)
  · have hq := hq.trans (if_neg c_4)
    refine lv_iload_n hx hb dX5_does_60 rfl (lv_at hl 2 rfl) ?_
    refine lv_bipush (v := (nI 114)) hx hb dX5_does_61 (by decide) ?_
    refine lv_icmp_ne (tgt := 74) hx hb dX5_does_63 (by decide) (fun c_5 => ?_) (fun c_5 => ?_)
    · have hq := hq.trans (if_neg c_5)
      refine lv_aload_n hx hb dX5_does_74 rfl (lv_at hl 3 rfl) ?_
      refine lv_iload_n hx hb dX5_does_75 rfl (lv_at hl 1 rfl) ?_
      refine cLI (va_runV (As := [.int y_2]) (rest := []) ⟨hx, hb, hml, hown, hts⟩ ((kX5_isKeeper l Γ a ms mt mc md m0 m1 m2 m3 m4 m5 y_2) _) (cwV 1 hts gX5_does_X5_isKeeper rfl rfl rfl (by decide +kernel) ⟨Nat.le_of_ble_eq_true rfl, Nat.le_of_ble_eq_true rfl⟩) ⟨wPre_blind, va_recv hK hP (ci := 5) (q0 := 0) rfl rfl, wPre_mk hP hD hK hS hA hAB hAm [0] rfl rfl⟩ rfl rfl hl.1 rfl (lv_room (Nat.le_of_ble_eq_true rfl)) dX5_does_76 ⟨Nat.zero_le _, Nat.zero_le _⟩) hP hS hA (fun H locs hP hS => ?_)
      refine lv_if_eq (tgt := 107) hx hb dX5_does_79 (by decide) (fun c_6 => ?_) (fun c_6 => ?_)
      · have hq := hq.trans (if_pos c_6)
        refine lv_iconst (v := (nI 0)) hx hb dX5_does_107 (by decide) ?_
        refine lv_istore (lv' := [(5, .int (nI 0)), (4, .int y_3), (3, .int y_2), (2, .int y_1), (0, .ref (a 0)), (1, .int (nI k))]) hx hb dX5_does_108 hl (by decide) rfl (fun ls hl => ?_)
        refine lv_iload hx hb dX5_does_110 (lv_at hl 0 rfl) ?_
        refine lv_if_eq (tgt := 152) hx hb dX5_does_112 (by decide) (fun c_112 => ?_) (fun c_112 => absurd c_112 (by decide))
        refine lv_iconst (v := (nI 0)) hx hb dX5_does_152 (by decide) ?_
        refine lv_istore (lv' := [(5, .int (nI 0)), (4, .int y_3), (3, .int y_2), (2, .int y_1), (0, .ref (a 0)), (1, .int (nI k))]) hx hb dX5_does_153 hl (by decide) rfl (fun ls hl => ?_)
        refine lv_iload hx hb dX5_does_155 (lv_at hl 0 rfl) ?_
        refine lv_if_ne (tgt := 162) hx hb dX5_does_157 (by decide) (fun c_157 => absurd c_157 (by decide)) (fun c_157 => ?_)
        refine lv_iconst (v := (nI 0)) hx hb dX5_does_160 (by decide) ?_
        exact W.zret (v := (nI 0)) hx hb hr (by first | rfl | decide) (fun t ht hW => eMI (by rw [hq]; exact hP) hS ht (by rw [hq])) hS.2.2 dX5_does_161
      · have hq := hq.trans (if_neg c_6)
        refine lv_iload_n hx hb dX5_does_82 rfl (lv_at hl 2 rfl) ?_
        refine lv_bipush (v := (nI 100)) hx hb dX5_does_83 (by decide) ?_
        refine lv_icmp_eq (tgt := 103) hx hb dX5_does_85 (by decide) (fun c_7 => ?_) (fun c_7 => ?_)
        · have hq := hq.trans (if_pos c_7)
          refine lv_iconst (v := (nI 1)) hx hb dX5_does_103 (by decide) ?_
          refine lv_goto (tgt := 108) hx hb dX5_does_104 (by decide) ?_
          refine lv_istore (lv' := [(5, .int (nI 1)), (4, .int y_3), (3, .int y_2), (2, .int y_1), (0, .ref (a 0)), (1, .int (nI k))]) hx hb dX5_does_108 hl (by decide) rfl (fun ls hl => ?_)
          refine lv_iload hx hb dX5_does_110 (lv_at hl 0 rfl) ?_
          refine lv_if_eq (tgt := 152) hx hb dX5_does_112 (by decide) (fun c_112 => absurd c_112 (by decide)) (fun c_112 => ?_)
          refine lv_iload_n hx hb dX5_does_115 rfl (lv_at hl 3 rfl) ?_
          refine lv_bipush (v := (nI 100)) hx hb dX5_does_116 (by decide) ?_
          refine lv_icmp_eq (tgt := 127) hx hb dX5_does_118 (by decide) (fun c_118 => ?_) (fun c_118 => absurd c_7 c_118)
          refine lv_aload_n hx hb dX5_does_127 rfl (lv_at hl 4 rfl) ?_
          refine lv_iconst (v := (nI 0)) hx hb dX5_does_128 (by decide) ?_
          refine lv_iload_n hx hb dX5_does_129 rfl (lv_at hl 2 rfl) ?_
          refine lv_iload_n hx hb dX5_does_130 rfl (lv_at hl 3 rfl) ?_
          refine lv_bipush (v := (nI 100)) hx hb dX5_does_131 (by decide) ?_
          refine lv_icmp_ne (tgt := 140) hx hb dX5_does_133 (by decide) (fun c_133 => absurd c_7 c_133) (fun c_133 => ?_)
          refine lv_iconst (v := (-1)) hx hb dX5_does_136 (by decide) ?_
          refine lv_goto (tgt := 142) hx hb dX5_does_137 (by decide) ?_
          refine cLI (va_runV (As := [.int (nI 0), .int y_2, .int (-1)]) (rest := []) ⟨hx, hb, hml, hown, hts⟩ ((kX5_areAlive l Γ a ms mt mc md m0 m1 m2 m3 m4 m5 (0) y_2 (-1) (by first | assumption | omega)) _) (cwV 3 hts gX5_does_X5_areAlive rfl rfl rfl (by decide +kernel) ⟨Nat.le_of_ble_eq_true rfl, Nat.le_of_ble_eq_true rfl⟩) ⟨wPre_blind, va_recv hK hP (ci := 5) (q0 := 0) rfl rfl, wPre_mk hP hD hK hS hA hAB hAm [0] rfl rfl⟩ rfl rfl hl.1 rfl (lv_room (Nat.le_of_ble_eq_true rfl)) dX5_does_142 ⟨Nat.zero_le _, Nat.zero_le _⟩) hP hS hA (fun H locs hP hS => ?_)
          refine lv_if_eq (tgt := 152) hx hb dX5_does_145 (by decide) (fun c_8 => ?_) (fun c_8 => ?_)
          · have hq := hq.trans (if_pos c_8)
            refine lv_iconst (v := (nI 0)) hx hb dX5_does_152 (by decide) ?_
            refine lv_istore (lv' := [(5, .int (nI 0)), (4, .int y_3), (3, .int y_2), (2, .int y_1), (0, .ref (a 0)), (1, .int (nI k))]) hx hb dX5_does_153 hl (by decide) rfl (fun ls hl => ?_)
            refine lv_iload hx hb dX5_does_155 (lv_at hl 0 rfl) ?_
            refine lv_if_ne (tgt := 162) hx hb dX5_does_157 (by decide) (fun c_157 => absurd c_157 (by decide)) (fun c_157 => ?_)
            refine lv_iconst (v := (nI 0)) hx hb dX5_does_160 (by decide) ?_
            exact W.zret (v := (nI 0)) hx hb hr (by first | rfl | decide) (fun t ht hW => eMI (by rw [hq]; exact hP) hS ht (by rw [hq])) hS.2.2 dX5_does_161
          · have hq := hq.trans (if_neg c_8)
            refine lv_iconst (v := (nI 1)) hx hb dX5_does_148 (by decide) ?_
            refine lv_goto (tgt := 153) hx hb dX5_does_149 (by decide) ?_
            refine lv_istore (lv' := [(5, .int (nI 1)), (4, .int y_3), (3, .int y_2), (2, .int y_1), (0, .ref (a 0)), (1, .int (nI k))]) hx hb dX5_does_153 hl (by decide) rfl (fun ls hl => ?_)
            refine lv_iload hx hb dX5_does_155 (lv_at hl 0 rfl) ?_
            refine lv_if_ne (tgt := 162) hx hb dX5_does_157 (by decide) (fun c_157 => ?_) (fun c_157 => absurd c_157 (by decide))
            refine lv_iload_n hx hb dX5_does_162 rfl (lv_at hl 3 rfl) ?_
            refine lv_bipush (v := (nI 116)) hx hb dX5_does_163 (by decide) ?_
            refine lv_icmp_ne (tgt := 182) hx hb dX5_does_165 (by decide) (fun c_165 => ?_) (fun c_165 => absurd c_165 c_4)
            refine lv_iload_n hx hb dX5_does_182 rfl (lv_at hl 3 rfl) ?_
            refine lv_bipush (v := (nI 114)) hx hb dX5_does_183 (by decide) ?_
            refine lv_icmp_ne (tgt := 197) hx hb dX5_does_185 (by decide) (fun c_185 => ?_) (fun c_185 => absurd c_185 c_5)
            refine lv_iload_n hx hb dX5_does_197 rfl (lv_at hl 3 rfl) ?_
            refine lv_bipush (v := (nI 100)) hx hb dX5_does_198 (by decide) ?_
            refine lv_icmp_ne (tgt := 213) hx hb dX5_does_200 (by decide) (fun c_200 => absurd c_7 c_200) (fun c_200 => ?_)
            obtain ⟨kn, hkn, rfl⟩ : ∃ j : Nat, j < K ∧ y_2 = nI j := isK hMK hK8 (by assumption)
            replace hq : (fX5_does Q ms mc md k) = ((nI 1), (fX5_dies ms (0) (kn)).2, mc) := hq.trans (by first | simp only [nI_clamp (show kn < 2 ^ 31 by omega), Nat.add_sub_cancel] | rfl)
            refine lv_aload_n hx hb dX5_does_203 rfl (lv_at hl 4 rfl) ?_
            refine lv_iconst (v := (nI 0)) hx hb dX5_does_204 (by decide) ?_
            refine lv_iload_n hx hb dX5_does_205 rfl (lv_at hl 2 rfl) ?_
            refine cMI (bc' := [moB Γ a (fX5_dies ms (0) (kn)).2 mt mc md m0 m1 m2 m3 m4 m5]) (va_runV (As := [.int (nI 0), .int (nI kn)]) (rest := []) ⟨hx, hb, hml, hown, hts⟩ ((kX5_dies l Γ a ms mt mc md m0 m1 m2 m3 m4 m5 (0) (kn) (by first | assumption | omega) (by first | assumption | omega)) _) (cwV 2 hts gX5_does_X5_dies rfl rfl rfl (by decide +kernel) ⟨Nat.le_of_ble_eq_true rfl, Nat.le_of_ble_eq_true rfl⟩) ⟨wPre_blind, va_recv hK hP (ci := 5) (q0 := 0) rfl rfl, wPre_mk hP hD hK hS hA hAB hAm [0] rfl rfl⟩ rfl rfl hl.1 rfl (lv_room (Nat.le_of_ble_eq_true rfl)) dX5_does_206 ⟨Nat.zero_le _, Nat.zero_le _⟩) hP hD hS hA [0] rfl rfl (bs' := [moB Γ a (fX5_dies ms (0) (kn)).2 mt mc md m0 m1 m2 m3 m4 m5]) rfl (fun H locs hP hD hS => ?_)
            refine lv_pop hx hb dX5_does_209 rfl ?_
            refine lv_goto (tgt := 264) hx hb dX5_does_210 (by decide) ?_
            refine lv_iconst (v := (nI 1)) hx hb dX5_does_264 (by decide) ?_
            exact W.zret (v := (nI 1)) hx hb hr (by first | rfl | decide) (fun t ht hW => eMI (by rw [hq]; exact hP) hS ht (by rw [hq])) hS.2.2 dX5_does_265
        · have hq := hq.trans (if_neg c_7)
          refine lv_aload_n hx hb dX5_does_88 rfl (lv_at hl 3 rfl) ?_
          refine lv_iload hx hb dX5_does_89 (lv_at hl 0 rfl) ?_
          refine cLI (va_runV (As := [.int y_3]) (rest := []) ⟨hx, hb, hml, hown, hts⟩ ((kX5_isKeeper l Γ a ms mt mc md m0 m1 m2 m3 m4 m5 y_3) _) (cwV 1 hts gX5_does_X5_isKeeper rfl rfl rfl (by decide +kernel) ⟨Nat.le_of_ble_eq_true rfl, Nat.le_of_ble_eq_true rfl⟩) ⟨wPre_blind, va_recv hK hP (ci := 5) (q0 := 0) rfl rfl, wPre_mk hP hD hK hS hA hAB hAm [0] rfl rfl⟩ rfl rfl hl.1 rfl (lv_room (Nat.le_of_ble_eq_true rfl)) dX5_does_91 ⟨Nat.zero_le _, Nat.zero_le _⟩) hP hS hA (fun H locs hP hS => ?_)
          refine lv_if_eq (tgt := 107) hx hb dX5_does_94 (by decide) (fun c_9 => ?_) (fun c_9 => ?_)
          · have hq := hq.trans (if_pos c_9)
            refine lv_iconst (v := (nI 0)) hx hb dX5_does_107 (by decide) ?_
            refine lv_istore (lv' := [(5, .int (nI 0)), (4, .int y_3), (3, .int y_2), (2, .int y_1), (0, .ref (a 0)), (1, .int (nI k))]) hx hb dX5_does_108 hl (by decide) rfl (fun ls hl => ?_)
            refine lv_iload hx hb dX5_does_110 (lv_at hl 0 rfl) ?_
            refine lv_if_eq (tgt := 152) hx hb dX5_does_112 (by decide) (fun c_112 => ?_) (fun c_112 => absurd c_112 (by decide))
            refine lv_iconst (v := (nI 0)) hx hb dX5_does_152 (by decide) ?_
            refine lv_istore (lv' := [(5, .int (nI 0)), (4, .int y_3), (3, .int y_2), (2, .int y_1), (0, .ref (a 0)), (1, .int (nI k))]) hx hb dX5_does_153 hl (by decide) rfl (fun ls hl => ?_)
            refine lv_iload hx hb dX5_does_155 (lv_at hl 0 rfl) ?_
            refine lv_if_ne (tgt := 162) hx hb dX5_does_157 (by decide) (fun c_157 => absurd c_157 (by decide)) (fun c_157 => ?_)
            refine lv_iconst (v := (nI 0)) hx hb dX5_does_160 (by decide) ?_
            exact W.zret (v := (nI 0)) hx hb hr (by first | rfl | decide) (fun t ht hW => eMI (by rw [hq]; exact hP) hS ht (by rw [hq])) hS.2.2 dX5_does_161
          · have hq := hq.trans (if_neg c_9)
            refine lv_iload_n hx hb dX5_does_97 rfl (lv_at hl 1 rfl) ?_
            refine lv_iload hx hb dX5_does_98 (lv_at hl 0 rfl) ?_
            refine lv_icmp_eq (tgt := 107) hx hb dX5_does_100 (by decide) (fun c_10 => ?_) (fun c_10 => ?_)
            · have hq := hq.trans (if_pos c_10)
              refine lv_iconst (v := (nI 0)) hx hb dX5_does_107 (by decide) ?_
              refine lv_istore (lv' := [(5, .int (nI 0)), (4, .int y_3), (3, .int y_2), (2, .int y_1), (0, .ref (a 0)), (1, .int (nI k))]) hx hb dX5_does_108 hl (by decide) rfl (fun ls hl => ?_)
              refine lv_iload hx hb dX5_does_110 (lv_at hl 0 rfl) ?_
              refine lv_if_eq (tgt := 152) hx hb dX5_does_112 (by decide) (fun c_112 => ?_) (fun c_112 => absurd c_112 (by decide))
              refine lv_iconst (v := (nI 0)) hx hb dX5_does_152 (by decide) ?_
              refine lv_istore (lv' := [(5, .int (nI 0)), (4, .int y_3), (3, .int y_2), (2, .int y_1), (0, .ref (a 0)), (1, .int (nI k))]) hx hb dX5_does_153 hl (by decide) rfl (fun ls hl => ?_)
              refine lv_iload hx hb dX5_does_155 (lv_at hl 0 rfl) ?_
              refine lv_if_ne (tgt := 162) hx hb dX5_does_157 (by decide) (fun c_157 => absurd c_157 (by decide)) (fun c_157 => ?_)
              refine lv_iconst (v := (nI 0)) hx hb dX5_does_160 (by decide) ?_
              exact W.zret (v := (nI 0)) hx hb hr (by first | rfl | decide) (fun t ht hW => eMI (by rw [hq]; exact hP) hS ht (by rw [hq])) hS.2.2 dX5_does_161
            · have hq := hq.trans (if_neg c_10)
              refine lv_iconst (v := (nI 1)) hx hb dX5_does_103 (by decide) ?_
              refine lv_goto (tgt := 108) hx hb dX5_does_104 (by decide) ?_
              refine lv_istore (lv' := [(5, .int (nI 1)), (4, .int y_3), (3, .int y_2), (2, .int y_1), (0, .ref (a 0)), (1, .int (nI k))]) hx hb dX5_does_108 hl (by decide) rfl (fun ls hl => ?_)
              refine lv_iload hx hb dX5_does_110 (lv_at hl 0 rfl) ?_
              refine lv_if_eq (tgt := 152) hx hb dX5_does_112 (by decide) (fun c_112 => absurd c_112 (by decide)) (fun c_112 => ?_)
              refine lv_iload_n hx hb dX5_does_115 rfl (lv_at hl 3 rfl) ?_
              refine lv_bipush (v := (nI 100)) hx hb dX5_does_116 (by decide) ?_
              refine lv_icmp_eq (tgt := 127) hx hb dX5_does_118 (by decide) (fun c_118 => absurd c_118 c_7) (fun c_118 => ?_)
              refine lv_iload_n hx hb dX5_does_121 rfl (lv_at hl 3 rfl) ?_
              refine lv_bipush (v := (nI 104)) hx hb dX5_does_122 (by decide) ?_
              refine lv_icmp_ne (tgt := 148) hx hb dX5_does_124 (by decide) (fun c_11 => ?_) (fun c_11 => ?_)
              · have hq := hq.trans (if_neg c_11)
                refine lv_iconst (v := (nI 1)) hx hb dX5_does_148 (by decide) ?_
                refine lv_goto (tgt := 153) hx hb dX5_does_149 (by decide) ?_
                refine lv_istore (lv' := [(5, .int (nI 1)), (4, .int y_3), (3, .int y_2), (2, .int y_1), (0, .ref (a 0)), (1, .int (nI k))]) hx hb dX5_does_153 hl (by decide) rfl (fun ls hl => ?_)
                refine lv_iload hx hb dX5_does_155 (lv_at hl 0 rfl) ?_
                refine lv_if_ne (tgt := 162) hx hb dX5_does_157 (by decide) (fun c_157 => ?_) (fun c_157 => absurd c_157 (by decide))
                refine lv_iload_n hx hb dX5_does_162 rfl (lv_at hl 3 rfl) ?_
                refine lv_bipush (v := (nI 116)) hx hb dX5_does_163 (by decide) ?_
                refine lv_icmp_ne (tgt := 182) hx hb dX5_does_165 (by decide) (fun c_165 => ?_) (fun c_165 => absurd c_165 c_4)
                refine lv_iload_n hx hb dX5_does_182 rfl (lv_at hl 3 rfl) ?_
                refine lv_bipush (v := (nI 114)) hx hb dX5_does_183 (by decide) ?_
                refine lv_icmp_ne (tgt := 197) hx hb dX5_does_185 (by decide) (fun c_185 => ?_) (fun c_185 => absurd c_185 c_5)
                refine lv_iload_n hx hb dX5_does_197 rfl (lv_at hl 3 rfl) ?_
                refine lv_bipush (v := (nI 100)) hx hb dX5_does_198 (by decide) ?_
                refine lv_icmp_ne (tgt := 213) hx hb dX5_does_200 (by decide) (fun c_200 => ?_) (fun c_200 => absurd c_200 c_7)
                refine lv_iload_n hx hb dX5_does_213 rfl (lv_at hl 3 rfl) ?_
                refine lv_bipush (v := (nI 104)) hx hb dX5_does_214 (by decide) ?_
                refine lv_icmp_ne (tgt := 232) hx hb dX5_does_216 (by decide) (fun c_216 => ?_) (fun c_216 => absurd c_216 c_11)
                obtain ⟨kn, hkn, rfl⟩ : ∃ j : Nat, j < K ∧ y_2 = nI j := isK hMK hK8 (by assumption)
                obtain ⟨on, hon, rfl⟩ : ∃ j : Nat, j < K ∧ y_3 = nI j := isK hMK hK8 (by assumption)
                replace hq : (fX5_does Q ms mc md k) = ((nI 1), (upd (upd ms (11 + kn) ((ms (11 + kn)) ^^^ ((nI 1) <<< ((nI on) &&& 31)))) (11 + on) (((upd ms (11 + kn) ((ms (11 + kn)) ^^^ ((nI 1) <<< ((nI on) &&& 31)))) (11 + on)) ^^^ ((nI 1) <<< ((nI kn) &&& 31)))), mc) := hq.trans (by first | simp only [nI_clamp (show kn < 2 ^ 31 by omega), nI_clamp (show on < 2 ^ 31 by omega), Nat.add_sub_cancel] | rfl)
                refine lv_aload_n hx hb dX5_does_232 rfl (lv_at hl 4 rfl) ?_
                refine va_get (D := Γ.1) (ci := 5) (v := .ref (a 1)) (C := RX5) (T := TX5) (N := 10) hx hb hts hi5 hown hK hP 0 rfl rfl 0 (by decide) kf7 (fun _ h9 => h9) rfl dX5_does_233 ?_
                refine lv_bipush (v := (nI 11)) hx hb dX5_does_236 (by decide) ?_
                refine lv_iload_n hx hb dX5_does_238 rfl (lv_at hl 2 rfl) ?_
                refine lv_iadd hx hb dX5_does_239 ?_
                refine lv_eqi (y := (nI (11 + kn))) (nI_add _ _) ?_
                refine lv_dup2_11 hx hb dX5_does_240 rfl rfl ?_
                refine va_iald_n (f := ms) hx hb hK hP 1 0 rfl rfl (by omega) (Nat.le_of_ble_eq_true rfl) dX5_does_241 ?_
                refine lv_iconst (v := (nI 1)) hx hb dX5_does_242 (by decide) ?_
                refine lv_iload hx hb dX5_does_243 (lv_at hl 1 rfl) ?_
                refine lv_ishl hx hb dX5_does_245 ?_
                refine lv_ixor hx hb dX5_does_246 ?_
                refine va_iast_n (f := ms) hx hb hK hP hD hS 1 0 rfl rfl (by omega) (Nat.le_of_ble_eq_true rfl) dX5_does_247 (fun H locs hP hD hS => ?_)
                have hP : va_P Γ.1 vwCl (wcat [moB Γ a (upd ms (11 + kn) ((ms (11 + kn)) ^^^ ((nI 1) <<< ((nI on) &&& 31)))) mt mc md m0 m1 m2 m3 m4 m5]) H := hP
                have hD : va_D A (wcat [moB Γ a (upd ms (11 + kn) ((ms (11 + kn)) ^^^ ((nI 1) <<< ((nI on) &&& 31)))) mt mc md m0 m1 m2 m3 m4 m5]) := hD
                refine lv_aload_n hx hb dX5_does_248 rfl (lv_at hl 4 rfl) ?_
                refine va_get (D := Γ.1) (ci := 5) (v := .ref (a 1)) (C := RX5) (T := TX5) (N := 10) hx hb hts hi5 hown hK hP 0 rfl rfl 0 (by decide) kf7 (fun _ h9 => h9) rfl dX5_does_249 ?_
                refine lv_bipush (v := (nI 11)) hx hb dX5_does_252 (by decide) ?_
                refine lv_iload hx hb dX5_does_254 (lv_at hl 1 rfl) ?_
                refine lv_iadd hx hb dX5_does_256 ?_
                refine lv_eqi (y := (nI (11 + on))) (nI_add _ _) ?_
                refine lv_dup2_11 hx hb dX5_does_257 rfl rfl ?_
                refine va_iald_n (f := (upd ms (11 + kn) ((ms (11 + kn)) ^^^ ((nI 1) <<< ((nI on) &&& 31))))) hx hb hK hP 1 0 rfl rfl (by omega) (Nat.le_of_ble_eq_true rfl) dX5_does_258 ?_
                refine lv_iconst (v := (nI 1)) hx hb dX5_does_259 (by decide) ?_
                refine lv_iload_n hx hb dX5_does_260 rfl (lv_at hl 2 rfl) ?_
                refine lv_ishl hx hb dX5_does_261 ?_
                refine lv_ixor hx hb dX5_does_262 ?_
                refine va_iast_n (f := (upd ms (11 + kn) ((ms (11 + kn)) ^^^ ((nI 1) <<< ((nI on) &&& 31))))) hx hb hK hP hD hS 1 0 rfl rfl (by omega) (Nat.le_of_ble_eq_true rfl) dX5_does_263 (fun H locs hP hD hS => ?_)
                have hP : va_P Γ.1 vwCl (wcat [moB Γ a (upd (upd ms (11 + kn) ((ms (11 + kn)) ^^^ ((nI 1) <<< ((nI on) &&& 31)))) (11 + on) (((upd ms (11 + kn) ((ms (11 + kn)) ^^^ ((nI 1) <<< ((nI on) &&& 31)))) (11 + on)) ^^^ ((nI 1) <<< ((nI kn) &&& 31)))) mt mc md m0 m1 m2 m3 m4 m5]) H := hP
                have hD : va_D A (wcat [moB Γ a (upd (upd ms (11 + kn) ((ms (11 + kn)) ^^^ ((nI 1) <<< ((nI on) &&& 31)))) (11 + on) (((upd ms (11 + kn) ((ms (11 + kn)) ^^^ ((nI 1) <<< ((nI on) &&& 31)))) (11 + on)) ^^^ ((nI 1) <<< ((nI kn) &&& 31)))) mt mc md m0 m1 m2 m3 m4 m5]) := hD
                refine lv_iconst (v := (nI 1)) hx hb dX5_does_264 (by decide) ?_
                exact W.zret (v := (nI 1)) hx hb hr (by first | rfl | decide) (fun t ht hW => eMI (by rw [hq]; exact hP) hS ht (by rw [hq])) hS.2.2 dX5_does_265
              · have hq := hq.trans (if_pos c_11)
                refine lv_aload_n hx hb dX5_does_127 rfl (lv_at hl 4 rfl) ?_
                refine lv_iconst (v := (nI 0)) hx hb dX5_does_128 (by decide) ?_
                refine lv_iload_n hx hb dX5_does_129 rfl (lv_at hl 2 rfl) ?_
                refine lv_iload_n hx hb dX5_does_130 rfl (lv_at hl 3 rfl) ?_
                refine lv_bipush (v := (nI 100)) hx hb dX5_does_131 (by decide) ?_
                refine lv_icmp_ne (tgt := 140) hx hb dX5_does_133 (by decide) (fun c_133 => ?_) (fun c_133 => absurd c_133 c_7)
                refine lv_iload hx hb dX5_does_140 (lv_at hl 1 rfl) ?_
                refine cLI (va_runV (As := [.int (nI 0), .int y_2, .int y_3]) (rest := []) ⟨hx, hb, hml, hown, hts⟩ ((kX5_areAlive l Γ a ms mt mc md m0 m1 m2 m3 m4 m5 (0) y_2 y_3 (by first | assumption | omega)) _) (cwV 3 hts gX5_does_X5_areAlive rfl rfl rfl (by decide +kernel) ⟨Nat.le_of_ble_eq_true rfl, Nat.le_of_ble_eq_true rfl⟩) ⟨wPre_blind, va_recv hK hP (ci := 5) (q0 := 0) rfl rfl, wPre_mk hP hD hK hS hA hAB hAm [0] rfl rfl⟩ rfl rfl hl.1 rfl (lv_room (Nat.le_of_ble_eq_true rfl)) dX5_does_142 ⟨Nat.zero_le _, Nat.zero_le _⟩) hP hS hA (fun H locs hP hS => ?_)
                refine lv_if_eq (tgt := 152) hx hb dX5_does_145 (by decide) (fun c_12 => ?_) (fun c_12 => ?_)
                · have hq := hq.trans (if_pos c_12)
                  refine lv_iconst (v := (nI 0)) hx hb dX5_does_152 (by decide) ?_
                  refine lv_istore (lv' := [(5, .int (nI 0)), (4, .int y_3), (3, .int y_2), (2, .int y_1), (0, .ref (a 0)), (1, .int (nI k))]) hx hb dX5_does_153 hl (by decide) rfl (fun ls hl => ?_)
                  refine lv_iload hx hb dX5_does_155 (lv_at hl 0 rfl) ?_
                  refine lv_if_ne (tgt := 162) hx hb dX5_does_157 (by decide) (fun c_157 => absurd c_157 (by decide)) (fun c_157 => ?_)
                  refine lv_iconst (v := (nI 0)) hx hb dX5_does_160 (by decide) ?_
                  exact W.zret (v := (nI 0)) hx hb hr (by first | rfl | decide) (fun t ht hW => eMI (by rw [hq]; exact hP) hS ht (by rw [hq])) hS.2.2 dX5_does_161
                · have hq := hq.trans (if_neg c_12)
                  refine lv_iconst (v := (nI 1)) hx hb dX5_does_148 (by decide) ?_
                  refine lv_goto (tgt := 153) hx hb dX5_does_149 (by decide) ?_
                  refine lv_istore (lv' := [(5, .int (nI 1)), (4, .int y_3), (3, .int y_2), (2, .int y_1), (0, .ref (a 0)), (1, .int (nI k))]) hx hb dX5_does_153 hl (by decide) rfl (fun ls hl => ?_)
                  refine lv_iload hx hb dX5_does_155 (lv_at hl 0 rfl) ?_
                  refine lv_if_ne (tgt := 162) hx hb dX5_does_157 (by decide) (fun c_157 => ?_) (fun c_157 => absurd c_157 (by decide))
                  refine lv_iload_n hx hb dX5_does_162 rfl (lv_at hl 3 rfl) ?_
                  refine lv_bipush (v := (nI 116)) hx hb dX5_does_163 (by decide) ?_
                  refine lv_icmp_ne (tgt := 182) hx hb dX5_does_165 (by decide) (fun c_165 => ?_) (fun c_165 => absurd c_165 c_4)
                  refine lv_iload_n hx hb dX5_does_182 rfl (lv_at hl 3 rfl) ?_
                  refine lv_bipush (v := (nI 114)) hx hb dX5_does_183 (by decide) ?_
                  refine lv_icmp_ne (tgt := 197) hx hb dX5_does_185 (by decide) (fun c_185 => ?_) (fun c_185 => absurd c_185 c_5)
                  refine lv_iload_n hx hb dX5_does_197 rfl (lv_at hl 3 rfl) ?_
                  refine lv_bipush (v := (nI 100)) hx hb dX5_does_198 (by decide) ?_
                  refine lv_icmp_ne (tgt := 213) hx hb dX5_does_200 (by decide) (fun c_200 => ?_) (fun c_200 => absurd c_200 c_7)
                  refine lv_iload_n hx hb dX5_does_213 rfl (lv_at hl 3 rfl) ?_
                  refine lv_bipush (v := (nI 104)) hx hb dX5_does_214 (by decide) ?_
                  refine lv_icmp_ne (tgt := 232) hx hb dX5_does_216 (by decide) (fun c_216 => absurd c_11 c_216) (fun c_216 => ?_)
                  obtain ⟨kn, hkn, rfl⟩ : ∃ j : Nat, j < K ∧ y_2 = nI j := isK hMK hK8 (by assumption)
                  replace hq : (fX5_does Q ms mc md k) = ((nI 1), (upd ms (3 + kn) y_3), mc) := hq.trans (by first | simp only [nI_clamp (show kn < 2 ^ 31 by omega), Nat.add_sub_cancel] | rfl)
                  refine lv_aload_n hx hb dX5_does_219 rfl (lv_at hl 4 rfl) ?_
                  refine va_get (D := Γ.1) (ci := 5) (v := .ref (a 1)) (C := RX5) (T := TX5) (N := 10) hx hb hts hi5 hown hK hP 0 rfl rfl 0 (by decide) kf7 (fun _ h9 => h9) rfl dX5_does_220 ?_
                  refine lv_iconst (v := (nI 3)) hx hb dX5_does_223 (by decide) ?_
                  refine lv_iload_n hx hb dX5_does_224 rfl (lv_at hl 2 rfl) ?_
                  refine lv_iadd hx hb dX5_does_225 ?_
                  refine lv_eqi (y := (nI (3 + kn))) (nI_add _ _) ?_
                  refine lv_iload hx hb dX5_does_226 (lv_at hl 1 rfl) ?_
                  refine va_iast_n (f := ms) hx hb hK hP hD hS 1 0 rfl rfl (by omega) (Nat.le_of_ble_eq_true rfl) dX5_does_228 (fun H locs hP hD hS => ?_)
                  have hP : va_P Γ.1 vwCl (wcat [moB Γ a (upd ms (3 + kn) y_3) mt mc md m0 m1 m2 m3 m4 m5]) H := hP
                  have hD : va_D A (wcat [moB Γ a (upd ms (3 + kn) y_3) mt mc md m0 m1 m2 m3 m4 m5]) := hD
                  refine lv_goto (tgt := 264) hx hb dX5_does_229 (by decide) ?_
                  refine lv_iconst (v := (nI 1)) hx hb dX5_does_264 (by decide) ?_
                  exact W.zret (v := (nI 1)) hx hb hr (by first | rfl | decide) (fun t ht hW => eMI (by rw [hq]; exact hP) hS ht (by rw [hq])) hS.2.2 dX5_does_265
    · have hq := hq.trans (if_pos c_5)
      refine lv_aload_n hx hb dX5_does_66 rfl (lv_at hl 3 rfl) ?_
      refine lv_iconst (v := (nI 0)) hx hb dX5_does_67 (by decide) ?_
      refine cLI (va_runV (As := [.int (nI 0)]) (rest := []) ⟨hx, hb, hml, hown, hts⟩ ((kX5_canRenew l Γ a ms mt mc md m0 m1 m2 m3 m4 m5 (0) (by first | assumption | omega)) _) (cwV 1 hts gX5_does_X5_canRenew rfl rfl rfl (by decide +kernel) ⟨Nat.le_of_ble_eq_true rfl, Nat.le_of_ble_eq_true rfl⟩) ⟨wPre_blind, va_recv hK hP (ci := 5) (q0 := 0) rfl rfl, wPre_mk hP hD hK hS hA hAB hAm [0] rfl rfl⟩ rfl rfl hl.1 rfl (lv_room (Nat.le_of_ble_eq_true rfl)) dX5_does_68 ⟨Nat.zero_le _, Nat.zero_le _⟩) hP hS hA (fun H locs hP hS => ?_)
      refine lv_goto (tgt := 108) hx hb dX5_does_71 (by decide) ?_
      refine lv_istore (lv' := [(5, .int (fX5_canRenew ms (0))), (4, .int y_3), (3, .int y_2), (2, .int y_1), (0, .ref (a 0)), (1, .int (nI k))]) hx hb dX5_does_108 hl (by decide) rfl (fun ls hl => ?_)
      refine lv_iload hx hb dX5_does_110 (lv_at hl 0 rfl) ?_
      refine lv_if_eq (tgt := 152) hx hb dX5_does_112 (by decide) (fun c_13 => ?_) (fun c_13 => ?_)
      · have hq := hq.trans (if_pos c_13)
        refine lv_iconst (v := (nI 0)) hx hb dX5_does_152 (by decide) ?_
        refine lv_istore (lv' := [(5, .int (nI 0)), (4, .int y_3), (3, .int y_2), (2, .int y_1), (0, .ref (a 0)), (1, .int (nI k))]) hx hb dX5_does_153 hl (by decide) rfl (fun ls hl => ?_)
        refine lv_iload hx hb dX5_does_155 (lv_at hl 0 rfl) ?_
        refine lv_if_ne (tgt := 162) hx hb dX5_does_157 (by decide) (fun c_157 => absurd c_157 (by decide)) (fun c_157 => ?_)
        refine lv_iconst (v := (nI 0)) hx hb dX5_does_160 (by decide) ?_
        exact W.zret (v := (nI 0)) hx hb hr (by first | rfl | decide) (fun t ht hW => eMI (by rw [hq]; exact hP) hS ht (by rw [hq])) hS.2.2 dX5_does_161
      · have hq := hq.trans (if_neg c_13)
        refine lv_iload_n hx hb dX5_does_115 rfl (lv_at hl 3 rfl) ?_
        refine lv_bipush (v := (nI 100)) hx hb dX5_does_116 (by decide) ?_
        refine lv_icmp_eq (tgt := 127) hx hb dX5_does_118 (by decide) (fun c_14 => ?_) (fun c_14 => ?_)
        · have hq := hq.trans (if_pos c_14)
          refine lv_aload_n hx hb dX5_does_127 rfl (lv_at hl 4 rfl) ?_
          refine lv_iconst (v := (nI 0)) hx hb dX5_does_128 (by decide) ?_
          refine lv_iload_n hx hb dX5_does_129 rfl (lv_at hl 2 rfl) ?_
          refine lv_iload_n hx hb dX5_does_130 rfl (lv_at hl 3 rfl) ?_
          refine lv_bipush (v := (nI 100)) hx hb dX5_does_131 (by decide) ?_
          refine lv_icmp_ne (tgt := 140) hx hb dX5_does_133 (by decide) (fun c_133 => absurd c_14 c_133) (fun c_133 => ?_)
          refine lv_iconst (v := (-1)) hx hb dX5_does_136 (by decide) ?_
          refine lv_goto (tgt := 142) hx hb dX5_does_137 (by decide) ?_
          refine cLI (va_runV (As := [.int (nI 0), .int y_2, .int (-1)]) (rest := []) ⟨hx, hb, hml, hown, hts⟩ ((kX5_areAlive l Γ a ms mt mc md m0 m1 m2 m3 m4 m5 (0) y_2 (-1) (by first | assumption | omega)) _) (cwV 3 hts gX5_does_X5_areAlive rfl rfl rfl (by decide +kernel) ⟨Nat.le_of_ble_eq_true rfl, Nat.le_of_ble_eq_true rfl⟩) ⟨wPre_blind, va_recv hK hP (ci := 5) (q0 := 0) rfl rfl, wPre_mk hP hD hK hS hA hAB hAm [0] rfl rfl⟩ rfl rfl hl.1 rfl (lv_room (Nat.le_of_ble_eq_true rfl)) dX5_does_142 ⟨Nat.zero_le _, Nat.zero_le _⟩) hP hS hA (fun H locs hP hS => ?_)
          refine lv_if_eq (tgt := 152) hx hb dX5_does_145 (by decide) (fun c_15 => ?_) (fun c_15 => ?_)
          · have hq := hq.trans (if_pos c_15)
            refine lv_iconst (v := (nI 0)) hx hb dX5_does_152 (by decide) ?_
            refine lv_istore (lv' := [(5, .int (nI 0)), (4, .int y_3), (3, .int y_2), (2, .int y_1), (0, .ref (a 0)), (1, .int (nI k))]) hx hb dX5_does_153 hl (by decide) rfl (fun ls hl => ?_)
            refine lv_iload hx hb dX5_does_155 (lv_at hl 0 rfl) ?_
            refine lv_if_ne (tgt := 162) hx hb dX5_does_157 (by decide) (fun c_157 => absurd c_157 (by decide)) (fun c_157 => ?_)
            refine lv_iconst (v := (nI 0)) hx hb dX5_does_160 (by decide) ?_
            exact W.zret (v := (nI 0)) hx hb hr (by first | rfl | decide) (fun t ht hW => eMI (by rw [hq]; exact hP) hS ht (by rw [hq])) hS.2.2 dX5_does_161
          · have hq := hq.trans (if_neg c_15)
            refine lv_iconst (v := (nI 1)) hx hb dX5_does_148 (by decide) ?_
            refine lv_goto (tgt := 153) hx hb dX5_does_149 (by decide) ?_
            refine lv_istore (lv' := [(5, .int (nI 1)), (4, .int y_3), (3, .int y_2), (2, .int y_1), (0, .ref (a 0)), (1, .int (nI k))]) hx hb dX5_does_153 hl (by decide) rfl (fun ls hl => ?_)
            refine lv_iload hx hb dX5_does_155 (lv_at hl 0 rfl) ?_
            refine lv_if_ne (tgt := 162) hx hb dX5_does_157 (by decide) (fun c_157 => ?_) (fun c_157 => absurd c_157 (by decide))
            refine lv_iload_n hx hb dX5_does_162 rfl (lv_at hl 3 rfl) ?_
            refine lv_bipush (v := (nI 116)) hx hb dX5_does_163 (by decide) ?_
            refine lv_icmp_ne (tgt := 182) hx hb dX5_does_165 (by decide) (fun c_165 => ?_) (fun c_165 => absurd c_165 c_4)
            refine lv_iload_n hx hb dX5_does_182 rfl (lv_at hl 3 rfl) ?_
            refine lv_bipush (v := (nI 114)) hx hb dX5_does_183 (by decide) ?_
            refine lv_icmp_ne (tgt := 197) hx hb dX5_does_185 (by decide) (fun c_185 => absurd c_5 c_185) (fun c_185 => ?_)
            refine lv_aload_n hx hb dX5_does_188 rfl (lv_at hl 4 rfl) ?_
            refine lv_iconst (v := (nI 0)) hx hb dX5_does_189 (by decide) ?_
            refine cMI (bc' := [moB Γ a (fX5_deals Q ms mc (0)).2.1 mt (fX5_deals Q ms mc (0)).2.2 md m0 m1 m2 m3 m4 m5]) (va_runV (As := [.int (nI 0)]) (rest := []) ⟨hx, hb, hml, hown, hts⟩ ((kX5_deals l Γ a Q ms mt mc md m0 m1 m2 m3 m4 m5 (0) (by first | assumption | omega) (hQ (canRenew_ne (by assumption))) (by first | assumption | omega)) _) (cwV 1 hts gX5_does_X5_deals rfl rfl rfl (by decide +kernel) ⟨Nat.le_of_ble_eq_true rfl, Nat.le_of_ble_eq_true rfl⟩) ⟨wPre_blind, va_recv hK hP (ci := 5) (q0 := 0) rfl rfl, wPre_mk hP hD hK hS hA hAB hAm [0] rfl rfl⟩ rfl rfl hl.1 rfl (lv_room (Nat.le_of_ble_eq_true rfl)) dX5_does_190 ⟨Nat.zero_le _, Nat.zero_le _⟩) hP hD hS hA [0] rfl rfl (bs' := [moB Γ a (fX5_deals Q ms mc (0)).2.1 mt (fX5_deals Q ms mc (0)).2.2 md m0 m1 m2 m3 m4 m5]) rfl (fun H locs hP hD hS => ?_)
            refine lv_pop hx hb dX5_does_193 rfl ?_
            refine lv_goto (tgt := 264) hx hb dX5_does_194 (by decide) ?_
            refine lv_iconst (v := (nI 1)) hx hb dX5_does_264 (by decide) ?_
            exact W.zret (v := (nI 1)) hx hb hr (by first | rfl | decide) (fun t ht hW => eMI (by rw [hq]; exact hP) hS ht (by rw [hq])) hS.2.2 dX5_does_265
        · have hq := hq.trans (if_neg c_14)
          refine lv_iload_n hx hb dX5_does_121 rfl (lv_at hl 3 rfl) ?_
          refine lv_bipush (v := (nI 104)) hx hb dX5_does_122 (by decide) ?_
          refine lv_icmp_ne (tgt := 148) hx hb dX5_does_124 (by decide) (fun c_16 => ?_) (fun c_16 => ?_)
          · have hq := hq.trans (if_neg c_16)
            refine lv_iconst (v := (nI 1)) hx hb dX5_does_148 (by decide) ?_
            refine lv_goto (tgt := 153) hx hb dX5_does_149 (by decide) ?_
            refine lv_istore (lv' := [(5, .int (nI 1)), (4, .int y_3), (3, .int y_2), (2, .int y_1), (0, .ref (a 0)), (1, .int (nI k))]) hx hb dX5_does_153 hl (by decide) rfl (fun ls hl => ?_)
            refine lv_iload hx hb dX5_does_155 (lv_at hl 0 rfl) ?_
            refine lv_if_ne (tgt := 162) hx hb dX5_does_157 (by decide) (fun c_157 => ?_) (fun c_157 => absurd c_157 (by decide))
            refine lv_iload_n hx hb dX5_does_162 rfl (lv_at hl 3 rfl) ?_
            refine lv_bipush (v := (nI 116)) hx hb dX5_does_163 (by decide) ?_
            refine lv_icmp_ne (tgt := 182) hx hb dX5_does_165 (by decide) (fun c_165 => ?_) (fun c_165 => absurd c_165 c_4)
            refine lv_iload_n hx hb dX5_does_182 rfl (lv_at hl 3 rfl) ?_
            refine lv_bipush (v := (nI 114)) hx hb dX5_does_183 (by decide) ?_
            refine lv_icmp_ne (tgt := 197) hx hb dX5_does_185 (by decide) (fun c_185 => absurd c_5 c_185) (fun c_185 => ?_)
            refine lv_aload_n hx hb dX5_does_188 rfl (lv_at hl 4 rfl) ?_
            refine lv_iconst (v := (nI 0)) hx hb dX5_does_189 (by decide) ?_
            refine cMI (bc' := [moB Γ a (fX5_deals Q ms mc (0)).2.1 mt (fX5_deals Q ms mc (0)).2.2 md m0 m1 m2 m3 m4 m5]) (va_runV (As := [.int (nI 0)]) (rest := []) ⟨hx, hb, hml, hown, hts⟩ ((kX5_deals l Γ a Q ms mt mc md m0 m1 m2 m3 m4 m5 (0) (by first | assumption | omega) (hQ (canRenew_ne (by assumption))) (by first | assumption | omega)) _) (cwV 1 hts gX5_does_X5_deals rfl rfl rfl (by decide +kernel) ⟨Nat.le_of_ble_eq_true rfl, Nat.le_of_ble_eq_true rfl⟩) ⟨wPre_blind, va_recv hK hP (ci := 5) (q0 := 0) rfl rfl, wPre_mk hP hD hK hS hA hAB hAm [0] rfl rfl⟩ rfl rfl hl.1 rfl (lv_room (Nat.le_of_ble_eq_true rfl)) dX5_does_190 ⟨Nat.zero_le _, Nat.zero_le _⟩) hP hD hS hA [0] rfl rfl (bs' := [moB Γ a (fX5_deals Q ms mc (0)).2.1 mt (fX5_deals Q ms mc (0)).2.2 md m0 m1 m2 m3 m4 m5]) rfl (fun H locs hP hD hS => ?_)
            refine lv_pop hx hb dX5_does_193 rfl ?_
            refine lv_goto (tgt := 264) hx hb dX5_does_194 (by decide) ?_
            refine lv_iconst (v := (nI 1)) hx hb dX5_does_264 (by decide) ?_
            exact W.zret (v := (nI 1)) hx hb hr (by first | rfl | decide) (fun t ht hW => eMI (by rw [hq]; exact hP) hS ht (by rw [hq])) hS.2.2 dX5_does_265
          · have hq := hq.trans (if_pos c_16)
            refine lv_aload_n hx hb dX5_does_127 rfl (lv_at hl 4 rfl) ?_
            refine lv_iconst (v := (nI 0)) hx hb dX5_does_128 (by decide) ?_
            refine lv_iload_n hx hb dX5_does_129 rfl (lv_at hl 2 rfl) ?_
            refine lv_iload_n hx hb dX5_does_130 rfl (lv_at hl 3 rfl) ?_
            refine lv_bipush (v := (nI 100)) hx hb dX5_does_131 (by decide) ?_
            refine lv_icmp_ne (tgt := 140) hx hb dX5_does_133 (by decide) (fun c_133 => ?_) (fun c_133 => absurd c_133 c_14)
            refine lv_iload hx hb dX5_does_140 (lv_at hl 1 rfl) ?_
            refine cLI (va_runV (As := [.int (nI 0), .int y_2, .int y_3]) (rest := []) ⟨hx, hb, hml, hown, hts⟩ ((kX5_areAlive l Γ a ms mt mc md m0 m1 m2 m3 m4 m5 (0) y_2 y_3 (by first | assumption | omega)) _) (cwV 3 hts gX5_does_X5_areAlive rfl rfl rfl (by decide +kernel) ⟨Nat.le_of_ble_eq_true rfl, Nat.le_of_ble_eq_true rfl⟩) ⟨wPre_blind, va_recv hK hP (ci := 5) (q0 := 0) rfl rfl, wPre_mk hP hD hK hS hA hAB hAm [0] rfl rfl⟩ rfl rfl hl.1 rfl (lv_room (Nat.le_of_ble_eq_true rfl)) dX5_does_142 ⟨Nat.zero_le _, Nat.zero_le _⟩) hP hS hA (fun H locs hP hS => ?_)
            refine lv_if_eq (tgt := 152) hx hb dX5_does_145 (by decide) (fun c_17 => ?_) (fun c_17 => ?_)
            · have hq := hq.trans (if_pos c_17)
              refine lv_iconst (v := (nI 0)) hx hb dX5_does_152 (by decide) ?_
              refine lv_istore (lv' := [(5, .int (nI 0)), (4, .int y_3), (3, .int y_2), (2, .int y_1), (0, .ref (a 0)), (1, .int (nI k))]) hx hb dX5_does_153 hl (by decide) rfl (fun ls hl => ?_)
              refine lv_iload hx hb dX5_does_155 (lv_at hl 0 rfl) ?_
              refine lv_if_ne (tgt := 162) hx hb dX5_does_157 (by decide) (fun c_157 => absurd c_157 (by decide)) (fun c_157 => ?_)
              refine lv_iconst (v := (nI 0)) hx hb dX5_does_160 (by decide) ?_
              exact W.zret (v := (nI 0)) hx hb hr (by first | rfl | decide) (fun t ht hW => eMI (by rw [hq]; exact hP) hS ht (by rw [hq])) hS.2.2 dX5_does_161
            · have hq := hq.trans (if_neg c_17)
              refine lv_iconst (v := (nI 1)) hx hb dX5_does_148 (by decide) ?_
              refine lv_goto (tgt := 153) hx hb dX5_does_149 (by decide) ?_
              refine lv_istore (lv' := [(5, .int (nI 1)), (4, .int y_3), (3, .int y_2), (2, .int y_1), (0, .ref (a 0)), (1, .int (nI k))]) hx hb dX5_does_153 hl (by decide) rfl (fun ls hl => ?_)
              refine lv_iload hx hb dX5_does_155 (lv_at hl 0 rfl) ?_
              refine lv_if_ne (tgt := 162) hx hb dX5_does_157 (by decide) (fun c_157 => ?_) (fun c_157 => absurd c_157 (by decide))
              refine lv_iload_n hx hb dX5_does_162 rfl (lv_at hl 3 rfl) ?_
              refine lv_bipush (v := (nI 116)) hx hb dX5_does_163 (by decide) ?_
              refine lv_icmp_ne (tgt := 182) hx hb dX5_does_165 (by decide) (fun c_165 => ?_) (fun c_165 => absurd c_165 c_4)
              refine lv_iload_n hx hb dX5_does_182 rfl (lv_at hl 3 rfl) ?_
              refine lv_bipush (v := (nI 114)) hx hb dX5_does_183 (by decide) ?_
              refine lv_icmp_ne (tgt := 197) hx hb dX5_does_185 (by decide) (fun c_185 => absurd c_5 c_185) (fun c_185 => ?_)
              refine lv_aload_n hx hb dX5_does_188 rfl (lv_at hl 4 rfl) ?_
              refine lv_iconst (v := (nI 0)) hx hb dX5_does_189 (by decide) ?_
              refine cMI (bc' := [moB Γ a (fX5_deals Q ms mc (0)).2.1 mt (fX5_deals Q ms mc (0)).2.2 md m0 m1 m2 m3 m4 m5]) (va_runV (As := [.int (nI 0)]) (rest := []) ⟨hx, hb, hml, hown, hts⟩ ((kX5_deals l Γ a Q ms mt mc md m0 m1 m2 m3 m4 m5 (0) (by first | assumption | omega) (hQ (canRenew_ne (by assumption))) (by first | assumption | omega)) _) (cwV 1 hts gX5_does_X5_deals rfl rfl rfl (by decide +kernel) ⟨Nat.le_of_ble_eq_true rfl, Nat.le_of_ble_eq_true rfl⟩) ⟨wPre_blind, va_recv hK hP (ci := 5) (q0 := 0) rfl rfl, wPre_mk hP hD hK hS hA hAB hAm [0] rfl rfl⟩ rfl rfl hl.1 rfl (lv_room (Nat.le_of_ble_eq_true rfl)) dX5_does_190 ⟨Nat.zero_le _, Nat.zero_le _⟩) hP hD hS hA [0] rfl rfl (bs' := [moB Γ a (fX5_deals Q ms mc (0)).2.1 mt (fX5_deals Q ms mc (0)).2.2 md m0 m1 m2 m3 m4 m5]) rfl (fun H locs hP hD hS => ?_)
              refine lv_pop hx hb dX5_does_193 rfl ?_
              refine lv_goto (tgt := 264) hx hb dX5_does_194 (by decide) ?_
              refine lv_iconst (v := (nI 1)) hx hb dX5_does_264 (by decide) ?_
              exact W.zret (v := (nI 1)) hx hb hr (by first | rfl | decide) (fun t ht hW => eMI (by rw [hq]; exact hP) hS ht (by rw [hq])) hS.2.2 dX5_does_265
  · have hq := hq.trans (if_pos c_4)
    refine lv_aload_n hx hb dX5_does_38 rfl (lv_at hl 3 rfl) ?_
    refine va_get (D := Γ.1) (ci := 5) (v := .ref (a 1)) (C := RX5) (T := TX5) (N := 10) hx hb hts hi5 hown hK hP 0 rfl rfl 0 (by decide) kf7 (fun _ h9 => h9) rfl dX5_does_39 ?_
    refine lv_bipush (v := (nI 31)) hx hb dX5_does_42 (by decide) ?_
    refine va_iald_n (f := ms) hx hb hK hP 1 0 rfl rfl (by omega) (Nat.le_of_ble_eq_true rfl) dX5_does_44 ?_
    refine lv_ldc (v := (nI 99999)) hx hb hown kc97 dX5_does_45 ?_
    refine lv_iload_n hx hb dX5_does_47 rfl (lv_at hl 1 rfl) ?_
    refine lv_isub hx hb dX5_does_48 ?_
    refine lv_icmp_gt (tgt := 56) hx hb dX5_does_49 (by decide) (fun c_18 => ?_) (fun c_18 => ?_)
    · have hq := hq.trans (if_pos c_18)
      refine lv_iconst (v := (nI 0)) hx hb dX5_does_56 (by decide) ?_
      refine lv_goto (tgt := 108) hx hb dX5_does_57 (by decide) ?_
      refine lv_istore (lv' := [(5, .int (nI 0)), (4, .int y_3), (3, .int y_2), (2, .int y_1), (0, .ref (a 0)), (1, .int (nI k))]) hx hb dX5_does_108 hl (by decide) rfl (fun ls hl => ?_)
      refine lv_iload hx hb dX5_does_110 (lv_at hl 0 rfl) ?_
      refine lv_if_eq (tgt := 152) hx hb dX5_does_112 (by decide) (fun c_112 => ?_) (fun c_112 => absurd c_112 (by decide))
      refine lv_iconst (v := (nI 0)) hx hb dX5_does_152 (by decide) ?_
      refine lv_istore (lv' := [(5, .int (nI 0)), (4, .int y_3), (3, .int y_2), (2, .int y_1), (0, .ref (a 0)), (1, .int (nI k))]) hx hb dX5_does_153 hl (by decide) rfl (fun ls hl => ?_)
      refine lv_iload hx hb dX5_does_155 (lv_at hl 0 rfl) ?_
      refine lv_if_ne (tgt := 162) hx hb dX5_does_157 (by decide) (fun c_157 => absurd c_157 (by decide)) (fun c_157 => ?_)
      refine lv_iconst (v := (nI 0)) hx hb dX5_does_160 (by decide) ?_
      exact W.zret (v := (nI 0)) hx hb hr (by first | rfl | decide) (fun t ht hW => eMI (by rw [hq]; exact hP) hS ht (by rw [hq])) hS.2.2 dX5_does_161
    · have hq := hq.trans (if_neg c_18)
      refine lv_iconst (v := (nI 1)) hx hb dX5_does_52 (by decide) ?_
      refine lv_goto (tgt := 108) hx hb dX5_does_53 (by decide) ?_
      refine lv_istore (lv' := [(5, .int (nI 1)), (4, .int y_3), (3, .int y_2), (2, .int y_1), (0, .ref (a 0)), (1, .int (nI k))]) hx hb dX5_does_108 hl (by decide) rfl (fun ls hl => ?_)
      refine lv_iload hx hb dX5_does_110 (lv_at hl 0 rfl) ?_
      refine lv_if_eq (tgt := 152) hx hb dX5_does_112 (by decide) (fun c_112 => absurd c_112 (by decide)) (fun c_112 => ?_)
      refine lv_iload_n hx hb dX5_does_115 rfl (lv_at hl 3 rfl) ?_
      refine lv_bipush (v := (nI 100)) hx hb dX5_does_116 (by decide) ?_
      refine lv_icmp_eq (tgt := 127) hx hb dX5_does_118 (by decide) (fun c_19 => ?_) (fun c_19 => ?_)
      · have hq := hq.trans (if_pos c_19)
        refine lv_aload_n hx hb dX5_does_127 rfl (lv_at hl 4 rfl) ?_
        refine lv_iconst (v := (nI 0)) hx hb dX5_does_128 (by decide) ?_
        refine lv_iload_n hx hb dX5_does_129 rfl (lv_at hl 2 rfl) ?_
        refine lv_iload_n hx hb dX5_does_130 rfl (lv_at hl 3 rfl) ?_
        refine lv_bipush (v := (nI 100)) hx hb dX5_does_131 (by decide) ?_
        refine lv_icmp_ne (tgt := 140) hx hb dX5_does_133 (by decide) (fun c_133 => absurd c_19 c_133) (fun c_133 => ?_)
        refine lv_iconst (v := (-1)) hx hb dX5_does_136 (by decide) ?_
        refine lv_goto (tgt := 142) hx hb dX5_does_137 (by decide) ?_
        refine cLI (va_runV (As := [.int (nI 0), .int y_2, .int (-1)]) (rest := []) ⟨hx, hb, hml, hown, hts⟩ ((kX5_areAlive l Γ a ms mt mc md m0 m1 m2 m3 m4 m5 (0) y_2 (-1) (by first | assumption | omega)) _) (cwV 3 hts gX5_does_X5_areAlive rfl rfl rfl (by decide +kernel) ⟨Nat.le_of_ble_eq_true rfl, Nat.le_of_ble_eq_true rfl⟩) ⟨wPre_blind, va_recv hK hP (ci := 5) (q0 := 0) rfl rfl, wPre_mk hP hD hK hS hA hAB hAm [0] rfl rfl⟩ rfl rfl hl.1 rfl (lv_room (Nat.le_of_ble_eq_true rfl)) dX5_does_142 ⟨Nat.zero_le _, Nat.zero_le _⟩) hP hS hA (fun H locs hP hS => ?_)
        refine lv_if_eq (tgt := 152) hx hb dX5_does_145 (by decide) (fun c_20 => ?_) (fun c_20 => ?_)
        · have hq := hq.trans (if_pos c_20)
          refine lv_iconst (v := (nI 0)) hx hb dX5_does_152 (by decide) ?_
          refine lv_istore (lv' := [(5, .int (nI 0)), (4, .int y_3), (3, .int y_2), (2, .int y_1), (0, .ref (a 0)), (1, .int (nI k))]) hx hb dX5_does_153 hl (by decide) rfl (fun ls hl => ?_)
          refine lv_iload hx hb dX5_does_155 (lv_at hl 0 rfl) ?_
          refine lv_if_ne (tgt := 162) hx hb dX5_does_157 (by decide) (fun c_157 => absurd c_157 (by decide)) (fun c_157 => ?_)
          refine lv_iconst (v := (nI 0)) hx hb dX5_does_160 (by decide) ?_
          exact W.zret (v := (nI 0)) hx hb hr (by first | rfl | decide) (fun t ht hW => eMI (by rw [hq]; exact hP) hS ht (by rw [hq])) hS.2.2 dX5_does_161
        · have hq := hq.trans (if_neg c_20)
          refine lv_iconst (v := (nI 1)) hx hb dX5_does_148 (by decide) ?_
          refine lv_goto (tgt := 153) hx hb dX5_does_149 (by decide) ?_
          refine lv_istore (lv' := [(5, .int (nI 1)), (4, .int y_3), (3, .int y_2), (2, .int y_1), (0, .ref (a 0)), (1, .int (nI k))]) hx hb dX5_does_153 hl (by decide) rfl (fun ls hl => ?_)
          refine lv_iload hx hb dX5_does_155 (lv_at hl 0 rfl) ?_
          refine lv_if_ne (tgt := 162) hx hb dX5_does_157 (by decide) (fun c_157 => ?_) (fun c_157 => absurd c_157 (by decide))
          refine lv_iload_n hx hb dX5_does_162 rfl (lv_at hl 3 rfl) ?_
          refine lv_bipush (v := (nI 116)) hx hb dX5_does_163 (by decide) ?_
          refine lv_icmp_ne (tgt := 182) hx hb dX5_does_165 (by decide) (fun c_165 => absurd c_4 c_165) (fun c_165 => ?_)
          refine lv_aload_n hx hb dX5_does_168 rfl (lv_at hl 4 rfl) ?_
          refine va_get (D := Γ.1) (ci := 5) (v := .ref (a 1)) (C := RX5) (T := TX5) (N := 10) hx hb hts hi5 hown hK hP 0 rfl rfl 0 (by decide) kf7 (fun _ h9 => h9) rfl dX5_does_169 ?_
          refine lv_bipush (v := (nI 31)) hx hb dX5_does_172 (by decide) ?_
          refine lv_dup2_11 hx hb dX5_does_174 rfl rfl ?_
          refine va_iald_n (f := ms) hx hb hK hP 1 0 rfl rfl (by omega) (Nat.le_of_ble_eq_true rfl) dX5_does_175 ?_
          refine lv_iload_n hx hb dX5_does_176 rfl (lv_at hl 2 rfl) ?_
          refine lv_iadd hx hb dX5_does_177 ?_
          refine va_iast_n (f := ms) hx hb hK hP hD hS 1 0 rfl rfl (by omega) (Nat.le_of_ble_eq_true rfl) dX5_does_178 (fun H locs hP hD hS => ?_)
          have hP : va_P Γ.1 vwCl (wcat [moB Γ a (upd ms 31 ((ms 31) + y_2)) mt mc md m0 m1 m2 m3 m4 m5]) H := hP
          have hD : va_D A (wcat [moB Γ a (upd ms 31 ((ms 31) + y_2)) mt mc md m0 m1 m2 m3 m4 m5]) := hD
          refine lv_goto (tgt := 264) hx hb dX5_does_179 (by decide) ?_
          refine lv_iconst (v := (nI 1)) hx hb dX5_does_264 (by decide) ?_
          exact W.zret (v := (nI 1)) hx hb hr (by first | rfl | decide) (fun t ht hW => eMI (by rw [hq]; exact hP) hS ht (by rw [hq])) hS.2.2 dX5_does_265
      · have hq := hq.trans (if_neg c_19)
        refine lv_iload_n hx hb dX5_does_121 rfl (lv_at hl 3 rfl) ?_
        refine lv_bipush (v := (nI 104)) hx hb dX5_does_122 (by decide) ?_
        refine lv_icmp_ne (tgt := 148) hx hb dX5_does_124 (by decide) (fun c_21 => ?_) (fun c_21 => ?_)
        · have hq := hq.trans (if_neg c_21)
          refine lv_iconst (v := (nI 1)) hx hb dX5_does_148 (by decide) ?_
          refine lv_goto (tgt := 153) hx hb dX5_does_149 (by decide) ?_
          refine lv_istore (lv' := [(5, .int (nI 1)), (4, .int y_3), (3, .int y_2), (2, .int y_1), (0, .ref (a 0)), (1, .int (nI k))]) hx hb dX5_does_153 hl (by decide) rfl (fun ls hl => ?_)
          refine lv_iload hx hb dX5_does_155 (lv_at hl 0 rfl) ?_
          refine lv_if_ne (tgt := 162) hx hb dX5_does_157 (by decide) (fun c_157 => ?_) (fun c_157 => absurd c_157 (by decide))
          refine lv_iload_n hx hb dX5_does_162 rfl (lv_at hl 3 rfl) ?_
          refine lv_bipush (v := (nI 116)) hx hb dX5_does_163 (by decide) ?_
          refine lv_icmp_ne (tgt := 182) hx hb dX5_does_165 (by decide) (fun c_165 => absurd c_4 c_165) (fun c_165 => ?_)
          refine lv_aload_n hx hb dX5_does_168 rfl (lv_at hl 4 rfl) ?_
          refine va_get (D := Γ.1) (ci := 5) (v := .ref (a 1)) (C := RX5) (T := TX5) (N := 10) hx hb hts hi5 hown hK hP 0 rfl rfl 0 (by decide) kf7 (fun _ h9 => h9) rfl dX5_does_169 ?_
          refine lv_bipush (v := (nI 31)) hx hb dX5_does_172 (by decide) ?_
          refine lv_dup2_11 hx hb dX5_does_174 rfl rfl ?_
          refine va_iald_n (f := ms) hx hb hK hP 1 0 rfl rfl (by omega) (Nat.le_of_ble_eq_true rfl) dX5_does_175 ?_
          refine lv_iload_n hx hb dX5_does_176 rfl (lv_at hl 2 rfl) ?_
          refine lv_iadd hx hb dX5_does_177 ?_
          refine va_iast_n (f := ms) hx hb hK hP hD hS 1 0 rfl rfl (by omega) (Nat.le_of_ble_eq_true rfl) dX5_does_178 (fun H locs hP hD hS => ?_)
          have hP : va_P Γ.1 vwCl (wcat [moB Γ a (upd ms 31 ((ms 31) + y_2)) mt mc md m0 m1 m2 m3 m4 m5]) H := hP
          have hD : va_D A (wcat [moB Γ a (upd ms 31 ((ms 31) + y_2)) mt mc md m0 m1 m2 m3 m4 m5]) := hD
          refine lv_goto (tgt := 264) hx hb dX5_does_179 (by decide) ?_
          refine lv_iconst (v := (nI 1)) hx hb dX5_does_264 (by decide) ?_
          exact W.zret (v := (nI 1)) hx hb hr (by first | rfl | decide) (fun t ht hW => eMI (by rw [hq]; exact hP) hS ht (by rw [hq])) hS.2.2 dX5_does_265
        · have hq := hq.trans (if_pos c_21)
          refine lv_aload_n hx hb dX5_does_127 rfl (lv_at hl 4 rfl) ?_
          refine lv_iconst (v := (nI 0)) hx hb dX5_does_128 (by decide) ?_
          refine lv_iload_n hx hb dX5_does_129 rfl (lv_at hl 2 rfl) ?_
          refine lv_iload_n hx hb dX5_does_130 rfl (lv_at hl 3 rfl) ?_
          refine lv_bipush (v := (nI 100)) hx hb dX5_does_131 (by decide) ?_
          refine lv_icmp_ne (tgt := 140) hx hb dX5_does_133 (by decide) (fun c_133 => ?_) (fun c_133 => absurd c_133 c_19)
          refine lv_iload hx hb dX5_does_140 (lv_at hl 1 rfl) ?_
          refine cLI (va_runV (As := [.int (nI 0), .int y_2, .int y_3]) (rest := []) ⟨hx, hb, hml, hown, hts⟩ ((kX5_areAlive l Γ a ms mt mc md m0 m1 m2 m3 m4 m5 (0) y_2 y_3 (by first | assumption | omega)) _) (cwV 3 hts gX5_does_X5_areAlive rfl rfl rfl (by decide +kernel) ⟨Nat.le_of_ble_eq_true rfl, Nat.le_of_ble_eq_true rfl⟩) ⟨wPre_blind, va_recv hK hP (ci := 5) (q0 := 0) rfl rfl, wPre_mk hP hD hK hS hA hAB hAm [0] rfl rfl⟩ rfl rfl hl.1 rfl (lv_room (Nat.le_of_ble_eq_true rfl)) dX5_does_142 ⟨Nat.zero_le _, Nat.zero_le _⟩) hP hS hA (fun H locs hP hS => ?_)
          refine lv_if_eq (tgt := 152) hx hb dX5_does_145 (by decide) (fun c_22 => ?_) (fun c_22 => ?_)
          · have hq := hq.trans (if_pos c_22)
            refine lv_iconst (v := (nI 0)) hx hb dX5_does_152 (by decide) ?_
            refine lv_istore (lv' := [(5, .int (nI 0)), (4, .int y_3), (3, .int y_2), (2, .int y_1), (0, .ref (a 0)), (1, .int (nI k))]) hx hb dX5_does_153 hl (by decide) rfl (fun ls hl => ?_)
            refine lv_iload hx hb dX5_does_155 (lv_at hl 0 rfl) ?_
            refine lv_if_ne (tgt := 162) hx hb dX5_does_157 (by decide) (fun c_157 => absurd c_157 (by decide)) (fun c_157 => ?_)
            refine lv_iconst (v := (nI 0)) hx hb dX5_does_160 (by decide) ?_
            exact W.zret (v := (nI 0)) hx hb hr (by first | rfl | decide) (fun t ht hW => eMI (by rw [hq]; exact hP) hS ht (by rw [hq])) hS.2.2 dX5_does_161
          · have hq := hq.trans (if_neg c_22)
            refine lv_iconst (v := (nI 1)) hx hb dX5_does_148 (by decide) ?_
            refine lv_goto (tgt := 153) hx hb dX5_does_149 (by decide) ?_
            refine lv_istore (lv' := [(5, .int (nI 1)), (4, .int y_3), (3, .int y_2), (2, .int y_1), (0, .ref (a 0)), (1, .int (nI k))]) hx hb dX5_does_153 hl (by decide) rfl (fun ls hl => ?_)
            refine lv_iload hx hb dX5_does_155 (lv_at hl 0 rfl) ?_
            refine lv_if_ne (tgt := 162) hx hb dX5_does_157 (by decide) (fun c_157 => ?_) (fun c_157 => absurd c_157 (by decide))
            refine lv_iload_n hx hb dX5_does_162 rfl (lv_at hl 3 rfl) ?_
            refine lv_bipush (v := (nI 116)) hx hb dX5_does_163 (by decide) ?_
            refine lv_icmp_ne (tgt := 182) hx hb dX5_does_165 (by decide) (fun c_165 => absurd c_4 c_165) (fun c_165 => ?_)
            refine lv_aload_n hx hb dX5_does_168 rfl (lv_at hl 4 rfl) ?_
            refine va_get (D := Γ.1) (ci := 5) (v := .ref (a 1)) (C := RX5) (T := TX5) (N := 10) hx hb hts hi5 hown hK hP 0 rfl rfl 0 (by decide) kf7 (fun _ h9 => h9) rfl dX5_does_169 ?_
            refine lv_bipush (v := (nI 31)) hx hb dX5_does_172 (by decide) ?_
            refine lv_dup2_11 hx hb dX5_does_174 rfl rfl ?_
            refine va_iald_n (f := ms) hx hb hK hP 1 0 rfl rfl (by omega) (Nat.le_of_ble_eq_true rfl) dX5_does_175 ?_
            refine lv_iload_n hx hb dX5_does_176 rfl (lv_at hl 2 rfl) ?_
            refine lv_iadd hx hb dX5_does_177 ?_
            refine va_iast_n (f := ms) hx hb hK hP hD hS 1 0 rfl rfl (by omega) (Nat.le_of_ble_eq_true rfl) dX5_does_178 (fun H locs hP hD hS => ?_)
            have hP : va_P Γ.1 vwCl (wcat [moB Γ a (upd ms 31 ((ms 31) + y_2)) mt mc md m0 m1 m2 m3 m4 m5]) H := hP
            have hD : va_D A (wcat [moB Γ a (upd ms 31 ((ms 31) + y_2)) mt mc md m0 m1 m2 m3 m4 m5]) := hD
            refine lv_goto (tgt := 264) hx hb dX5_does_179 (by decide) ?_
            refine lv_iconst (v := (nI 1)) hx hb dX5_does_264 (by decide) ?_
            exact W.zret (v := (nI 1)) hx hb hr (by first | rfl | decide) (fun t ht hW => eMI (by rw [hq]; exact hP) hS ht (by rw [hq])) hS.2.2 dX5_does_265
