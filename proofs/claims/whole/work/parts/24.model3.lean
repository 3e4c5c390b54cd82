theorem in_nat1 {k : Int32} {n : Nat} (hn : n < 2 ^ 30) (h : ¬ fX5_in k (nI 1) (nI (n + 1)) = 0) : ∃ j : Nat, j ≤ n ∧ k = nI (j + 1) := by
  obtain ⟨h1, h2⟩ := in_ne h
  have h0 : ¬ k < 0 := fun q => h1 (by
    rw [Int32.lt_iff_toInt_lt] at q ⊢
    have : (nI 1).toInt = 1 := by decide
    have : (0 : Int32).toInt = 0 := by decide
    omega)
  obtain ⟨j, hj, rfl⟩ := nI_of h0
  rw [nI_ltI (by omega) hj] at h2
  rw [nI_ltI hj (by omega)] at h1
  exact ⟨j - 1, by omega, by congr 1; omega⟩
theorem ddOK : ∀ x, x < 9 → ∀ y, y < 9 → ¬ y = 0 → vf_n64 (FP.ddiv (FP.i2d (nI x)) (FP.i2d (nI y))) := by
  unfold vf_n64
  decide +kernel
def fX5_seal (S : Nat) (ms : (Nat → Int32)) (mc : (Nat → Int32)) (ky : Int32) (q : Int32) (dt : Int32) : Int32 × (Nat → Int32) × Int32 × Int32 × (Nat → Int32) := (if (fX5_in ky (nI 0) (nI 250)) = 0 then (if (fX5_bits (ms 2)) < q then (if (gsR (nI 0) (nI 0)) = 0 then ((nI 0), ms, (nI S), (gsT (nI 0) (nI 0)), mc) else ((fX5_deals (q.toNatClampNeg - 1) (upd (upd (upd (upd (svR (S) ms) 27 (nI 1)) 28 ky) 29 q) 30 dt) mc (0)).1, (fX5_deals (q.toNatClampNeg - 1) (upd (upd (upd (upd (svR (S) ms) 27 (nI 1)) 28 ky) 29 q) 30 dt) mc (0)).2.1, (nI (svS (S))), (gsT (nI 0) (nI 0)), (fX5_deals (q.toNatClampNeg - 1) (upd (upd (upd (upd (svR (S) ms) 27 (nI 1)) 28 ky) 29 q) 30 dt) mc (0)).2.2)) else (if (gsR (nI 0) (nI 1)) = 0 then ((nI 0), ms, (nI S), (gsT (nI 0) (nI 1)), mc) else ((fX5_deals (q.toNatClampNeg - 1) (upd (upd (upd (upd (svR (S) ms) 27 (nI 1)) 28 ky) 29 q) 30 dt) mc (0)).1, (fX5_deals (q.toNatClampNeg - 1) (upd (upd (upd (upd (svR (S) ms) 27 (nI 1)) 28 ky) 29 q) 30 dt) mc (0)).2.1, (nI (svS (S))), (gsT (nI 0) (nI 1)), (fX5_deals (q.toNatClampNeg - 1) (upd (upd (upd (upd (svR (S) ms) 27 (nI 1)) 28 ky) 29 q) 30 dt) mc (0)).2.2))) else (if (fX5_in q (nI 1) (nI 8)) = 0 then (if (fX5_bits (ms 2)) < q then (if (gsR (nI 0) (nI 0)) = 0 then ((nI 0), ms, (nI S), (gsT (nI 0) (nI 0)), mc) else ((fX5_deals (q.toNatClampNeg - 1) (upd (upd (upd (upd (svR (S) ms) 27 (nI 1)) 28 ky) 29 q) 30 dt) mc (0)).1, (fX5_deals (q.toNatClampNeg - 1) (upd (upd (upd (upd (svR (S) ms) 27 (nI 1)) 28 ky) 29 q) 30 dt) mc (0)).2.1, (nI (svS (S))), (gsT (nI 0) (nI 0)), (fX5_deals (q.toNatClampNeg - 1) (upd (upd (upd (upd (svR (S) ms) 27 (nI 1)) 28 ky) 29 q) 30 dt) mc (0)).2.2)) else (if (gsR (nI 0) (nI 1)) = 0 then ((nI 0), ms, (nI S), (gsT (nI 0) (nI 1)), mc) else ((fX5_deals (q.toNatClampNeg - 1) (upd (upd (upd (upd (svR (S) ms) 27 (nI 1)) 28 ky) 29 q) 30 dt) mc (0)).1, (fX5_deals (q.toNatClampNeg - 1) (upd (upd (upd (upd (svR (S) ms) 27 (nI 1)) 28 ky) 29 q) 30 dt) mc (0)).2.1, (nI (svS (S))), (gsT (nI 0) (nI 1)), (fX5_deals (q.toNatClampNeg - 1) (upd (upd (upd (upd (svR (S) ms) 27 (nI 1)) 28 ky) 29 q) 30 dt) mc (0)).2.2))) else (if (fX5_in dt (nI 0) (nI 9999)) = 0 then (if (fX5_bits (ms 2)) < q then (if (gsR (nI 0) (nI 0)) = 0 then ((nI 0), ms, (nI S), (gsT (nI 0) (nI 0)), mc) else ((fX5_deals (q.toNatClampNeg - 1) (upd (upd (upd (upd (svR (S) ms) 27 (nI 1)) 28 ky) 29 q) 30 dt) mc (0)).1, (fX5_deals (q.toNatClampNeg - 1) (upd (upd (upd (upd (svR (S) ms) 27 (nI 1)) 28 ky) 29 q) 30 dt) mc (0)).2.1, (nI (svS (S))), (gsT (nI 0) (nI 0)), (fX5_deals (q.toNatClampNeg - 1) (upd (upd (upd (upd (svR (S) ms) 27 (nI 1)) 28 ky) 29 q) 30 dt) mc (0)).2.2)) else (if (gsR (nI 0) (nI 1)) = 0 then ((nI 0), ms, (nI S), (gsT (nI 0) (nI 1)), mc) else ((fX5_deals (q.toNatClampNeg - 1) (upd (upd (upd (upd (svR (S) ms) 27 (nI 1)) 28 ky) 29 q) 30 dt) mc (0)).1, (fX5_deals (q.toNatClampNeg - 1) (upd (upd (upd (upd (svR (S) ms) 27 (nI 1)) 28 ky) 29 q) 30 dt) mc (0)).2.1, (nI (svS (S))), (gsT (nI 0) (nI 1)), (fX5_deals (q.toNatClampNeg - 1) (upd (upd (upd (upd (svR (S) ms) 27 (nI 1)) 28 ky) 29 q) 30 dt) mc (0)).2.2))) else (if (fX5_bits (ms 2)) < q then (if (gsR (nI 1) (nI 0)) = 0 then ((nI 0), ms, (nI S), (gsT (nI 1) (nI 0)), mc) else ((fX5_deals (q.toNatClampNeg - 1) (upd (upd (upd (upd (svR (S) ms) 27 (nI 1)) 28 ky) 29 q) 30 dt) mc (0)).1, (fX5_deals (q.toNatClampNeg - 1) (upd (upd (upd (upd (svR (S) ms) 27 (nI 1)) 28 ky) 29 q) 30 dt) mc (0)).2.1, (nI (svS (S))), (gsT (nI 1) (nI 0)), (fX5_deals (q.toNatClampNeg - 1) (upd (upd (upd (upd (svR (S) ms) 27 (nI 1)) 28 ky) 29 q) 30 dt) mc (0)).2.2)) else (if (gsR (nI 1) (nI 1)) = 0 then ((nI 0), ms, (nI S), (gsT (nI 1) (nI 1)), mc) else ((fX5_deals (q.toNatClampNeg - 1) (upd (upd (upd (upd (svR (S) ms) 27 (nI 1)) 28 ky) 29 q) 30 dt) mc (0)).1, (fX5_deals (q.toNatClampNeg - 1) (upd (upd (upd (upd (svR (S) ms) 27 (nI 1)) 28 ky) 29 q) 30 dt) mc (0)).2.1, (nI (svS (S))), (gsT (nI 1) (nI 1)), (fX5_deals (q.toNatClampNeg - 1) (upd (upd (upd (upd (svR (S) ms) 27 (nI 1)) 28 ky) 29 q) 30 dt) mc (0)).2.2))))))
set_option maxHeartbeats 4000000 in
set_option maxRecDepth 100000 in
theorem kX5_seal (l : Launch) (Γ : wG) (a : Nat → Nat) (S : Nat) (ms : (Nat → Int32)) (mt : (Nat → Int32)) (mc : (Nat → Int32)) (md : (Nat → Int32)) (m1 : Int32) (m2 : Int32) (m3 : Int32) (m4 : Int32) (m5 : Int32) (ky : Int32) (q : Int32) (dt : Int32) (hS6 : S ≤ 6) : MI l Γ yX5_seal wsX5_seal ({ frames := 2, cells := 0, slots := 0, locals := 47 }) [.ref (a 0), .int ky, .int q, .int dt] [moB Γ a ms mt mc md (nI S) m1 m2 m3 m4 m5] [moB Γ a (fX5_seal S ms mc ky q dt).2.1 mt (fX5_seal S ms mc ky q dt).2.2.2.2 md (fX5_seal S ms mc ky q dt).2.2.1 (fX5_seal S ms mc ky q dt).2.2.2.1 m2 m3 m4 m5] (fX5_seal S ms mc ky q dt).1 := by
  intro sz
  refine Met.ofW (cc := cX5_seal) (maxL := 4) (ret := (some .int)) (by decide) rfl ?_
  intro p e s m args below meth c s₁ B hml hv
  obtain ⟨rfl, hsz, hP, hK, hD0, hAm⟩ := hv
  have hx := B.exec
  have hb := B.bytes
  have hr := B.returns
  have hts := atoms_spec (ws := wsX5_seal) B.pre
  have hown : s.vm.findClass RX5 = some m.cls := findClass_of_methodNamed B.named
  have hlocks := B.notSynchronized
  subst hsz
  have hD := hD0.self (sz := s.heap.size)
  generalize hAe : va_A (wcat [moB Γ a ms mt mc md (nI S) m1 m2 m3 m4 m5]) s.heap.size = A at hD hAm ⊢
  have hA : ∀ q : Nat, s.heap.size ≤ q → A q := fun q h => by rw [← hAe]; exact Or.inr h
  have hAB : ∀ q : Nat, A q → A q := fun _ h => h
  have hS : va_S A s.heap s.heap [] := va_S.rf
  have hl := lv_entry ([.ref (a 0), .int ky, .int q, .int dt]) (n := 4) (Nat.le_of_ble_eq_true rfl)
  rw [lg_entry_eq]
  generalize (lg_sl ([.ref (a 0), .int ky, .int q, .int dt]) ++ List.replicate (4 - (lg_sl ([.ref (a 0), .int ky, .int q, .int dt])).length) Slot.unset).toArray = ls at hl ⊢
  have hl : lv_has ls 4 [(0, .ref (a 0)), (1, .int ky), (2, .int q), (3, .int dt)] := hl
  have hi5 : ∀ w ∈ wsX50, w ∈ wsX5_seal := by decide +kernel
  have kf7 := hts (.fieldLink RX5 7 "CapsuleKeepersModel" "s" "[I") (by decide +kernel)
  have hq : (fX5_seal S ms mc ky q dt) = (if (fX5_in ky (nI 0) (nI 250)) = 0 then (if (fX5_bits (ms 2)) < q then (if (gsR (nI 0) (nI 0)) = 0 then ((nI 0), ms, (nI S), (gsT (nI 0) (nI 0)), mc) else ((fX5_deals (q.toNatClampNeg - 1) (upd (upd (upd (upd (svR (S) ms) 27 (nI 1)) 28 ky) 29 q) 30 dt) mc (0)).1, (fX5_deals (q.toNatClampNeg - 1) (upd (upd (upd (upd (svR (S) ms) 27 (nI 1)) 28 ky) 29 q) 30 dt) mc (0)).2.1, (nI (svS (S))), (gsT (nI 0) (nI 0)), (fX5_deals (q.toNatClampNeg - 1) (upd (upd (upd (upd (svR (S) ms) 27 (nI 1)) 28 ky) 29 q) 30 dt) mc (0)).2.2)) else (if (gsR (nI 0) (nI 1)) = 0 then ((nI 0), ms, (nI S), (gsT (nI 0) (nI 1)), mc) else ((fX5_deals (q.toNatClampNeg - 1) (upd (upd (upd (upd (svR (S) ms) 27 (nI 1)) 28 ky) 29 q) 30 dt) mc (0)).1, (fX5_deals (q.toNatClampNeg - 1) (upd (upd (upd (upd (svR (S) ms) 27 (nI 1)) 28 ky) 29 q) 30 dt) mc (0)).2.1, (nI (svS (S))), (gsT (nI 0) (nI 1)), (fX5_deals (q.toNatClampNeg - 1) (upd (upd (upd (upd (svR (S) ms) 27 (nI 1)) 28 ky) 29 q) 30 dt) mc (0)).2.2))) else (if (fX5_in q (nI 1) (nI 8)) = 0 then (if (fX5_bits (ms 2)) < q then (if (gsR (nI 0) (nI 0)) = 0 then ((nI 0), ms, (nI S), (gsT (nI 0) (nI 0)), mc) else ((fX5_deals (q.toNatClampNeg - 1) (upd (upd (upd (upd (svR (S) ms) 27 (nI 1)) 28 ky) 29 q) 30 dt) mc (0)).1, (fX5_deals (q.toNatClampNeg - 1) (upd (upd (upd (upd (svR (S) ms) 27 (nI 1)) 28 ky) 29 q) 30 dt) mc (0)).2.1, (nI (svS (S))), (gsT (nI 0) (nI 0)), (fX5_deals (q.toNatClampNeg - 1) (upd (upd (upd (upd (svR (S) ms) 27 (nI 1)) 28 ky) 29 q) 30 dt) mc (0)).2.2)) else (if (gsR (nI 0) (nI 1)) = 0 then ((nI 0), ms, (nI S), (gsT (nI 0) (nI 1)), mc) else ((fX5_deals (q.toNatClampNeg - 1) (upd (upd (upd (upd (svR (S) ms) 27 (nI 1)) 28 ky) 29 q) 30 dt) mc (0)).1, (fX5_deals (q.toNatClampNeg - 1) (upd (upd (upd (upd (svR (S) ms) 27 (nI 1)) 28 ky) 29 q) 30 dt) mc (0)).2.1, (nI (svS (S))), (gsT (nI 0) (nI 1)), (fX5_deals (q.toNatClampNeg - 1) (upd (upd (upd (upd (svR (S) ms) 27 (nI 1)) 28 ky) 29 q) 30 dt) mc (0)).2.2))) else (if (fX5_in dt (nI 0) (nI 9999)) = 0 then (if (fX5_bits (ms 2)) < q then (if (gsR (nI 0) (nI 0)) = 0 then ((nI 0), ms, (nI S), (gsT (nI 0) (nI 0)), mc) else ((fX5_deals (q.toNatClampNeg - 1) (upd (upd (upd (upd (svR (S) ms) 27 (nI 1)) 28 ky) 29 q) 30 dt) mc (0)).1, (fX5_deals (q.toNatClampNeg - 1) (upd (upd (upd (upd (svR (S) ms) 27 (nI 1)) 28 ky) 29 q) 30 dt) mc (0)).2.1, (nI (svS (S))), (gsT (nI 0) (nI 0)), (fX5_deals (q.toNatClampNeg - 1) (upd (upd (upd (upd (svR (S) ms) 27 (nI 1)) 28 ky) 29 q) 30 dt) mc (0)).2.2)) else (if (gsR (nI 0) (nI 1)) = 0 then ((nI 0), ms, (nI S), (gsT (nI 0) (nI 1)), mc) else ((fX5_deals (q.toNatClampNeg - 1) (upd (upd (upd (upd (svR (S) ms) 27 (nI 1)) 28 ky) 29 q) 30 dt) mc (0)).1, (fX5_deals (q.toNatClampNeg - 1) (upd (upd (upd (upd (svR (S) ms) 27 (nI 1)) 28 ky) 29 q) 30 dt) mc (0)).2.1, (nI (svS (S))), (gsT (nI 0) (nI 1)), (fX5_deals (q.toNatClampNeg - 1) (upd (upd (upd (upd (svR (S) ms) 27 (nI 1)) 28 ky) 29 q) 30 dt) mc (0)).2.2))) else (if (fX5_bits (ms 2)) < q then (if (gsR (nI 1) (nI 0)) = 0 then ((nI 0), ms, (nI S), (gsT (nI 1) (nI 0)), mc) else ((fX5_deals (q.toNatClampNeg - 1) (upd (upd (upd (upd (svR (S) ms) 27 (nI 1)) 28 ky) 29 q) 30 dt) mc (0)).1, (fX5_deals (q.toNatClampNeg - 1) (upd (upd (upd (upd (svR (S) ms) 27 (nI 1)) 28 ky) 29 q) 30 dt) mc (0)).2.1, (nI (svS (S))), (gsT (nI 1) (nI 0)), (fX5_deals (q.toNatClampNeg - 1) (upd (upd (upd (upd (svR (S) ms) 27 (nI 1)) 28 ky) 29 q) 30 dt) mc (0)).2.2)) else (if (gsR (nI 1) (nI 1)) = 0 then ((nI 0), ms, (nI S), (gsT (nI 1) (nI 1)), mc) else ((fX5_deals (q.toNatClampNeg - 1) (upd (upd (upd (upd (svR (S) ms) 27 (nI 1)) 28 ky) 29 q) 30 dt) mc (0)).1, (fX5_deals (q.toNatClampNeg - 1) (upd (upd (upd (upd (svR (S) ms) 27 (nI 1)) 28 ky) 29 q) 30 dt) mc (0)).2.1, (nI (svS (S))), (gsT (nI 1) (nI 1)), (fX5_deals (q.toNatClampNeg - 1) (upd (upd (upd (upd (svR (S) ms) 27 (nI 1)) 28 ky) 29 q) 30 dt) mc (0)).2.2)))))) := rfl
  refine lv_aload_n hx hb dX5_seal_0 rfl (lv_at hl 0 rfl) ?_
  refine lv_iload_n hx hb dX5_seal_1 rfl (lv_at hl 1 rfl) ?_
  refine lv_iconst (v := (nI 0)) hx hb dX5_seal_2 (by decide) ?_
  refine lv_sipush (v := (nI 250)) hx hb dX5_seal_3 (by decide) ?_
  refine cLI (va_runS (As := [.int ky, .int (nI 0), .int (nI 250)]) (rest := [.ref (a 0)]) ⟨hx, hb, hml, hown, hts⟩ ((kX5_in l Γ ky (nI 0) (nI 250)) _) (va_cwS 3 hts gX5_seal_X5_in rfl rfl rfl (by decide +kernel) ⟨Nat.le_of_ble_eq_true rfl, Nat.le_of_ble_eq_true rfl⟩) ⟨wPre_blind, wPre_mk hP hD hK hS hA hAB hAm [] rfl rfl⟩ rfl rfl hl.1 rfl (lv_room (Nat.le_of_ble_eq_true rfl)) dX5_seal_6 ⟨Nat.zero_le _, Nat.zero_le _⟩) hP hS hA (fun H locs hP hS => ?_)
  refine lv_if_eq (tgt := 37) hx hb dX5_seal_9 (by decide) (fun c_1 => ?_) (fun c_1 => ?_)
  · have hq := hq.trans (if_pos c_1)
    refine lv_iconst (v := (nI 0)) hx hb dX5_seal_37 (by decide) ?_
    refine lv_aload_n hx hb dX5_seal_38 rfl (lv_at hl 0 rfl) ?_
    refine va_get (D := Γ.1) (ci := 5) (v := .ref (a 1)) (C := RX5) (T := TX5) (N := 10) hx hb hts hi5 hown hK hP 0 rfl rfl 0 (by decide) kf7 (fun _ h9 => h9) rfl dX5_seal_39 ?_
    refine lv_iconst (v := (nI 2)) hx hb dX5_seal_42 (by decide) ?_
    refine va_iald_n (f := ms) hx hb hK hP 1 0 rfl rfl (by omega) (Nat.le_of_ble_eq_true rfl) dX5_seal_43 ?_
    refine cLI (va_runS (As := [.int (ms 2)]) (rest := [.int (nI 0), .ref (a 0)]) ⟨hx, hb, hml, hown, hts⟩ ((kX5_bits l Γ (ms 2)) _) (va_cwS 1 hts gX5_seal_X5_bits rfl rfl rfl (by decide +kernel) ⟨Nat.le_of_ble_eq_true rfl, Nat.le_of_ble_eq_true rfl⟩) ⟨wPre_blind, wPre_mk hP hD hK hS hA hAB hAm [] rfl rfl⟩ rfl rfl hl.1 rfl (lv_room (Nat.le_of_ble_eq_true rfl)) dX5_seal_44 ⟨Nat.zero_le _, Nat.zero_le _⟩) hP hS hA (fun H locs hP hS => ?_)
    refine lv_iload_n hx hb dX5_seal_47 rfl (lv_at hl 2 rfl) ?_
    refine lv_icmp_lt (tgt := 55) hx hb dX5_seal_48 (by decide) (fun c_2 => ?_) (fun c_2 => ?_)
    · have hq := hq.trans (if_pos c_2)
      refine lv_iconst (v := (nI 0)) hx hb dX5_seal_55 (by decide) ?_
      refine cMI (bc' := [moB Γ a ms mt mc md (nI S) (gsT (nI 0) (nI 0)) m2 m3 m4 m5]) (va_runV (As := [.int (nI 0), .int (nI 0)]) (rest := []) ⟨hx, hb, hml, hown, hts⟩ ((nX5_goes l Γ a ms mt mc md (nI S) m1 m2 m3 m4 m5 (nI 0) (nI 0)) _) (cwV 2 hts gX5_seal_X5_goes rfl rfl rfl (by decide +kernel) ⟨Nat.le_of_ble_eq_true rfl, Nat.le_of_ble_eq_true rfl⟩) ⟨wPre_blind, va_recv hK hP (ci := 5) (q0 := 0) rfl rfl, wPre_mk hP hD hK hS hA hAB hAm [0] rfl rfl⟩ rfl rfl hl.1 rfl (lv_room (Nat.le_of_ble_eq_true rfl)) dX5_seal_56 ⟨Nat.zero_le _, Nat.zero_le _⟩) hP hD hS hA [0] rfl rfl (bs' := [moB Γ a ms mt mc md (nI S) (gsT (nI 0) (nI 0)) m2 m3 m4 m5]) rfl (fun H locs hP hD hS => ?_)
      refine lv_if_ne (tgt := 64) hx hb dX5_seal_59 (by decide) (fun c_3 => ?_) (fun c_3 => ?_)
      · have hq := hq.trans (if_neg c_3)
        obtain ⟨qn, hqn, rfl⟩ : ∃ j : Nat, j ≤ 7 ∧ q = nI (j + 1) := in_nat1 (by decide) (show ¬ fX5_in q (nI 1) (nI 8) = 0 by first | assumption | exact gs_ne1 (by assumption) | exact gs_00 (by assumption) | exact gs_01 (by assumption))
        replace hq : (fX5_seal S ms mc ky (nI (qn + 1)) dt) = ((fX5_deals qn (upd (upd (upd (upd (svR (S) ms) 27 (nI 1)) 28 ky) 29 (nI (qn + 1))) 30 dt) mc (0)).1, (fX5_deals qn (upd (upd (upd (upd (svR (S) ms) 27 (nI 1)) 28 ky) 29 (nI (qn + 1))) 30 dt) mc (0)).2.1, (nI (svS (S))), (gsT (nI 0) (nI 0)), (fX5_deals qn (upd (upd (upd (upd (svR (S) ms) 27 (nI 1)) 28 ky) 29 (nI (qn + 1))) 30 dt) mc (0)).2.2) := hq.trans (by first | simp only [nI_clamp (show qn + 1 < 2 ^ 31 by omega), Nat.add_sub_cancel] | rfl)
        refine lv_aload_n hx hb dX5_seal_64 rfl (lv_at hl 0 rfl) ?_
        refine cMV (bc' := [moB Γ a (svR (S) ms) mt mc md (nI (svS (S))) (gsT (nI 0) (nI 0)) m2 m3 m4 m5]) (va_runV (As := []) (rest := []) ⟨hx, hb, hml, hown, hts⟩ ((nX5_saves l Γ a (S) ms mt mc md (gsT (nI 0) (nI 0)) m2 m3 m4 m5 (by first | assumption | omega)) _) (cwV 0 hts gX5_seal_X5_saves rfl rfl rfl (by decide +kernel) ⟨Nat.le_of_ble_eq_true rfl, Nat.le_of_ble_eq_true rfl⟩) ⟨wPre_blind, va_recv hK hP (ci := 5) (q0 := 0) rfl rfl, wPre_mk hP hD hK hS hA hAB hAm [0] rfl rfl⟩ rfl rfl hl.1 rfl (lv_room (Nat.le_of_ble_eq_true rfl)) dX5_seal_65 ⟨Nat.zero_le _, Nat.zero_le _⟩) hP hD hS hA [0] rfl rfl (bs' := [moB Γ a (svR (S) ms) mt mc md (nI (svS (S))) (gsT (nI 0) (nI 0)) m2 m3 m4 m5]) rfl (fun H locs hP hD hS => ?_)
        refine lv_aload_n hx hb dX5_seal_68 rfl (lv_at hl 0 rfl) ?_
        refine va_get (D := Γ.1) (ci := 5) (v := .ref (a 1)) (C := RX5) (T := TX5) (N := 10) hx hb hts hi5 hown hK hP 0 rfl rfl 0 (by decide) kf7 (fun _ h9 => h9) rfl dX5_seal_69 ?_
        refine lv_bipush (v := (nI 27)) hx hb dX5_seal_72 (by decide) ?_
        refine lv_iconst (v := (nI 1)) hx hb dX5_seal_74 (by decide) ?_
        refine va_iast_n (f := (svR (S) ms)) hx hb hK hP hD hS 1 0 rfl rfl (by omega) (Nat.le_of_ble_eq_true rfl) dX5_seal_75 (fun H locs hP hD hS => ?_)
        have hP : va_P Γ.1 vwCl (wcat [moB Γ a (upd (svR (S) ms) 27 (nI 1)) mt mc md (nI (svS (S))) (gsT (nI 0) (nI 0)) m2 m3 m4 m5]) H := hP
        have hD : va_D A (wcat [moB Γ a (upd (svR (S) ms) 27 (nI 1)) mt mc md (nI (svS (S))) (gsT (nI 0) (nI 0)) m2 m3 m4 m5]) := hD
        refine lv_aload_n hx hb dX5_seal_76 rfl (lv_at hl 0 rfl) ?_
        refine va_get (D := Γ.1) (ci := 5) (v := .ref (a 1)) (C := RX5) (T := TX5) (N := 10) hx hb hts hi5 hown hK hP 0 rfl rfl 0 (by decide) kf7 (fun _ h9 => h9) rfl dX5_seal_77 ?_
        refine lv_bipush (v := (nI 28)) hx hb dX5_seal_80 (by decide) ?_
        refine lv_iload_n hx hb dX5_seal_82 rfl (lv_at hl 1 rfl) ?_
        refine va_iast_n (f := (upd (svR (S) ms) 27 (nI 1))) hx hb hK hP hD hS 1 0 rfl rfl (by omega) (Nat.le_of_ble_eq_true rfl) dX5_seal_83 (fun H locs hP hD hS => ?_)
        have hP : va_P Γ.1 vwCl (wcat [moB Γ a (upd (upd (svR (S) ms) 27 (nI 1)) 28 ky) mt mc md (nI (svS (S))) (gsT (nI 0) (nI 0)) m2 m3 m4 m5]) H := hP
        have hD : va_D A (wcat [moB Γ a (upd (upd (svR (S) ms) 27 (nI 1)) 28 ky) mt mc md (nI (svS (S))) (gsT (nI 0) (nI 0)) m2 m3 m4 m5]) := hD
        refine lv_aload_n hx hb dX5_seal_84 rfl (lv_at hl 0 rfl) ?_
        refine va_get (D := Γ.1) (ci := 5) (v := .ref (a 1)) (C := RX5) (T := TX5) (N := 10) hx hb hts hi5 hown hK hP 0 rfl rfl 0 (by decide) kf7 (fun _ h9 => h9) rfl dX5_seal_85 ?_
        refine lv_bipush (v := (nI 29)) hx hb dX5_seal_88 (by decide) ?_
        refine lv_iload_n hx hb dX5_seal_90 rfl (lv_at hl 2 rfl) ?_
        refine va_iast_n (f := (upd (upd (svR (S) ms) 27 (nI 1)) 28 ky)) hx hb hK hP hD hS 1 0 rfl rfl (by omega) (Nat.le_of_ble_eq_true rfl) dX5_seal_91 (fun H locs hP hD hS => ?_)
        have hP : va_P Γ.1 vwCl (wcat [moB Γ a (upd (upd (upd (svR (S) ms) 27 (nI 1)) 28 ky) 29 (nI (qn + 1))) mt mc md (nI (svS (S))) (gsT (nI 0) (nI 0)) m2 m3 m4 m5]) H := hP
        have hD : va_D A (wcat [moB Γ a (upd (upd (upd (svR (S) ms) 27 (nI 1)) 28 ky) 29 (nI (qn + 1))) mt mc md (nI (svS (S))) (gsT (nI 0) (nI 0)) m2 m3 m4 m5]) := hD
        refine lv_aload_n hx hb dX5_seal_92 rfl (lv_at hl 0 rfl) ?_
        refine va_get (D := Γ.1) (ci := 5) (v := .ref (a 1)) (C := RX5) (T := TX5) (N := 10) hx hb hts hi5 hown hK hP 0 rfl rfl 0 (by decide) kf7 (fun _ h9 => h9) rfl dX5_seal_93 ?_
        refine lv_bipush (v := (nI 30)) hx hb dX5_seal_96 (by decide) ?_
        refine lv_iload_n hx hb dX5_seal_98 rfl (lv_at hl 3 rfl) ?_
        refine va_iast_n (f := (upd (upd (upd (svR (S) ms) 27 (nI 1)) 28 ky) 29 (nI (qn + 1)))) hx hb hK hP hD hS 1 0 rfl rfl (by omega) (Nat.le_of_ble_eq_true rfl) dX5_seal_99 (fun H locs hP hD hS => ?_)
        have hP : va_P Γ.1 vwCl (wcat [moB Γ a (upd (upd (upd (upd (svR (S) ms) 27 (nI 1)) 28 ky) 29 (nI (qn + 1))) 30 dt) mt mc md (nI (svS (S))) (gsT (nI 0) (nI 0)) m2 m3 m4 m5]) H := hP
        have hD : va_D A (wcat [moB Γ a (upd (upd (upd (upd (svR (S) ms) 27 (nI 1)) 28 ky) 29 (nI (qn + 1))) 30 dt) mt mc md (nI (svS (S))) (gsT (nI 0) (nI 0)) m2 m3 m4 m5]) := hD
        refine lv_aload_n hx hb dX5_seal_100 rfl (lv_at hl 0 rfl) ?_
        refine lv_iconst (v := (nI 0)) hx hb dX5_seal_101 (by decide) ?_
        refine cMI (bc' := [moB Γ a (fX5_deals qn (upd (upd (upd (upd (svR (S) ms) 27 (nI 1)) 28 ky) 29 (nI (qn + 1))) 30 dt) mc (0)).2.1 mt (fX5_deals qn (upd (upd (upd (upd (svR (S) ms) 27 (nI 1)) 28 ky) 29 (nI (qn + 1))) 30 dt) mc (0)).2.2 md (nI (svS (S))) (gsT (nI 0) (nI 0)) m2 m3 m4 m5]) (va_runV (As := [.int (nI 0)]) (rest := []) ⟨hx, hb, hml, hown, hts⟩ ((kX5_deals l Γ a qn (upd (upd (upd (upd (svR (S) ms) 27 (nI 1)) 28 ky) 29 (nI (qn + 1))) 30 dt) mt mc md (nI (svS (S))) (gsT (nI 0) (nI 0)) m2 m3 m4 m5 (0) (by first | assumption | omega) (by simp [upd]) (by omega)) _) (cwV 1 hts gX5_seal_X5_deals rfl rfl rfl (by decide +kernel) ⟨Nat.le_of_ble_eq_true rfl, Nat.le_of_ble_eq_true rfl⟩) ⟨wPre_blind, va_recv hK hP (ci := 5) (q0 := 0) rfl rfl, wPre_mk hP hD hK hS hA hAB hAm [0] rfl rfl⟩ rfl rfl hl.1 rfl (lv_room (Nat.le_of_ble_eq_true rfl)) dX5_seal_102 ⟨Nat.zero_le _, Nat.zero_le _⟩) hP hD hS hA [0] rfl rfl (bs' := [moB Γ a (fX5_deals qn (upd (upd (upd (upd (svR (S) ms) 27 (nI 1)) 28 ky) 29 (nI (qn + 1))) 30 dt) mc (0)).2.1 mt (fX5_deals qn (upd (upd (upd (upd (svR (S) ms) 27 (nI 1)) 28 ky) 29 (nI (qn + 1))) 30 dt) mc (0)).2.2 md (nI (svS (S))) (gsT (nI 0) (nI 0)) m2 m3 m4 m5]) rfl (fun H locs hP hD hS => ?_)
        exact W.iret (v := (fX5_deals qn (upd (upd (upd (upd (svR (S) ms) 27 (nI 1)) 28 ky) 29 (nI (qn + 1))) 30 dt) mc (0)).1) hx hb hr (fun t ht hW => eMI (by rw [hq]; exact hP) hS ht (by rw [hq])) hS.2.2 dX5_seal_105
      · have hq := hq.trans (if_pos c_3)
        refine lv_iconst (v := (nI 0)) hx hb dX5_seal_62 (by decide) ?_
        exact W.iret (v := (nI 0)) hx hb hr (fun t ht hW => eMI (by rw [hq]; exact hP) hS ht (by rw [hq])) hS.2.2 dX5_seal_63
    · have hq := hq.trans (if_neg c_2)
      refine lv_iconst (v := (nI 1)) hx hb dX5_seal_51 (by decide) ?_
      refine lv_goto (tgt := 56) hx hb dX5_seal_52 (by decide) ?_
      refine cMI (bc' := [moB Γ a ms mt mc md (nI S) (gsT (nI 0) (nI 1)) m2 m3 m4 m5]) (va_runV (As := [.int (nI 0), .int (nI 1)]) (rest := []) ⟨hx, hb, hml, hown, hts⟩ ((nX5_goes l Γ a ms mt mc md (nI S) m1 m2 m3 m4 m5 (nI 0) (nI 1)) _) (cwV 2 hts gX5_seal_X5_goes rfl rfl rfl (by decide +kernel) ⟨Nat.le_of_ble_eq_true rfl, Nat.le_of_ble_eq_true rfl⟩) ⟨wPre_blind, va_recv hK hP (ci := 5) (q0 := 0) rfl rfl, wPre_mk hP hD hK hS hA hAB hAm [0] rfl rfl⟩ rfl rfl hl.1 rfl (lv_room (Nat.le_of_ble_eq_true rfl)) dX5_seal_56 ⟨Nat.zero_le _, Nat.zero_le _⟩) hP hD hS hA [0] rfl rfl (bs' := [moB Γ a ms mt mc md (nI S) (gsT (nI 0) (nI 1)) m2 m3 m4 m5]) rfl (fun H locs hP hD hS => ?_)
      refine lv_if_ne (tgt := 64) hx hb dX5_seal_59 (by decide) (fun c_4 => ?_) (fun c_4 => ?_)
      · have hq := hq.trans (if_neg c_4)
        obtain ⟨qn, hqn, rfl⟩ : ∃ j : Nat, j ≤ 7 ∧ q = nI (j + 1) := in_nat1 (by decide) (show ¬ fX5_in q (nI 1) (nI 8) = 0 by first | assumption | exact gs_ne1 (by assumption) | exact gs_00 (by assumption) | exact gs_01 (by assumption))
        replace hq : (fX5_seal S ms mc ky (nI (qn + 1)) dt) = ((fX5_deals qn (upd (upd (upd (upd (svR (S) ms) 27 (nI 1)) 28 ky) 29 (nI (qn + 1))) 30 dt) mc (0)).1, (fX5_deals qn (upd (upd (upd (upd (svR (S) ms) 27 (nI 1)) 28 ky) 29 (nI (qn + 1))) 30 dt) mc (0)).2.1, (nI (svS (S))), (gsT (nI 0) (nI 1)), (fX5_deals qn (upd (upd (upd (upd (svR (S) ms) 27 (nI 1)) 28 ky) 29 (nI (qn + 1))) 30 dt) mc (0)).2.2) := hq.trans (by first | simp only [nI_clamp (show qn + 1 < 2 ^ 31 by omega), Nat.add_sub_cancel] | rfl)
        refine lv_aload_n hx hb dX5_seal_64 rfl (lv_at hl 0 rfl) ?_
        refine cMV (bc' := [moB Γ a (svR (S) ms) mt mc md (nI (svS (S))) (gsT (nI 0) (nI 1)) m2 m3 m4 m5]) (va_runV (As := []) (rest := []) ⟨hx, hb, hml, hown, hts⟩ ((nX5_saves l Γ a (S) ms mt mc md (gsT (nI 0) (nI 1)) m2 m3 m4 m5 (by first | assumption | omega)) _) (cwV 0 hts gX5_seal_X5_saves rfl rfl rfl (by decide +kernel) ⟨Nat.le_of_ble_eq_true rfl, Nat.le_of_ble_eq_true rfl⟩) ⟨wPre_blind, va_recv hK hP (ci := 5) (q0 := 0) rfl rfl, wPre_mk hP hD hK hS hA hAB hAm [0] rfl rfl⟩ rfl rfl hl.1 rfl (lv_room (Nat.le_of_ble_eq_true rfl)) dX5_seal_65 ⟨Nat.zero_le _, Nat.zero_le _⟩) hP hD hS hA [0] rfl rfl (bs' := [moB Γ a (svR (S) ms) mt mc md (nI (svS (S))) (gsT (nI 0) (nI 1)) m2 m3 m4 m5]) rfl (fun H locs hP hD hS => ?_)
        refine lv_aload_n hx hb dX5_seal_68 rfl (lv_at hl 0 rfl) ?_
        refine va_get (D := Γ.1) (ci := 5) (v := .ref (a 1)) (C := RX5) (T := TX5) (N := 10) hx hb hts hi5 hown hK hP 0 rfl rfl 0 (by decide) kf7 (fun _ h9 => h9) rfl dX5_seal_69 ?_
        refine lv_bipush (v := (nI 27)) hx hb dX5_seal_72 (by decide) ?_
        refine lv_iconst (v := (nI 1)) hx hb dX5_seal_74 (by decide) ?_
        refine va_iast_n (f := (svR (S) ms)) hx hb hK hP hD hS 1 0 rfl rfl (by omega) (Nat.le_of_ble_eq_true rfl) dX5_seal_75 (fun H locs hP hD hS => ?_)
        have hP : va_P Γ.1 vwCl (wcat [moB Γ a (upd (svR (S) ms) 27 (nI 1)) mt mc md (nI (svS (S))) (gsT (nI 0) (nI 1)) m2 m3 m4 m5]) H := hP
        have hD : va_D A (wcat [moB Γ a (upd (svR (S) ms) 27 (nI 1)) mt mc md (nI (svS (S))) (gsT (nI 0) (nI 1)) m2 m3 m4 m5]) := hD
        refine lv_aload_n hx hb dX5_seal_76 rfl (lv_at hl 0 rfl) ?_
        refine va_get (D := Γ.1) (ci := 5) (v := .ref (a 1)) (C := RX5) (T := TX5) (N := 10) hx hb hts hi5 hown hK hP 0 rfl rfl 0 (by decide) kf7 (fun _ h9 => h9) rfl dX5_seal_77 ?_
        refine lv_bipush (v := (nI 28)) hx hb dX5_seal_80 (by decide) ?_
        refine lv_iload_n hx hb dX5_seal_82 rfl (lv_at hl 1 rfl) ?_
        refine va_iast_n (f := (upd (svR (S) ms) 27 (nI 1))) hx hb hK hP hD hS 1 0 rfl rfl (by omega) (Nat.le_of_ble_eq_true rfl) dX5_seal_83 (fun H locs hP hD hS => ?_)
        have hP : va_P Γ.1 vwCl (wcat [moB Γ a (upd (upd (svR (S) ms) 27 (nI 1)) 28 ky) mt mc md (nI (svS (S))) (gsT (nI 0) (nI 1)) m2 m3 m4 m5]) H := hP
        have hD : va_D A (wcat [moB Γ a (upd (upd (svR (S) ms) 27 (nI 1)) 28 ky) mt mc md (nI (svS (S))) (gsT (nI 0) (nI 1)) m2 m3 m4 m5]) := hD
        refine lv_aload_n hx hb dX5_seal_84 rfl (lv_at hl 0 rfl) ?_
        refine va_get (D := Γ.1) (ci := 5) (v := .ref (a 1)) (C := RX5) (T := TX5) (N := 10) hx hb hts hi5 hown hK hP 0 rfl rfl 0 (by decide) kf7 (fun _ h9 => h9) rfl dX5_seal_85 ?_
        refine lv_bipush (v := (nI 29)) hx hb dX5_seal_88 (by decide) ?_
        refine lv_iload_n hx hb dX5_seal_90 rfl (lv_at hl 2 rfl) ?_
        refine va_iast_n (f := (upd (upd (svR (S) ms) 27 (nI 1)) 28 ky)) hx hb hK hP hD hS 1 0 rfl rfl (by omega) (Nat.le_of_ble_eq_true rfl) dX5_seal_91 (fun H locs hP hD hS => ?_)
        have hP : va_P Γ.1 vwCl (wcat [moB Γ a (upd (upd (upd (svR (S) ms) 27 (nI 1)) 28 ky) 29 (nI (qn + 1))) mt mc md (nI (svS (S))) (gsT (nI 0) (nI 1)) m2 m3 m4 m5]) H := hP
        have hD : va_D A (wcat [moB Γ a (upd (upd (upd (svR (S) ms) 27 (nI 1)) 28 ky) 29 (nI (qn + 1))) mt mc md (nI (svS (S))) (gsT (nI 0) (nI 1)) m2 m3 m4 m5]) := hD
        refine lv_aload_n hx hb dX5_seal_92 rfl (lv_at hl 0 rfl) ?_
        refine va_get (D := Γ.1) (ci := 5) (v := .ref (a 1)) (C := RX5) (T := TX5) (N := 10) hx hb hts hi5 hown hK hP 0 rfl rfl 0 (by decide) kf7 (fun _ h9 => h9) rfl dX5_seal_93 ?_
        refine lv_bipush (v := (nI 30)) hx hb dX5_seal_96 (by decide) ?_
        refine lv_iload_n hx hb dX5_seal_98 rfl (lv_at hl 3 rfl) ?_
        refine va_iast_n (f := (upd (upd (upd (svR (S) ms) 27 (nI 1)) 28 ky) 29 (nI (qn + 1)))) hx hb hK hP hD hS 1 0 rfl rfl (by omega) (Nat.le_of_ble_eq_true rfl) dX5_seal_99 (fun H locs hP hD hS => ?_)
        have hP : va_P Γ.1 vwCl (wcat [moB Γ a (upd (upd (upd (upd (svR (S) ms) 27 (nI 1)) 28 ky) 29 (nI (qn + 1))) 30 dt) mt mc md (nI (svS (S))) (gsT (nI 0) (nI 1)) m2 m3 m4 m5]) H := hP
        have hD : va_D A (wcat [moB Γ a (upd (upd (upd (upd (svR (S) ms) 27 (nI 1)) 28 ky) 29 (nI (qn + 1))) 30 dt) mt mc md (nI (svS (S))) (gsT (nI 0) (nI 1)) m2 m3 m4 m5]) := hD
        refine lv_aload_n hx hb dX5_seal_100 rfl (lv_at hl 0 rfl) ?_
        refine lv_iconst (v := (nI 0)) hx hb dX5_seal_101 (by decide) ?_
        refine cMI (bc' := [moB Γ a (fX5_deals qn (upd (upd (upd (upd (svR (S) ms) 27 (nI 1)) 28 ky) 29 (nI (qn + 1))) 30 dt) mc (0)).2.1 mt (fX5_deals qn (upd (upd (upd (upd (svR (S) ms) 27 (nI 1)) 28 ky) 29 (nI (qn + 1))) 30 dt) mc (0)).2.2 md (nI (svS (S))) (gsT (nI 0) (nI 1)) m2 m3 m4 m5]) (va_runV (As := [.int (nI 0)]) (rest := []) ⟨hx, hb, hml, hown, hts⟩ ((kX5_deals l Γ a qn (upd (upd (upd (upd (svR (S) ms) 27 (nI 1)) 28 ky) 29 (nI (qn + 1))) 30 dt) mt mc md (nI (svS (S))) (gsT (nI 0) (nI 1)) m2 m3 m4 m5 (0) (by first | assumption | omega) (by simp [upd]) (by omega)) _) (cwV 1 hts gX5_seal_X5_deals rfl rfl rfl (by decide +kernel) ⟨Nat.le_of_ble_eq_true rfl, Nat.le_of_ble_eq_true rfl⟩) ⟨wPre_blind, va_recv hK hP (ci := 5) (q0 := 0) rfl rfl, wPre_mk hP hD hK hS hA hAB hAm [0] rfl rfl⟩ rfl rfl hl.1 rfl (lv_room (Nat.le_of_ble_eq_true rfl)) dX5_seal_102 ⟨Nat.zero_le _, Nat.zero_le _⟩) hP hD hS hA [0] rfl rfl (bs' := [moB Γ a (fX5_deals qn (upd (upd (upd (upd (svR (S) ms) 27 (nI 1)) 28 ky) 29 (nI (qn + 1))) 30 dt) mc (0)).2.1 mt (fX5_deals qn (upd (upd (upd (upd (svR (S) ms) 27 (nI 1)) 28 ky) 29 (nI (qn + 1))) 30 dt) mc (0)).2.2 md (nI (svS (S))) (gsT (nI 0) (nI 1)) m2 m3 m4 m5]) rfl (fun H locs hP hD hS => ?_)
        exact W.iret (v := (fX5_deals qn (upd (upd (upd (upd (svR (S) ms) 27 (nI 1)) 28 ky) 29 (nI (qn + 1))) 30 dt) mc (0)).1) hx hb hr (fun t ht hW => eMI (by rw [hq]; exact hP) hS ht (by rw [hq])) hS.2.2 dX5_seal_105
      · have hq := hq.trans (if_pos c_4)
        refine lv_iconst (v := (nI 0)) hx hb dX5_seal_62 (by decide) ?_
        exact W.iret (v := (nI 0)) hx hb hr (fun t ht hW => eMI (by rw [hq]; exact hP) hS ht (by rw [hq])) hS.2.2 dX5_seal_63
  · have hq := hq.trans (if_neg c_1)
    refine lv_iload_n hx hb dX5_seal_12 rfl (lv_at hl 2 rfl) ?_
    refine lv_iconst (v := (nI 1)) hx hb dX5_seal_13 (by decide) ?_
    refine lv_bipush (v := (nI 8)) hx hb dX5_seal_14 (by decide) ?_
    refine cLI (va_runS (As := [.int q, .int (nI 1), .int (nI 8)]) (rest := [.ref (a 0)]) ⟨hx, hb, hml, hown, hts⟩ ((kX5_in l Γ q (nI 1) (nI 8)) _) (va_cwS 3 hts gX5_seal_X5_in rfl rfl rfl (by decide +kernel) ⟨Nat.le_of_ble_eq_true rfl, Nat.le_of_ble_eq_true rfl⟩) ⟨wPre_blind, wPre_mk hP hD hK hS hA hAB hAm [] rfl rfl⟩ rfl rfl hl.1 rfl (lv_room (Nat.le_of_ble_eq_true rfl)) dX5_seal_16 ⟨Nat.zero_le _, Nat.zero_le _⟩) hP hS hA (fun H locs hP hS => ?_)
    refine lv_if_eq (tgt := 37) hx hb dX5_seal_19 (by decide) (fun c_5 => ?_) (fun c_5 => ?_)
    · have hq := hq.trans (if_pos c_5)
      refine lv_iconst (v := (nI 0)) hx hb dX5_seal_37 (by decide) ?_
      refine lv_aload_n hx hb dX5_seal_38 rfl (lv_at hl 0 rfl) ?_
      refine va_get (D := Γ.1) (ci := 5) (v := .ref (a 1)) (C := RX5) (T := TX5) (N := 10) hx hb hts hi5 hown hK hP 0 rfl rfl 0 (by decide) kf7 (fun _ h9 => h9) rfl dX5_seal_39 ?_
      refine lv_iconst (v := (nI 2)) hx hb dX5_seal_42 (by decide) ?_
      refine va_iald_n (f := ms) hx hb hK hP 1 0 rfl rfl (by omega) (Nat.le_of_ble_eq_true rfl) dX5_seal_43 ?_
      refine cLI (va_runS (As := [.int (ms 2)]) (rest := [.int (nI 0), .ref (a 0)]) ⟨hx, hb, hml, hown, hts⟩ ((kX5_bits l Γ (ms 2)) _) (va_cwS 1 hts gX5_seal_X5_bits rfl rfl rfl (by decide +kernel) ⟨Nat.le_of_ble_eq_true rfl, Nat.le_of_ble_eq_true rfl⟩) ⟨wPre_blind, wPre_mk hP hD hK hS hA hAB hAm [] rfl rfl⟩ rfl rfl hl.1 rfl (lv_room (Nat.le_of_ble_eq_true rfl)) dX5_seal_44 ⟨Nat.zero_le _, Nat.zero_le _⟩) hP hS hA (fun H locs hP hS => ?_)
      refine lv_iload_n hx hb dX5_seal_47 rfl (lv_at hl 2 rfl) ?_
      refine lv_icmp_lt (tgt := 55) hx hb dX5_seal_48 (by decide) (fun c_6 => ?_) (fun c_6 => ?_)
      · have hq := hq.trans (if_pos c_6)
        refine lv_iconst (v := (nI 0)) hx hb dX5_seal_55 (by decide) ?_
        refine cMI (bc' := [moB Γ a ms mt mc md (nI S) (gsT (nI 0) (nI 0)) m2 m3 m4 m5]) (va_runV (As := [.int (nI 0), .int (nI 0)]) (rest := []) ⟨hx, hb, hml, hown, hts⟩ ((nX5_goes l Γ a ms mt mc md (nI S) m1 m2 m3 m4 m5 (nI 0) (nI 0)) _) (cwV 2 hts gX5_seal_X5_goes rfl rfl rfl (by decide +kernel) ⟨Nat.le_of_ble_eq_true rfl, Nat.le_of_ble_eq_true rfl⟩) ⟨wPre_blind, va_recv hK hP (ci := 5) (q0 := 0) rfl rfl, wPre_mk hP hD hK hS hA hAB hAm [0] rfl rfl⟩ rfl rfl hl.1 rfl (lv_room (Nat.le_of_ble_eq_true rfl)) dX5_seal_56 ⟨Nat.zero_le _, Nat.zero_le _⟩) hP hD hS hA [0] rfl rfl (bs' := [moB Γ a ms mt mc md (nI S) (gsT (nI 0) (nI 0)) m2 m3 m4 m5]) rfl (fun H locs hP hD hS => ?_)
        refine lv_if_ne (tgt := 64) hx hb dX5_seal_59 (by decide) (fun c_7 => ?_) (fun c_7 => ?_)
        · have hq := hq.trans (if_neg c_7)
          obtain ⟨qn, hqn, rfl⟩ : ∃ j : Nat, j ≤ 7 ∧ q = nI (j + 1) := in_nat1 (by decide) (show ¬ fX5_in q (nI 1) (nI 8) = 0 by first | assumption | exact gs_ne1 (by assumption) | exact gs_00 (by assumption) | exact gs_01 (by assumption))
          replace hq : (fX5_seal S ms mc ky (nI (qn + 1)) dt) = ((fX5_deals qn (upd (upd (upd (upd (svR (S) ms) 27 (nI 1)) 28 ky) 29 (nI (qn + 1))) 30 dt) mc (0)).1, (fX5_deals qn (upd (upd (upd (upd (svR (S) ms) 27 (nI 1)) 28 ky) 29 (nI (qn + 1))) 30 dt) mc (0)).2.1, (nI (svS (S))), (gsT (nI 0) (nI 0)), (fX5_deals qn (upd (upd (upd (upd (svR (S) ms) 27 (nI 1)) 28 ky) 29 (nI (qn + 1))) 30 dt) mc (0)).2.2) := hq.trans (by first | simp only [nI_clamp (show qn + 1 < 2 ^ 31 by omega), Nat.add_sub_cancel] | rfl)
          refine lv_aload_n hx hb dX5_seal_64 rfl (lv_at hl 0 rfl) ?_
          refine cMV (bc' := [moB Γ a (svR (S) ms) mt mc md (nI (svS (S))) (gsT (nI 0) (nI 0)) m2 m3 m4 m5]) (va_runV (As := []) (rest := []) ⟨hx, hb, hml, hown, hts⟩ ((nX5_saves l Γ a (S) ms mt mc md (gsT (nI 0) (nI 0)) m2 m3 m4 m5 (by first | assumption | omega)) _) (cwV 0 hts gX5_seal_X5_saves rfl rfl rfl (by decide +kernel) ⟨Nat.le_of_ble_eq_true rfl, Nat.le_of_ble_eq_true rfl⟩) ⟨wPre_blind, va_recv hK hP (ci := 5) (q0 := 0) rfl rfl, wPre_mk hP hD hK hS hA hAB hAm [0] rfl rfl⟩ rfl rfl hl.1 rfl (lv_room (Nat.le_of_ble_eq_true rfl)) dX5_seal_65 ⟨Nat.zero_le _, Nat.zero_le _⟩) hP hD hS hA [0] rfl rfl (bs' := [moB Γ a (svR (S) ms) mt mc md (nI (svS (S))) (gsT (nI 0) (nI 0)) m2 m3 m4 m5]) rfl (fun H locs hP hD hS => ?_)
          refine lv_aload_n hx hb dX5_seal_68 rfl (lv_at hl 0 rfl) ?_
          refine va_get (D := Γ.1) (ci := 5) (v := .ref (a 1)) (C := RX5) (T := TX5) (N := 10) hx hb hts hi5 hown hK hP 0 rfl rfl 0 (by decide) kf7 (fun _ h9 => h9) rfl dX5_seal_69 ?_
          refine lv_bipush (v := (nI 27)) hx hb dX5_seal_72 (by decide) ?_
          refine lv_iconst (v := (nI 1)) hx hb dX5_seal_74 (by decide) ?_
          refine va_iast_n (f := (svR (S) ms)) hx hb hK hP hD hS 1 0 rfl rfl (by omega) (Nat.le_of_ble_eq_true rfl) dX5_seal_75 (fun H locs hP hD hS => ?_)
          have hP : va_P Γ.1 vwCl (wcat [moB Γ a (upd (svR (S) ms) 27 (nI 1)) mt mc md (nI (svS (S))) (gsT (nI 0) (nI 0)) m2 m3 m4 m5]) H := hP
          have hD : va_D A (wcat [moB Γ a (upd (svR (S) ms) 27 (nI 1)) mt mc md (nI (svS (S))) (gsT (nI 0) (nI 0)) m2 m3 m4 m5]) := hD
          refine lv_aload_n hx hb dX5_seal_76 rfl (lv_at hl 0 rfl) ?_
          refine va_get (D := Γ.1) (ci := 5) (v := .ref (a 1)) (C := RX5) (T := TX5) (N := 10) hx hb hts hi5 hown hK hP 0 rfl rfl 0 (by decide) kf7 (fun _ h9 => h9) rfl dX5_seal_77 ?_
          refine lv_bipush (v := (nI 28)) hx hb dX5_seal_80 (by decide) ?_
          refine lv_iload_n hx hb dX5_seal_82 rfl (lv_at hl 1 rfl) ?_
          refine va_iast_n (f := (upd (svR (S) ms) 27 (nI 1))) hx hb hK hP hD hS 1 0 rfl rfl (by omega) (Nat.le_of_ble_eq_true rfl) dX5_seal_83 (fun H locs hP hD hS => ?_)
          have hP : va_P Γ.1 vwCl (wcat [moB Γ a (upd (upd (svR (S) ms) 27 (nI 1)) 28 ky) mt mc md (nI (svS (S))) (gsT (nI 0) (nI 0)) m2 m3 m4 m5]) H := hP
          have hD : va_D A (wcat [moB Γ a (upd (upd (svR (S) ms) 27 (nI 1)) 28 ky) mt mc md (nI (svS (S))) (gsT (nI 0) (nI 0)) m2 m3 m4 m5]) := hD
          refine lv_aload_n hx hb dX5_seal_84 rfl (lv_at hl 0 rfl) ?_
          refine va_get (D := Γ.1) (ci := 5) (v := .ref (a 1)) (C := RX5) (T := TX5) (N := 10) hx hb hts hi5 hown hK hP 0 rfl rfl 0 (by decide) kf7 (fun _ h9 => h9) rfl dX5_seal_85 ?_
          refine lv_bipush (v := (nI 29)) hx hb dX5_seal_88 (by decide) ?_
          refine lv_iload_n hx hb dX5_seal_90 rfl (lv_at hl 2 rfl) ?_
          refine va_iast_n (f := (upd (upd (svR (S) ms) 27 (nI 1)) 28 ky)) hx hb hK hP hD hS 1 0 rfl rfl (by omega) (Nat.le_of_ble_eq_true rfl) dX5_seal_91 (fun H locs hP hD hS => ?_)
          have hP : va_P Γ.1 vwCl (wcat [moB Γ a (upd (upd (upd (svR (S) ms) 27 (nI 1)) 28 ky) 29 (nI (qn + 1))) mt mc md (nI (svS (S))) (gsT (nI 0) (nI 0)) m2 m3 m4 m5]) H := hP
          have hD : va_D A (wcat [moB Γ a (upd (upd (upd (svR (S) ms) 27 (nI 1)) 28 ky) 29 (nI (qn + 1))) mt mc md (nI (svS (S))) (gsT (nI 0) (nI 0)) m2 m3 m4 m5]) := hD
          refine lv_aload_n hx hb dX5_seal_92 rfl (lv_at hl 0 rfl) ?_
          refine va_get (D := Γ.1) (ci := 5) (v := .ref (a 1)) (C := RX5) (T := TX5) (N := 10) hx hb hts hi5 hown hK hP 0 rfl rfl 0 (by decide) kf7 (fun _ h9 => h9) rfl dX5_seal_93 ?_
          refine lv_bipush (v := (nI 30)) hx hb dX5_seal_96 (by decide) ?_
          refine lv_iload_n hx hb dX5_seal_98 rfl (lv_at hl 3 rfl) ?_
          refine va_iast_n (f := (upd (upd (upd (svR (S) ms) 27 (nI 1)) 28 ky) 29 (nI (qn + 1)))) hx hb hK hP hD hS 1 0 rfl rfl (by omega) (Nat.le_of_ble_eq_true rfl) dX5_seal_99 (fun H locs hP hD hS => ?_)
          have hP : va_P Γ.1 vwCl (wcat [moB Γ a (upd (upd (upd (upd (svR (S) ms) 27 (nI 1)) 28 ky) 29 (nI (qn + 1))) 30 dt) mt mc md (nI (svS (S))) (gsT (nI 0) (nI 0)) m2 m3 m4 m5]) H := hP
          have hD : va_D A (wcat [moB Γ a (upd (upd (upd (upd (svR (S) ms) 27 (nI 1)) 28 ky) 29 (nI (qn + 1))) 30 dt) mt mc md (nI (svS (S))) (gsT (nI 0) (nI 0)) m2 m3 m4 m5]) := hD
          refine lv_aload_n hx hb dX5_seal_100 rfl (lv_at hl 0 rfl) ?_
          refine lv_iconst (v := (nI 0)) hx hb dX5_seal_101 (by decide) ?_
          refine cMI (bc' := [moB Γ a (fX5_deals qn (upd (upd (upd (upd (svR (S) ms) 27 (nI 1)) 28 ky) 29 (nI (qn + 1))) 30 dt) mc (0)).2.1 mt (fX5_deals qn (upd (upd (upd (upd (svR (S) ms) 27 (nI 1)) 28 ky) 29 (nI (qn + 1))) 30 dt) mc (0)).2.2 md (nI (svS (S))) (gsT (nI 0) (nI 0)) m2 m3 m4 m5]) (va_runV (As := [.int (nI 0)]) (rest := []) ⟨hx, hb, hml, hown, hts⟩ ((kX5_deals l Γ a qn (upd (upd (upd (upd (svR (S) ms) 27 (nI 1)) 28 ky) 29 (nI (qn + 1))) 30 dt) mt mc md (nI (svS (S))) (gsT (nI 0) (nI 0)) m2 m3 m4 m5 (0) (by first | assumption | omega) (by simp [upd]) (by omega)) _) (cwV 1 hts gX5_seal_X5_deals rfl rfl rfl (by decide +kernel) ⟨Nat.le_of_ble_eq_true rfl, Nat.le_of_ble_eq_true rfl⟩) ⟨wPre_blind, va_recv hK hP (ci := 5) (q0 := 0) rfl rfl, wPre_mk hP hD hK hS hA hAB hAm [0] rfl rfl⟩ rfl rfl hl.1 rfl (lv_room (Nat.le_of_ble_eq_true rfl)) dX5_seal_102 ⟨Nat.zero_le _, Nat.zero_le _⟩) hP hD hS hA [0] rfl rfl (bs' := [moB Γ a (fX5_deals qn (upd (upd (upd (upd (svR (S) ms) 27 (nI 1)) 28 ky) 29 (nI (qn + 1))) 30 dt) mc (0)).2.1 mt (fX5_deals qn (upd (upd (upd (upd (svR (S) ms) 27 (nI 1)) 28 ky) 29 (nI (qn + 1))) 30 dt) mc (0)).2.2 md (nI (svS (S))) (gsT (nI 0) (nI 0)) m2 m3 m4 m5]) rfl (fun H locs hP hD hS => ?_)
          exact W.iret (v := (fX5_deals qn (upd (upd (upd (upd (svR (S) ms) 27 (nI 1)) 28 ky) 29 (nI (qn + 1))) 30 dt) mc (0)).1) hx hb hr (fun t ht hW => eMI (by rw [hq]; exact hP) hS ht (by rw [hq])) hS.2.2 dX5_seal_105
        · have hq := hq.trans (if_pos c_7)
          refine lv_iconst (v := (nI 0)) hx hb dX5_seal_62 (by decide) ?_
          exact W.iret (v := (nI 0)) hx hb hr (fun t ht hW => eMI (by rw [hq]; exact hP) hS ht (by rw [hq])) hS.2.2 dX5_seal_63
      · have hq := hq.trans (if_neg c_6)
        refine lv_iconst (v := (nI 1)) hx hb dX5_seal_51 (by decide) ?_
        refine lv_goto (tgt := 56) hx hb dX5_seal_52 (by decide) ?_
        refine cMI (bc' := [moB Γ a ms mt mc md (nI S) (gsT (nI 0) (nI 1)) m2 m3 m4 m5]) (va_runV (As := [.int (nI 0), .int (nI 1)]) (rest := []) ⟨hx, hb, hml, hown, hts⟩ ((nX5_goes l Γ a ms mt mc md (nI S) m1 m2 m3 m4 m5 (nI 0) (nI 1)) _) (cwV 2 hts gX5_seal_X5_goes rfl rfl rfl (by decide +kernel) ⟨Nat.le_of_ble_eq_true rfl, Nat.le_of_ble_eq_true rfl⟩) ⟨wPre_blind, va_recv hK hP (ci := 5) (q0 := 0) rfl rfl, wPre_mk hP hD hK hS hA hAB hAm [0] rfl rfl⟩ rfl rfl hl.1 rfl (lv_room (Nat.le_of_ble_eq_true rfl)) dX5_seal_56 ⟨Nat.zero_le _, Nat.zero_le _⟩) hP hD hS hA [0] rfl rfl (bs' := [moB Γ a ms mt mc md (nI S) (gsT (nI 0) (nI 1)) m2 m3 m4 m5]) rfl (fun H locs hP hD hS => ?_)
        refine lv_if_ne (tgt := 64) hx hb dX5_seal_59 (by decide) (fun c_8 => ?_) (fun c_8 => ?_)
        · have hq := hq.trans (if_neg c_8)
          obtain ⟨qn, hqn, rfl⟩ : ∃ j : Nat, j ≤ 7 ∧ q = nI (j + 1) := in_nat1 (by decide) (show ¬ fX5_in q (nI 1) (nI 8) = 0 by first | assumption | exact gs_ne1 (by assumption) | exact gs_00 (by assumption) | exact gs_01 (by assumption))
          replace hq : (fX5_seal S ms mc ky (nI (qn + 1)) dt) = ((fX5_deals qn (upd (upd (upd (upd (svR (S) ms) 27 (nI 1)) 28 ky) 29 (nI (qn + 1))) 30 dt) mc (0)).1, (fX5_deals qn (upd (upd (upd (upd (svR (S) ms) 27 (nI 1)) 28 ky) 29 (nI (qn + 1))) 30 dt) mc (0)).2.1, (nI (svS (S))), (gsT (nI 0) (nI 1)), (fX5_deals qn (upd (upd (upd (upd (svR (S) ms) 27 (nI 1)) 28 ky) 29 (nI (qn + 1))) 30 dt) mc (0)).2.2) := hq.trans (by first | simp only [nI_clamp (show qn + 1 < 2 ^ 31 by omega), Nat.add_sub_cancel] | rfl)
          refine lv_aload_n hx hb dX5_seal_64 rfl (lv_at hl 0 rfl) ?_
          refine cMV (bc' := [moB Γ a (svR (S) ms) mt mc md (nI (svS (S))) (gsT (nI 0) (nI 1)) m2 m3 m4 m5]) (va_runV (As := []) (rest := []) ⟨hx, hb, hml, hown, hts⟩ ((nX5_saves l Γ a (S) ms mt mc md (gsT (nI 0) (nI 1)) m2 m3 m4 m5 (by first | assumption | omega)) _) (cwV 0 hts gX5_seal_X5_saves rfl rfl rfl (by decide +kernel) ⟨Nat.le_of_ble_eq_true rfl, Nat.le_of_ble_eq_true rfl⟩) ⟨wPre_blind, va_recv hK hP (ci := 5) (q0 := 0) rfl rfl, wPre_mk hP hD hK hS hA hAB hAm [0] rfl rfl⟩ rfl rfl hl.1 rfl (lv_room (Nat.le_of_ble_eq_true rfl)) dX5_seal_65 ⟨Nat.zero_le _, Nat.zero_le _⟩) hP hD hS hA [0] rfl rfl (bs' := [moB Γ a (svR (S) ms) mt mc md (nI (svS (S))) (gsT (nI 0) (nI 1)) m2 m3 m4 m5]) rfl (fun H locs hP hD hS => ?_)
          refine lv_aload_n hx hb dX5_seal_68 rfl (lv_at hl 0 rfl) ?_
          refine va_get (D := Γ.1) (ci := 5) (v := .ref (a 1)) (C := RX5) (T := TX5) (N := 10) hx hb hts hi5 hown hK hP 0 rfl rfl 0 (by decide) kf7 (fun _ h9 => h9) rfl dX5_seal_69 ?_
          refine lv_bipush (v := (nI 27)) hx hb dX5_seal_72 (by decide) ?_
          refine lv_iconst (v := (nI 1)) hx hb dX5_seal_74 (by decide) ?_
          refine va_iast_n (f := (svR (S) ms)) hx hb hK hP hD hS 1 0 rfl rfl (by omega) (Nat.le_of_ble_eq_true rfl) dX5_seal_75 (fun H locs hP hD hS => ?_)
          have hP : va_P Γ.1 vwCl (wcat [moB Γ a (upd (svR (S) ms) 27 (nI 1)) mt mc md (nI (svS (S))) (gsT (nI 0) (nI 1)) m2 m3 m4 m5]) H := hP
          have hD : va_D A (wcat [moB Γ a (upd (svR (S) ms) 27 (nI 1)) mt mc md (nI (svS (S))) (gsT (nI 0) (nI 1)) m2 m3 m4 m5]) := hD
          refine lv_aload_n hx hb dX5_seal_76 rfl (lv_at hl 0 rfl) ?_
          refine va_get (D := Γ.1) (ci := 5) (v := .ref (a 1)) (C := RX5) (T := TX5) (N := 10) hx hb hts hi5 hown hK hP 0 rfl rfl 0 (by decide) kf7 (fun _ h9 => h9) rfl dX5_seal_77 ?_
          refine lv_bipush (v := (nI 28)) hx hb dX5_seal_80 (by decide) ?_
          refine lv_iload_n hx hb dX5_seal_82 rfl (lv_at hl 1 rfl) ?_
          refine va_iast_n (f := (upd (svR (S) ms) 27 (nI 1))) hx hb hK hP hD hS 1 0 rfl rfl (by omega) (Nat.le_of_ble_eq_true rfl) dX5_seal_83 (fun H locs hP hD hS => ?_)
          have hP : va_P Γ.1 vwCl (wcat [moB Γ a (upd (upd (svR (S) ms) 27 (nI 1)) 28 ky) mt mc md (nI (svS (S))) (gsT (nI 0) (nI 1)) m2 m3 m4 m5]) H := hP
          have hD : va_D A (wcat [moB Γ a (upd (upd (svR (S) ms) 27 (nI 1)) 28 ky) mt mc md (nI (svS (S))) (gsT (nI 0) (nI 1)) m2 m3 m4 m5]) := hD
          refine lv_aload_n hx hb dX5_seal_84 rfl (lv_at hl 0 rfl) ?_
          refine va_get (D := Γ.1) (ci := 5) (v := .ref (a 1)) (C := RX5) (T := TX5) (N := 10) hx hb hts hi5 hown hK hP 0 rfl rfl 0 (by decide) kf7 (fun _ h9 => h9) rfl dX5_seal_85 ?_
          refine lv_bipush (v := (nI 29)) hx hb dX5_seal_88 (by decide) ?_
          refine lv_iload_n hx hb dX5_seal_90 rfl (lv_at hl 2 rfl) ?_
          refine va_iast_n (f := (upd (upd (svR (S) ms) 27 (nI 1)) 28 ky)) hx hb hK hP hD hS 1 0 rfl rfl (by omega) (Nat.le_of_ble_eq_true rfl) dX5_seal_91 (fun H locs hP hD hS => ?_)
          have hP : va_P Γ.1 vwCl (wcat [moB Γ a (upd (upd (upd (svR (S) ms) 27 (nI 1)) 28 ky) 29 (nI (qn + 1))) mt mc md (nI (svS (S))) (gsT (nI 0) (nI 1)) m2 m3 m4 m5]) H := hP
          have hD : va_D A (wcat [moB Γ a (upd (upd (upd (svR (S) ms) 27 (nI 1)) 28 ky) 29 (nI (qn + 1))) mt mc md (nI (svS (S))) (gsT (nI 0) (nI 1)) m2 m3 m4 m5]) := hD
          refine lv_aload_n hx hb dX5_seal_92 rfl (lv_at hl 0 rfl) ?_
          refine va_get (D := Γ.1) (ci := 5) (v := .ref (a 1)) (C := RX5) (T := TX5) (N := 10) hx hb hts hi5 hown hK hP 0 rfl rfl 0 (by decide) kf7 (fun _ h9 => h9) rfl dX5_seal_93 ?_
          refine lv_bipush (v := (nI 30)) hx hb dX5_seal_96 (by decide) ?_
          refine lv_iload_n hx hb dX5_seal_98 rfl (lv_at hl 3 rfl) ?_
          refine va_iast_n (f := (upd (upd (upd (svR (S) ms) 27 (nI 1)) 28 ky) 29 (nI (qn + 1)))) hx hb hK hP hD hS 1 0 rfl rfl (by omega) (Nat.le_of_ble_eq_true rfl) dX5_seal_99 (fun H locs hP hD hS => ?_)
          have hP : va_P Γ.1 vwCl (wcat [moB Γ a (upd (upd (upd (upd (svR (S) ms) 27 (nI 1)) 28 ky) 29 (nI (qn + 1))) 30 dt) mt mc md (nI (svS (S))) (gsT (nI 0) (nI 1)) m2 m3 m4 m5]) H := hP
          have hD : va_D A (wcat [moB Γ a (upd (upd (upd (upd (svR (S) ms) 27 (nI 1)) 28 ky) 29 (nI (qn + 1))) 30 dt) mt mc md (nI (svS (S))) (gsT (nI 0) (nI 1)) m2 m3 m4 m5]) := hD
          refine lv_aload_n hx hb dX5_seal_100 rfl (lv_at hl 0 rfl) ?_
          refine lv_iconst (v := (nI 0)) hx hb dX5_seal_101 (by decide) ?_
          refine cMI (bc' := [moB Γ a (fX5_deals qn (upd (upd (upd (upd (svR (S) ms) 27 (nI 1)) 28 ky) 29 (nI (qn + 1))) 30 dt) mc (0)).2.1 mt (fX5_deals qn (upd (upd (upd (upd (svR (S) ms) 27 (nI 1)) 28 ky) 29 (nI (qn + 1))) 30 dt) mc (0)).2.2 md (nI (svS (S))) (gsT (nI 0) (nI 1)) m2 m3 m4 m5]) (va_runV (As := [.int (nI 0)]) (rest := []) ⟨hx, hb, hml, hown, hts⟩ ((kX5_deals l Γ a qn (upd (upd (upd (upd (svR (S) ms) 27 (nI 1)) 28 ky) 29 (nI (qn + 1))) 30 dt) mt mc md (nI (svS (S))) (gsT (nI 0) (nI 1)) m2 m3 m4 m5 (0) (by first | assumption | omega) (by simp [upd]) (by omega)) _) (cwV 1 hts gX5_seal_X5_deals rfl rfl rfl (by decide +kernel) ⟨Nat.le_of_ble_eq_true rfl, Nat.le_of_ble_eq_true rfl⟩) ⟨wPre_blind, va_recv hK hP (ci := 5) (q0 := 0) rfl rfl, wPre_mk hP hD hK hS hA hAB hAm [0] rfl rfl⟩ rfl rfl hl.1 rfl (lv_room (Nat.le_of_ble_eq_true rfl)) dX5_seal_102 ⟨Nat.zero_le _, Nat.zero_le _⟩) hP hD hS hA [0] rfl rfl (bs' := [moB Γ a (fX5_deals qn (upd (upd (upd (upd (svR (S) ms) 27 (nI 1)) 28 ky) 29 (nI (qn + 1))) 30 dt) mc (0)).2.1 mt (fX5_deals qn (upd (upd (upd (upd (svR (S) ms) 27 (nI 1)) 28 ky) 29 (nI (qn + 1))) 30 dt) mc (0)).2.2 md (nI (svS (S))) (gsT (nI 0) (nI 1)) m2 m3 m4 m5]) rfl (fun H locs hP hD hS => ?_)
          exact W.iret (v := (fX5_deals qn (upd (upd (upd (upd (svR (S) ms) 27 (nI 1)) 28 ky) 29 (nI (qn + 1))) 30 dt) mc (0)).1) hx hb hr (fun t ht hW => eMI (by rw [hq]; exact hP) hS ht (by rw [hq])) hS.2.2 dX5_seal_105
        · have hq := hq.trans (if_pos c_8)
          refine lv_iconst (v := (nI 0)) hx hb dX5_seal_62 (by decide) ?_
          exact W.iret (v := (nI 0)) hx hb hr (fun t ht hW => eMI (by rw [hq]; exact hP) hS ht (by rw [hq])) hS.2.2 dX5_seal_63
    · have hq := hq.trans (if_neg c_5)
      refine lv_iload_n hx hb dX5_seal_22 rfl (lv_at hl 3 rfl) ?_
      refine lv_iconst (v := (nI 0)) hx hb dX5_seal_23 (by decide) ?_
      refine lv_sipush (v := (nI 9999)) hx hb dX5_seal_24 (by decide) ?_
      refine cLI (va_runS (As := [.int dt, .int (nI 0), .int (nI 9999)]) (rest := [.ref (a 0)]) ⟨hx, hb, hml, hown, hts⟩ ((kX5_in l Γ dt (nI 0) (nI 9999)) _) (va_cwS 3 hts gX5_seal_X5_in rfl rfl rfl (by decide +kernel) ⟨Nat.le_of_ble_eq_true rfl, Nat.le_of_ble_eq_true rfl⟩) ⟨wPre_blind, wPre_mk hP hD hK hS hA hAB hAm [] rfl rfl⟩ rfl rfl hl.1 rfl (lv_room (Nat.le_of_ble_eq_true rfl)) dX5_seal_27 ⟨Nat.zero_le _, Nat.zero_le _⟩) hP hS hA (fun H locs hP hS => ?_)
      refine lv_if_eq (tgt := 37) hx hb dX5_seal_30 (by decide) (fun c_9 => ?_) (fun c_9 => ?_)
      · have hq := hq.trans (if_pos c_9)
        refine lv_iconst (v := (nI 0)) hx hb dX5_seal_37 (by decide) ?_
        refine lv_aload_n hx hb dX5_seal_38 rfl (lv_at hl 0 rfl) ?_
        refine va_get (D := Γ.1) (ci := 5) (v := .ref (a 1)) (C := RX5) (T := TX5) (N := 10) hx hb hts hi5 hown hK hP 0 rfl rfl 0 (by decide) kf7 (fun _ h9 => h9) rfl dX5_seal_39 ?_
        refine lv_iconst (v := (nI 2)) hx hb dX5_seal_42 (by decide) ?_
        refine va_iald_n (f := ms) hx hb hK hP 1 0 rfl rfl (by omega) (Nat.le_of_ble_eq_true rfl) dX5_seal_43 ?_
        refine cLI (va_runS (As := [.int (ms 2)]) (rest := [.int (nI 0), .ref (a 0)]) ⟨hx, hb, hml, hown, hts⟩ ((kX5_bits l Γ (ms 2)) _) (va_cwS 1 hts gX5_seal_X5_bits rfl rfl rfl (by decide +kernel) ⟨Nat.le_of_ble_eq_true rfl, Nat.le_of_ble_eq_true rfl⟩) ⟨wPre_blind, wPre_mk hP hD hK hS hA hAB hAm [] rfl rfl⟩ rfl rfl hl.1 rfl (lv_room (Nat.le_of_ble_eq_true rfl)) dX5_seal_44 ⟨Nat.zero_le _, Nat.zero_le _⟩) hP hS hA (fun H locs hP hS => ?_)
        refine lv_iload_n hx hb dX5_seal_47 rfl (lv_at hl 2 rfl) ?_
        refine lv_icmp_lt (tgt := 55) hx hb dX5_seal_48 (by decide) (fun c_10 => ?_) (fun c_10 => ?_)
        · have hq := hq.trans (if_pos c_10)
          refine lv_iconst (v := (nI 0)) hx hb dX5_seal_55 (by decide) ?_
          refine cMI (bc' := [moB Γ a ms mt mc md (nI S) (gsT (nI 0) (nI 0)) m2 m3 m4 m5]) (va_runV (As := [.int (nI 0), .int (nI 0)]) (rest := []) ⟨hx, hb, hml, hown, hts⟩ ((nX5_goes l Γ a ms mt mc md (nI S) m1 m2 m3 m4 m5 (nI 0) (nI 0)) _) (cwV 2 hts gX5_seal_X5_goes rfl rfl rfl (by decide +kernel) ⟨Nat.le_of_ble_eq_true rfl, Nat.le_of_ble_eq_true rfl⟩) ⟨wPre_blind, va_recv hK hP (ci := 5) (q0 := 0) rfl rfl, wPre_mk hP hD hK hS hA hAB hAm [0] rfl rfl⟩ rfl rfl hl.1 rfl (lv_room (Nat.le_of_ble_eq_true rfl)) dX5_seal_56 ⟨Nat.zero_le _, Nat.zero_le _⟩) hP hD hS hA [0] rfl rfl (bs' := [moB Γ a ms mt mc md (nI S) (gsT (nI 0) (nI 0)) m2 m3 m4 m5]) rfl (fun H locs hP hD hS => ?_)
          refine lv_if_ne (tgt := 64) hx hb dX5_seal_59 (by decide) (fun c_11 => ?_) (fun c_11 => ?_)
          · have hq := hq.trans (if_neg c_11)
            obtain ⟨qn, hqn, rfl⟩ : ∃ j : Nat, j ≤ 7 ∧ q = nI (j + 1) := in_nat1 (by decide) (show ¬ fX5_in q (nI 1) (nI 8) = 0 by first | assumption | exact gs_ne1 (by assumption) | exact gs_00 (by assumption) | exact gs_01 (by assumption))
            replace hq : (fX5_seal S ms mc ky (nI (qn + 1)) dt) = ((fX5_deals qn (upd (upd (upd (upd (svR (S) ms) 27 (nI 1)) 28 ky) 29 (nI (qn + 1))) 30 dt) mc (0)).1, (fX5_deals qn (upd (upd (upd (upd (svR (S) ms) 27 (nI 1)) 28 ky) 29 (nI (qn + 1))) 30 dt) mc (0)).2.1, (nI (svS (S))), (gsT (nI 0) (nI 0)), (fX5_deals qn (upd (upd (upd (upd (svR (S) ms) 27 (nI 1)) 28 ky) 29 (nI (qn + 1))) 30 dt) mc (0)).2.2) := hq.trans (by first | simp only [nI_clamp (show qn + 1 < 2 ^ 31 by omega), Nat.add_sub_cancel] | rfl)
            refine lv_aload_n hx hb dX5_seal_64 rfl (lv_at hl 0 rfl) ?_
            refine cMV (bc' := [moB Γ a (svR (S) ms) mt mc md (nI (svS (S))) (gsT (nI 0) (nI 0)) m2 m3 m4 m5]) (va_runV (As := []) (rest := []) ⟨hx, hb, hml, hown, hts⟩ ((nX5_saves l Γ a (S) ms mt mc md (gsT (nI 0) (nI 0)) m2 m3 m4 m5 (by first | assumption | omega)) _) (cwV 0 hts gX5_seal_X5_saves rfl rfl rfl (by decide +kernel) ⟨Nat.le_of_ble_eq_true rfl, Nat.le_of_ble_eq_true rfl⟩) ⟨wPre_blind, va_recv hK hP (ci := 5) (q0 := 0) rfl rfl, wPre_mk hP hD hK hS hA hAB hAm [0] rfl rfl⟩ rfl rfl hl.1 rfl (lv_room (Nat.le_of_ble_eq_true rfl)) dX5_seal_65 ⟨Nat.zero_le _, Nat.zero_le _⟩) hP hD hS hA [0] rfl rfl (bs' := [moB Γ a (svR (S) ms) mt mc md (nI (svS (S))) (gsT (nI 0) (nI 0)) m2 m3 m4 m5]) rfl (fun H locs hP hD hS => ?_)
            refine lv_aload_n hx hb dX5_seal_68 rfl (lv_at hl 0 rfl) ?_
            refine va_get (D := Γ.1) (ci := 5) (v := .ref (a 1)) (C := RX5) (T := TX5) (N := 10) hx hb hts hi5 hown hK hP 0 rfl rfl 0 (by decide) kf7 (fun _ h9 => h9) rfl dX5_seal_69 ?_
            refine lv_bipush (v := (nI 27)) hx hb dX5_seal_72 (by decide) ?_
            refine lv_iconst (v := (nI 1)) hx hb dX5_seal_74 (by decide) ?_
            refine va_iast_n (f := (svR (S) ms)) hx hb hK hP hD hS 1 0 rfl rfl (by omega) (Nat.le_of_ble_eq_true rfl) dX5_seal_75 (fun H locs hP hD hS => ?_)
            have hP : va_P Γ.1 vwCl (wcat [moB Γ a (upd (svR (S) ms) 27 (nI 1)) mt mc md (nI (svS (S))) (gsT (nI 0) (nI 0)) m2 m3 m4 m5]) H := hP
            have hD : va_D A (wcat [moB Γ a (upd (svR (S) ms) 27 (nI 1)) mt mc md (nI (svS (S))) (gsT (nI 0) (nI 0)) m2 m3 m4 m5]) := hD
            refine lv_aload_n hx hb dX5_seal_76 rfl (lv_at hl 0 rfl) ?_
            refine va_get (D := Γ.1) (ci := 5) (v := .ref (a 1)) (C := RX5) (T := TX5) (N := 10) hx hb hts hi5 hown hK hP 0 rfl rfl 0 (by decide) kf7 (fun _ h9 => h9) rfl dX5_seal_77 ?_
            refine lv_bipush (v := (nI 28)) hx hb dX5_seal_80 (by decide) ?_
            refine lv_iload_n hx hb dX5_seal_82 rfl (lv_at hl 1 rfl) ?_
            refine va_iast_n (f := (upd (svR (S) ms) 27 (nI 1))) hx hb hK hP hD hS 1 0 rfl rfl (by omega) (Nat.le_of_ble_eq_true rfl) dX5_seal_83 (fun H locs hP hD hS => ?_)
            have hP : va_P Γ.1 vwCl (wcat [moB Γ a (upd (upd (svR (S) ms) 27 (nI 1)) 28 ky) mt mc md (nI (svS (S))) (gsT (nI 0) (nI 0)) m2 m3 m4 m5]) H := hP
            have hD : va_D A (wcat [moB Γ a (upd (upd (svR (S) ms) 27 (nI 1)) 28 ky) mt mc md (nI (svS (S))) (gsT (nI 0) (nI 0)) m2 m3 m4 m5]) := hD
            refine lv_aload_n hx hb dX5_seal_84 rfl (lv_at hl 0 rfl) ?_
            refine va_get (D := Γ.1) (ci := 5) (v := .ref (a 1)) (C := RX5) (T := TX5) (N := 10) hx hb hts hi5 hown hK hP 0 rfl rfl 0 (by decide) kf7 (fun _ h9 => h9) rfl dX5_seal_85 ?_
            refine lv_bipush (v := (nI 29)) hx hb dX5_seal_88 (by decide) ?_
            refine lv_iload_n hx hb dX5_seal_90 rfl (lv_at hl 2 rfl) ?_
            refine va_iast_n (f := (upd (upd (svR (S) ms) 27 (nI 1)) 28 ky)) hx hb hK hP hD hS 1 0 rfl rfl (by omega) (Nat.le_of_ble_eq_true rfl) dX5_seal_91 (fun H locs hP hD hS => ?_)
            have hP : va_P Γ.1 vwCl (wcat [moB Γ a (upd (upd (upd (svR (S) ms) 27 (nI 1)) 28 ky) 29 (nI (qn + 1))) mt mc md (nI (svS (S))) (gsT (nI 0) (nI 0)) m2 m3 m4 m5]) H := hP
            have hD : va_D A (wcat [moB Γ a (upd (upd (upd (svR (S) ms) 27 (nI 1)) 28 ky) 29 (nI (qn + 1))) mt mc md (nI (svS (S))) (gsT (nI 0) (nI 0)) m2 m3 m4 m5]) := hD
            refine lv_aload_n hx hb dX5_seal_92 rfl (lv_at hl 0 rfl) ?_
            refine va_get (D := Γ.1) (ci := 5) (v := .ref (a 1)) (C := RX5) (T := TX5) (N := 10) hx hb hts hi5 hown hK hP 0 rfl rfl 0 (by decide) kf7 (fun _ h9 => h9) rfl dX5_seal_93 ?_
            refine lv_bipush (v := (nI 30)) hx hb dX5_seal_96 (by decide) ?_
            refine lv_iload_n hx hb dX5_seal_98 rfl (lv_at hl 3 rfl) ?_
            refine va_iast_n (f := (upd (upd (upd (svR (S) ms) 27 (nI 1)) 28 ky) 29 (nI (qn + 1)))) hx hb hK hP hD hS 1 0 rfl rfl (by omega) (Nat.le_of_ble_eq_true rfl) dX5_seal_99 (fun H locs hP hD hS => ?_)
            have hP : va_P Γ.1 vwCl (wcat [moB Γ a (upd (upd (upd (upd (svR (S) ms) 27 (nI 1)) 28 ky) 29 (nI (qn + 1))) 30 dt) mt mc md (nI (svS (S))) (gsT (nI 0) (nI 0)) m2 m3 m4 m5]) H := hP
            have hD : va_D A (wcat [moB Γ a (upd (upd (upd (upd (svR (S) ms) 27 (nI 1)) 28 ky) 29 (nI (qn + 1))) 30 dt) mt mc md (nI (svS (S))) (gsT (nI 0) (nI 0)) m2 m3 m4 m5]) := hD
            refine lv_aload_n hx hb dX5_seal_100 rfl (lv_at hl 0 rfl) ?_
            refine lv_iconst (v := (nI 0)) hx hb dX5_seal_101 (by decide) ?_
            refine cMI (bc' := [moB Γ a (fX5_deals qn (upd (upd (upd (upd (svR (S) ms) 27 (nI 1)) 28 ky) 29 (nI (qn + 1))) 30 dt) mc (0)).2.1 mt (fX5_deals qn (upd (upd (upd (upd (svR (S) ms) 27 (nI 1)) 28 ky) 29 (nI (qn + 1))) 30 dt) mc (0)).2.2 md (nI (svS (S))) (gsT (nI 0) (nI 0)) m2 m3 m4 m5]) (va_runV (As := [.int (nI 0)]) (rest := []) ⟨hx, hb, hml, hown, hts⟩ ((kX5_deals l Γ a qn (upd (upd (upd (upd (svR (S) ms) 27 (nI 1)) 28 ky) 29 (nI (qn + 1))) 30 dt) mt mc md (nI (svS (S))) (gsT (nI 0) (nI 0)) m2 m3 m4 m5 (0) (by first | assumption | omega) (by simp [upd]) (by omega)) _) (cwV 1 hts gX5_seal_X5_deals rfl rfl rfl (by decide +kernel) ⟨Nat.le_of_ble_eq_true rfl, Nat.le_of_ble_eq_true rfl⟩) ⟨wPre_blind, va_recv hK hP (ci := 5) (q0 := 0) rfl rfl, wPre_mk hP hD hK hS hA hAB hAm [0] rfl rfl⟩ rfl rfl hl.1 rfl (lv_room (Nat.le_of_ble_eq_true rfl)) dX5_seal_102 ⟨Nat.zero_le _, Nat.zero_le _⟩) hP hD hS hA [0] rfl rfl (bs' := [moB Γ a (fX5_deals qn (upd (upd (upd (upd (svR (S) ms) 27 (nI 1)) 28 ky) 29 (nI (qn + 1))) 30 dt) mc (0)).2.1 mt (fX5_deals qn (upd (upd (upd (upd (svR (S) ms) 27 (nI 1)) 28 ky) 29 (nI (qn + 1))) 30 dt) mc (0)).2.2 md (nI (svS (S))) (gsT (nI 0) (nI 0)) m2 m3 m4 m5]) rfl (fun H locs hP hD hS => ?_)
            exact W.iret (v := (fX5_deals qn (upd (upd (upd (upd (svR (S) ms) 27 (nI 1)) 28 ky) 29 (nI (qn + 1))) 30 dt) mc (0)).1) hx hb hr (fun t ht hW => eMI (by rw [hq]; exact hP) hS ht (by rw [hq])) hS.2.2 dX5_seal_105
          · have hq := hq.trans (if_pos c_11)
            refine lv_iconst (v := (nI 0)) hx hb dX5_seal_62 (by decide) ?_
            exact W.iret (v := (nI 0)) hx hb hr (fun t ht hW => eMI (by rw [hq]; exact hP) hS ht (by rw [hq])) hS.2.2 dX5_seal_63
        · have hq := hq.trans (if_neg c_10)
          refine lv_iconst (v := (nI 1)) hx hb dX5_seal_51 (by decide) ?_
          refine lv_goto (tgt := 56) hx hb dX5_seal_52 (by decide) ?_
          refine cMI (bc' := [moB Γ a ms mt mc md (nI S) (gsT (nI 0) (nI 1)) m2 m3 m4 m5]) (va_runV (As := [.int (nI 0), .int (nI 1)]) (rest := []) ⟨hx, hb, hml, hown, hts⟩ ((nX5_goes l Γ a ms mt mc md (nI S) m1 m2 m3 m4 m5 (nI 0) (nI 1)) _) (cwV 2 hts gX5_seal_X5_goes rfl rfl rfl (by decide +kernel) ⟨Nat.le_of_ble_eq_true rfl, Nat.le_of_ble_eq_true rfl⟩) ⟨wPre_blind, va_recv hK hP (ci := 5) (q0 := 0) rfl rfl, wPre_mk hP hD hK hS hA hAB hAm [0] rfl rfl⟩ rfl rfl hl.1 rfl (lv_room (Nat.le_of_ble_eq_true rfl)) dX5_seal_56 ⟨Nat.zero_le _, Nat.zero_le _⟩) hP hD hS hA [0] rfl rfl (bs' := [moB Γ a ms mt mc md (nI S) (gsT (nI 0) (nI 1)) m2 m3 m4 m5]) rfl (fun H locs hP hD hS => ?_)
          refine lv_if_ne (tgt := 64) hx hb dX5_seal_59 (by decide) (fun c_12 => ?_) (fun c_12 => ?_)
          · have hq := hq.trans (if_neg c_12)
            obtain ⟨qn, hqn, rfl⟩ : ∃ j : Nat, j ≤ 7 ∧ q = nI (j + 1) := in_nat1 (by decide) (show ¬ fX5_in q (nI 1) (nI 8) = 0 by first | assumption | exact gs_ne1 (by assumption) | exact gs_00 (by assumption) | exact gs_01 (by assumption))
            replace hq : (fX5_seal S ms mc ky (nI (qn + 1)) dt) = ((fX5_deals qn (upd (upd (upd (upd (svR (S) ms) 27 (nI 1)) 28 ky) 29 (nI (qn + 1))) 30 dt) mc (0)).1, (fX5_deals qn (upd (upd (upd (upd (svR (S) ms) 27 (nI 1)) 28 ky) 29 (nI (qn + 1))) 30 dt) mc (0)).2.1, (nI (svS (S))), (gsT (nI 0) (nI 1)), (fX5_deals qn (upd (upd (upd (upd (svR (S) ms) 27 (nI 1)) 28 ky) 29 (nI (qn + 1))) 30 dt) mc (0)).2.2) := hq.trans (by first | simp only [nI_clamp (show qn + 1 < 2 ^ 31 by omega), Nat.add_sub_cancel] | rfl)
            refine lv_aload_n hx hb dX5_seal_64 rfl (lv_at hl 0 rfl) ?_
            refine cMV (bc' := [moB Γ a (svR (S) ms) mt mc md (nI (svS (S))) (gsT (nI 0) (nI 1)) m2 m3 m4 m5]) (va_runV (As := []) (rest := []) ⟨hx, hb, hml, hown, hts⟩ ((nX5_saves l Γ a (S) ms mt mc md (gsT (nI 0) (nI 1)) m2 m3 m4 m5 (by first | assumption | omega)) _) (cwV 0 hts gX5_seal_X5_saves rfl rfl rfl (by decide +kernel) ⟨Nat.le_of_ble_eq_true rfl, Nat.le_of_ble_eq_true rfl⟩) ⟨wPre_blind, va_recv hK hP (ci := 5) (q0 := 0) rfl rfl, wPre_mk hP hD hK hS hA hAB hAm [0] rfl rfl⟩ rfl rfl hl.1 rfl (lv_room (Nat.le_of_ble_eq_true rfl)) dX5_seal_65 ⟨Nat.zero_le _, Nat.zero_le _⟩) hP hD hS hA [0] rfl rfl (bs' := [moB Γ a (svR (S) ms) mt mc md (nI (svS (S))) (gsT (nI 0) (nI 1)) m2 m3 m4 m5]) rfl (fun H locs hP hD hS => ?_)
            refine lv_aload_n hx hb dX5_seal_68 rfl (lv_at hl 0 rfl) ?_
            refine va_get (D := Γ.1) (ci := 5) (v := .ref (a 1)) (C := RX5) (T := TX5) (N := 10) hx hb hts hi5 hown hK hP 0 rfl rfl 0 (by decide) kf7 (fun _ h9 => h9) rfl dX5_seal_69 ?_
            refine lv_bipush (v := (nI 27)) hx hb dX5_seal_72 (by decide) ?_
            refine lv_iconst (v := (nI 1)) hx hb dX5_seal_74 (by decide) ?_
            refine va_iast_n (f := (svR (S) ms)) hx hb hK hP hD hS 1 0 rfl rfl (by omega) (Nat.le_of_ble_eq_true rfl) dX5_seal_75 (fun H locs hP hD hS => ?_)
            have hP : va_P Γ.1 vwCl (wcat [moB Γ a (upd (svR (S) ms) 27 (nI 1)) mt mc md (nI (svS (S))) (gsT (nI 0) (nI 1)) m2 m3 m4 m5]) H := hP
            have hD : va_D A (wcat [moB Γ a (upd (svR (S) ms) 27 (nI 1)) mt mc md (nI (svS (S))) (gsT (nI 0) (nI 1)) m2 m3 m4 m5]) := hD
            refine lv_aload_n hx hb dX5_seal_76 rfl (lv_at hl 0 rfl) ?_
            refine va_get (D := Γ.1) (ci := 5) (v := .ref (a 1)) (C := RX5) (T := TX5) (N := 10) hx hb hts hi5 hown hK hP 0 rfl rfl 0 (by decide) kf7 (fun _ h9 => h9) rfl dX5_seal_77 ?_
            refine lv_bipush (v := (nI 28)) hx hb dX5_seal_80 (by decide) ?_
            refine lv_iload_n hx hb dX5_seal_82 rfl (lv_at hl 1 rfl) ?_
            refine va_iast_n (f := (upd (svR (S) ms) 27 (nI 1))) hx hb hK hP hD hS 1 0 rfl rfl (by omega) (Nat.le_of_ble_eq_true rfl) dX5_seal_83 (fun H locs hP hD hS => ?_)
            have hP : va_P Γ.1 vwCl (wcat [moB Γ a (upd (upd (svR (S) ms) 27 (nI 1)) 28 ky) mt mc md (nI (svS (S))) (gsT (nI 0) (nI 1)) m2 m3 m4 m5]) H := hP
            have hD : va_D A (wcat [moB Γ a (upd (upd (svR (S) ms) 27 (nI 1)) 28 ky) mt mc md (nI (svS (S))) (gsT (nI 0) (nI 1)) m2 m3 m4 m5]) := hD
            refine lv_aload_n hx hb dX5_seal_84 rfl (lv_at hl 0 rfl) ?_
            refine va_get (D := Γ.1) (ci := 5) (v := .ref (a 1)) (C := RX5) (T := TX5) (N := 10) hx hb hts hi5 hown hK hP 0 rfl rfl 0 (by decide) kf7 (fun _ h9 => h9) rfl dX5_seal_85 ?_
            refine lv_bipush (v := (nI 29)) hx hb dX5_seal_88 (by decide) ?_
            refine lv_iload_n hx hb dX5_seal_90 rfl (lv_at hl 2 rfl) ?_
            refine va_iast_n (f := (upd (upd (svR (S) ms) 27 (nI 1)) 28 ky)) hx hb hK hP hD hS 1 0 rfl rfl (by omega) (Nat.le_of_ble_eq_true rfl) dX5_seal_91 (fun H locs hP hD hS => ?_)
            have hP : va_P Γ.1 vwCl (wcat [moB Γ a (upd (upd (upd (svR (S) ms) 27 (nI 1)) 28 ky) 29 (nI (qn + 1))) mt mc md (nI (svS (S))) (gsT (nI 0) (nI 1)) m2 m3 m4 m5]) H := hP
            have hD : va_D A (wcat [moB Γ a (upd (upd (upd (svR (S) ms) 27 (nI 1)) 28 ky) 29 (nI (qn + 1))) mt mc md (nI (svS (S))) (gsT (nI 0) (nI 1)) m2 m3 m4 m5]) := hD
            refine lv_aload_n hx hb dX5_seal_92 rfl (lv_at hl 0 rfl) ?_
            refine va_get (D := Γ.1) (ci := 5) (v := .ref (a 1)) (C := RX5) (T := TX5) (N := 10) hx hb hts hi5 hown hK hP 0 rfl rfl 0 (by decide) kf7 (fun _ h9 => h9) rfl dX5_seal_93 ?_
            refine lv_bipush (v := (nI 30)) hx hb dX5_seal_96 (by decide) ?_
            refine lv_iload_n hx hb dX5_seal_98 rfl (lv_at hl 3 rfl) ?_
            refine va_iast_n (f := (upd (upd (upd (svR (S) ms) 27 (nI 1)) 28 ky) 29 (nI (qn + 1)))) hx hb hK hP hD hS 1 0 rfl rfl (by omega) (Nat.le_of_ble_eq_true rfl) dX5_seal_99 (fun H locs hP hD hS => ?_)
            have hP : va_P Γ.1 vwCl (wcat [moB Γ a (upd (upd (upd (upd (svR (S) ms) 27 (nI 1)) 28 ky) 29 (nI (qn + 1))) 30 dt) mt mc md (nI (svS (S))) (gsT (nI 0) (nI 1)) m2 m3 m4 m5]) H := hP
            have hD : va_D A (wcat [moB Γ a (upd (upd (upd (upd (svR (S) ms) 27 (nI 1)) 28 ky) 29 (nI (qn + 1))) 30 dt) mt mc md (nI (svS (S))) (gsT (nI 0) (nI 1)) m2 m3 m4 m5]) := hD
            refine lv_aload_n hx hb dX5_seal_100 rfl (lv_at hl 0 rfl) ?_
            refine lv_iconst (v := (nI 0)) hx hb dX5_seal_101 (by decide) ?_
            refine cMI (bc' := [moB Γ a (fX5_deals qn (upd (upd (upd (upd (svR (S) ms) 27 (nI 1)) 28 ky) 29 (nI (qn + 1))) 30 dt) mc (0)).2.1 mt (fX5_deals qn (upd (upd (upd (upd (svR (S) ms) 27 (nI 1)) 28 ky) 29 (nI (qn + 1))) 30 dt) mc (0)).2.2 md (nI (svS (S))) (gsT (nI 0) (nI 1)) m2 m3 m4 m5]) (va_runV (As := [.int (nI 0)]) (rest := []) ⟨hx, hb, hml, hown, hts⟩ ((kX5_deals l Γ a qn (upd (upd (upd (upd (svR (S) ms) 27 (nI 1)) 28 ky) 29 (nI (qn + 1))) 30 dt) mt mc md (nI (svS (S))) (gsT (nI 0) (nI 1)) m2 m3 m4 m5 (0) (by first | assumption | omega) (by simp [upd]) (by omega)) _) (cwV 1 hts gX5_seal_X5_deals rfl rfl rfl (by decide +kernel) ⟨Nat.le_of_ble_eq_true rfl, Nat.le_of_ble_eq_true rfl⟩) ⟨wPre_blind, va_recv hK hP (ci := 5) (q0 := 0) rfl rfl, wPre_mk hP hD hK hS hA hAB hAm [0] rfl rfl⟩ rfl rfl hl.1 rfl (lv_room (Nat.le_of_ble_eq_true rfl)) dX5_seal_102 ⟨Nat.zero_le _, Nat.zero_le _⟩) hP hD hS hA [0] rfl rfl (bs' := [moB Γ a (fX5_deals qn (upd (upd (upd (upd (svR (S) ms) 27 (nI 1)) 28 ky) 29 (nI (qn + 1))) 30 dt) mc (0)).2.1 mt (fX5_deals qn (upd (upd (upd (upd (svR (S) ms) 27 (nI 1)) 28 ky) 29 (nI (qn + 1))) 30 dt) mc (0)).2.2 md (nI (svS (S))) (gsT (nI 0) (nI 1)) m2 m3 m4 m5]) rfl (fun H locs hP hD hS => ?_)
            exact W.iret (v := (fX5_deals qn (upd (upd (upd (upd (svR (S) ms) 27 (nI 1)) 28 ky) 29 (nI (qn + 1))) 30 dt) mc (0)).1) hx hb hr (fun t ht hW => eMI (by rw [hq]; exact hP) hS ht (by rw [hq])) hS.2.2 dX5_seal_105
          · have hq := hq.trans (if_pos c_12)
            refine lv_iconst (v := (nI 0)) hx hb dX5_seal_62 (by decide) ?_
            exact W.iret (v := (nI 0)) hx hb hr (fun t ht hW => eMI (by rw [hq]; exact hP) hS ht (by rw [hq])) hS.2.2 dX5_seal_63
      · have hq := hq.trans (if_neg c_9)
        refine lv_iconst (v := (nI 1)) hx hb dX5_seal_33 (by decide) ?_
        refine lv_goto (tgt := 38) hx hb dX5_seal_34 (by decide) ?_
        refine lv_aload_n hx hb dX5_seal_38 rfl (lv_at hl 0 rfl) ?_
        refine va_get (D := Γ.1) (ci := 5) (v := .ref (a 1)) (C := RX5) (T := TX5) (N := 10) hx hb hts hi5 hown hK hP 0 rfl rfl 0 (by decide) kf7 (fun _ h9 => h9) rfl dX5_seal_39 ?_
        refine lv_iconst (v := (nI 2)) hx hb dX5_seal_42 (by decide) ?_
        refine va_iald_n (f := ms) hx hb hK hP 1 0 rfl rfl (by omega) (Nat.le_of_ble_eq_true rfl) dX5_seal_43 ?_
        refine cLI (va_runS (As := [.int (ms 2)]) (rest := [.int (nI 1), .ref (a 0)]) ⟨hx, hb, hml, hown, hts⟩ ((kX5_bits l Γ (ms 2)) _) (va_cwS 1 hts gX5_seal_X5_bits rfl rfl rfl (by decide +kernel) ⟨Nat.le_of_ble_eq_true rfl, Nat.le_of_ble_eq_true rfl⟩) ⟨wPre_blind, wPre_mk hP hD hK hS hA hAB hAm [] rfl rfl⟩ rfl rfl hl.1 rfl (lv_room (Nat.le_of_ble_eq_true rfl)) dX5_seal_44 ⟨Nat.zero_le _, Nat.zero_le _⟩) hP hS hA (fun H locs hP hS => ?_)
        refine lv_iload_n hx hb dX5_seal_47 rfl (lv_at hl 2 rfl) ?_
        refine lv_icmp_lt (tgt := 55) hx hb dX5_seal_48 (by decide) (fun c_13 => ?_) (fun c_13 => ?_)
        · have hq := hq.trans (if_pos c_13)
          refine lv_iconst (v := (nI 0)) hx hb dX5_seal_55 (by decide) ?_
          refine cMI (bc' := [moB Γ a ms mt mc md (nI S) (gsT (nI 1) (nI 0)) m2 m3 m4 m5]) (va_runV (As := [.int (nI 1), .int (nI 0)]) (rest := []) ⟨hx, hb, hml, hown, hts⟩ ((nX5_goes l Γ a ms mt mc md (nI S) m1 m2 m3 m4 m5 (nI 1) (nI 0)) _) (cwV 2 hts gX5_seal_X5_goes rfl rfl rfl (by decide +kernel) ⟨Nat.le_of_ble_eq_true rfl, Nat.le_of_ble_eq_true rfl⟩) ⟨wPre_blind, va_recv hK hP (ci := 5) (q0 := 0) rfl rfl, wPre_mk hP hD hK hS hA hAB hAm [0] rfl rfl⟩ rfl rfl hl.1 rfl (lv_room (Nat.le_of_ble_eq_true rfl)) dX5_seal_56 ⟨Nat.zero_le _, Nat.zero_le _⟩) hP hD hS hA [0] rfl rfl (bs' := [moB Γ a ms mt mc md (nI S) (gsT (nI 1) (nI 0)) m2 m3 m4 m5]) rfl (fun H locs hP hD hS => ?_)
          refine lv_if_ne (tgt := 64) hx hb dX5_seal_59 (by decide) (fun c_14 => ?_) (fun c_14 => ?_)
          · have hq := hq.trans (if_neg c_14)
            obtain ⟨qn, hqn, rfl⟩ : ∃ j : Nat, j ≤ 7 ∧ q = nI (j + 1) := in_nat1 (by decide) (show ¬ fX5_in q (nI 1) (nI 8) = 0 by first | assumption | exact gs_ne1 (by assumption) | exact gs_00 (by assumption) | exact gs_01 (by assumption))
            replace hq : (fX5_seal S ms mc ky (nI (qn + 1)) dt) = ((fX5_deals qn (upd (upd (upd (upd (svR (S) ms) 27 (nI 1)) 28 ky) 29 (nI (qn + 1))) 30 dt) mc (0)).1, (fX5_deals qn (upd (upd (upd (upd (svR (S) ms) 27 (nI 1)) 28 ky) 29 (nI (qn + 1))) 30 dt) mc (0)).2.1, (nI (svS (S))), (gsT (nI 1) (nI 0)), (fX5_deals qn (upd (upd (upd (upd (svR (S) ms) 27 (nI 1)) 28 ky) 29 (nI (qn + 1))) 30 dt) mc (0)).2.2) := hq.trans (by first | simp only [nI_clamp (show qn + 1 < 2 ^ 31 by omega), Nat.add_sub_cancel] | rfl)
            refine lv_aload_n hx hb dX5_seal_64 rfl (lv_at hl 0 rfl) ?_
            refine cMV (bc' := [moB Γ a (svR (S) ms) mt mc md (nI (svS (S))) (gsT (nI 1) (nI 0)) m2 m3 m4 m5]) (va_runV (As := []) (rest := []) ⟨hx, hb, hml, hown, hts⟩ ((nX5_saves l Γ a (S) ms mt mc md (gsT (nI 1) (nI 0)) m2 m3 m4 m5 (by first | assumption | omega)) _) (cwV 0 hts gX5_seal_X5_saves rfl rfl rfl (by decide +kernel) ⟨Nat.le_of_ble_eq_true rfl, Nat.le_of_ble_eq_true rfl⟩) ⟨wPre_blind, va_recv hK hP (ci := 5) (q0 := 0) rfl rfl, wPre_mk hP hD hK hS hA hAB hAm [0] rfl rfl⟩ rfl rfl hl.1 rfl (lv_room (Nat.le_of_ble_eq_true rfl)) dX5_seal_65 ⟨Nat.zero_le _, Nat.zero_le _⟩) hP hD hS hA [0] rfl rfl (bs' := [moB Γ a (svR (S) ms) mt mc md (nI (svS (S))) (gsT (nI 1) (nI 0)) m2 m3 m4 m5]) rfl (fun H locs hP hD hS => ?_)
            refine lv_aload_n hx hb dX5_seal_68 rfl (lv_at hl 0 rfl) ?_
            refine va_get (D := Γ.1) (ci := 5) (v := .ref (a 1)) (C := RX5) (T := TX5) (N := 10) hx hb hts hi5 hown hK hP 0 rfl rfl 0 (by decide) kf7 (fun _ h9 => h9) rfl dX5_seal_69 ?_
            refine lv_bipush (v := (nI 27)) hx hb dX5_seal_72 (by decide) ?_
            refine lv_iconst (v := (nI 1)) hx hb dX5_seal_74 (by decide) ?_
            refine va_iast_n (f := (svR (S) ms)) hx hb hK hP hD hS 1 0 rfl rfl (by omega) (Nat.le_of_ble_eq_true rfl) dX5_seal_75 (fun H locs hP hD hS => ?_)
            have hP : va_P Γ.1 vwCl (wcat [moB Γ a (upd (svR (S) ms) 27 (nI 1)) mt mc md (nI (svS (S))) (gsT (nI 1) (nI 0)) m2 m3 m4 m5]) H := hP
            have hD : va_D A (wcat [moB Γ a (upd (svR (S) ms) 27 (nI 1)) mt mc md (nI (svS (S))) (gsT (nI 1) (nI 0)) m2 m3 m4 m5]) := hD
            refine lv_aload_n hx hb dX5_seal_76 rfl (lv_at hl 0 rfl) ?_
            refine va_get (D := Γ.1) (ci := 5) (v := .ref (a 1)) (C := RX5) (T := TX5) (N := 10) hx hb hts hi5 hown hK hP 0 rfl rfl 0 (by decide) kf7 (fun _ h9 => h9) rfl dX5_seal_77 ?_
            refine lv_bipush (v := (nI 28)) hx hb dX5_seal_80 (by decide) ?_
            refine lv_iload_n hx hb dX5_seal_82 rfl (lv_at hl 1 rfl) ?_
            refine va_iast_n (f := (upd (svR (S) ms) 27 (nI 1))) hx hb hK hP hD hS 1 0 rfl rfl (by omega) (Nat.le_of_ble_eq_true rfl) dX5_seal_83 (fun H locs hP hD hS => ?_)
            have hP : va_P Γ.1 vwCl (wcat [moB Γ a (upd (upd (svR (S) ms) 27 (nI 1)) 28 ky) mt mc md (nI (svS (S))) (gsT (nI 1) (nI 0)) m2 m3 m4 m5]) H := hP
            have hD : va_D A (wcat [moB Γ a (upd (upd (svR (S) ms) 27 (nI 1)) 28 ky) mt mc md (nI (svS (S))) (gsT (nI 1) (nI 0)) m2 m3 m4 m5]) := hD
            refine lv_aload_n hx hb dX5_seal_84 rfl (lv_at hl 0 rfl) ?_
            refine va_get (D := Γ.1) (ci := 5) (v := .ref (a 1)) (C := RX5) (T := TX5) (N := 10) hx hb hts hi5 hown hK hP 0 rfl rfl 0 (by decide) kf7 (fun _ h9 => h9) rfl dX5_seal_85 ?_
            refine lv_bipush (v := (nI 29)) hx hb dX5_seal_88 (by decide) ?_
            refine lv_iload_n hx hb dX5_seal_90 rfl (lv_at hl 2 rfl) ?_
            refine va_iast_n (f := (upd (upd (svR (S) ms) 27 (nI 1)) 28 ky)) hx hb hK hP hD hS 1 0 rfl rfl (by omega) (Nat.le_of_ble_eq_true rfl) dX5_seal_91 (fun H locs hP hD hS => ?_)
            have hP : va_P Γ.1 vwCl (wcat [moB Γ a (upd (upd (upd (svR (S) ms) 27 (nI 1)) 28 ky) 29 (nI (qn + 1))) mt mc md (nI (svS (S))) (gsT (nI 1) (nI 0)) m2 m3 m4 m5]) H := hP
            have hD : va_D A (wcat [moB Γ a (upd (upd (upd (svR (S) ms) 27 (nI 1)) 28 ky) 29 (nI (qn + 1))) mt mc md (nI (svS (S))) (gsT (nI 1) (nI 0)) m2 m3 m4 m5]) := hD
            refine lv_aload_n hx hb dX5_seal_92 rfl (lv_at hl 0 rfl) ?_
            refine va_get (D := Γ.1) (ci := 5) (v := .ref (a 1)) (C := RX5) (T := TX5) (N := 10) hx hb hts hi5 hown hK hP 0 rfl rfl 0 (by decide) kf7 (fun _ h9 => h9) rfl dX5_seal_93 ?_
            refine lv_bipush (v := (nI 30)) hx hb dX5_seal_96 (by decide) ?_
            refine lv_iload_n hx hb dX5_seal_98 rfl (lv_at hl 3 rfl) ?_
            refine va_iast_n (f := (upd (upd (upd (svR (S) ms) 27 (nI 1)) 28 ky) 29 (nI (qn + 1)))) hx hb hK hP hD hS 1 0 rfl rfl (by omega) (Nat.le_of_ble_eq_true rfl) dX5_seal_99 (fun H locs hP hD hS => ?_)
            have hP : va_P Γ.1 vwCl (wcat [moB Γ a (upd (upd (upd (upd (svR (S) ms) 27 (nI 1)) 28 ky) 29 (nI (qn + 1))) 30 dt) mt mc md (nI (svS (S))) (gsT (nI 1) (nI 0)) m2 m3 m4 m5]) H := hP
            have hD : va_D A (wcat [moB Γ a (upd (upd (upd (upd (svR (S) ms) 27 (nI 1)) 28 ky) 29 (nI (qn + 1))) 30 dt) mt mc md (nI (svS (S))) (gsT (nI 1) (nI 0)) m2 m3 m4 m5]) := hD
            refine lv_aload_n hx hb dX5_seal_100 rfl (lv_at hl 0 rfl) ?_
            refine lv_iconst (v := (nI 0)) hx hb dX5_seal_101 (by decide) ?_
            refine cMI (bc' := [moB Γ a (fX5_deals qn (upd (upd (upd (upd (svR (S) ms) 27 (nI 1)) 28 ky) 29 (nI (qn + 1))) 30 dt) mc (0)).2.1 mt (fX5_deals qn (upd (upd (upd (upd (svR (S) ms) 27 (nI 1)) 28 ky) 29 (nI (qn + 1))) 30 dt) mc (0)).2.2 md (nI (svS (S))) (gsT (nI 1) (nI 0)) m2 m3 m4 m5]) (va_runV (As := [.int (nI 0)]) (rest := []) ⟨hx, hb, hml, hown, hts⟩ ((kX5_deals l Γ a qn (upd (upd (upd (upd (svR (S) ms) 27 (nI 1)) 28 ky) 29 (nI (qn + 1))) 30 dt) mt mc md (nI (svS (S))) (gsT (nI 1) (nI 0)) m2 m3 m4 m5 (0) (by first | assumption | omega) (by simp [upd]) (by omega)) _) (cwV 1 hts gX5_seal_X5_deals rfl rfl rfl (by decide +kernel) ⟨Nat.le_of_ble_eq_true rfl, Nat.le_of_ble_eq_true rfl⟩) ⟨wPre_blind, va_recv hK hP (ci := 5) (q0 := 0) rfl rfl, wPre_mk hP hD hK hS hA hAB hAm [0] rfl rfl⟩ rfl rfl hl.1 rfl (lv_room (Nat.le_of_ble_eq_true rfl)) dX5_seal_102 ⟨Nat.zero_le _, Nat.zero_le _⟩) hP hD hS hA [0] rfl rfl (bs' := [moB Γ a (fX5_deals qn (upd (upd (upd (upd (svR (S) ms) 27 (nI 1)) 28 ky) 29 (nI (qn + 1))) 30 dt) mc (0)).2.1 mt (fX5_deals qn (upd (upd (upd (upd (svR (S) ms) 27 (nI 1)) 28 ky) 29 (nI (qn + 1))) 30 dt) mc (0)).2.2 md (nI (svS (S))) (gsT (nI 1) (nI 0)) m2 m3 m4 m5]) rfl (fun H locs hP hD hS => ?_)
            exact W.iret (v := (fX5_deals qn (upd (upd (upd (upd (svR (S) ms) 27 (nI 1)) 28 ky) 29 (nI (qn + 1))) 30 dt) mc (0)).1) hx hb hr (fun t ht hW => eMI (by rw [hq]; exact hP) hS ht (by rw [hq])) hS.2.2 dX5_seal_105
          · have hq := hq.trans (if_pos c_14)
            refine lv_iconst (v := (nI 0)) hx hb dX5_seal_62 (by decide) ?_
            exact W.iret (v := (nI 0)) hx hb hr (fun t ht hW => eMI (by rw [hq]; exact hP) hS ht (by rw [hq])) hS.2.2 dX5_seal_63
        · have hq := hq.trans (if_neg c_13)
          refine lv_iconst (v := (nI 1)) hx hb dX5_seal_51 (by decide) ?_
          refine lv_goto (tgt := 56) hx hb dX5_seal_52 (by decide) ?_
          refine cMI (bc' := [moB Γ a ms mt mc md (nI S) (gsT (nI 1) (nI 1)) m2 m3 m4 m5]) (va_runV (As := [.int (nI 1), .int (nI 1)]) (rest := []) ⟨hx, hb, hml, hown, hts⟩ ((nX5_goes l Γ a ms mt mc md (nI S) m1 m2 m3 m4 m5 (nI 1) (nI 1)) _) (cwV 2 hts gX5_seal_X5_goes rfl rfl rfl (by decide +kernel) ⟨Nat.le_of_ble_eq_true rfl, Nat.le_of_ble_eq_true rfl⟩) ⟨wPre_blind, va_recv hK hP (ci := 5) (q0 := 0) rfl rfl, wPre_mk hP hD hK hS hA hAB hAm [0] rfl rfl⟩ rfl rfl hl.1 rfl (lv_room (Nat.le_of_ble_eq_true rfl)) dX5_seal_56 ⟨Nat.zero_le _, Nat.zero_le _⟩) hP hD hS hA [0] rfl rfl (bs' := [moB Γ a ms mt mc md (nI S) (gsT (nI 1) (nI 1)) m2 m3 m4 m5]) rfl (fun H locs hP hD hS => ?_)
          refine lv_if_ne (tgt := 64) hx hb dX5_seal_59 (by decide) (fun c_15 => ?_) (fun c_15 => ?_)
          · have hq := hq.trans (if_neg c_15)
            obtain ⟨qn, hqn, rfl⟩ : ∃ j : Nat, j ≤ 7 ∧ q = nI (j + 1) := in_nat1 (by decide) (show ¬ fX5_in q (nI 1) (nI 8) = 0 by first | assumption | exact gs_ne1 (by assumption) | exact gs_00 (by assumption) | exact gs_01 (by assumption))
            replace hq : (fX5_seal S ms mc ky (nI (qn + 1)) dt) = ((fX5_deals qn (upd (upd (upd (upd (svR (S) ms) 27 (nI 1)) 28 ky) 29 (nI (qn + 1))) 30 dt) mc (0)).1, (fX5_deals qn (upd (upd (upd (upd (svR (S) ms) 27 (nI 1)) 28 ky) 29 (nI (qn + 1))) 30 dt) mc (0)).2.1, (nI (svS (S))), (gsT (nI 1) (nI 1)), (fX5_deals qn (upd (upd (upd (upd (svR (S) ms) 27 (nI 1)) 28 ky) 29 (nI (qn + 1))) 30 dt) mc (0)).2.2) := hq.trans (by first | simp only [nI_clamp (show qn + 1 < 2 ^ 31 by omega), Nat.add_sub_cancel] | rfl)
            refine lv_aload_n hx hb dX5_seal_64 rfl (lv_at hl 0 rfl) ?_
            refine cMV (bc' := [moB Γ a (svR (S) ms) mt mc md (nI (svS (S))) (gsT (nI 1) (nI 1)) m2 m3 m4 m5]) (va_runV (As := []) (rest := []) ⟨hx, hb, hml, hown, hts⟩ ((nX5_saves l Γ a (S) ms mt mc md (gsT (nI 1) (nI 1)) m2 m3 m4 m5 (by first | assumption | omega)) _) (cwV 0 hts gX5_seal_X5_saves rfl rfl rfl (by decide +kernel) ⟨Nat.le_of_ble_eq_true rfl, Nat.le_of_ble_eq_true rfl⟩) ⟨wPre_blind, va_recv hK hP (ci := 5) (q0 := 0) rfl rfl, wPre_mk hP hD hK hS hA hAB hAm [0] rfl rfl⟩ rfl rfl hl.1 rfl (lv_room (Nat.le_of_ble_eq_true rfl)) dX5_seal_65 ⟨Nat.zero_le _, Nat.zero_le _⟩) hP hD hS hA [0] rfl rfl (bs' := [moB Γ a (svR (S) ms) mt mc md (nI (svS (S))) (gsT (nI 1) (nI 1)) m2 m3 m4 m5]) rfl (fun H locs hP hD hS => ?_)
            refine lv_aload_n hx hb dX5_seal_68 rfl (lv_at hl 0 rfl) ?_
            refine va_get (D := Γ.1) (ci := 5) (v := .ref (a 1)) (C := RX5) (T := TX5) (N := 10) hx hb hts hi5 hown hK hP 0 rfl rfl 0 (by decide) kf7 (fun _ h9 => h9) rfl dX5_seal_69 ?_
            refine lv_bipush (v := (nI 27)) hx hb dX5_seal_72 (by decide) ?_
            refine lv_iconst (v := (nI 1)) hx hb dX5_seal_74 (by decide) ?_
            refine va_iast_n (f := (svR (S) ms)) hx hb hK hP hD hS 1 0 rfl rfl (by omega) (Nat.le_of_ble_eq_true rfl) dX5_seal_75 (fun H locs hP hD hS => ?_)
            have hP : va_P Γ.1 vwCl (wcat [moB Γ a (upd (svR (S) ms) 27 (nI 1)) mt mc md (nI (svS (S))) (gsT (nI 1) (nI 1)) m2 m3 m4 m5]) H := hP
            have hD : va_D A (wcat [moB Γ a (upd (svR (S) ms) 27 (nI 1)) mt mc md (nI (svS (S))) (gsT (nI 1) (nI 1)) m2 m3 m4 m5]) := hD
            refine lv_aload_n hx hb dX5_seal_76 rfl (lv_at hl 0 rfl) ?_
            refine va_get (D := Γ.1) (ci := 5) (v := .ref (a 1)) (C := RX5) (T := TX5) (N := 10) hx hb hts hi5 hown hK hP 0 rfl rfl 0 (by decide) kf7 (fun _ h9 => h9) rfl dX5_seal_77 ?_
            refine lv_bipush (v := (nI 28)) hx hb dX5_seal_80 (by decide) ?_
            refine lv_iload_n hx hb dX5_seal_82 rfl (lv_at hl 1 rfl) ?_
            refine va_iast_n (f := (upd (svR (S) ms) 27 (nI 1))) hx hb hK hP hD hS 1 0 rfl rfl (by omega) (Nat.le_of_ble_eq_true rfl) dX5_seal_83 (fun H locs hP hD hS => ?_)
            have hP : va_P Γ.1 vwCl (wcat [moB Γ a (upd (upd (svR (S) ms) 27 (nI 1)) 28 ky) mt mc md (nI (svS (S))) (gsT (nI 1) (nI 1)) m2 m3 m4 m5]) H := hP
            have hD : va_D A (wcat [moB Γ a (upd (upd (svR (S) ms) 27 (nI 1)) 28 ky) mt mc md (nI (svS (S))) (gsT (nI 1) (nI 1)) m2 m3 m4 m5]) := hD
            refine lv_aload_n hx hb dX5_seal_84 rfl (lv_at hl 0 rfl) ?_
            refine va_get (D := Γ.1) (ci := 5) (v := .ref (a 1)) (C := RX5) (T := TX5) (N := 10) hx hb hts hi5 hown hK hP 0 rfl rfl 0 (by decide) kf7 (fun _ h9 => h9) rfl dX5_seal_85 ?_
            refine lv_bipush (v := (nI 29)) hx hb dX5_seal_88 (by decide) ?_
            refine lv_iload_n hx hb dX5_seal_90 rfl (lv_at hl 2 rfl) ?_
            refine va_iast_n (f := (upd (upd (svR (S) ms) 27 (nI 1)) 28 ky)) hx hb hK hP hD hS 1 0 rfl rfl (by omega) (Nat.le_of_ble_eq_true rfl) dX5_seal_91 (fun H locs hP hD hS => ?_)
            have hP : va_P Γ.1 vwCl (wcat [moB Γ a (upd (upd (upd (svR (S) ms) 27 (nI 1)) 28 ky) 29 (nI (qn + 1))) mt mc md (nI (svS (S))) (gsT (nI 1) (nI 1)) m2 m3 m4 m5]) H := hP
            have hD : va_D A (wcat [moB Γ a (upd (upd (upd (svR (S) ms) 27 (nI 1)) 28 ky) 29 (nI (qn + 1))) mt mc md (nI (svS (S))) (gsT (nI 1) (nI 1)) m2 m3 m4 m5]) := hD
            refine lv_aload_n hx hb dX5_seal_92 rfl (lv_at hl 0 rfl) ?_
            refine va_get (D := Γ.1) (ci := 5) (v := .ref (a 1)) (C := RX5) (T := TX5) (N := 10) hx hb hts hi5 hown hK hP 0 rfl rfl 0 (by decide) kf7 (fun _ h9 => h9) rfl dX5_seal_93 ?_
            refine lv_bipush (v := (nI 30)) hx hb dX5_seal_96 (by decide) ?_
            refine lv_iload_n hx hb dX5_seal_98 rfl (lv_at hl 3 rfl) ?_
            refine va_iast_n (f := (upd (upd (upd (svR (S) ms) 27 (nI 1)) 28 ky) 29 (nI (qn + 1)))) hx hb hK hP hD hS 1 0 rfl rfl (by omega) (Nat.le_of_ble_eq_true rfl) dX5_seal_99 (fun H locs hP hD hS => ?_)
            have hP : va_P Γ.1 vwCl (wcat [moB Γ a (upd (upd (upd (upd (svR (S) ms) 27 (nI 1)) 28 ky) 29 (nI (qn + 1))) 30 dt) mt mc md (nI (svS (S))) (gsT (nI 1) (nI 1)) m2 m3 m4 m5]) H := hP
            have hD : va_D A (wcat [moB Γ a (upd (upd (upd (upd (svR (S) ms) 27 (nI 1)) 28 ky) 29 (nI (qn + 1))) 30 dt) mt mc md (nI (svS (S))) (gsT (nI 1) (nI 1)) m2 m3 m4 m5]) := hD
            refine lv_aload_n hx hb dX5_seal_100 rfl (lv_at hl 0 rfl) ?_
            refine lv_iconst (v := (nI 0)) hx hb dX5_seal_101 (by decide) ?_
            refine cMI (bc' := [moB Γ a (fX5_deals qn (upd (upd (upd (upd (svR (S) ms) 27 (nI 1)) 28 ky) 29 (nI (qn + 1))) 30 dt) mc (0)).2.1 mt (fX5_deals qn (upd (upd (upd (upd (svR (S) ms) 27 (nI 1)) 28 ky) 29 (nI (qn + 1))) 30 dt) mc (0)).2.2 md (nI (svS (S))) (gsT (nI 1) (nI 1)) m2 m3 m4 m5]) (va_runV (As := [.int (nI 0)]) (rest := []) ⟨hx, hb, hml, hown, hts⟩ ((kX5_deals l Γ a qn (upd (upd (upd (upd (svR (S) ms) 27 (nI 1)) 28 ky) 29 (nI (qn + 1))) 30 dt) mt mc md (nI (svS (S))) (gsT (nI 1) (nI 1)) m2 m3 m4 m5 (0) (by first | assumption | omega) (by simp [upd]) (by omega)) _) (cwV 1 hts gX5_seal_X5_deals rfl rfl rfl (by decide +kernel) ⟨Nat.le_of_ble_eq_true rfl, Nat.le_of_ble_eq_true rfl⟩) ⟨wPre_blind, va_recv hK hP (ci := 5) (q0 := 0) rfl rfl, wPre_mk hP hD hK hS hA hAB hAm [0] rfl rfl⟩ rfl rfl hl.1 rfl (lv_room (Nat.le_of_ble_eq_true rfl)) dX5_seal_102 ⟨Nat.zero_le _, Nat.zero_le _⟩) hP hD hS hA [0] rfl rfl (bs' := [moB Γ a (fX5_deals qn (upd (upd (upd (upd (svR (S) ms) 27 (nI 1)) 28 ky) 29 (nI (qn + 1))) 30 dt) mc (0)).2.1 mt (fX5_deals qn (upd (upd (upd (upd (svR (S) ms) 27 (nI 1)) 28 ky) 29 (nI (qn + 1))) 30 dt) mc (0)).2.2 md (nI (svS (S))) (gsT (nI 1) (nI 1)) m2 m3 m4 m5]) rfl (fun H locs hP hD hS => ?_)
            exact W.iret (v := (fX5_deals qn (upd (upd (upd (upd (svR (S) ms) 27 (nI 1)) 28 ky) 29 (nI (qn + 1))) 30 dt) mc (0)).1) hx hb hr (fun t ht hW => eMI (by rw [hq]; exact hP) hS ht (by rw [hq])) hS.2.2 dX5_seal_105
          · have hq := hq.trans (if_pos c_15)
            refine lv_iconst (v := (nI 0)) hx hb dX5_seal_62 (by decide) ?_
            exact W.iret (v := (nI 0)) hx hb hr (fun t ht hW => eMI (by rw [hq]; exact hP) hS ht (by rw [hq])) hS.2.2 dX5_seal_63
def fX5_renew (S : Nat) (Q : Nat) (ms : (Nat → Int32)) (mc : (Nat → Int32)) : Int32 × (Nat → Int32) × Int32 × Int32 × (Nat → Int32) := (if (gsR (fX5_canRenew ms (0)) (nI 1)) = 0 then ((nI 0), ms, (nI S), (gsT (fX5_canRenew ms (0)) (nI 1)), mc) else ((fX5_deals Q (svR (S) ms) mc (0)).1, (fX5_deals Q (svR (S) ms) mc (0)).2.1, (nI (svS (S))), (gsT (fX5_canRenew ms (0)) (nI 1)), (fX5_deals Q (svR (S) ms) mc (0)).2.2))
set_option maxHeartbeats 4000000 in
set_option maxRecDepth 100000 in
theorem kX5_renew (l : Launch) (Γ : wG) (a : Nat → Nat) (S : Nat) (Q : Nat) (ms : (Nat → Int32)) (mt : (Nat → Int32)) (mc : (Nat → Int32)) (md : (Nat → Int32)) (m1 : Int32) (m2 : Int32) (m3 : Int32) (m4 : Int32) (m5 : Int32) (hS6 : S ≤ 6) (hQ : ms 27 = nI 1 → ms 29 = nI (Q + 1)) (hQ7 : Q ≤ 7) : MI l Γ yX5_renew wsX5_renew ({ frames := 2, cells := 0, slots := 0, locals := 47 }) [.ref (a 0)] [moB Γ a ms mt mc md (nI S) m1 m2 m3 m4 m5] [moB Γ a (fX5_renew S Q ms mc).2.1 mt (fX5_renew S Q ms mc).2.2.2.2 md (fX5_renew S Q ms mc).2.2.1 (fX5_renew S Q ms mc).2.2.2.1 m2 m3 m4 m5] (fX5_renew S Q ms mc).1 := by
  intro sz
  refine Met.ofW (cc := cX5_renew) (maxL := 1) (ret := (some .int)) (by decide) rfl ?_
  intro p e s m args below meth c s₁ B hml hv
  obtain ⟨rfl, hsz, hP, hK, hD0, hAm⟩ := hv
  have hx := B.exec
  have hb := B.bytes
  have hr := B.returns
  have hts := atoms_spec (ws := wsX5_renew) B.pre
  have hown : s.vm.findClass RX5 = some m.cls := findClass_of_methodNamed B.named
  have hlocks := B.notSynchronized
  subst hsz
  have hD := hD0.self (sz := s.heap.size)
  generalize hAe : va_A (wcat [moB Γ a ms mt mc md (nI S) m1 m2 m3 m4 m5]) s.heap.size = A at hD hAm ⊢
  have hA : ∀ q : Nat, s.heap.size ≤ q → A q := fun q h => by rw [← hAe]; exact Or.inr h
  have hAB : ∀ q : Nat, A q → A q := fun _ h => h
  have hS : va_S A s.heap s.heap [] := va_S.rf
  have hl := lv_entry ([.ref (a 0)]) (n := 1) (Nat.le_of_ble_eq_true rfl)
  rw [lg_entry_eq]
  generalize (lg_sl ([.ref (a 0)]) ++ List.replicate (1 - (lg_sl ([.ref (a 0)])).length) Slot.unset).toArray = ls at hl ⊢
  have hl : lv_has ls 1 [(0, .ref (a 0))] := hl
  have hq : (fX5_renew S Q ms mc) = (if (gsR (fX5_canRenew ms (0)) (nI 1)) = 0 then ((nI 0), ms, (nI S), (gsT (fX5_canRenew ms (0)) (nI 1)), mc) else ((fX5_deals Q (svR (S) ms) mc (0)).1, (fX5_deals Q (svR (S) ms) mc (0)).2.1, (nI (svS (S))), (gsT (fX5_canRenew ms (0)) (nI 1)), (fX5_deals Q (svR (S) ms) mc (0)).2.2)) := rfl
  refine lv_aload_n hx hb dX5_renew_0 rfl (lv_at hl 0 rfl) ?_
  refine lv_aload_n hx hb dX5_renew_1 rfl (lv_at hl 0 rfl) ?_
  refine lv_iconst (v := (nI 0)) hx hb dX5_renew_2 (by decide) ?_
  refine cLI (va_runV (As := [.int (nI 0)]) (rest := [.ref (a 0)]) ⟨hx, hb, hml, hown, hts⟩ ((kX5_canRenew l Γ a ms mt mc md (nI S) m1 m2 m3 m4 m5 (0) (by first | assumption | omega)) _) (cwV 1 hts gX5_renew_X5_canRenew rfl rfl rfl (by decide +kernel) ⟨Nat.le_of_ble_eq_true rfl, Nat.le_of_ble_eq_true rfl⟩) ⟨wPre_blind, va_recv hK hP (ci := 5) (q0 := 0) rfl rfl, wPre_mk hP hD hK hS hA hAB hAm [0] rfl rfl⟩ rfl rfl hl.1 rfl (lv_room (Nat.le_of_ble_eq_true rfl)) dX5_renew_3 ⟨Nat.zero_le _, Nat.zero_le _⟩) hP hS hA (fun H locs hP hS => ?_)
  refine lv_iconst (v := (nI 1)) hx hb dX5_renew_6 (by decide) ?_
  refine cMI (bc' := [moB Γ a ms mt mc md (nI S) (gsT (fX5_canRenew ms (0)) (nI 1)) m2 m3 m4 m5]) (va_runV (As := [.int (fX5_canRenew ms (0)), .int (nI 1)]) (rest := []) ⟨hx, hb, hml, hown, hts⟩ ((nX5_goes l Γ a ms mt mc md (nI S) m1 m2 m3 m4 m5 (fX5_canRenew ms (0)) (nI 1)) _) (cwV 2 hts gX5_renew_X5_goes rfl rfl rfl (by decide +kernel) ⟨Nat.le_of_ble_eq_true rfl, Nat.le_of_ble_eq_true rfl⟩) ⟨wPre_blind, va_recv hK hP (ci := 5) (q0 := 0) rfl rfl, wPre_mk hP hD hK hS hA hAB hAm [0] rfl rfl⟩ rfl rfl hl.1 rfl (lv_room (Nat.le_of_ble_eq_true rfl)) dX5_renew_7 ⟨Nat.zero_le _, Nat.zero_le _⟩) hP hD hS hA [0] rfl rfl (bs' := [moB Γ a ms mt mc md (nI S) (gsT (fX5_canRenew ms (0)) (nI 1)) m2 m3 m4 m5]) rfl (fun H locs hP hD hS => ?_)
  refine lv_if_ne (tgt := 15) hx hb dX5_renew_10 (by decide) (fun c_1 => ?_) (fun c_1 => ?_)
  · have hq := hq.trans (if_neg c_1)
    refine lv_aload_n hx hb dX5_renew_15 rfl (lv_at hl 0 rfl) ?_
    refine cMV (bc' := [moB Γ a (svR (S) ms) mt mc md (nI (svS (S))) (gsT (fX5_canRenew ms (0)) (nI 1)) m2 m3 m4 m5]) (va_runV (As := []) (rest := []) ⟨hx, hb, hml, hown, hts⟩ ((nX5_saves l Γ a (S) ms mt mc md (gsT (fX5_canRenew ms (0)) (nI 1)) m2 m3 m4 m5 (by first | assumption | omega)) _) (cwV 0 hts gX5_renew_X5_saves rfl rfl rfl (by decide +kernel) ⟨Nat.le_of_ble_eq_true rfl, Nat.le_of_ble_eq_true rfl⟩) ⟨wPre_blind, va_recv hK hP (ci := 5) (q0 := 0) rfl rfl, wPre_mk hP hD hK hS hA hAB hAm [0] rfl rfl⟩ rfl rfl hl.1 rfl (lv_room (Nat.le_of_ble_eq_true rfl)) dX5_renew_16 ⟨Nat.zero_le _, Nat.zero_le _⟩) hP hD hS hA [0] rfl rfl (bs' := [moB Γ a (svR (S) ms) mt mc md (nI (svS (S))) (gsT (fX5_canRenew ms (0)) (nI 1)) m2 m3 m4 m5]) rfl (fun H locs hP hD hS => ?_)
    refine lv_aload_n hx hb dX5_renew_19 rfl (lv_at hl 0 rfl) ?_
    refine lv_iconst (v := (nI 0)) hx hb dX5_renew_20 (by decide) ?_
    refine cMI (bc' := [moB Γ a (fX5_deals Q (svR (S) ms) mc (0)).2.1 mt (fX5_deals Q (svR (S) ms) mc (0)).2.2 md (nI (svS (S))) (gsT (fX5_canRenew ms (0)) (nI 1)) m2 m3 m4 m5]) (va_runV (As := [.int (nI 0)]) (rest := []) ⟨hx, hb, hml, hown, hts⟩ ((kX5_deals l Γ a Q (svR (S) ms) mt mc md (nI (svS (S))) (gsT (fX5_canRenew ms (0)) (nI 1)) m2 m3 m4 m5 (0) (by first | assumption | omega) (by rw [show 0 + 29 = 29 from rfl, svR_low (by decide)]; exact hQ (canRenew_ne (show ¬ fX5_canRenew ms 0 = 0 by first | assumption | exact gs_ne1 (by assumption) | exact gs_00 (by assumption) | exact gs_01 (by assumption)))) (by first | assumption | omega)) _) (cwV 1 hts gX5_renew_X5_deals rfl rfl rfl (by decide +kernel) ⟨Nat.le_of_ble_eq_true rfl, Nat.le_of_ble_eq_true rfl⟩) ⟨wPre_blind, va_recv hK hP (ci := 5) (q0 := 0) rfl rfl, wPre_mk hP hD hK hS hA hAB hAm [0] rfl rfl⟩ rfl rfl hl.1 rfl (lv_room (Nat.le_of_ble_eq_true rfl)) dX5_renew_21 ⟨Nat.zero_le _, Nat.zero_le _⟩) hP hD hS hA [0] rfl rfl (bs' := [moB Γ a (fX5_deals Q (svR (S) ms) mc (0)).2.1 mt (fX5_deals Q (svR (S) ms) mc (0)).2.2 md (nI (svS (S))) (gsT (fX5_canRenew ms (0)) (nI 1)) m2 m3 m4 m5]) rfl (fun H locs hP hD hS => ?_)
    exact W.iret (v := (fX5_deals Q (svR (S) ms) mc (0)).1) hx hb hr (fun t ht hW => eMI (by rw [hq]; exact hP) hS ht (by rw [hq])) hS.2.2 dX5_renew_24
  · have hq := hq.trans (if_pos c_1)
    refine lv_iconst (v := (nI 0)) hx hb dX5_renew_13 (by decide) ?_
    exact W.iret (v := (nI 0)) hx hb hr (fun t ht hW => eMI (by rw [hq]; exact hP) hS ht (by rw [hq])) hS.2.2 dX5_renew_14
def fX5_undo (S : Nat) (ms : (Nat → Int32)) : Int32 × (Nat → Int32) × Int32 × Int32 := (if (nI S) ≤ 0 then (if (gsR (nI 0) (nI 1)) = 0 then ((nI 0), ms, (nI S), (gsT (nI 0) (nI 1))) else ((nI (S - 1)), (cpR ms (S) (0)), (nI (S - 1)), (gsT (nI 0) (nI 1)))) else (if (gsR (nI 1) (nI 1)) = 0 then ((nI 0), ms, (nI S), (gsT (nI 1) (nI 1))) else ((nI (S - 1)), (cpR ms (S) (0)), (nI (S - 1)), (gsT (nI 1) (nI 1)))))
set_option maxHeartbeats 4000000 in
set_option maxRecDepth 100000 in
theorem kX5_undo (l : Launch) (Γ : wG) (a : Nat → Nat) (S : Nat) (ms : (Nat → Int32)) (mt : (Nat → Int32)) (mc : (Nat → Int32)) (md : (Nat → Int32)) (m1 : Int32) (m2 : Int32) (m3 : Int32) (m4 : Int32) (m5 : Int32) (hS6 : S ≤ 6) : MI l Γ yX5_undo wsX5_undo ({ frames := 1, cells := 0, slots := 0, locals := 23 }) [.ref (a 0)] [moB Γ a ms mt mc md (nI S) m1 m2 m3 m4 m5] [moB Γ a (fX5_undo S ms).2.1 mt mc md (fX5_undo S ms).2.2.1 (fX5_undo S ms).2.2.2 m2 m3 m4 m5] (fX5_undo S ms).1 := by
  intro sz
  refine Met.ofW (cc := cX5_undo) (maxL := 1) (ret := (some .int)) (by decide) rfl ?_
  intro p e s m args below meth c s₁ B hml hv
  obtain ⟨rfl, hsz, hP, hK, hD0, hAm⟩ := hv
  have hx := B.exec
  have hb := B.bytes
  have hr := B.returns
  have hts := atoms_spec (ws := wsX5_undo) B.pre
  have hown : s.vm.findClass RX5 = some m.cls := findClass_of_methodNamed B.named
  have hlocks := B.notSynchronized
  subst hsz
  have hD := hD0.self (sz := s.heap.size)
  generalize hAe : va_A (wcat [moB Γ a ms mt mc md (nI S) m1 m2 m3 m4 m5]) s.heap.size = A at hD hAm ⊢
  have hA : ∀ q : Nat, s.heap.size ≤ q → A q := fun q h => by rw [← hAe]; exact Or.inr h
  have hAB : ∀ q : Nat, A q → A q := fun _ h => h
  have hS : va_S A s.heap s.heap [] := va_S.rf
  have hl := lv_entry ([.ref (a 0)]) (n := 1) (Nat.le_of_ble_eq_true rfl)
  rw [lg_entry_eq]
  generalize (lg_sl ([.ref (a 0)]) ++ List.replicate (1 - (lg_sl ([.ref (a 0)])).length) Slot.unset).toArray = ls at hl ⊢
  have hl : lv_has ls 1 [(0, .ref (a 0))] := hl
  have hi5 : ∀ w ∈ wsX50, w ∈ wsX5_undo := by decide +kernel
  have kf27 := hts (.fieldLink RX5 27 "CapsuleKeepersModel" "states" "I") (by decide +kernel)
  have hq : (fX5_undo S ms) = (if (nI S) ≤ 0 then (if (gsR (nI 0) (nI 1)) = 0 then ((nI 0), ms, (nI S), (gsT (nI 0) (nI 1))) else ((nI (S - 1)), (cpR ms (S) (0)), (nI (S - 1)), (gsT (nI 0) (nI 1)))) else (if (gsR (nI 1) (nI 1)) = 0 then ((nI 0), ms, (nI S), (gsT (nI 1) (nI 1))) else ((nI (S - 1)), (cpR ms (S) (0)), (nI (S - 1)), (gsT (nI 1) (nI 1))))) := rfl
  refine lv_aload_n hx hb dX5_undo_0 rfl (lv_at hl 0 rfl) ?_
  refine lv_aload_n hx hb dX5_undo_1 rfl (lv_at hl 0 rfl) ?_
  refine va_get (D := Γ.1) (ci := 5) (v := .int (nI S)) (C := RX5) (T := TX5) (N := 10) hx hb hts hi5 hown hK hP 0 rfl rfl 1 (by decide) kf27 (fun _ h9 => h9) rfl dX5_undo_2 ?_
  refine lv_if_le (tgt := 12) hx hb dX5_undo_5 (by decide) (fun c_1 => ?_) (fun c_1 => ?_)
  · have hq := hq.trans (if_pos c_1)
    refine lv_iconst (v := (nI 0)) hx hb dX5_undo_12 (by decide) ?_
    refine lv_iconst (v := (nI 1)) hx hb dX5_undo_13 (by decide) ?_
    refine cMI (bc' := [moB Γ a ms mt mc md (nI S) (gsT (nI 0) (nI 1)) m2 m3 m4 m5]) (va_runV (As := [.int (nI 0), .int (nI 1)]) (rest := []) ⟨hx, hb, hml, hown, hts⟩ ((nX5_goes l Γ a ms mt mc md (nI S) m1 m2 m3 m4 m5 (nI 0) (nI 1)) _) (cwV 2 hts gX5_undo_X5_goes rfl rfl rfl (by decide +kernel) ⟨Nat.le_of_ble_eq_true rfl, Nat.le_of_ble_eq_true rfl⟩) ⟨wPre_blind, va_recv hK hP (ci := 5) (q0 := 0) rfl rfl, wPre_mk hP hD hK hS hA hAB hAm [0] rfl rfl⟩ rfl rfl hl.1 rfl (lv_room (Nat.le_of_ble_eq_true rfl)) dX5_undo_14 ⟨Nat.zero_le _, Nat.zero_le _⟩) hP hD hS hA [0] rfl rfl (bs' := [moB Γ a ms mt mc md (nI S) (gsT (nI 0) (nI 1)) m2 m3 m4 m5]) rfl (fun H locs hP hD hS => ?_)
    refine lv_if_ne (tgt := 22) hx hb dX5_undo_17 (by decide) (fun c_2 => ?_) (fun c_2 => ?_)
    · have hq := hq.trans (if_neg c_2)
      refine lv_aload_n hx hb dX5_undo_22 rfl (lv_at hl 0 rfl) ?_
      refine lv_aload_n hx hb dX5_undo_23 rfl (lv_at hl 0 rfl) ?_
      refine va_get (D := Γ.1) (ci := 5) (v := .int (nI S)) (C := RX5) (T := TX5) (N := 10) hx hb hts hi5 hown hK hP 0 rfl rfl 1 (by decide) kf27 (fun _ h9 => h9) rfl dX5_undo_24 ?_
      refine lv_iconst (v := (nI 0)) hx hb dX5_undo_27 (by decide) ?_
      refine cMV (bc' := [moB Γ a (cpR ms (S) (0)) mt mc md (nI S) (gsT (nI 0) (nI 1)) m2 m3 m4 m5]) (va_runV (As := [.int (nI S), .int (nI 0)]) (rest := []) ⟨hx, hb, hml, hown, hts⟩ ((nX5_copies l Γ a ms mt mc md (nI S) (gsT (nI 0) (nI 1)) m2 m3 m4 m5 (S) (0) (by first | assumption | omega) (by first | assumption | omega)) _) (cwV 2 hts gX5_undo_X5_copies rfl rfl rfl (by decide +kernel) ⟨Nat.le_of_ble_eq_true rfl, Nat.le_of_ble_eq_true rfl⟩) ⟨wPre_blind, va_recv hK hP (ci := 5) (q0 := 0) rfl rfl, wPre_mk hP hD hK hS hA hAB hAm [0] rfl rfl⟩ rfl rfl hl.1 rfl (lv_room (Nat.le_of_ble_eq_true rfl)) dX5_undo_28 ⟨Nat.zero_le _, Nat.zero_le _⟩) hP hD hS hA [0] rfl rfl (bs' := [moB Γ a (cpR ms (S) (0)) mt mc md (nI S) (gsT (nI 0) (nI 1)) m2 m3 m4 m5]) rfl (fun H locs hP hD hS => ?_)
      refine lv_aload_n hx hb dX5_undo_31 rfl (lv_at hl 0 rfl) ?_
      refine lv_dup hx hb dX5_undo_32 rfl ?_
      refine va_get (D := Γ.1) (ci := 5) (v := .int (nI S)) (C := RX5) (T := TX5) (N := 10) hx hb hts hi5 hown hK hP 0 rfl rfl 1 (by decide) kf27 (fun _ h9 => h9) rfl dX5_undo_33 ?_
      refine lv_iconst (v := (nI 1)) hx hb dX5_undo_36 (by decide) ?_
      refine lv_isub hx hb dX5_undo_37 ?_
      refine lv_eqi (y := (nI (S - 1))) (pk_sub (by first | exact pos_nle (by assumption) | exact gs_00 (by assumption))) ?_
      refine va_put (D := Γ.1) (ci := 5) (v := .int (nI (S - 1))) (ty := .int) (C := RX5) (T := TX5) (N := 10) hx hb hts hi5 tyX5 tyX5_ok nmX5 hown hK hP hD hS 0 rfl rfl 1 (by decide) kf27 (fun _ h9 => h9) rfl (by decide +kernel) rfl rfl (Nat.le_of_ble_eq_true rfl) dX5_undo_38 (fun H locs hP hD hS => ?_)
      have hP : va_P Γ.1 vwCl (wcat [moB Γ a (cpR ms (S) (0)) mt mc md (nI (S - 1)) (gsT (nI 0) (nI 1)) m2 m3 m4 m5]) H := hP
      have hD : va_D A (wcat [moB Γ a (cpR ms (S) (0)) mt mc md (nI (S - 1)) (gsT (nI 0) (nI 1)) m2 m3 m4 m5]) := hD
      refine lv_aload_n hx hb dX5_undo_41 rfl (lv_at hl 0 rfl) ?_
      refine va_get (D := Γ.1) (ci := 5) (v := .int (nI (S - 1))) (C := RX5) (T := TX5) (N := 10) hx hb hts hi5 hown hK hP 0 rfl rfl 1 (by decide) kf27 (fun _ h9 => h9) rfl dX5_undo_42 ?_
      exact W.iret (v := (nI (S - 1))) hx hb hr (fun t ht hW => eMI (by rw [hq]; exact hP) hS ht (by rw [hq])) hS.2.2 dX5_undo_45
    · have hq := hq.trans (if_pos c_2)
      refine lv_iconst (v := (nI 0)) hx hb dX5_undo_20 (by decide) ?_
      exact W.iret (v := (nI 0)) hx hb hr (fun t ht hW => eMI (by rw [hq]; exact hP) hS ht (by rw [hq])) hS.2.2 dX5_undo_21
  · have hq := hq.trans (if_neg c_1)
    refine lv_iconst (v := (nI 1)) hx hb dX5_undo_8 (by decide) ?_
    refine lv_goto (tgt := 13) hx hb dX5_undo_9 (by decide) ?_
    refine lv_iconst (v := (nI 1)) hx hb dX5_undo_13 (by decide) ?_
    refine cMI (bc' := [moB Γ a ms mt mc md (nI S) (gsT (nI 1) (nI 1)) m2 m3 m4 m5]) (va_runV (As := [.int (nI 1), .int (nI 1)]) (rest := []) ⟨hx, hb, hml, hown, hts⟩ ((nX5_goes l Γ a ms mt mc md (nI S) m1 m2 m3 m4 m5 (nI 1) (nI 1)) _) (cwV 2 hts gX5_undo_X5_goes rfl rfl rfl (by decide +kernel) ⟨Nat.le_of_ble_eq_true rfl, Nat.le_of_ble_eq_true rfl⟩) ⟨wPre_blind, va_recv hK hP (ci := 5) (q0 := 0) rfl rfl, wPre_mk hP hD hK hS hA hAB hAm [0] rfl rfl⟩ rfl rfl hl.1 rfl (lv_room (Nat.le_of_ble_eq_true rfl)) dX5_undo_14 ⟨Nat.zero_le _, Nat.zero_le _⟩) hP hD hS hA [0] rfl rfl (bs' := [moB Γ a ms mt mc md (nI S) (gsT (nI 1) (nI 1)) m2 m3 m4 m5]) rfl (fun H locs hP hD hS => ?_)
    refine lv_if_ne (tgt := 22) hx hb dX5_undo_17 (by decide) (fun c_3 => ?_) (fun c_3 => ?_)
    · have hq := hq.trans (if_neg c_3)
      refine lv_aload_n hx hb dX5_undo_22 rfl (lv_at hl 0 rfl) ?_
      refine lv_aload_n hx hb dX5_undo_23 rfl (lv_at hl 0 rfl) ?_
      refine va_get (D := Γ.1) (ci := 5) (v := .int (nI S)) (C := RX5) (T := TX5) (N := 10) hx hb hts hi5 hown hK hP 0 rfl rfl 1 (by decide) kf27 (fun _ h9 => h9) rfl dX5_undo_24 ?_
      refine lv_iconst (v := (nI 0)) hx hb dX5_undo_27 (by decide) ?_
      refine cMV (bc' := [moB Γ a (cpR ms (S) (0)) mt mc md (nI S) (gsT (nI 1) (nI 1)) m2 m3 m4 m5]) (va_runV (As := [.int (nI S), .int (nI 0)]) (rest := []) ⟨hx, hb, hml, hown, hts⟩ ((nX5_copies l Γ a ms mt mc md (nI S) (gsT (nI 1) (nI 1)) m2 m3 m4 m5 (S) (0) (by first | assumption | omega) (by first | assumption | omega)) _) (cwV 2 hts gX5_undo_X5_copies rfl rfl rfl (by decide +kernel) ⟨Nat.le_of_ble_eq_true rfl, Nat.le_of_ble_eq_true rfl⟩) ⟨wPre_blind, va_recv hK hP (ci := 5) (q0 := 0) rfl rfl, wPre_mk hP hD hK hS hA hAB hAm [0] rfl rfl⟩ rfl rfl hl.1 rfl (lv_room (Nat.le_of_ble_eq_true rfl)) dX5_undo_28 ⟨Nat.zero_le _, Nat.zero_le _⟩) hP hD hS hA [0] rfl rfl (bs' := [moB Γ a (cpR ms (S) (0)) mt mc md (nI S) (gsT (nI 1) (nI 1)) m2 m3 m4 m5]) rfl (fun H locs hP hD hS => ?_)
      refine lv_aload_n hx hb dX5_undo_31 rfl (lv_at hl 0 rfl) ?_
      refine lv_dup hx hb dX5_undo_32 rfl ?_
      refine va_get (D := Γ.1) (ci := 5) (v := .int (nI S)) (C := RX5) (T := TX5) (N := 10) hx hb hts hi5 hown hK hP 0 rfl rfl 1 (by decide) kf27 (fun _ h9 => h9) rfl dX5_undo_33 ?_
      refine lv_iconst (v := (nI 1)) hx hb dX5_undo_36 (by decide) ?_
      refine lv_isub hx hb dX5_undo_37 ?_
      refine lv_eqi (y := (nI (S - 1))) (pk_sub (by first | exact pos_nle (by assumption) | exact gs_00 (by assumption))) ?_
      refine va_put (D := Γ.1) (ci := 5) (v := .int (nI (S - 1))) (ty := .int) (C := RX5) (T := TX5) (N := 10) hx hb hts hi5 tyX5 tyX5_ok nmX5 hown hK hP hD hS 0 rfl rfl 1 (by decide) kf27 (fun _ h9 => h9) rfl (by decide +kernel) rfl rfl (Nat.le_of_ble_eq_true rfl) dX5_undo_38 (fun H locs hP hD hS => ?_)
      have hP : va_P Γ.1 vwCl (wcat [moB Γ a (cpR ms (S) (0)) mt mc md (nI (S - 1)) (gsT (nI 1) (nI 1)) m2 m3 m4 m5]) H := hP
      have hD : va_D A (wcat [moB Γ a (cpR ms (S) (0)) mt mc md (nI (S - 1)) (gsT (nI 1) (nI 1)) m2 m3 m4 m5]) := hD
      refine lv_aload_n hx hb dX5_undo_41 rfl (lv_at hl 0 rfl) ?_
      refine va_get (D := Γ.1) (ci := 5) (v := .int (nI (S - 1))) (C := RX5) (T := TX5) (N := 10) hx hb hts hi5 hown hK hP 0 rfl rfl 1 (by decide) kf27 (fun _ h9 => h9) rfl dX5_undo_42 ?_
      exact W.iret (v := (nI (S - 1))) hx hb hr (fun t ht hW => eMI (by rw [hq]; exact hP) hS ht (by rw [hq])) hS.2.2 dX5_undo_45
    · have hq := hq.trans (if_pos c_3)
      refine lv_iconst (v := (nI 0)) hx hb dX5_undo_20 (by decide) ?_
      exact W.iret (v := (nI 0)) hx hb hr (fun t ht hW => eMI (by rw [hq]; exact hP) hS ht (by rw [hq])) hS.2.2 dX5_undo_21
def fX5_append (T : Nat) (mt : (Nat → Int32)) (ch : Int32) : Int32 × (Nat → Int32) × Int32 × Nat := (if (nI 60) ≤ (nI T) then (if (gsR (fX5_in ch (nI 33) (nI 126)) (nI 0)) = 0 then ((nI 0), mt, (gsT (fX5_in ch (nI 33) (nI 126)) (nI 0)), T) else ((nI (T + 1)), (upd mt T (vp_nar .char ((ch.toUInt32 % 65536).toInt32))), (gsT (fX5_in ch (nI 33) (nI 126)) (nI 0)), T + 1)) else (if (gsR (fX5_in ch (nI 33) (nI 126)) (nI 1)) = 0 then ((nI 0), mt, (gsT (fX5_in ch (nI 33) (nI 126)) (nI 1)), T) else ((nI (T + 1)), (upd mt T (vp_nar .char ((ch.toUInt32 % 65536).toInt32))), (gsT (fX5_in ch (nI 33) (nI 126)) (nI 1)), T + 1)))
set_option maxHeartbeats 4000000 in
set_option maxRecDepth 100000 in
theorem kX5_append (l : Launch) (Γ : wG) (a : Nat → Nat) (T : Nat) (ms : (Nat → Int32)) (mt : (Nat → Int32)) (mc : (Nat → Int32)) (md : (Nat → Int32)) (m0 : Int32) (m1 : Int32) (m3 : Int32) (m4 : Int32) (m5 : Int32) (ch : Int32) (hT : T ≤ 60) : MI l Γ yX5_append wsX5_append ({ frames := 1, cells := 0, slots := 0, locals := 22 }) [.ref (a 0), .int ch] [moB Γ a ms mt mc md m0 m1 (nI T) m3 m4 m5] [moB Γ a ms (fX5_append T mt ch).2.1 mc md m0 (fX5_append T mt ch).2.2.1 (nI (((fX5_append T mt ch).2.2.2))) m3 m4 m5] (fX5_append T mt ch).1 := by
  intro sz
  refine Met.ofW (cc := cX5_append) (maxL := 2) (ret := (some .int)) (by decide) rfl ?_
  intro p e s m args below meth c s₁ B hml hv
  obtain ⟨rfl, hsz, hP, hK, hD0, hAm⟩ := hv
  have hx := B.exec
  have hb := B.bytes
  have hr := B.returns
  have hts := atoms_spec (ws := wsX5_append) B.pre
  have hown : s.vm.findClass RX5 = some m.cls := findClass_of_methodNamed B.named
  have hlocks := B.notSynchronized
  subst hsz
  have hD := hD0.self (sz := s.heap.size)
  generalize hAe : va_A (wcat [moB Γ a ms mt mc md m0 m1 (nI T) m3 m4 m5]) s.heap.size = A at hD hAm ⊢
  have hA : ∀ q : Nat, s.heap.size ≤ q → A q := fun q h => by rw [← hAe]; exact Or.inr h
  have hAB : ∀ q : Nat, A q → A q := fun _ h => h
  have hS : va_S A s.heap s.heap [] := va_S.rf
  have hl := lv_entry ([.ref (a 0), .int ch]) (n := 2) (Nat.le_of_ble_eq_true rfl)
  rw [lg_entry_eq]
  generalize (lg_sl ([.ref (a 0), .int ch]) ++ List.replicate (2 - (lg_sl ([.ref (a 0), .int ch])).length) Slot.unset).toArray = ls at hl ⊢
  have hl : lv_has ls 2 [(0, .ref (a 0)), (1, .int ch)] := hl
  have hi5 : ∀ w ∈ wsX50, w ∈ wsX5_append := by decide +kernel
  have kf101 := hts (.fieldLink RX5 101 "CapsuleKeepersModel" "typed" "I") (by decide +kernel)
  have kf13 := hts (.fieldLink RX5 13 "CapsuleKeepersModel" "text" "[C") (by decide +kernel)
  have hq : (fX5_append T mt ch) = (if (nI 60) ≤ (nI T) then (if (gsR (fX5_in ch (nI 33) (nI 126)) (nI 0)) = 0 then ((nI 0), mt, (gsT (fX5_in ch (nI 33) (nI 126)) (nI 0)), T) else ((nI (T + 1)), (upd mt T (vp_nar .char ((ch.toUInt32 % 65536).toInt32))), (gsT (fX5_in ch (nI 33) (nI 126)) (nI 0)), T + 1)) else (if (gsR (fX5_in ch (nI 33) (nI 126)) (nI 1)) = 0 then ((nI 0), mt, (gsT (fX5_in ch (nI 33) (nI 126)) (nI 1)), T) else ((nI (T + 1)), (upd mt T (vp_nar .char ((ch.toUInt32 % 65536).toInt32))), (gsT (fX5_in ch (nI 33) (nI 126)) (nI 1)), T + 1))) := rfl
  refine lv_aload_n hx hb dX5_append_0 rfl (lv_at hl 0 rfl) ?_
  refine lv_iload_n hx hb dX5_append_1 rfl (lv_at hl 1 rfl) ?_
  refine lv_bipush (v := (nI 33)) hx hb dX5_append_2 (by decide) ?_
  refine lv_bipush (v := (nI 126)) hx hb dX5_append_4 (by decide) ?_
  refine cLI (va_runS (As := [.int ch, .int (nI 33), .int (nI 126)]) (rest := [.ref (a 0)]) ⟨hx, hb, hml, hown, hts⟩ ((kX5_in l Γ ch (nI 33) (nI 126)) _) (va_cwS 3 hts gX5_append_X5_in rfl rfl rfl (by decide +kernel) ⟨Nat.le_of_ble_eq_true rfl, Nat.le_of_ble_eq_true rfl⟩) ⟨wPre_blind, wPre_mk hP hD hK hS hA hAB hAm [] rfl rfl⟩ rfl rfl hl.1 rfl (lv_room (Nat.le_of_ble_eq_true rfl)) dX5_append_6 ⟨Nat.zero_le _, Nat.zero_le _⟩) hP hS hA (fun H locs hP hS => ?_)
  refine lv_aload_n hx hb dX5_append_9 rfl (lv_at hl 0 rfl) ?_
  refine va_get (D := Γ.1) (ci := 5) (v := .int (nI T)) (C := RX5) (T := TX5) (N := 10) hx hb hts hi5 hown hK hP 0 rfl rfl 4 (by decide) kf101 (fun _ h9 => h9) rfl dX5_append_10 ?_
  refine lv_bipush (v := (nI 60)) hx hb dX5_append_13 (by decide) ?_
  refine lv_icmp_ge (tgt := 22) hx hb dX5_append_15 (by decide) (fun c_1 => ?_) (fun c_1 => ?_)
  · have hq := hq.trans (if_pos c_1)
    refine lv_iconst (v := (nI 0)) hx hb dX5_append_22 (by decide) ?_
    refine cMI (bc' := [moB Γ a ms mt mc md m0 (gsT (fX5_in ch (nI 33) (nI 126)) (nI 0)) (nI T) m3 m4 m5]) (va_runV (As := [.int (fX5_in ch (nI 33) (nI 126)), .int (nI 0)]) (rest := []) ⟨hx, hb, hml, hown, hts⟩ ((nX5_goes l Γ a ms mt mc md m0 m1 (nI T) m3 m4 m5 (fX5_in ch (nI 33) (nI 126)) (nI 0)) _) (cwV 2 hts gX5_append_X5_goes rfl rfl rfl (by decide +kernel) ⟨Nat.le_of_ble_eq_true rfl, Nat.le_of_ble_eq_true rfl⟩) ⟨wPre_blind, va_recv hK hP (ci := 5) (q0 := 0) rfl rfl, wPre_mk hP hD hK hS hA hAB hAm [0] rfl rfl⟩ rfl rfl hl.1 rfl (lv_room (Nat.le_of_ble_eq_true rfl)) dX5_append_23 ⟨Nat.zero_le _, Nat.zero_le _⟩) hP hD hS hA [0] rfl rfl (bs' := [moB Γ a ms mt mc md m0 (gsT (fX5_in ch (nI 33) (nI 126)) (nI 0)) (nI T) m3 m4 m5]) rfl (fun H locs hP hD hS => ?_)
    refine lv_if_ne (tgt := 31) hx hb dX5_append_26 (by decide) (fun c_2 => ?_) (fun c_2 => ?_)
    · have hq := hq.trans (if_neg c_2)
      refine lv_aload_n hx hb dX5_append_31 rfl (lv_at hl 0 rfl) ?_
      refine va_get (D := Γ.1) (ci := 5) (v := .ref (a 2)) (C := RX5) (T := TX5) (N := 10) hx hb hts hi5 hown hK hP 0 rfl rfl 3 (by decide) kf13 (fun _ h9 => h9) rfl dX5_append_32 ?_
      refine lv_aload_n hx hb dX5_append_35 rfl (lv_at hl 0 rfl) ?_
      refine va_get (D := Γ.1) (ci := 5) (v := .int (nI T)) (C := RX5) (T := TX5) (N := 10) hx hb hts hi5 hown hK hP 0 rfl rfl 4 (by decide) kf101 (fun _ h9 => h9) rfl dX5_append_36 ?_
      refine lv_iload_n hx hb dX5_append_39 rfl (lv_at hl 1 rfl) ?_
      refine lv_i2c (v := (ch.toUInt32 % 65536).toInt32) hx hb dX5_append_40 rfl ?_
      refine va_cast_n (f := mt) hx hb hK hP hD hS 2 1 rfl rfl (by first | exact ltN (by omega) (by omega) (by assumption) | exact gs_01 (by assumption)) (Nat.le_of_ble_eq_true rfl) dX5_append_41 (fun H locs hP hD hS => ?_)
      have hP : va_P Γ.1 vwCl (wcat [moB Γ a ms (upd mt T (vp_nar .char ((ch.toUInt32 % 65536).toInt32))) mc md m0 (gsT (fX5_in ch (nI 33) (nI 126)) (nI 0)) (nI T) m3 m4 m5]) H := hP
      have hD : va_D A (wcat [moB Γ a ms (upd mt T (vp_nar .char ((ch.toUInt32 % 65536).toInt32))) mc md m0 (gsT (fX5_in ch (nI 33) (nI 126)) (nI 0)) (nI T) m3 m4 m5]) := hD
      refine lv_aload_n hx hb dX5_append_42 rfl (lv_at hl 0 rfl) ?_
      refine lv_dup hx hb dX5_append_43 rfl ?_
      refine va_get (D := Γ.1) (ci := 5) (v := .int (nI T)) (C := RX5) (T := TX5) (N := 10) hx hb hts hi5 hown hK hP 0 rfl rfl 4 (by decide) kf101 (fun _ h9 => h9) rfl dX5_append_44 ?_
      refine lv_iconst (v := (nI 1)) hx hb dX5_append_47 (by decide) ?_
      refine lv_iadd hx hb dX5_append_48 ?_
      refine lv_eqi (y := (nI (T + 1))) (nI_add _ _) ?_
      refine va_put (D := Γ.1) (ci := 5) (v := .int (nI (T + 1))) (ty := .int) (C := RX5) (T := TX5) (N := 10) hx hb hts hi5 tyX5 tyX5_ok nmX5 hown hK hP hD hS 0 rfl rfl 4 (by decide) kf101 (fun _ h9 => h9) rfl (by decide +kernel) rfl rfl (Nat.le_of_ble_eq_true rfl) dX5_append_49 (fun H locs hP hD hS => ?_)
      have hP : va_P Γ.1 vwCl (wcat [moB Γ a ms (upd mt T (vp_nar .char ((ch.toUInt32 % 65536).toInt32))) mc md m0 (gsT (fX5_in ch (nI 33) (nI 126)) (nI 0)) (nI (T + 1)) m3 m4 m5]) H := hP
      have hD : va_D A (wcat [moB Γ a ms (upd mt T (vp_nar .char ((ch.toUInt32 % 65536).toInt32))) mc md m0 (gsT (fX5_in ch (nI 33) (nI 126)) (nI 0)) (nI (T + 1)) m3 m4 m5]) := hD
      refine lv_aload_n hx hb dX5_append_52 rfl (lv_at hl 0 rfl) ?_
      refine va_get (D := Γ.1) (ci := 5) (v := .int (nI (T + 1))) (C := RX5) (T := TX5) (N := 10) hx hb hts hi5 hown hK hP 0 rfl rfl 4 (by decide) kf101 (fun _ h9 => h9) rfl dX5_append_53 ?_
      exact W.iret (v := (nI (T + 1))) hx hb hr (fun t ht hW => eMI (by rw [hq]; exact hP) hS ht (by rw [hq])) hS.2.2 dX5_append_56
    · have hq := hq.trans (if_pos c_2)
      refine lv_iconst (v := (nI 0)) hx hb dX5_append_29 (by decide) ?_
      exact W.iret (v := (nI 0)) hx hb hr (fun t ht hW => eMI (by rw [hq]; exact hP) hS ht (by rw [hq])) hS.2.2 dX5_append_30
  · have hq := hq.trans (if_neg c_1)
    refine lv_iconst (v := (nI 1)) hx hb dX5_append_18 (by decide) ?_
    refine lv_goto (tgt := 23) hx hb dX5_append_19 (by decide) ?_
    refine cMI (bc' := [moB Γ a ms mt mc md m0 (gsT (fX5_in ch (nI 33) (nI 126)) (nI 1)) (nI T) m3 m4 m5]) (va_runV (As := [.int (fX5_in ch (nI 33) (nI 126)), .int (nI 1)]) (rest := []) ⟨hx, hb, hml, hown, hts⟩ ((nX5_goes l Γ a ms mt mc md m0 m1 (nI T) m3 m4 m5 (fX5_in ch (nI 33) (nI 126)) (nI 1)) _) (cwV 2 hts gX5_append_X5_goes rfl rfl rfl (by decide +kernel) ⟨Nat.le_of_ble_eq_true rfl, Nat.le_of_ble_eq_true rfl⟩) ⟨wPre_blind, va_recv hK hP (ci := 5) (q0 := 0) rfl rfl, wPre_mk hP hD hK hS hA hAB hAm [0] rfl rfl⟩ rfl rfl hl.1 rfl (lv_room (Nat.le_of_ble_eq_true rfl)) dX5_append_23 ⟨Nat.zero_le _, Nat.zero_le _⟩) hP hD hS hA [0] rfl rfl (bs' := [moB Γ a ms mt mc md m0 (gsT (fX5_in ch (nI 33) (nI 126)) (nI 1)) (nI T) m3 m4 m5]) rfl (fun H locs hP hD hS => ?_)
    refine lv_if_ne (tgt := 31) hx hb dX5_append_26 (by decide) (fun c_3 => ?_) (fun c_3 => ?_)
    · have hq := hq.trans (if_neg c_3)
      refine lv_aload_n hx hb dX5_append_31 rfl (lv_at hl 0 rfl) ?_
      refine va_get (D := Γ.1) (ci := 5) (v := .ref (a 2)) (C := RX5) (T := TX5) (N := 10) hx hb hts hi5 hown hK hP 0 rfl rfl 3 (by decide) kf13 (fun _ h9 => h9) rfl dX5_append_32 ?_
      refine lv_aload_n hx hb dX5_append_35 rfl (lv_at hl 0 rfl) ?_
      refine va_get (D := Γ.1) (ci := 5) (v := .int (nI T)) (C := RX5) (T := TX5) (N := 10) hx hb hts hi5 hown hK hP 0 rfl rfl 4 (by decide) kf101 (fun _ h9 => h9) rfl dX5_append_36 ?_
      refine lv_iload_n hx hb dX5_append_39 rfl (lv_at hl 1 rfl) ?_
      refine lv_i2c (v := (ch.toUInt32 % 65536).toInt32) hx hb dX5_append_40 rfl ?_
      refine va_cast_n (f := mt) hx hb hK hP hD hS 2 1 rfl rfl (by first | exact ltN (by omega) (by omega) (by assumption) | exact gs_01 (by assumption)) (Nat.le_of_ble_eq_true rfl) dX5_append_41 (fun H locs hP hD hS => ?_)
      have hP : va_P Γ.1 vwCl (wcat [moB Γ a ms (upd mt T (vp_nar .char ((ch.toUInt32 % 65536).toInt32))) mc md m0 (gsT (fX5_in ch (nI 33) (nI 126)) (nI 1)) (nI T) m3 m4 m5]) H := hP
      have hD : va_D A (wcat [moB Γ a ms (upd mt T (vp_nar .char ((ch.toUInt32 % 65536).toInt32))) mc md m0 (gsT (fX5_in ch (nI 33) (nI 126)) (nI 1)) (nI T) m3 m4 m5]) := hD
      refine lv_aload_n hx hb dX5_append_42 rfl (lv_at hl 0 rfl) ?_
      refine lv_dup hx hb dX5_append_43 rfl ?_
      refine va_get (D := Γ.1) (ci := 5) (v := .int (nI T)) (C := RX5) (T := TX5) (N := 10) hx hb hts hi5 hown hK hP 0 rfl rfl 4 (by decide) kf101 (fun _ h9 => h9) rfl dX5_append_44 ?_
      refine lv_iconst (v := (nI 1)) hx hb dX5_append_47 (by decide) ?_
      refine lv_iadd hx hb dX5_append_48 ?_
      refine lv_eqi (y := (nI (T + 1))) (nI_add _ _) ?_
      refine va_put (D := Γ.1) (ci := 5) (v := .int (nI (T + 1))) (ty := .int) (C := RX5) (T := TX5) (N := 10) hx hb hts hi5 tyX5 tyX5_ok nmX5 hown hK hP hD hS 0 rfl rfl 4 (by decide) kf101 (fun _ h9 => h9) rfl (by decide +kernel) rfl rfl (Nat.le_of_ble_eq_true rfl) dX5_append_49 (fun H locs hP hD hS => ?_)
      have hP : va_P Γ.1 vwCl (wcat [moB Γ a ms (upd mt T (vp_nar .char ((ch.toUInt32 % 65536).toInt32))) mc md m0 (gsT (fX5_in ch (nI 33) (nI 126)) (nI 1)) (nI (T + 1)) m3 m4 m5]) H := hP
      have hD : va_D A (wcat [moB Γ a ms (upd mt T (vp_nar .char ((ch.toUInt32 % 65536).toInt32))) mc md m0 (gsT (fX5_in ch (nI 33) (nI 126)) (nI 1)) (nI (T + 1)) m3 m4 m5]) := hD
      refine lv_aload_n hx hb dX5_append_52 rfl (lv_at hl 0 rfl) ?_
      refine va_get (D := Γ.1) (ci := 5) (v := .int (nI (T + 1))) (C := RX5) (T := TX5) (N := 10) hx hb hts hi5 hown hK hP 0 rfl rfl 4 (by decide) kf101 (fun _ h9 => h9) rfl dX5_append_53 ?_
      exact W.iret (v := (nI (T + 1))) hx hb hr (fun t ht hW => eMI (by rw [hq]; exact hP) hS ht (by rw [hq])) hS.2.2 dX5_append_56
    · have hq := hq.trans (if_pos c_3)
      refine lv_iconst (v := (nI 0)) hx hb dX5_append_29 (by decide) ?_
      exact W.iret (v := (nI 0)) hx hb hr (fun t ht hW => eMI (by rw [hq]; exact hP) hS ht (by rw [hq])) hS.2.2 dX5_append_30
def fX5_needs_L12 : Nat → Nat → Int32 → (Nat → Int32) → Int32 × (Nat → Int32)
  | 0, i12, x1_12, ms0_12 => (x1_12, ms0_12)
  | n12 + 1, i12, x1_12, ms0_12 => (if (fX5_has (ms0_12 2) (nI i12)) = 0 then (fX5_needs_L12 n12 (i12 + 1) x1_12 ms0_12) else (if (fX5_groupsOf (fX5_dies (cpR ms0_12 (0) (7)) (406) (i12)).2 (406)) = 0 then (fX5_needs_L12 n12 (i12 + 1) (x1_12 ||| ((nI 1) <<< ((nI i12) &&& 31))) (fX5_dies (cpR ms0_12 (0) (7)) (406) (i12)).2) else (fX5_needs_L12 n12 (i12 + 1) (x1_12 ||| (nI 0)) (fX5_dies (cpR ms0_12 (0) (7)) (406) (i12)).2)))
def fX5_needs (K : Nat) (ms : (Nat → Int32)) : Int32 × (Nat → Int32) := (if (fX5_groupsOf ms (0)) ≤ 0 then ((nI 0), ms) else (fX5_needs_L12 (K) 0 (nI 0) ms))
set_option maxHeartbeats 4000000 in
set_option maxRecDepth 100000 in
theorem kX5_needs (l : Launch) (Γ : wG) (a : Nat → Nat) (K : Nat) (ms : (Nat → Int32)) (mt : (Nat → Int32)) (mc : (Nat → Int32)) (md : (Nat → Int32)) (m0 : Int32) (m1 : Int32) (m2 : Int32) (m3 : Int32) (m4 : Int32) (m5 : Int32) (hMK : ms 1 = nI K) (hK8 : K ≤ 8) : MI l Γ yX5_needs wsX5_needs ({ frames := 5, cells := 0, slots := 0, locals := 120 }) [.ref (a 0)] [moB Γ a ms mt mc md m0 m1 m2 m3 m4 m5] [moB Γ a (fX5_needs K ms).2 mt mc md m0 m1 m2 m3 m4 m5] (fX5_needs K ms).1 := by
  intro sz
  refine Met.ofW (cc := cX5_needs) (maxL := 3) (ret := (some .int)) (by decide) rfl ?_
  intro p e s m args below meth c s₁ B hml hv
  obtain ⟨rfl, hsz, hP, hK, hD0, hAm⟩ := hv
  have hx := B.exec
  have hb := B.bytes
  have hr := B.returns
  have hts := atoms_spec (ws := wsX5_needs) B.pre
  have hown : s.vm.findClass RX5 = some m.cls := findClass_of_methodNamed B.named
  have hlocks := B.notSynchronized
  subst hsz
  have hD := hD0.self (sz := s.heap.size)
  generalize hAe : va_A (wcat [moB Γ a ms mt mc md m0 m1 m2 m3 m4 m5]) s.heap.size = A at hD hAm ⊢
  have hA : ∀ q : Nat, s.heap.size ≤ q → A q := fun q h => by rw [← hAe]; exact Or.inr h
  have hAB : ∀ q : Nat, A q → A q := fun _ h => h
  have hS : va_S A s.heap s.heap [] := va_S.rf
  have hl := lv_entry ([.ref (a 0)]) (n := 3) (Nat.le_of_ble_eq_true rfl)
  rw [lg_entry_eq]
  generalize (lg_sl ([.ref (a 0)]) ++ List.replicate (3 - (lg_sl ([.ref (a 0)])).length) Slot.unset).toArray = ls at hl ⊢
  have hl : lv_has ls 3 [(0, .ref (a 0))] := hl
  have hi5 : ∀ w ∈ wsX50, w ∈ wsX5_needs := by decide +kernel
  have kf7 := hts (.fieldLink RX5 7 "CapsuleKeepersModel" "s" "[I") (by decide +kernel)
  have hq : (fX5_needs K ms) = (if (fX5_groupsOf ms (0)) ≤ 0 then ((nI 0), ms) else (fX5_needs_L12 (K) 0 (nI 0) ms)) := rfl
  refine lv_iconst (v := (nI 0)) hx hb dX5_needs_0 (by decide) ?_
  refine lv_istore_n (lv' := [(1, .int (nI 0)), (0, .ref (a 0))]) hx hb dX5_needs_1 rfl hl (by decide) rfl (fun ls hl => ?_)
  refine lv_aload_n hx hb dX5_needs_2 rfl (lv_at hl 1 rfl) ?_
  refine lv_iconst (v := (nI 0)) hx hb dX5_needs_3 (by decide) ?_
  refine cLI (va_runV (As := [.int (nI 0)]) (rest := []) ⟨hx, hb, hml, hown, hts⟩ ((kX5_groupsOf l Γ a ms mt mc md m0 m1 m2 m3 m4 m5 (0) (by first | assumption | omega)) _) (cwV 1 hts gX5_needs_X5_groupsOf rfl rfl rfl (by decide +kernel) ⟨Nat.le_of_ble_eq_true rfl, Nat.le_of_ble_eq_true rfl⟩) ⟨wPre_blind, va_recv hK hP (ci := 5) (q0 := 0) rfl rfl, wPre_mk hP hD hK hS hA hAB hAm [0] rfl rfl⟩ rfl rfl hl.1 rfl (lv_room (Nat.le_of_ble_eq_true rfl)) dX5_needs_4 ⟨Nat.zero_le _, Nat.zero_le _⟩) hP hS hA (fun H locs hP hS => ?_)
  refine lv_if_le (tgt := 77) hx hb dX5_needs_7 (by decide) (fun c_1 => ?_) (fun c_1 => ?_)
  · have hq := hq.trans (if_pos c_1)
    refine lv_iload_n hx hb dX5_needs_77 rfl (lv_at hl 0 rfl) ?_
    exact W.iret (v := (nI 0)) hx hb hr (fun t ht hW => eMI (by rw [hq]; exact hP) hS ht (by rw [hq])) hS.2.2 dX5_needs_78
  · have hq := hq.trans (if_neg c_1)
    refine lv_iconst (v := (nI 0)) hx hb dX5_needs_10 (by decide) ?_
    refine lv_istore_n (lv' := [(2, .int (nI 0)), (1, .int (nI 0)), (0, .ref (a 0))]) hx hb dX5_needs_11 rfl hl (by decide) rfl (fun ls hl => ?_)
    refine wl (pc := 12) (σ := Nat × Int32 × (Nat → Int32)) (fun n (i12, x1_12, ms0_12) H locs ls => (i12 + n = K ∧ ms0_12 1 = nI K) ∧ (fX5_needs K ms) = fX5_needs_L12 n i12 x1_12 ms0_12 ∧ va_P Γ.1 vwCl (wcat [moB Γ a ms0_12 mt mc md m0 m1 m2 m3 m4 m5]) H ∧ va_D A (wcat [moB Γ a ms0_12 mt mc md m0 m1 m2 m3 m4 m5]) ∧ va_S A s.heap H locs ∧ lv_has ls 3 [(2, .int (nI i12)), (1, .int x1_12), (0, .ref (a 0))]) ?_ ?_ (K) (0, (nI 0), ms) _ _ _ ⟨⟨by omega, hMK⟩, hq, hP, hD, hS, lv_sub hl [0, 1, 2] rfl⟩
    · intro ⟨i12, x1_12, ms0_12⟩ H locs ls h
      obtain ⟨hn12, hq, hP, hD, hS, hl⟩ := h
      try dsimp only at hn12 hq hP hD hl
      obtain ⟨hn12, hv12⟩ := hn12
      replace hq : (fX5_needs K ms) = (x1_12, ms0_12) := hq
      refine lv_iload_n hx hb dX5_needs_12 rfl (lv_at hl 0 rfl) ?_
      refine lv_aload_n hx hb dX5_needs_13 rfl (lv_at hl 2 rfl) ?_
      refine va_get (D := Γ.1) (ci := 5) (v := .ref (a 1)) (C := RX5) (T := TX5) (N := 10) hx hb hts hi5 hown hK hP 0 rfl rfl 0 (by decide) kf7 (fun _ h9 => h9) rfl dX5_needs_14 ?_
      refine lv_iconst (v := (nI 1)) hx hb dX5_needs_17 (by decide) ?_
      refine va_iald_n (f := ms0_12) hx hb hK hP 1 0 rfl rfl (by omega) (Nat.le_of_ble_eq_true rfl) dX5_needs_18 ?_
      refine lv_eqi (y := (nI K)) (hv12) ?_
      refine lv_icmp_ge (tgt := 77) hx hb dX5_needs_19 (by decide) (fun c_19 => ?_) (fun c_19 => absurd (nI_le (by omega) (by omega)) c_19)
      refine lv_iload_n hx hb dX5_needs_77 rfl (lv_at hl 1 rfl) ?_
      exact W.iret (v := x1_12) hx hb hr (fun t ht hW => eMI (by rw [hq]; exact hP) hS ht (by rw [hq])) hS.2.2 dX5_needs_78
    · intro n12 ih12 ⟨i12, x1_12, ms0_12⟩ H locs ls h
      obtain ⟨hn12, hq, hP, hD, hS, hl⟩ := h
      try dsimp only at hn12 hq hP hD hl
      obtain ⟨hn12, hv12⟩ := hn12
      replace hq : (fX5_needs K ms) = (if (fX5_has (ms0_12 2) (nI i12)) = 0 then (fX5_needs_L12 n12 (i12 + 1) x1_12 ms0_12) else (if (fX5_groupsOf (fX5_dies (cpR ms0_12 (0) (7)) (406) (i12)).2 (406)) = 0 then (fX5_needs_L12 n12 (i12 + 1) (x1_12 ||| ((nI 1) <<< ((nI i12) &&& 31))) (fX5_dies (cpR ms0_12 (0) (7)) (406) (i12)).2) else (fX5_needs_L12 n12 (i12 + 1) (x1_12 ||| (nI 0)) (fX5_dies (cpR ms0_12 (0) (7)) (406) (i12)).2))) := hq
      refine lv_iload_n hx hb dX5_needs_12 rfl (lv_at hl 0 rfl) ?_
      refine lv_aload_n hx hb dX5_needs_13 rfl (lv_at hl 2 rfl) ?_
      refine va_get (D := Γ.1) (ci := 5) (v := .ref (a 1)) (C := RX5) (T := TX5) (N := 10) hx hb hts hi5 hown hK hP 0 rfl rfl 0 (by decide) kf7 (fun _ h9 => h9) rfl dX5_needs_14 ?_
      refine lv_iconst (v := (nI 1)) hx hb dX5_needs_17 (by decide) ?_
      refine va_iald_n (f := ms0_12) hx hb hK hP 1 0 rfl rfl (by omega) (Nat.le_of_ble_eq_true rfl) dX5_needs_18 ?_
      refine lv_eqi (y := (nI K)) (hv12) ?_
      refine lv_icmp_ge (tgt := 77) hx hb dX5_needs_19 (by decide) (fun c_19 => absurd c_19 (nI_ge (by omega) (by omega))) (fun c_19 => ?_)
      refine lv_aload_n hx hb dX5_needs_22 rfl (lv_at hl 2 rfl) ?_
      refine va_get (D := Γ.1) (ci := 5) (v := .ref (a 1)) (C := RX5) (T := TX5) (N := 10) hx hb hts hi5 hown hK hP 0 rfl rfl 0 (by decide) kf7 (fun _ h9 => h9) rfl dX5_needs_23 ?_
      refine lv_iconst (v := (nI 2)) hx hb dX5_needs_26 (by decide) ?_
      refine va_iald_n (f := ms0_12) hx hb hK hP 1 0 rfl rfl (by omega) (Nat.le_of_ble_eq_true rfl) dX5_needs_27 ?_
      refine lv_iload_n hx hb dX5_needs_28 rfl (lv_at hl 0 rfl) ?_
      refine cLI (va_runS (As := [.int (ms0_12 2), .int (nI i12)]) (rest := []) ⟨hx, hb, hml, hown, hts⟩ ((kX5_has l Γ (ms0_12 2) (nI i12)) _) (va_cwS 2 hts gX5_needs_X5_has rfl rfl rfl (by decide +kernel) ⟨Nat.le_of_ble_eq_true rfl, Nat.le_of_ble_eq_true rfl⟩) ⟨wPre_blind, wPre_mk hP hD hK hS hA hAB hAm [] rfl rfl⟩ rfl rfl hl.1 rfl (lv_room (Nat.le_of_ble_eq_true rfl)) dX5_needs_29 ⟨Nat.zero_le _, Nat.zero_le _⟩) hP hS hA (fun H locs hP hS => ?_)
      refine lv_if_eq (tgt := 71) hx hb dX5_needs_32 (by decide) (fun c_2 => ?_) (fun c_2 => ?_)
      · have hq := hq.trans (if_pos c_2)
        refine lv_iinc (v := (nI (i12 + 1))) (lv' := [(2, .int (nI (i12 + 1))), (1, .int x1_12), (0, .ref (a 0))]) hx hb dX5_needs_71 hl (k := 0) rfl (nI_1 _) (by decide) rfl (fun ls hl => ?_)
        refine lv_goto (tgt := 12) hx hb dX5_needs_74 (by decide) ?_
        exact ih12 ((i12 + 1), x1_12, ms0_12) H locs ls ⟨⟨by omega, by first | assumption | (rw [dies_lt (by omega), cpR_lt (by omega)]; assumption)⟩, hq, hP, hD, hS, lv_sub hl [0, 1, 2] rfl⟩
      · have hq := hq.trans (if_neg c_2)
        refine lv_aload_n hx hb dX5_needs_35 rfl (lv_at hl 2 rfl) ?_
        refine lv_iconst (v := (nI 0)) hx hb dX5_needs_36 (by decide) ?_
        refine lv_bipush (v := (nI 7)) hx hb dX5_needs_37 (by decide) ?_
        refine cMV (bc' := [moB Γ a (cpR ms0_12 (0) (7)) mt mc md m0 m1 m2 m3 m4 m5]) (va_runV (As := [.int (nI 0), .int (nI 7)]) (rest := []) ⟨hx, hb, hml, hown, hts⟩ ((nX5_copies l Γ a ms0_12 mt mc md m0 m1 m2 m3 m4 m5 (0) (7) (by first | assumption | omega) (by first | assumption | omega)) _) (cwV 2 hts gX5_needs_X5_copies rfl rfl rfl (by decide +kernel) ⟨Nat.le_of_ble_eq_true rfl, Nat.le_of_ble_eq_true rfl⟩) ⟨wPre_blind, va_recv hK hP (ci := 5) (q0 := 0) rfl rfl, wPre_mk hP hD hK hS hA hAB hAm [0] rfl rfl⟩ rfl rfl hl.1 rfl (lv_room (Nat.le_of_ble_eq_true rfl)) dX5_needs_39 ⟨Nat.zero_le _, Nat.zero_le _⟩) hP hD hS hA [0] rfl rfl (bs' := [moB Γ a (cpR ms0_12 (0) (7)) mt mc md m0 m1 m2 m3 m4 m5]) rfl (fun H locs hP hD hS => ?_)
        refine lv_aload_n hx hb dX5_needs_42 rfl (lv_at hl 2 rfl) ?_
        refine lv_sipush (v := (nI 406)) hx hb dX5_needs_43 (by decide) ?_
        refine lv_iload_n hx hb dX5_needs_46 rfl (lv_at hl 0 rfl) ?_
        refine cMI (bc' := [moB Γ a (fX5_dies (cpR ms0_12 (0) (7)) (406) (i12)).2 mt mc md m0 m1 m2 m3 m4 m5]) (va_runV (As := [.int (nI 406), .int (nI i12)]) (rest := []) ⟨hx, hb, hml, hown, hts⟩ ((kX5_dies l Γ a (cpR ms0_12 (0) (7)) mt mc md m0 m1 m2 m3 m4 m5 (406) (i12) (by first | assumption | omega) (by first | assumption | omega)) _) (cwV 2 hts gX5_needs_X5_dies rfl rfl rfl (by decide +kernel) ⟨Nat.le_of_ble_eq_true rfl, Nat.le_of_ble_eq_true rfl⟩) ⟨wPre_blind, va_recv hK hP (ci := 5) (q0 := 0) rfl rfl, wPre_mk hP hD hK hS hA hAB hAm [0] rfl rfl⟩ rfl rfl hl.1 rfl (lv_room (Nat.le_of_ble_eq_true rfl)) dX5_needs_47 ⟨Nat.zero_le _, Nat.zero_le _⟩) hP hD hS hA [0] rfl rfl (bs' := [moB Γ a (fX5_dies (cpR ms0_12 (0) (7)) (406) (i12)).2 mt mc md m0 m1 m2 m3 m4 m5]) rfl (fun H locs hP hD hS => ?_)
        refine lv_pop hx hb dX5_needs_50 rfl ?_
        refine lv_iload_n hx hb dX5_needs_51 rfl (lv_at hl 1 rfl) ?_
        refine lv_aload_n hx hb dX5_needs_52 rfl (lv_at hl 2 rfl) ?_
        refine lv_sipush (v := (nI 406)) hx hb dX5_needs_53 (by decide) ?_
        refine cLI (va_runV (As := [.int (nI 406)]) (rest := [.int x1_12]) ⟨hx, hb, hml, hown, hts⟩ ((kX5_groupsOf l Γ a (fX5_dies (cpR ms0_12 (0) (7)) (406) (i12)).2 mt mc md m0 m1 m2 m3 m4 m5 (406) (by first | assumption | omega)) _) (cwV 1 hts gX5_needs_X5_groupsOf rfl rfl rfl (by decide +kernel) ⟨Nat.le_of_ble_eq_true rfl, Nat.le_of_ble_eq_true rfl⟩) ⟨wPre_blind, va_recv hK hP (ci := 5) (q0 := 0) rfl rfl, wPre_mk hP hD hK hS hA hAB hAm [0] rfl rfl⟩ rfl rfl hl.1 rfl (lv_room (Nat.le_of_ble_eq_true rfl)) dX5_needs_56 ⟨Nat.zero_le _, Nat.zero_le _⟩) hP hS hA (fun H locs hP hS => ?_)
        refine lv_if_ne (tgt := 68) hx hb dX5_needs_59 (by decide) (fun c_3 => ?_) (fun c_3 => ?_)
        · have hq := hq.trans (if_neg c_3)
          refine lv_iconst (v := (nI 0)) hx hb dX5_needs_68 (by decide) ?_
          refine lv_ior hx hb dX5_needs_69 ?_
          refine lv_istore_n (lv' := [(1, .int (x1_12 ||| (nI 0))), (2, .int (nI i12)), (0, .ref (a 0))]) hx hb dX5_needs_70 rfl hl (by decide) rfl (fun ls hl => ?_)
          refine lv_iinc (v := (nI (i12 + 1))) (lv' := [(2, .int (nI (i12 + 1))), (1, .int (x1_12 ||| (nI 0))), (0, .ref (a 0))]) hx hb dX5_needs_71 hl (k := 1) rfl (nI_1 _) (by decide) rfl (fun ls hl => ?_)
          refine lv_goto (tgt := 12) hx hb dX5_needs_74 (by decide) ?_
          exact ih12 ((i12 + 1), (x1_12 ||| (nI 0)), (fX5_dies (cpR ms0_12 (0) (7)) (406) (i12)).2) H locs ls ⟨⟨by omega, by first | assumption | (rw [dies_lt (by omega), cpR_lt (by omega)]; assumption)⟩, hq, hP, hD, hS, lv_sub hl [0, 1, 2] rfl⟩
        · have hq := hq.trans (if_pos c_3)
          refine lv_iconst (v := (nI 1)) hx hb dX5_needs_62 (by decide) ?_
          refine lv_iload_n hx hb dX5_needs_63 rfl (lv_at hl 0 rfl) ?_
          refine lv_ishl hx hb dX5_needs_64 ?_
          refine lv_goto (tgt := 69) hx hb dX5_needs_65 (by decide) ?_
          refine lv_ior hx hb dX5_needs_69 ?_
          refine lv_istore_n (lv' := [(1, .int (x1_12 ||| ((nI 1) <<< ((nI i12) &&& 31)))), (2, .int (nI i12)), (0, .ref (a 0))]) hx hb dX5_needs_70 rfl hl (by decide) rfl (fun ls hl => ?_)
          refine lv_iinc (v := (nI (i12 + 1))) (lv' := [(2, .int (nI (i12 + 1))), (1, .int (x1_12 ||| ((nI 1) <<< ((nI i12) &&& 31)))), (0, .ref (a 0))]) hx hb dX5_needs_71 hl (k := 1) rfl (nI_1 _) (by decide) rfl (fun ls hl => ?_)
          refine lv_goto (tgt := 12) hx hb dX5_needs_74 (by decide) ?_
          exact ih12 ((i12 + 1), (x1_12 ||| ((nI 1) <<< ((nI i12) &&& 31))), (fX5_dies (cpR ms0_12 (0) (7)) (406) (i12)).2) H locs ls ⟨⟨by omega, by first | assumption | (rw [dies_lt (by omega), cpR_lt (by omega)]; assumption)⟩, hq, hP, hD, hS, lv_sub hl [0, 1, 2] rfl⟩
def fX5_needed (K : Nat) (ms : (Nat → Int32)) : Int32 × (Nat → Int32) × Int32 := ((fX5_needs K ms).1, (fX5_needs K ms).2, (nI 0))
set_option maxHeartbeats 4000000 in
set_option maxRecDepth 100000 in
theorem kX5_needed (l : Launch) (Γ : wG) (a : Nat → Nat) (K : Nat) (ms : (Nat → Int32)) (mt : (Nat → Int32)) (mc : (Nat → Int32)) (md : (Nat → Int32)) (m0 : Int32) (m1 : Int32) (m2 : Int32) (m3 : Int32) (m4 : Int32) (m5 : Int32) (hMK : ms 1 = nI K) (hK8 : K ≤ 8) : MI l Γ yX5_needed wsX5_needed ({ frames := 6, cells := 0, slots := 0, locals := 142 }) [.ref (a 0)] [moB Γ a ms mt mc md m0 m1 m2 m3 m4 m5] [moB Γ a (fX5_needed K ms).2.1 mt mc md m0 (fX5_needed K ms).2.2 m2 m3 m4 m5] (fX5_needed K ms).1 := by
  intro sz
  refine Met.ofW (cc := cX5_needed) (maxL := 1) (ret := (some .int)) (by decide) rfl ?_
  intro p e s m args below meth c s₁ B hml hv
  obtain ⟨rfl, hsz, hP, hK, hD0, hAm⟩ := hv
  have hx := B.exec
  have hb := B.bytes
  have hr := B.returns
  have hts := atoms_spec (ws := wsX5_needed) B.pre
  have hown : s.vm.findClass RX5 = some m.cls := findClass_of_methodNamed B.named
  have hlocks := B.notSynchronized
  subst hsz
  have hD := hD0.self (sz := s.heap.size)
  generalize hAe : va_A (wcat [moB Γ a ms mt mc md m0 m1 m2 m3 m4 m5]) s.heap.size = A at hD hAm ⊢
  have hA : ∀ q : Nat, s.heap.size ≤ q → A q := fun q h => by rw [← hAe]; exact Or.inr h
  have hAB : ∀ q : Nat, A q → A q := fun _ h => h
  have hS : va_S A s.heap s.heap [] := va_S.rf
  have hl := lv_entry ([.ref (a 0)]) (n := 1) (Nat.le_of_ble_eq_true rfl)
  rw [lg_entry_eq]
  generalize (lg_sl ([.ref (a 0)]) ++ List.replicate (1 - (lg_sl ([.ref (a 0)])).length) Slot.unset).toArray = ls at hl ⊢
  have hl : lv_has ls 1 [(0, .ref (a 0))] := hl
  have hi5 : ∀ w ∈ wsX50, w ∈ wsX5_needed := by decide +kernel
  have kf23 := hts (.fieldLink RX5 23 "CapsuleKeepersModel" "thrown" "I") (by decide +kernel)
  have hq : (fX5_needed K ms) = ((fX5_needs K ms).1, (fX5_needs K ms).2, (nI 0)) := rfl
  refine lv_aload_n hx hb dX5_needed_0 rfl (lv_at hl 0 rfl) ?_
  refine lv_iconst (v := (nI 0)) hx hb dX5_needed_1 (by decide) ?_
  refine va_put (D := Γ.1) (ci := 5) (v := .int (nI 0)) (ty := .int) (C := RX5) (T := TX5) (N := 10) hx hb hts hi5 tyX5 tyX5_ok nmX5 hown hK hP hD hS 0 rfl rfl 2 (by decide) kf23 (fun _ h9 => h9) rfl (by decide +kernel) rfl rfl (Nat.le_of_ble_eq_true rfl) dX5_needed_2 (fun H locs hP hD hS => ?_)
  have hP : va_P Γ.1 vwCl (wcat [moB Γ a ms mt mc md m0 (nI 0) m2 m3 m4 m5]) H := hP
  have hD : va_D A (wcat [moB Γ a ms mt mc md m0 (nI 0) m2 m3 m4 m5]) := hD
  refine lv_aload_n hx hb dX5_needed_5 rfl (lv_at hl 0 rfl) ?_
  refine cMI (bc' := [moB Γ a (fX5_needs K ms).2 mt mc md m0 (nI 0) m2 m3 m4 m5]) (va_runV (As := []) (rest := []) ⟨hx, hb, hml, hown, hts⟩ ((kX5_needs l Γ a K ms mt mc md m0 (nI 0) m2 m3 m4 m5 (by first | assumption | omega) (by first | assumption | omega)) _) (cwV 0 hts gX5_needed_X5_needs rfl rfl rfl (by decide +kernel) ⟨Nat.le_of_ble_eq_true rfl, Nat.le_of_ble_eq_true rfl⟩) ⟨wPre_blind, va_recv hK hP (ci := 5) (q0 := 0) rfl rfl, wPre_mk hP hD hK hS hA hAB hAm [0] rfl rfl⟩ rfl rfl hl.1 rfl (lv_room (Nat.le_of_ble_eq_true rfl)) dX5_needed_6 ⟨Nat.zero_le _, Nat.zero_le _⟩) hP hD hS hA [0] rfl rfl (bs' := [moB Γ a (fX5_needs K ms).2 mt mc md m0 (nI 0) m2 m3 m4 m5]) rfl (fun H locs hP hD hS => ?_)
  exact W.iret (v := (fX5_needs K ms).1) hx hb hr (fun t ht hW => eMI (by rw [hq]; exact hP) hS ht (by rw [hq])) hS.2.2 dX5_needed_9
def fX5_makesPeace_L28 (k11 : Nat → Int32 → Int32 → (Nat → Int32) → Int32 × (Nat → Int32)) (la : Int32) (i11 : Nat) : Nat → Nat → Int32 → Int32 → (Nat → Int32) → Int32 × (Nat → Int32)
  | 0, i28, x2_28, x3_28, ms0_28 => (k11 (i11 + 1) x2_28 x3_28 ms0_28)
  | n28 + 1, i28, x2_28, x3_28, ms0_28 => (if (fX5_has (ms0_28 (11 + i11)) (nI i28)) = 0 then (fX5_makesPeace_L28 k11 la i11 n28 (i28 + 1) x2_28 x3_28 ms0_28) else (if (fX5_areAlive ms0_28 (0) (nI i11) (nI i28)) = 0 then (fX5_makesPeace_L28 k11 la i11 n28 (i28 + 1) x2_28 x3_28 ms0_28) else (if (fX5_groupsOf (upd (upd (cpR ms0_28 (0) (7)) (417 + i11) (((cpR ms0_28 (0) (7)) (417 + i11)) ^^^ ((nI 1) <<< ((nI i28) &&& 31)))) (417 + i28) (((upd (cpR ms0_28 (0) (7)) (417 + i11) (((cpR ms0_28 (0) (7)) (417 + i11)) ^^^ ((nI 1) <<< ((nI i28) &&& 31)))) (417 + i28)) ^^^ ((nI 1) <<< ((nI i11) &&& 31)))) (406)) ≤ x3_28 then (fX5_makesPeace_L28 k11 la i11 n28 (i28 + 1) x2_28 x3_28 (upd (upd (cpR ms0_28 (0) (7)) (417 + i11) (((cpR ms0_28 (0) (7)) (417 + i11)) ^^^ ((nI 1) <<< ((nI i28) &&& 31)))) (417 + i28) (((upd (cpR ms0_28 (0) (7)) (417 + i11) (((cpR ms0_28 (0) (7)) (417 + i11)) ^^^ ((nI 1) <<< ((nI i28) &&& 31)))) (417 + i28)) ^^^ ((nI 1) <<< ((nI i11) &&& 31))))) else (if la = 0 then (fX5_makesPeace_L28 k11 la i11 n28 (i28 + 1) (nI i11) (fX5_groupsOf (upd (upd (cpR ms0_28 (0) (7)) (417 + i11) (((cpR ms0_28 (0) (7)) (417 + i11)) ^^^ ((nI 1) <<< ((nI i28) &&& 31)))) (417 + i28) (((upd (cpR ms0_28 (0) (7)) (417 + i11) (((cpR ms0_28 (0) (7)) (417 + i11)) ^^^ ((nI 1) <<< ((nI i28) &&& 31)))) (417 + i28)) ^^^ ((nI 1) <<< ((nI i11) &&& 31)))) (406)) (upd (upd (cpR ms0_28 (0) (7)) (417 + i11) (((cpR ms0_28 (0) (7)) (417 + i11)) ^^^ ((nI 1) <<< ((nI i28) &&& 31)))) (417 + i28) (((upd (cpR ms0_28 (0) (7)) (417 + i11) (((cpR ms0_28 (0) (7)) (417 + i11)) ^^^ ((nI 1) <<< ((nI i28) &&& 31)))) (417 + i28)) ^^^ ((nI 1) <<< ((nI i11) &&& 31))))) else (fX5_makesPeace_L28 k11 la i11 n28 (i28 + 1) (nI i28) (fX5_groupsOf (upd (upd (cpR ms0_28 (0) (7)) (417 + i11) (((cpR ms0_28 (0) (7)) (417 + i11)) ^^^ ((nI 1) <<< ((nI i28) &&& 31)))) (417 + i28) (((upd (cpR ms0_28 (0) (7)) (417 + i11) (((cpR ms0_28 (0) (7)) (417 + i11)) ^^^ ((nI 1) <<< ((nI i28) &&& 31)))) (417 + i28)) ^^^ ((nI 1) <<< ((nI i11) &&& 31)))) (406)) (upd (upd (cpR ms0_28 (0) (7)) (417 + i11) (((cpR ms0_28 (0) (7)) (417 + i11)) ^^^ ((nI 1) <<< ((nI i28) &&& 31)))) (417 + i28) (((upd (cpR ms0_28 (0) (7)) (417 + i11) (((cpR ms0_28 (0) (7)) (417 + i11)) ^^^ ((nI 1) <<< ((nI i28) &&& 31)))) (417 + i28)) ^^^ ((nI 1) <<< ((nI i11) &&& 31)))))))))
def fX5_makesPeace_L11 (K : Nat) (la : Int32) : Nat → Nat → Int32 → Int32 → (Nat → Int32) → Int32 × (Nat → Int32)
  | 0, i11, x2_11, x3_11, ms0_11 => (x2_11, ms0_11)
  | n11 + 1, i11, x2_11, x3_11, ms0_11 => (fX5_makesPeace_L28 (fX5_makesPeace_L11 K la n11) la i11 (K - (i11 + 1)) (i11 + 1) x2_11 x3_11 ms0_11)
def fX5_makesPeace (K : Nat) (ms : (Nat → Int32)) (la : Int32) : Int32 × (Nat → Int32) := (fX5_makesPeace_L11 K la (K) 0 (-1) (fX5_groupsOf ms (0)) ms)
set_option maxHeartbeats 4000000 in
set_option maxRecDepth 100000 in
theorem kX5_makesPeace (l : Launch) (Γ : wG) (a : Nat → Nat) (K : Nat) (ms : (Nat → Int32)) (mt : (Nat → Int32)) (mc : (Nat → Int32)) (md : (Nat → Int32)) (m0 : Int32) (m1 : Int32) (m2 : Int32) (m3 : Int32) (m4 : Int32) (m5 : Int32) (la : Int32) (hMK : ms 1 = nI K) (hK8 : K ≤ 8) : MI l Γ yX5_makesPeace wsX5_makesPeace ({ frames := 5, cells := 0, slots := 0, locals := 120 }) [.ref (a 0), .int la] [moB Γ a ms mt mc md m0 m1 m2 m3 m4 m5] [moB Γ a (fX5_makesPeace K ms la).2 mt mc md m0 m1 m2 m3 m4 m5] (fX5_makesPeace K ms la).1 := by
  intro sz
  refine Met.ofW (cc := cX5_makesPeace) (maxL := 8) (ret := (some .int)) (by decide) rfl ?_
  intro p e s m args below meth c s₁ B hml hv
  obtain ⟨rfl, hsz, hP, hK, hD0, hAm⟩ := hv
  have hx := B.exec
  have hb := B.bytes
  have hr := B.returns
  have hts := atoms_spec (ws := wsX5_makesPeace) B.pre
  have hown : s.vm.findClass RX5 = some m.cls := findClass_of_methodNamed B.named
  have hlocks := B.notSynchronized
  subst hsz
  have hD := hD0.self (sz := s.heap.size)
  generalize hAe : va_A (wcat [moB Γ a ms mt mc md m0 m1 m2 m3 m4 m5]) s.heap.size = A at hD hAm ⊢
  have hA : ∀ q : Nat, s.heap.size ≤ q → A q := fun q h => by rw [← hAe]; exact Or.inr h
  have hAB : ∀ q : Nat, A q → A q := fun _ h => h
  have hS : va_S A s.heap s.heap [] := va_S.rf
  have hl := lv_entry ([.ref (a 0), .int la]) (n := 8) (Nat.le_of_ble_eq_true rfl)
  rw [lg_entry_eq]
  generalize (lg_sl ([.ref (a 0), .int la]) ++ List.replicate (8 - (lg_sl ([.ref (a 0), .int la])).length) Slot.unset).toArray = ls at hl ⊢
  have hl : lv_has ls 8 [(0, .ref (a 0)), (1, .int la)] := hl
  have hi5 : ∀ w ∈ wsX50, w ∈ wsX5_makesPeace := by decide +kernel
  have kf7 := hts (.fieldLink RX5 7 "CapsuleKeepersModel" "s" "[I") (by decide +kernel)
  have hq : (fX5_makesPeace K ms la) = (fX5_makesPeace_L11 K la (K) 0 (-1) (fX5_groupsOf ms (0)) ms) := rfl
  refine lv_iconst (v := (-1)) hx hb dX5_makesPeace_0 (by decide) ?_
  refine lv_istore_n (lv' := [(2, .int (-1)), (0, .ref (a 0)), (1, .int la)]) hx hb dX5_makesPeace_1 rfl hl (by decide) rfl (fun ls hl => ?_)
  refine lv_aload_n hx hb dX5_makesPeace_2 rfl (lv_at hl 1 rfl) ?_
  refine lv_iconst (v := (nI 0)) hx hb dX5_makesPeace_3 (by decide) ?_
  refine cLI (va_runV (As := [.int (nI 0)]) (rest := []) ⟨hx, hb, hml, hown, hts⟩ ((kX5_groupsOf l Γ a ms mt mc md m0 m1 m2 m3 m4 m5 (0) (by first | assumption | omega)) _) (cwV 1 hts gX5_makesPeace_X5_groupsOf rfl rfl rfl (by decide +kernel) ⟨Nat.le_of_ble_eq_true rfl, Nat.le_of_ble_eq_true rfl⟩) ⟨wPre_blind, va_recv hK hP (ci := 5) (q0 := 0) rfl rfl, wPre_mk hP hD hK hS hA hAB hAm [0] rfl rfl⟩ rfl rfl hl.1 rfl (lv_room (Nat.le_of_ble_eq_true rfl)) dX5_makesPeace_4 ⟨Nat.zero_le _, Nat.zero_le _⟩) hP hS hA (fun H locs hP hS => ?_)
  refine lv_istore_n (lv' := [(3, .int (fX5_groupsOf ms (0))), (2, .int (-1)), (0, .ref (a 0)), (1, .int la)]) hx hb dX5_makesPeace_7 rfl hl (by decide) rfl (fun ls hl => ?_)
  refine lv_iconst (v := (nI 0)) hx hb dX5_makesPeace_8 (by decide) ?_
  refine lv_istore (lv' := [(4, .int (nI 0)), (3, .int (fX5_groupsOf ms (0))), (2, .int (-1)), (0, .ref (a 0)), (1, .int la)]) hx hb dX5_makesPeace_9 hl (by decide) rfl (fun ls hl => ?_)
  refine wl (pc := 11) (σ := Nat × Int32 × Int32 × (Nat → Int32)) (fun n (i11, x2_11, x3_11, ms0_11) H locs ls => (i11 + n = K ∧ ms0_11 1 = nI K) ∧ (fX5_makesPeace K ms la) = fX5_makesPeace_L11 K la n i11 x2_11 x3_11 ms0_11 ∧ va_P Γ.1 vwCl (wcat [moB Γ a ms0_11 mt mc md m0 m1 m2 m3 m4 m5]) H ∧ va_D A (wcat [moB Γ a ms0_11 mt mc md m0 m1 m2 m3 m4 m5]) ∧ va_S A s.heap H locs ∧ lv_has ls 8 [(4, .int (nI i11)), (3, .int x3_11), (2, .int x2_11), (0, .ref (a 0)), (1, .int la)]) ?_ ?_ (K) (0, (-1), (fX5_groupsOf ms (0)), ms) _ _ _ ⟨⟨by omega, hMK⟩, hq, hP, hD, hS, lv_sub hl [0, 1, 2, 3, 4] rfl⟩
  · intro ⟨i11, x2_11, x3_11, ms0_11⟩ H locs ls h
    obtain ⟨hn11, hq, hP, hD, hS, hl⟩ := h
    try dsimp only at hn11 hq hP hD hl
    obtain ⟨hn11, hv11⟩ := hn11
    replace hq : (fX5_makesPeace K ms la) = (x2_11, ms0_11) := hq
    refine lv_iload hx hb dX5_makesPeace_11 (lv_at hl 0 rfl) ?_
    refine lv_aload_n hx hb dX5_makesPeace_13 rfl (lv_at hl 3 rfl) ?_
    refine va_get (D := Γ.1) (ci := 5) (v := .ref (a 1)) (C := RX5) (T := TX5) (N := 10) hx hb hts hi5 hown hK hP 0 rfl rfl 0 (by decide) kf7 (fun _ h9 => h9) rfl dX5_makesPeace_14 ?_
    refine lv_iconst (v := (nI 1)) hx hb dX5_makesPeace_17 (by decide) ?_
    refine va_iald_n (f := ms0_11) hx hb hK hP 1 0 rfl rfl (by omega) (Nat.le_of_ble_eq_true rfl) dX5_makesPeace_18 ?_
    refine lv_eqi (y := (nI K)) (hv11) ?_
    refine lv_icmp_ge (tgt := 176) hx hb dX5_makesPeace_19 (by decide) (fun c_19 => ?_) (fun c_19 => absurd (nI_le (by omega) (by omega)) c_19)
    refine lv_iload_n hx hb dX5_makesPeace_176 rfl (lv_at hl 2 rfl) ?_
    exact W.iret (v := x2_11) hx hb hr (fun t ht hW => eMI (by rw [hq]; exact hP) hS ht (by rw [hq])) hS.2.2 dX5_makesPeace_177
  · intro n11 ih11 ⟨i11, x2_11, x3_11, ms0_11⟩ H locs ls h
    obtain ⟨hn11, hq, hP, hD, hS, hl⟩ := h
    try dsimp only at hn11 hq hP hD hl
    obtain ⟨hn11, hv11⟩ := hn11
    replace hq : (fX5_makesPeace K ms la) = (fX5_makesPeace_L28 (fX5_makesPeace_L11 K la n11) la i11 (K - (i11 + 1)) (i11 + 1) x2_11 x3_11 ms0_11) := hq
    refine lv_iload hx hb dX5_makesPeace_11 (lv_at hl 0 rfl) ?_
    refine lv_aload_n hx hb dX5_makesPeace_13 rfl (lv_at hl 3 rfl) ?_
    refine va_get (D := Γ.1) (ci := 5) (v := .ref (a 1)) (C := RX5) (T := TX5) (N := 10) hx hb hts hi5 hown hK hP 0 rfl rfl 0 (by decide) kf7 (fun _ h9 => h9) rfl dX5_makesPeace_14 ?_
    refine lv_iconst (v := (nI 1)) hx hb dX5_makesPeace_17 (by decide) ?_
    refine va_iald_n (f := ms0_11) hx hb hK hP 1 0 rfl rfl (by omega) (Nat.le_of_ble_eq_true rfl) dX5_makesPeace_18 ?_
    refine lv_eqi (y := (nI K)) (hv11) ?_
    refine lv_icmp_ge (tgt := 176) hx hb dX5_makesPeace_19 (by decide) (fun c_19 => absurd c_19 (nI_ge (by omega) (by omega))) (fun c_19 => ?_)
    refine lv_iload hx hb dX5_makesPeace_22 (lv_at hl 0 rfl) ?_
    refine lv_iconst (v := (nI 1)) hx hb dX5_makesPeace_24 (by decide) ?_
    refine lv_iadd hx hb dX5_makesPeace_25 ?_
    refine lv_eqi (y := (nI (i11 + 1))) (nI_add _ _) ?_
    refine lv_istore (lv' := [(5, .int (nI (i11 + 1))), (4, .int (nI i11)), (3, .int x3_11), (2, .int x2_11), (0, .ref (a 0)), (1, .int la)]) hx hb dX5_makesPeace_26 hl (by decide) rfl (fun ls hl => ?_)
    obtain ⟨k11, ek11⟩ : ∃ k, k = (fX5_makesPeace_L11 K la n11) := ⟨_, rfl⟩
    replace hq : (fX5_makesPeace K ms la) = (fX5_makesPeace_L28 k11 la i11 (K - (i11 + 1)) (i11 + 1) x2_11 x3_11 ms0_11) := hq.trans (by rw [ek11])
    refine wl (pc := 28) (σ := Nat × Int32 × Int32 × (Nat → Int32)) (fun n (i28, x2_28, x3_28, ms0_28) H locs ls => (i28 + n = K ∧ ms0_28 1 = nI K) ∧ (fX5_makesPeace K ms la) = fX5_makesPeace_L28 k11 la i11 n i28 x2_28 x3_28 ms0_28 ∧ va_P Γ.1 vwCl (wcat [moB Γ a ms0_28 mt mc md m0 m1 m2 m3 m4 m5]) H ∧ va_D A (wcat [moB Γ a ms0_28 mt mc md m0 m1 m2 m3 m4 m5]) ∧ va_S A s.heap H locs ∧ lv_has ls 8 [(5, .int (nI i28)), (4, .int (nI i11)), (3, .int x3_28), (2, .int x2_28), (0, .ref (a 0)), (1, .int la)]) ?_ ?_ (K - (i11 + 1)) ((i11 + 1), x2_11, x3_11, ms0_11) _ _ _ ⟨⟨by omega, hv11⟩, hq, hP, hD, hS, lv_sub hl [0, 1, 2, 3, 4, 5] rfl⟩
    · intro ⟨i28, x2_28, x3_28, ms0_28⟩ H locs ls h
      obtain ⟨hn28, hq, hP, hD, hS, hl⟩ := h
      try dsimp only at hn28 hq hP hD hl
      obtain ⟨hn28, hv28⟩ := hn28
      replace hq : (fX5_makesPeace K ms la) = (k11 (i11 + 1) x2_28 x3_28 ms0_28) := hq
      refine lv_iload hx hb dX5_makesPeace_28 (lv_at hl 0 rfl) ?_
      refine lv_aload_n hx hb dX5_makesPeace_30 rfl (lv_at hl 4 rfl) ?_
      refine va_get (D := Γ.1) (ci := 5) (v := .ref (a 1)) (C := RX5) (T := TX5) (N := 10) hx hb hts hi5 hown hK hP 0 rfl rfl 0 (by decide) kf7 (fun _ h9 => h9) rfl dX5_makesPeace_31 ?_
      refine lv_iconst (v := (nI 1)) hx hb dX5_makesPeace_34 (by decide) ?_
      refine va_iald_n (f := ms0_28) hx hb hK hP 1 0 rfl rfl (by omega) (Nat.le_of_ble_eq_true rfl) dX5_makesPeace_35 ?_
      refine lv_eqi (y := (nI K)) (hv28) ?_
      refine lv_icmp_ge (tgt := 170) hx hb dX5_makesPeace_36 (by decide) (fun c_36 => ?_) (fun c_36 => absurd (nI_le (by omega) (by omega)) c_36)
      refine lv_iinc (v := (nI (i11 + 1))) (lv' := [(4, .int (nI (i11 + 1))), (5, .int (nI i28)), (3, .int x3_28), (2, .int x2_28), (0, .ref (a 0)), (1, .int la)]) hx hb dX5_makesPeace_170 hl (k := 1) rfl (nI_1 _) (by decide) rfl (fun ls hl => ?_)
      refine lv_goto (tgt := 11) hx hb dX5_makesPeace_173 (by decide) ?_
      exact ih11 ((i11 + 1), x2_28, x3_28, ms0_28) H locs ls ⟨⟨by omega, by assumption⟩, (hq.trans (by rw [ek11])), hP, hD, hS, lv_sub hl [0, 2, 3, 4, 5] rfl⟩
    · intro n28 ih28 ⟨i28, x2_28, x3_28, ms0_28⟩ H locs ls h
      obtain ⟨hn28, hq, hP, hD, hS, hl⟩ := h
      try dsimp only at hn28 hq hP hD hl
      obtain ⟨hn28, hv28⟩ := hn28
      replace hq : (fX5_makesPeace K ms la) = (if (fX5_has (ms0_28 (11 + i11)) (nI i28)) = 0 then (fX5_makesPeace_L28 k11 la i11 n28 (i28 + 1) x2_28 x3_28 ms0_28) else (if (fX5_areAlive ms0_28 (0) (nI i11) (nI i28)) = 0 then (fX5_makesPeace_L28 k11 la i11 n28 (i28 + 1) x2_28 x3_28 ms0_28) else (if (fX5_groupsOf (upd (upd (cpR ms0_28 (0) (7)) (417 + i11) (((cpR ms0_28 (0) (7)) (417 + i11)) ^^^ ((nI 1) <<< ((nI i28) &&& 31)))) (417 + i28) (((upd (cpR ms0_28 (0) (7)) (417 + i11) (((cpR ms0_28 (0) (7)) (417 + i11)) ^^^ ((nI 1) <<< ((nI i28) &&& 31)))) (417 + i28)) ^^^ ((nI 1) <<< ((nI i11) &&& 31)))) (406)) ≤ x3_28 then (fX5_makesPeace_L28 k11 la i11 n28 (i28 + 1) x2_28 x3_28 (upd (upd (cpR ms0_28 (0) (7)) (417 + i11) (((cpR ms0_28 (0) (7)) (417 + i11)) ^^^ ((nI 1) <<< ((nI i28) &&& 31)))) (417 + i28) (((upd (cpR ms0_28 (0) (7)) (417 + i11) (((cpR ms0_28 (0) (7)) (417 + i11)) ^^^ ((nI 1) <<< ((nI i28) &&& 31)))) (417 + i28)) ^^^ ((nI 1) <<< ((nI i11) &&& 31))))) else (if la = 0 then (fX5_makesPeace_L28 k11 la i11 n28 (i28 + 1) (nI i11) (fX5_groupsOf (upd (upd (cpR ms0_28 (0) (7)) (417 + i11) (((cpR ms0_28 (0) (7)) (417 + i11)) ^^^ ((nI 1) <<< ((nI i28) &&& 31)))) (417 + i28) (((upd (cpR ms0_28 (0) (7)) (417 + i11) (((cpR ms0_28 (0) (7)) (417 + i11)) ^^^ ((nI 1) <<< ((nI i28) &&& 31)))) (417 + i28)) ^^^ ((nI 1) <<< ((nI i11) &&& 31)))) (406)) (upd (upd (cpR ms0_28 (0) (7)) (417 + i11) (((cpR ms0_28 (0) (7)) (417 + i11)) ^^^ ((nI 1) <<< ((nI i28) &&& 31)))) (417 + i28) (((upd (cpR ms0_28 (0) (7)) (417 + i11) (((cpR ms0_28 (0) (7)) (417 + i11)) ^^^ ((nI 1) <<< ((nI i28) &&& 31)))) (417 + i28)) ^^^ ((nI 1) <<< ((nI i11) &&& 31))))) else (fX5_makesPeace_L28 k11 la i11 n28 (i28 + 1) (nI i28) (fX5_groupsOf (upd (upd (cpR ms0_28 (0) (7)) (417 + i11) (((cpR ms0_28 (0) (7)) (417 + i11)) ^^^ ((nI 1) <<< ((nI i28) &&& 31)))) (417 + i28) (((upd (cpR ms0_28 (0) (7)) (417 + i11) (((cpR ms0_28 (0) (7)) (417 + i11)) ^^^ ((nI 1) <<< ((nI i28) &&& 31)))) (417 + i28)) ^^^ ((nI 1) <<< ((nI i11) &&& 31)))) (406)) (upd (upd (cpR ms0_28 (0) (7)) (417 + i11) (((cpR ms0_28 (0) (7)) (417 + i11)) ^^^ ((nI 1) <<< ((nI i28) &&& 31)))) (417 + i28) (((upd (cpR ms0_28 (0) (7)) (417 + i11) (((cpR ms0_28 (0) (7)) (417 + i11)) ^^^ ((nI 1) <<< ((nI i28) &&& 31)))) (417 + i28)) ^^^ ((nI 1) <<< ((nI i11) &&& 31))))))))) := hq
      refine lv_iload hx hb dX5_makesPeace_28 (lv_at hl 0 rfl) ?_
      refine lv_aload_n hx hb dX5_makesPeace_30 rfl (lv_at hl 4 rfl) ?_
      refine va_get (D := Γ.1) (ci := 5) (v := .ref (a 1)) (C := RX5) (T := TX5) (N := 10) hx hb hts hi5 hown hK hP 0 rfl rfl 0 (by decide) kf7 (fun _ h9 => h9) rfl dX5_makesPeace_31 ?_
      refine lv_iconst (v := (nI 1)) hx hb dX5_makesPeace_34 (by decide) ?_
      refine va_iald_n (f := ms0_28) hx hb hK hP 1 0 rfl rfl (by omega) (Nat.le_of_ble_eq_true rfl) dX5_makesPeace_35 ?_
      refine lv_eqi (y := (nI K)) (hv28) ?_
      refine lv_icmp_ge (tgt := 170) hx hb dX5_makesPeace_36 (by decide) (fun c_36 => absurd c_36 (nI_ge (by omega) (by omega))) (fun c_36 => ?_)
      refine lv_aload_n hx hb dX5_makesPeace_39 rfl (lv_at hl 4 rfl) ?_
      refine va_get (D := Γ.1) (ci := 5) (v := .ref (a 1)) (C := RX5) (T := TX5) (N := 10) hx hb hts hi5 hown hK hP 0 rfl rfl 0 (by decide) kf7 (fun _ h9 => h9) rfl dX5_makesPeace_40 ?_
      refine lv_bipush (v := (nI 11)) hx hb dX5_makesPeace_43 (by decide) ?_
      refine lv_iload hx hb dX5_makesPeace_45 (lv_at hl 1 rfl) ?_
      refine lv_iadd hx hb dX5_makesPeace_47 ?_
      refine lv_eqi (y := (nI (11 + i11))) (nI_add _ _) ?_
      refine va_iald_n (f := ms0_28) hx hb hK hP 1 0 rfl rfl (by omega) (Nat.le_of_ble_eq_true rfl) dX5_makesPeace_48 ?_
      refine lv_iload hx hb dX5_makesPeace_49 (lv_at hl 0 rfl) ?_
      refine cLI (va_runS (As := [.int (ms0_28 (11 + i11)), .int (nI i28)]) (rest := []) ⟨hx, hb, hml, hown, hts⟩ ((kX5_has l Γ (ms0_28 (11 + i11)) (nI i28)) _) (va_cwS 2 hts gX5_makesPeace_X5_has rfl rfl rfl (by decide +kernel) ⟨Nat.le_of_ble_eq_true rfl, Nat.le_of_ble_eq_true rfl⟩) ⟨wPre_blind, wPre_mk hP hD hK hS hA hAB hAm [] rfl rfl⟩ rfl rfl hl.1 rfl (lv_room (Nat.le_of_ble_eq_true rfl)) dX5_makesPeace_51 ⟨Nat.zero_le _, Nat.zero_le _⟩) hP hS hA (fun H locs hP hS => ?_)
      refine lv_if_eq (tgt := 164) hx hb dX5_makesPeace_54 (by decide) (fun c_1 => ?_) (fun c_1 => ?_)
      · have hq := hq.trans (if_pos c_1)
        refine lv_iinc (v := (nI (i28 + 1))) (lv' := [(5, .int (nI (i28 + 1))), (4, .int (nI i11)), (3, .int x3_28), (2, .int x2_28), (0, .ref (a 0)), (1, .int la)]) hx hb dX5_makesPeace_164 hl (k := 0) rfl (nI_1 _) (by decide) rfl (fun ls hl => ?_)
        refine lv_goto (tgt := 28) hx hb dX5_makesPeace_167 (by decide) ?_
        exact ih28 ((i28 + 1), x2_28, x3_28, ms0_28) H locs ls ⟨⟨by omega, by first | assumption | (simp only [upd]; rw [if_neg (by omega), if_neg (by omega), cpR_lt (by omega)]; assumption)⟩, hq, hP, hD, hS, lv_sub hl [0, 1, 2, 3, 4, 5] rfl⟩
      · have hq := hq.trans (if_neg c_1)
        refine lv_aload_n hx hb dX5_makesPeace_57 rfl (lv_at hl 4 rfl) ?_
        refine lv_iconst (v := (nI 0)) hx hb dX5_makesPeace_58 (by decide) ?_
        refine lv_iload hx hb dX5_makesPeace_59 (lv_at hl 1 rfl) ?_
        refine lv_iload hx hb dX5_makesPeace_61 (lv_at hl 0 rfl) ?_
        refine cLI (va_runV (As := [.int (nI 0), .int (nI i11), .int (nI i28)]) (rest := []) ⟨hx, hb, hml, hown, hts⟩ ((kX5_areAlive l Γ a ms0_28 mt mc md m0 m1 m2 m3 m4 m5 (0) (nI i11) (nI i28) (by first | assumption | omega)) _) (cwV 3 hts gX5_makesPeace_X5_areAlive rfl rfl rfl (by decide +kernel) ⟨Nat.le_of_ble_eq_true rfl, Nat.le_of_ble_eq_true rfl⟩) ⟨wPre_blind, va_recv hK hP (ci := 5) (q0 := 0) rfl rfl, wPre_mk hP hD hK hS hA hAB hAm [0] rfl rfl⟩ rfl rfl hl.1 rfl (lv_room (Nat.le_of_ble_eq_true rfl)) dX5_makesPeace_63 ⟨Nat.zero_le _, Nat.zero_le _⟩) hP hS hA (fun H locs hP hS => ?_)
        refine lv_if_eq (tgt := 164) hx hb dX5_makesPeace_66 (by decide) (fun c_2 => ?_) (fun c_2 => ?_)
        · have hq := hq.trans (if_pos c_2)
          refine lv_iinc (v := (nI (i28 + 1))) (lv' := [(5, .int (nI (i28 + 1))), (4, .int (nI i11)), (3, .int x3_28), (2, .int x2_28), (0, .ref (a 0)), (1, .int la)]) hx hb dX5_makesPeace_164 hl (k := 0) rfl (nI_1 _) (by decide) rfl (fun ls hl => ?_)
          refine lv_goto (tgt := 28) hx hb dX5_makesPeace_167 (by decide) ?_
          exact ih28 ((i28 + 1), x2_28, x3_28, ms0_28) H locs ls ⟨⟨by omega, by first | assumption | (simp only [upd]; rw [if_neg (by omega), if_neg (by omega), cpR_lt (by omega)]; assumption)⟩, hq, hP, hD, hS, lv_sub hl [0, 1, 2, 3, 4, 5] rfl⟩
        · have hq := hq.trans (if_neg c_2)
          refine lv_aload_n hx hb dX5_makesPeace_69 rfl (lv_at hl 4 rfl) ?_
          refine lv_iconst (v := (nI 0)) hx hb dX5_makesPeace_70 (by decide) ?_
          refine lv_bipush (v := (nI 7)) hx hb dX5_makesPeace_71 (by decide) ?_
          refine cMV (bc' := [moB Γ a (cpR ms0_28 (0) (7)) mt mc md m0 m1 m2 m3 m4 m5]) (va_runV (As := [.int (nI 0), .int (nI 7)]) (rest := []) ⟨hx, hb, hml, hown, hts⟩ ((nX5_copies l Γ a ms0_28 mt mc md m0 m1 m2 m3 m4 m5 (0) (7) (by first | assumption | omega) (by first | assumption | omega)) _) (cwV 2 hts gX5_makesPeace_X5_copies rfl rfl rfl (by decide +kernel) ⟨Nat.le_of_ble_eq_true rfl, Nat.le_of_ble_eq_true rfl⟩) ⟨wPre_blind, va_recv hK hP (ci := 5) (q0 := 0) rfl rfl, wPre_mk hP hD hK hS hA hAB hAm [0] rfl rfl⟩ rfl rfl hl.1 rfl (lv_room (Nat.le_of_ble_eq_true rfl)) dX5_makesPeace_73 ⟨Nat.zero_le _, Nat.zero_le _⟩) hP hD hS hA [0] rfl rfl (bs' := [moB Γ a (cpR ms0_28 (0) (7)) mt mc md m0 m1 m2 m3 m4 m5]) rfl (fun H locs hP hD hS => ?_)
          refine lv_sipush (v := (nI 406)) hx hb dX5_makesPeace_76 (by decide) ?_
          refine lv_istore (lv' := [(6, .int (nI 406)), (5, .int (nI i28)), (4, .int (nI i11)), (3, .int x3_28), (2, .int x2_28), (0, .ref (a 0)), (1, .int la)]) hx hb dX5_makesPeace_79 hl (by decide) rfl (fun ls hl => ?_)
          refine lv_aload_n hx hb dX5_makesPeace_81 rfl (lv_at hl 5 rfl) ?_
          refine va_get (D := Γ.1) (ci := 5) (v := .ref (a 1)) (C := RX5) (T := TX5) (N := 10) hx hb hts hi5 hown hK hP 0 rfl rfl 0 (by decide) kf7 (fun _ h9 => h9) rfl dX5_makesPeace_82 ?_
          refine lv_iload hx hb dX5_makesPeace_85 (lv_at hl 0 rfl) ?_
          refine lv_bipush (v := (nI 11)) hx hb dX5_makesPeace_87 (by decide) ?_
          refine lv_iadd hx hb dX5_makesPeace_89 ?_
          refine lv_eqi (y := (nI 417)) (by decide) ?_
          refine lv_iload hx hb dX5_makesPeace_90 (lv_at hl 2 rfl) ?_
          refine lv_iadd hx hb dX5_makesPeace_92 ?_
          refine lv_eqi (y := (nI (417 + i11))) (nI_add _ _) ?_
          refine lv_dup2_11 hx hb dX5_makesPeace_93 rfl rfl ?_
          refine va_iald_n (f := (cpR ms0_28 (0) (7))) hx hb hK hP 1 0 rfl rfl (by omega) (Nat.le_of_ble_eq_true rfl) dX5_makesPeace_94 ?_
          refine lv_iconst (v := (nI 1)) hx hb dX5_makesPeace_95 (by decide) ?_
          refine lv_iload hx hb dX5_makesPeace_96 (lv_at hl 1 rfl) ?_
          refine lv_ishl hx hb dX5_makesPeace_98 ?_
          refine lv_ixor hx hb dX5_makesPeace_99 ?_
          refine va_iast_n (f := (cpR ms0_28 (0) (7))) hx hb hK hP hD hS 1 0 rfl rfl (by omega) (Nat.le_of_ble_eq_true rfl) dX5_makesPeace_100 (fun H locs hP hD hS => ?_)
          have hP : va_P Γ.1 vwCl (wcat [moB Γ a (upd (cpR ms0_28 (0) (7)) (417 + i11) (((cpR ms0_28 (0) (7)) (417 + i11)) ^^^ ((nI 1) <<< ((nI i28) &&& 31)))) mt mc md m0 m1 m2 m3 m4 m5]) H := hP
          have hD : va_D A (wcat [moB Γ a (upd (cpR ms0_28 (0) (7)) (417 + i11) (((cpR ms0_28 (0) (7)) (417 + i11)) ^^^ ((nI 1) <<< ((nI i28) &&& 31)))) mt mc md m0 m1 m2 m3 m4 m5]) := hD
          refine lv_aload_n hx hb dX5_makesPeace_101 rfl (lv_at hl 5 rfl) ?_
          refine va_get (D := Γ.1) (ci := 5) (v := .ref (a 1)) (C := RX5) (T := TX5) (N := 10) hx hb hts hi5 hown hK hP 0 rfl rfl 0 (by decide) kf7 (fun _ h9 => h9) rfl dX5_makesPeace_102 ?_
          refine lv_iload hx hb dX5_makesPeace_105 (lv_at hl 0 rfl) ?_
          refine lv_bipush (v := (nI 11)) hx hb dX5_makesPeace_107 (by decide) ?_
          refine lv_iadd hx hb dX5_makesPeace_109 ?_
          refine lv_eqi (y := (nI 417)) (by decide) ?_
          refine lv_iload hx hb dX5_makesPeace_110 (lv_at hl 1 rfl) ?_
          refine lv_iadd hx hb dX5_makesPeace_112 ?_
          refine lv_eqi (y := (nI (417 + i28))) (nI_add _ _) ?_
          refine lv_dup2_11 hx hb dX5_makesPeace_113 rfl rfl ?_
          refine va_iald_n (f := (upd (cpR ms0_28 (0) (7)) (417 + i11) (((cpR ms0_28 (0) (7)) (417 + i11)) ^^^ ((nI 1) <<< ((nI i28) &&& 31))))) hx hb hK hP 1 0 rfl rfl (by omega) (Nat.le_of_ble_eq_true rfl) dX5_makesPeace_114 ?_
          refine lv_iconst (v := (nI 1)) hx hb dX5_makesPeace_115 (by decide) ?_
          refine lv_iload hx hb dX5_makesPeace_116 (lv_at hl 2 rfl) ?_
          refine lv_ishl hx hb dX5_makesPeace_118 ?_
          refine lv_ixor hx hb dX5_makesPeace_119 ?_
          refine va_iast_n (f := (upd (cpR ms0_28 (0) (7)) (417 + i11) (((cpR ms0_28 (0) (7)) (417 + i11)) ^^^ ((nI 1) <<< ((nI i28) &&& 31))))) hx hb hK hP hD hS 1 0 rfl rfl (by omega) (Nat.le_of_ble_eq_true rfl) dX5_makesPeace_120 (fun H locs hP hD hS => ?_)
          have hP : va_P Γ.1 vwCl (wcat [moB Γ a (upd (upd (cpR ms0_28 (0) (7)) (417 + i11) (((cpR ms0_28 (0) (7)) (417 + i11)) ^^^ ((nI 1) <<< ((nI i28) &&& 31)))) (417 + i28) (((upd (cpR ms0_28 (0) (7)) (417 + i11) (((cpR ms0_28 (0) (7)) (417 + i11)) ^^^ ((nI 1) <<< ((nI i28) &&& 31)))) (417 + i28)) ^^^ ((nI 1) <<< ((nI i11) &&& 31)))) mt mc md m0 m1 m2 m3 m4 m5]) H := hP
          have hD : va_D A (wcat [moB Γ a (upd (upd (cpR ms0_28 (0) (7)) (417 + i11) (((cpR ms0_28 (0) (7)) (417 + i11)) ^^^ ((nI 1) <<< ((nI i28) &&& 31)))) (417 + i28) (((upd (cpR ms0_28 (0) (7)) (417 + i11) (((cpR ms0_28 (0) (7)) (417 + i11)) ^^^ ((nI 1) <<< ((nI i28) &&& 31)))) (417 + i28)) ^^^ ((nI 1) <<< ((nI i11) &&& 31)))) mt mc md m0 m1 m2 m3 m4 m5]) := hD
          refine lv_aload_n hx hb dX5_makesPeace_121 rfl (lv_at hl 5 rfl) ?_
          refine lv_iload hx hb dX5_makesPeace_122 (lv_at hl 0 rfl) ?_
          refine cLI (va_runV (As := [.int (nI 406)]) (rest := []) ⟨hx, hb, hml, hown, hts⟩ ((kX5_groupsOf l Γ a (upd (upd (cpR ms0_28 (0) (7)) (417 + i11) (((cpR ms0_28 (0) (7)) (417 + i11)) ^^^ ((nI 1) <<< ((nI i28) &&& 31)))) (417 + i28) (((upd (cpR ms0_28 (0) (7)) (417 + i11) (((cpR ms0_28 (0) (7)) (417 + i11)) ^^^ ((nI 1) <<< ((nI i28) &&& 31)))) (417 + i28)) ^^^ ((nI 1) <<< ((nI i11) &&& 31)))) mt mc md m0 m1 m2 m3 m4 m5 (406) (by first | assumption | omega)) _) (cwV 1 hts gX5_makesPeace_X5_groupsOf rfl rfl rfl (by decide +kernel) ⟨Nat.le_of_ble_eq_true rfl, Nat.le_of_ble_eq_true rfl⟩) ⟨wPre_blind, va_recv hK hP (ci := 5) (q0 := 0) rfl rfl, wPre_mk hP hD hK hS hA hAB hAm [0] rfl rfl⟩ rfl rfl hl.1 rfl (lv_room (Nat.le_of_ble_eq_true rfl)) dX5_makesPeace_124 ⟨Nat.zero_le _, Nat.zero_le _⟩) hP hS hA (fun H locs hP hS => ?_)
          refine lv_istore (lv' := [(7, .int (fX5_groupsOf (upd (upd (cpR ms0_28 (0) (7)) (417 + i11) (((cpR ms0_28 (0) (7)) (417 + i11)) ^^^ ((nI 1) <<< ((nI i28) &&& 31)))) (417 + i28) (((upd (cpR ms0_28 (0) (7)) (417 + i11) (((cpR ms0_28 (0) (7)) (417 + i11)) ^^^ ((nI 1) <<< ((nI i28) &&& 31)))) (417 + i28)) ^^^ ((nI 1) <<< ((nI i11) &&& 31)))) (406))), (6, .int (nI 406)), (5, .int (nI i28)), (4, .int (nI i11)), (3, .int x3_28), (2, .int x2_28), (0, .ref (a 0)), (1, .int la)]) hx hb dX5_makesPeace_127 hl (by decide) rfl (fun ls hl => ?_)
          refine lv_iload hx hb dX5_makesPeace_129 (lv_at hl 0 rfl) ?_
          refine lv_iload_n hx hb dX5_makesPeace_131 rfl (lv_at hl 4 rfl) ?_
          refine lv_icmp_le (tgt := 149) hx hb dX5_makesPeace_132 (by decide) (fun c_3 => ?_) (fun c_3 => ?_)
          · have hq := hq.trans (if_pos c_3)
            refine lv_iload_n hx hb dX5_makesPeace_149 rfl (lv_at hl 5 rfl) ?_
            refine lv_istore_n (lv' := [(2, .int x2_28), (7, .int (fX5_groupsOf (upd (upd (cpR ms0_28 (0) (7)) (417 + i11) (((cpR ms0_28 (0) (7)) (417 + i11)) ^^^ ((nI 1) <<< ((nI i28) &&& 31)))) (417 + i28) (((upd (cpR ms0_28 (0) (7)) (417 + i11) (((cpR ms0_28 (0) (7)) (417 + i11)) ^^^ ((nI 1) <<< ((nI i28) &&& 31)))) (417 + i28)) ^^^ ((nI 1) <<< ((nI i11) &&& 31)))) (406))), (6, .int (nI 406)), (5, .int (nI i28)), (4, .int (nI i11)), (3, .int x3_28), (0, .ref (a 0)), (1, .int la)]) hx hb dX5_makesPeace_150 rfl hl (by decide) rfl (fun ls hl => ?_)
            refine lv_iload hx hb dX5_makesPeace_151 (lv_at hl 1 rfl) ?_
            refine lv_iload_n hx hb dX5_makesPeace_153 rfl (lv_at hl 5 rfl) ?_
            refine lv_icmp_le (tgt := 162) hx hb dX5_makesPeace_154 (by decide) (fun c_154 => ?_) (fun c_154 => absurd c_3 c_154)
            refine lv_iload_n hx hb dX5_makesPeace_162 rfl (lv_at hl 5 rfl) ?_
            refine lv_istore_n (lv' := [(3, .int x3_28), (2, .int x2_28), (7, .int (fX5_groupsOf (upd (upd (cpR ms0_28 (0) (7)) (417 + i11) (((cpR ms0_28 (0) (7)) (417 + i11)) ^^^ ((nI 1) <<< ((nI i28) &&& 31)))) (417 + i28) (((upd (cpR ms0_28 (0) (7)) (417 + i11) (((cpR ms0_28 (0) (7)) (417 + i11)) ^^^ ((nI 1) <<< ((nI i28) &&& 31)))) (417 + i28)) ^^^ ((nI 1) <<< ((nI i11) &&& 31)))) (406))), (6, .int (nI 406)), (5, .int (nI i28)), (4, .int (nI i11)), (0, .ref (a 0)), (1, .int la)]) hx hb dX5_makesPeace_163 rfl hl (by decide) rfl (fun ls hl => ?_)
            refine lv_iinc (v := (nI (i28 + 1))) (lv' := [(5, .int (nI (i28 + 1))), (3, .int x3_28), (2, .int x2_28), (7, .int (fX5_groupsOf (upd (upd (cpR ms0_28 (0) (7)) (417 + i11) (((cpR ms0_28 (0) (7)) (417 + i11)) ^^^ ((nI 1) <<< ((nI i28) &&& 31)))) (417 + i28) (((upd (cpR ms0_28 (0) (7)) (417 + i11) (((cpR ms0_28 (0) (7)) (417 + i11)) ^^^ ((nI 1) <<< ((nI i28) &&& 31)))) (417 + i28)) ^^^ ((nI 1) <<< ((nI i11) &&& 31)))) (406))), (6, .int (nI 406)), (4, .int (nI i11)), (0, .ref (a 0)), (1, .int la)]) hx hb dX5_makesPeace_164 hl (k := 4) rfl (nI_1 _) (by decide) rfl (fun ls hl => ?_)
            refine lv_goto (tgt := 28) hx hb dX5_makesPeace_167 (by decide) ?_
            exact ih28 ((i28 + 1), x2_28, x3_28, (upd (upd (cpR ms0_28 (0) (7)) (417 + i11) (((cpR ms0_28 (0) (7)) (417 + i11)) ^^^ ((nI 1) <<< ((nI i28) &&& 31)))) (417 + i28) (((upd (cpR ms0_28 (0) (7)) (417 + i11) (((cpR ms0_28 (0) (7)) (417 + i11)) ^^^ ((nI 1) <<< ((nI i28) &&& 31)))) (417 + i28)) ^^^ ((nI 1) <<< ((nI i11) &&& 31))))) H locs ls ⟨⟨by omega, by first | assumption | (simp only [upd]; rw [if_neg (by omega), if_neg (by omega), cpR_lt (by omega)]; assumption)⟩, hq, hP, hD, hS, lv_sub hl [0, 5, 1, 2, 6, 7] rfl⟩
          · have hq := hq.trans (if_neg c_3)
            refine lv_iload_n hx hb dX5_makesPeace_135 rfl (lv_at hl 7 rfl) ?_
            refine lv_if_eq (tgt := 144) hx hb dX5_makesPeace_136 (by decide) (fun c_4 => ?_) (fun c_4 => ?_)
            · have hq := hq.trans (if_pos c_4)
              refine lv_iload hx hb dX5_makesPeace_144 (lv_at hl 3 rfl) ?_
              refine lv_goto (tgt := 150) hx hb dX5_makesPeace_146 (by decide) ?_
              refine lv_istore_n (lv' := [(2, .int (nI i11)), (7, .int (fX5_groupsOf (upd (upd (cpR ms0_28 (0) (7)) (417 + i11) (((cpR ms0_28 (0) (7)) (417 + i11)) ^^^ ((nI 1) <<< ((nI i28) &&& 31)))) (417 + i28) (((upd (cpR ms0_28 (0) (7)) (417 + i11) (((cpR ms0_28 (0) (7)) (417 + i11)) ^^^ ((nI 1) <<< ((nI i28) &&& 31)))) (417 + i28)) ^^^ ((nI 1) <<< ((nI i11) &&& 31)))) (406))), (6, .int (nI 406)), (5, .int (nI i28)), (4, .int (nI i11)), (3, .int x3_28), (0, .ref (a 0)), (1, .int la)]) hx hb dX5_makesPeace_150 rfl hl (by decide) rfl (fun ls hl => ?_)
              refine lv_iload hx hb dX5_makesPeace_151 (lv_at hl 1 rfl) ?_
              refine lv_iload_n hx hb dX5_makesPeace_153 rfl (lv_at hl 5 rfl) ?_
              refine lv_icmp_le (tgt := 162) hx hb dX5_makesPeace_154 (by decide) (fun c_154 => absurd c_154 c_3) (fun c_154 => ?_)
              refine lv_iload hx hb dX5_makesPeace_157 (lv_at hl 1 rfl) ?_
              refine lv_goto (tgt := 163) hx hb dX5_makesPeace_159 (by decide) ?_
              refine lv_istore_n (lv' := [(3, .int (fX5_groupsOf (upd (upd (cpR ms0_28 (0) (7)) (417 + i11) (((cpR ms0_28 (0) (7)) (417 + i11)) ^^^ ((nI 1) <<< ((nI i28) &&& 31)))) (417 + i28) (((upd (cpR ms0_28 (0) (7)) (417 + i11) (((cpR ms0_28 (0) (7)) (417 + i11)) ^^^ ((nI 1) <<< ((nI i28) &&& 31)))) (417 + i28)) ^^^ ((nI 1) <<< ((nI i11) &&& 31)))) (406))), (2, .int (nI i11)), (7, .int (fX5_groupsOf (upd (upd (cpR ms0_28 (0) (7)) (417 + i11) (((cpR ms0_28 (0) (7)) (417 + i11)) ^^^ ((nI 1) <<< ((nI i28) &&& 31)))) (417 + i28) (((upd (cpR ms0_28 (0) (7)) (417 + i11) (((cpR ms0_28 (0) (7)) (417 + i11)) ^^^ ((nI 1) <<< ((nI i28) &&& 31)))) (417 + i28)) ^^^ ((nI 1) <<< ((nI i11) &&& 31)))) (406))), (6, .int (nI 406)), (5, .int (nI i28)), (4, .int (nI i11)), (0, .ref (a 0)), (1, .int la)]) hx hb dX5_makesPeace_163 rfl hl (by decide) rfl (fun ls hl => ?_)
              refine lv_iinc (v := (nI (i28 + 1))) (lv' := [(5, .int (nI (i28 + 1))), (3, .int (fX5_groupsOf (upd (upd (cpR ms0_28 (0) (7)) (417 + i11) (((cpR ms0_28 (0) (7)) (417 + i11)) ^^^ ((nI 1) <<< ((nI i28) &&& 31)))) (417 + i28) (((upd (cpR ms0_28 (0) (7)) (417 + i11) (((cpR ms0_28 (0) (7)) (417 + i11)) ^^^ ((nI 1) <<< ((nI i28) &&& 31)))) (417 + i28)) ^^^ ((nI 1) <<< ((nI i11) &&& 31)))) (406))), (2, .int (nI i11)), (7, .int (fX5_groupsOf (upd (upd (cpR ms0_28 (0) (7)) (417 + i11) (((cpR ms0_28 (0) (7)) (417 + i11)) ^^^ ((nI 1) <<< ((nI i28) &&& 31)))) (417 + i28) (((upd (cpR ms0_28 (0) (7)) (417 + i11) (((cpR ms0_28 (0) (7)) (417 + i11)) ^^^ ((nI 1) <<< ((nI i28) &&& 31)))) (417 + i28)) ^^^ ((nI 1) <<< ((nI i11) &&& 31)))) (406))), (6, .int (nI 406)), (4, .int (nI i11)), (0, .ref (a 0)), (1, .int la)]) hx hb dX5_makesPeace_164 hl (k := 4) rfl (nI_1 _) (by decide) rfl (fun ls hl => ?_)
              refine lv_goto (tgt := 28) hx hb dX5_makesPeace_167 (by decide) ?_
              exact ih28 ((i28 + 1), (nI i11), (fX5_groupsOf (upd (upd (cpR ms0_28 (0) (7)) (417 + i11) (((cpR ms0_28 (0) (7)) (417 + i11)) ^^^ ((nI 1) <<< ((nI i28) &&& 31)))) (417 + i28) (((upd (cpR ms0_28 (0) (7)) (417 + i11) (((cpR ms0_28 (0) (7)) (417 + i11)) ^^^ ((nI 1) <<< ((nI i28) &&& 31)))) (417 + i28)) ^^^ ((nI 1) <<< ((nI i11) &&& 31)))) (406)), (upd (upd (cpR ms0_28 (0) (7)) (417 + i11) (((cpR ms0_28 (0) (7)) (417 + i11)) ^^^ ((nI 1) <<< ((nI i28) &&& 31)))) (417 + i28) (((upd (cpR ms0_28 (0) (7)) (417 + i11) (((cpR ms0_28 (0) (7)) (417 + i11)) ^^^ ((nI 1) <<< ((nI i28) &&& 31)))) (417 + i28)) ^^^ ((nI 1) <<< ((nI i11) &&& 31))))) H locs ls ⟨⟨by omega, by first | assumption | (simp only [upd]; rw [if_neg (by omega), if_neg (by omega), cpR_lt (by omega)]; assumption)⟩, hq, hP, hD, hS, lv_sub hl [0, 5, 1, 2, 6, 7] rfl⟩
            · have hq := hq.trans (if_neg c_4)
              refine lv_iload hx hb dX5_makesPeace_139 (lv_at hl 2 rfl) ?_
              refine lv_goto (tgt := 150) hx hb dX5_makesPeace_141 (by decide) ?_
              refine lv_istore_n (lv' := [(2, .int (nI i28)), (7, .int (fX5_groupsOf (upd (upd (cpR ms0_28 (0) (7)) (417 + i11) (((cpR ms0_28 (0) (7)) (417 + i11)) ^^^ ((nI 1) <<< ((nI i28) &&& 31)))) (417 + i28) (((upd (cpR ms0_28 (0) (7)) (417 + i11) (((cpR ms0_28 (0) (7)) (417 + i11)) ^^^ ((nI 1) <<< ((nI i28) &&& 31)))) (417 + i28)) ^^^ ((nI 1) <<< ((nI i11) &&& 31)))) (406))), (6, .int (nI 406)), (5, .int (nI i28)), (4, .int (nI i11)), (3, .int x3_28), (0, .ref (a 0)), (1, .int la)]) hx hb dX5_makesPeace_150 rfl hl (by decide) rfl (fun ls hl => ?_)
              refine lv_iload hx hb dX5_makesPeace_151 (lv_at hl 1 rfl) ?_
              refine lv_iload_n hx hb dX5_makesPeace_153 rfl (lv_at hl 5 rfl) ?_
              refine lv_icmp_le (tgt := 162) hx hb dX5_makesPeace_154 (by decide) (fun c_154 => absurd c_154 c_3) (fun c_154 => ?_)
              refine lv_iload hx hb dX5_makesPeace_157 (lv_at hl 1 rfl) ?_
              refine lv_goto (tgt := 163) hx hb dX5_makesPeace_159 (by decide) ?_
              refine lv_istore_n (lv' := [(3, .int (fX5_groupsOf (upd (upd (cpR ms0_28 (0) (7)) (417 + i11) (((cpR ms0_28 (0) (7)) (417 + i11)) ^^^ ((nI 1) <<< ((nI i28) &&& 31)))) (417 + i28) (((upd (cpR ms0_28 (0) (7)) (417 + i11) (((cpR ms0_28 (0) (7)) (417 + i11)) ^^^ ((nI 1) <<< ((nI i28) &&& 31)))) (417 + i28)) ^^^ ((nI 1) <<< ((nI i11) &&& 31)))) (406))), (2, .int (nI i28)), (7, .int (fX5_groupsOf (upd (upd (cpR ms0_28 (0) (7)) (417 + i11) (((cpR ms0_28 (0) (7)) (417 + i11)) ^^^ ((nI 1) <<< ((nI i28) &&& 31)))) (417 + i28) (((upd (cpR ms0_28 (0) (7)) (417 + i11) (((cpR ms0_28 (0) (7)) (417 + i11)) ^^^ ((nI 1) <<< ((nI i28) &&& 31)))) (417 + i28)) ^^^ ((nI 1) <<< ((nI i11) &&& 31)))) (406))), (6, .int (nI 406)), (5, .int (nI i28)), (4, .int (nI i11)), (0, .ref (a 0)), (1, .int la)]) hx hb dX5_makesPeace_163 rfl hl (by decide) rfl (fun ls hl => ?_)
              refine lv_iinc (v := (nI (i28 + 1))) (lv' := [(5, .int (nI (i28 + 1))), (3, .int (fX5_groupsOf (upd (upd (cpR ms0_28 (0) (7)) (417 + i11) (((cpR ms0_28 (0) (7)) (417 + i11)) ^^^ ((nI 1) <<< ((nI i28) &&& 31)))) (417 + i28) (((upd (cpR ms0_28 (0) (7)) (417 + i11) (((cpR ms0_28 (0) (7)) (417 + i11)) ^^^ ((nI 1) <<< ((nI i28) &&& 31)))) (417 + i28)) ^^^ ((nI 1) <<< ((nI i11) &&& 31)))) (406))), (2, .int (nI i28)), (7, .int (fX5_groupsOf (upd (upd (cpR ms0_28 (0) (7)) (417 + i11) (((cpR ms0_28 (0) (7)) (417 + i11)) ^^^ ((nI 1) <<< ((nI i28) &&& 31)))) (417 + i28) (((upd (cpR ms0_28 (0) (7)) (417 + i11) (((cpR ms0_28 (0) (7)) (417 + i11)) ^^^ ((nI 1) <<< ((nI i28) &&& 31)))) (417 + i28)) ^^^ ((nI 1) <<< ((nI i11) &&& 31)))) (406))), (6, .int (nI 406)), (4, .int (nI i11)), (0, .ref (a 0)), (1, .int la)]) hx hb dX5_makesPeace_164 hl (k := 4) rfl (nI_1 _) (by decide) rfl (fun ls hl => ?_)
              refine lv_goto (tgt := 28) hx hb dX5_makesPeace_167 (by decide) ?_
              exact ih28 ((i28 + 1), (nI i28), (fX5_groupsOf (upd (upd (cpR ms0_28 (0) (7)) (417 + i11) (((cpR ms0_28 (0) (7)) (417 + i11)) ^^^ ((nI 1) <<< ((nI i28) &&& 31)))) (417 + i28) (((upd (cpR ms0_28 (0) (7)) (417 + i11) (((cpR ms0_28 (0) (7)) (417 + i11)) ^^^ ((nI 1) <<< ((nI i28) &&& 31)))) (417 + i28)) ^^^ ((nI 1) <<< ((nI i11) &&& 31)))) (406)), (upd (upd (cpR ms0_28 (0) (7)) (417 + i11) (((cpR ms0_28 (0) (7)) (417 + i11)) ^^^ ((nI 1) <<< ((nI i28) &&& 31)))) (417 + i28) (((upd (cpR ms0_28 (0) (7)) (417 + i11) (((cpR ms0_28 (0) (7)) (417 + i11)) ^^^ ((nI 1) <<< ((nI i28) &&& 31)))) (417 + i28)) ^^^ ((nI 1) <<< ((nI i11) &&& 31))))) H locs ls ⟨⟨by omega, by first | assumption | (simp only [upd]; rw [if_neg (by omega), if_neg (by omega), cpR_lt (by omega)]; assumption)⟩, hq, hP, hD, hS, lv_sub hl [0, 5, 1, 2, 6, 7] rfl⟩
def fX5_peace (K : Nat) (ms : (Nat → Int32)) (la : Int32) : Int32 × (Nat → Int32) × Int32 := ((fX5_makesPeace K ms la).1, (fX5_makesPeace K ms la).2, (nI 0))
set_option maxHeartbeats 4000000 in
set_option maxRecDepth 100000 in
theorem kX5_peace (l : Launch) (Γ : wG) (a : Nat → Nat) (K : Nat) (ms : (Nat → Int32)) (mt : (Nat → Int32)) (mc : (Nat → Int32)) (md : (Nat → Int32)) (m0 : Int32) (m1 : Int32) (m2 : Int32) (m3 : Int32) (m4 : Int32) (m5 : Int32) (la : Int32) (hMK : ms 1 = nI K) (hK8 : K ≤ 8) : MI l Γ yX5_peace wsX5_peace ({ frames := 6, cells := 0, slots := 0, locals := 147 }) [.ref (a 0), .int la] [moB Γ a ms mt mc md m0 m1 m2 m3 m4 m5] [moB Γ a (fX5_peace K ms la).2.1 mt mc md m0 (fX5_peace K ms la).2.2 m2 m3 m4 m5] (fX5_peace K ms la).1 := by
  intro sz
  refine Met.ofW (cc := cX5_peace) (maxL := 2) (ret := (some .int)) (by decide) rfl ?_
  intro p e s m args below meth c s₁ B hml hv
  obtain ⟨rfl, hsz, hP, hK, hD0, hAm⟩ := hv
  have hx := B.exec
  have hb := B.bytes
  have hr := B.returns
  have hts := atoms_spec (ws := wsX5_peace) B.pre
  have hown : s.vm.findClass RX5 = some m.cls := findClass_of_methodNamed B.named
  have hlocks := B.notSynchronized
  subst hsz
  have hD := hD0.self (sz := s.heap.size)
  generalize hAe : va_A (wcat [moB Γ a ms mt mc md m0 m1 m2 m3 m4 m5]) s.heap.size = A at hD hAm ⊢
  have hA : ∀ q : Nat, s.heap.size ≤ q → A q := fun q h => by rw [← hAe]; exact Or.inr h
  have hAB : ∀ q : Nat, A q → A q := fun _ h => h
  have hS : va_S A s.heap s.heap [] := va_S.rf
  have hl := lv_entry ([.ref (a 0), .int la]) (n := 2) (Nat.le_of_ble_eq_true rfl)
  rw [lg_entry_eq]
  generalize (lg_sl ([.ref (a 0), .int la]) ++ List.replicate (2 - (lg_sl ([.ref (a 0), .int la])).length) Slot.unset).toArray = ls at hl ⊢
  have hl : lv_has ls 2 [(0, .ref (a 0)), (1, .int la)] := hl
  have hi5 : ∀ w ∈ wsX50, w ∈ wsX5_peace := by decide +kernel
  have kf23 := hts (.fieldLink RX5 23 "CapsuleKeepersModel" "thrown" "I") (by decide +kernel)
  have hq : (fX5_peace K ms la) = ((fX5_makesPeace K ms la).1, (fX5_makesPeace K ms la).2, (nI 0)) := rfl
  refine lv_aload_n hx hb dX5_peace_0 rfl (lv_at hl 0 rfl) ?_
  refine lv_iconst (v := (nI 0)) hx hb dX5_peace_1 (by decide) ?_
  refine va_put (D := Γ.1) (ci := 5) (v := .int (nI 0)) (ty := .int) (C := RX5) (T := TX5) (N := 10) hx hb hts hi5 tyX5 tyX5_ok nmX5 hown hK hP hD hS 0 rfl rfl 2 (by decide) kf23 (fun _ h9 => h9) rfl (by decide +kernel) rfl rfl (Nat.le_of_ble_eq_true rfl) dX5_peace_2 (fun H locs hP hD hS => ?_)
  have hP : va_P Γ.1 vwCl (wcat [moB Γ a ms mt mc md m0 (nI 0) m2 m3 m4 m5]) H := hP
  have hD : va_D A (wcat [moB Γ a ms mt mc md m0 (nI 0) m2 m3 m4 m5]) := hD
  refine lv_aload_n hx hb dX5_peace_5 rfl (lv_at hl 0 rfl) ?_
  refine lv_iload_n hx hb dX5_peace_6 rfl (lv_at hl 1 rfl) ?_
  refine cMI (bc' := [moB Γ a (fX5_makesPeace K ms la).2 mt mc md m0 (nI 0) m2 m3 m4 m5]) (va_runV (As := [.int la]) (rest := []) ⟨hx, hb, hml, hown, hts⟩ ((kX5_makesPeace l Γ a K ms mt mc md m0 (nI 0) m2 m3 m4 m5 la (by first | assumption | omega) (by first | assumption | omega)) _) (cwV 1 hts gX5_peace_X5_makesPeace rfl rfl rfl (by decide +kernel) ⟨Nat.le_of_ble_eq_true rfl, Nat.le_of_ble_eq_true rfl⟩) ⟨wPre_blind, va_recv hK hP (ci := 5) (q0 := 0) rfl rfl, wPre_mk hP hD hK hS hA hAB hAm [0] rfl rfl⟩ rfl rfl hl.1 rfl (lv_room (Nat.le_of_ble_eq_true rfl)) dX5_peace_7 ⟨Nat.zero_le _, Nat.zero_le _⟩) hP hD hS hA [0] rfl rfl (bs' := [moB Γ a (fX5_makesPeace K ms la).2 mt mc md m0 (nI 0) m2 m3 m4 m5]) rfl (fun H locs hP hD hS => ?_)
  exact W.iret (v := (fX5_makesPeace K ms la).1) hx hb hr (fun t ht hW => eMI (by rw [hq]; exact hP) hS ht (by rw [hq])) hS.2.2 dX5_peace_10
def fX5_firsts_L6 (ms : (Nat → Int32)) : Nat → Nat → Nat → Nat → UInt64
  | 0, i6, y1_6, y2_6 => (if (nI y1_6) = 0 then (FP.dconst1) else ((FP.ddiv (FP.i2d (nI y2_6)) (FP.i2d (nI y1_6)))))
  | n6 + 1, i6, y1_6, y2_6 => (if (ms (40 + i6)) < 0 then (if (ms (40 + i6)) = (nI i6) then (fX5_firsts_L6 ms n6 (i6 + 1) (y1_6 + 0) (y2_6 + 1)) else (fX5_firsts_L6 ms n6 (i6 + 1) (y1_6 + 0) (y2_6 + 0))) else (if (ms (40 + i6)) = (nI i6) then (fX5_firsts_L6 ms n6 (i6 + 1) (y1_6 + 1) (y2_6 + 1)) else (fX5_firsts_L6 ms n6 (i6 + 1) (y1_6 + 1) (y2_6 + 0))))
def fX5_firsts (ms : (Nat → Int32)) : UInt64 := (fX5_firsts_L6 ms (8) 0 0 0)
set_option maxHeartbeats 4000000 in
set_option maxRecDepth 100000 in
theorem kX5_firsts (l : Launch) (Γ : wG) (a : Nat → Nat) (ms : (Nat → Int32)) (mt : (Nat → Int32)) (mc : (Nat → Int32)) (md : (Nat → Int32)) (m0 : Int32) (m1 : Int32) (m2 : Int32) (m3 : Int32) (m4 : Int32) (m5 : Int32) : LD l Γ yX5_firsts wsX5_firsts ({ frames := 0, cells := 0, slots := 0, locals := 0 }) [.ref (a 0)] [moB Γ a ms mt mc md m0 m1 m2 m3 m4 m5] (fX5_firsts ms) := by
  intro sz
  refine Met.ofW (cc := cX5_firsts) (maxL := 4) (ret := (some .double)) (by decide) rfl ?_
  intro p e s m args below meth c s₁ B hml hv
  obtain ⟨rfl, hsz, hP, hK, hD0, hAm⟩ := hv
  have hx := B.exec
  have hb := B.bytes
  have hr := B.returns
  have hts := atoms_spec (ws := wsX5_firsts) B.pre
  have hown : s.vm.findClass RX5 = some m.cls := findClass_of_methodNamed B.named
  have hlocks := B.notSynchronized
  subst hsz
  have hD := hD0.self (sz := s.heap.size)
  generalize hBe : va_A (wcat [moB Γ a ms mt mc md m0 m1 m2 m3 m4 m5]) s.heap.size = B0 at hD hAm
  obtain ⟨A, hAe⟩ : ∃ A, A = va_A [] s.heap.size := ⟨_, rfl⟩
  rw [← hAe]
  have hA : ∀ q : Nat, s.heap.size ≤ q → A q := fun q h => by rw [hAe]; exact Or.inr h
  have hAB : ∀ q : Nat, A q → B0 q := fun q h => by rw [hAe] at h; rw [← hBe]; exact Or.inr (wnone h)
  have hS : va_S A s.heap s.heap [] := va_S.rf
  have hl := lv_entry ([.ref (a 0)]) (n := 4) (Nat.le_of_ble_eq_true rfl)
  rw [lg_entry_eq]
  generalize (lg_sl ([.ref (a 0)]) ++ List.replicate (4 - (lg_sl ([.ref (a 0)])).length) Slot.unset).toArray = ls at hl ⊢
  have hl : lv_has ls 4 [(0, .ref (a 0))] := hl
  have hi5 : ∀ w ∈ wsX50, w ∈ wsX5_firsts := by decide +kernel
  have kf7 := hts (.fieldLink RX5 7 "CapsuleKeepersModel" "s" "[I") (by decide +kernel)
  have hq : (fX5_firsts ms) = (fX5_firsts_L6 ms (8) 0 0 0) := rfl
  refine lv_iconst (v := (nI 0)) hx hb dX5_firsts_0 (by decide) ?_
  refine lv_istore_n (lv' := [(1, .int (nI 0)), (0, .ref (a 0))]) hx hb dX5_firsts_1 rfl hl (by decide) rfl (fun ls hl => ?_)
  refine lv_iconst (v := (nI 0)) hx hb dX5_firsts_2 (by decide) ?_
  refine lv_istore_n (lv' := [(2, .int (nI 0)), (1, .int (nI 0)), (0, .ref (a 0))]) hx hb dX5_firsts_3 rfl hl (by decide) rfl (fun ls hl => ?_)
  refine lv_iconst (v := (nI 0)) hx hb dX5_firsts_4 (by decide) ?_
  refine lv_istore_n (lv' := [(3, .int (nI 0)), (2, .int (nI 0)), (1, .int (nI 0)), (0, .ref (a 0))]) hx hb dX5_firsts_5 rfl hl (by decide) rfl (fun ls hl => ?_)
  refine wl (pc := 6) (σ := Nat × Nat × Nat) (fun n (i6, y1_6, y2_6) H locs ls => (i6 + n = 8 ∧ y1_6 ≤ i6 ∧ y2_6 ≤ i6) ∧ (fX5_firsts ms) = fX5_firsts_L6 ms n i6 y1_6 y2_6 ∧ va_P Γ.1 vwCl (wcat [moB Γ a ms mt mc md m0 m1 m2 m3 m4 m5]) H ∧ va_S A s.heap H locs ∧ lv_has ls 4 [(3, .int (nI i6)), (2, .int (nI y2_6)), (1, .int (nI y1_6)), (0, .ref (a 0))]) ?_ ?_ (8) (0, 0, 0) _ _ _ ⟨⟨by omega, by omega, by omega⟩, hq, hP, hS, lv_sub hl [0, 1, 2, 3] rfl⟩
  · intro ⟨i6, y1_6, y2_6⟩ H locs ls h
    obtain ⟨hn6, hq, hP, hS, hl⟩ := h
    try dsimp only at hn6 hq hP hl
    obtain ⟨hn6, hy1, hy2⟩ := hn6
    replace hq : (fX5_firsts ms) = (if (nI y1_6) = 0 then (FP.dconst1) else ((FP.ddiv (FP.i2d (nI y2_6)) (FP.i2d (nI y1_6))))) := hq
    refine lv_iload_n hx hb dX5_firsts_6 rfl (lv_at hl 0 rfl) ?_
    refine lv_bipush (v := (nI 8)) hx hb dX5_firsts_7 (by decide) ?_
    refine lv_icmp_ge (tgt := 59) hx hb dX5_firsts_9 (by decide) (fun c_9 => ?_) (fun c_9 => absurd (nI_le (by omega) (by omega)) c_9)
    refine lv_iload_n hx hb dX5_firsts_59 rfl (lv_at hl 2 rfl) ?_
    refine lv_if_ne (tgt := 67) hx hb dX5_firsts_60 (by decide) (fun c_1 => ?_) (fun c_1 => ?_)
    · have hq := hq.trans (if_neg c_1)
      refine lv_iload_n hx hb dX5_firsts_67 rfl (lv_at hl 1 rfl) ?_
      refine lv_i2d hx hb dX5_firsts_68 ?_
      refine lv_iload_n hx hb dX5_firsts_69 rfl (lv_at hl 2 rfl) ?_
      refine lv_i2d hx hb dX5_firsts_70 ?_
      refine lv_ddiv hx hb dX5_firsts_71 (ddOK _ (by omega) _ (by omega) (fun q => by have hz : ¬ nI y1_6 = 0 := (by assumption); exact hz (by rw [q]; decide))) ?_
      exact W.dret (v := (FP.ddiv (FP.i2d (nI y2_6)) (FP.i2d (nI y1_6)))) hx hb hr (fun t ht hW => eLD hS ht (by rw [hq])) hS.2.2 dX5_firsts_72
    · have hq := hq.trans (if_pos c_1)
      refine lv_dconst1 hx hb dX5_firsts_63 ?_
      refine lv_goto (tgt := 72) hx hb dX5_firsts_64 (by decide) ?_
      exact W.dret (v := FP.dconst1) hx hb hr (fun t ht hW => eLD hS ht (by rw [hq])) hS.2.2 dX5_firsts_72
  · intro n6 ih6 ⟨i6, y1_6, y2_6⟩ H locs ls h
    obtain ⟨hn6, hq, hP, hS, hl⟩ := h
    try dsimp only at hn6 hq hP hl
    obtain ⟨hn6, hy1, hy2⟩ := hn6
    replace hq : (fX5_firsts ms) = (if (ms (40 + i6)) < 0 then (if (ms (40 + i6)) = (nI i6) then (fX5_firsts_L6 ms n6 (i6 + 1) (y1_6 + 0) (y2_6 + 1)) else (fX5_firsts_L6 ms n6 (i6 + 1) (y1_6 + 0) (y2_6 + 0))) else (if (ms (40 + i6)) = (nI i6) then (fX5_firsts_L6 ms n6 (i6 + 1) (y1_6 + 1) (y2_6 + 1)) else (fX5_firsts_L6 ms n6 (i6 + 1) (y1_6 + 1) (y2_6 + 0)))) := hq
    refine lv_iload_n hx hb dX5_firsts_6 rfl (lv_at hl 0 rfl) ?_
    refine lv_bipush (v := (nI 8)) hx hb dX5_firsts_7 (by decide) ?_
    refine lv_icmp_ge (tgt := 59) hx hb dX5_firsts_9 (by decide) (fun c_9 => absurd c_9 (nI_ge (by omega) (by omega))) (fun c_9 => ?_)
    refine lv_iload_n hx hb dX5_firsts_12 rfl (lv_at hl 2 rfl) ?_
    refine lv_aload_n hx hb dX5_firsts_13 rfl (lv_at hl 3 rfl) ?_
    refine va_get (D := Γ.1) (ci := 5) (v := .ref (a 1)) (C := RX5) (T := TX5) (N := 10) hx hb hts hi5 hown hK hP 0 rfl rfl 0 (by decide) kf7 (fun _ h9 => h9) rfl dX5_firsts_14 ?_
    refine lv_bipush (v := (nI 40)) hx hb dX5_firsts_17 (by decide) ?_
    refine lv_iload_n hx hb dX5_firsts_19 rfl (lv_at hl 0 rfl) ?_
    refine lv_iadd hx hb dX5_firsts_20 ?_
    refine lv_eqi (y := (nI (40 + i6))) (nI_add _ _) ?_
    refine va_iald_n (f := ms) hx hb hK hP 1 0 rfl rfl (by omega) (Nat.le_of_ble_eq_true rfl) dX5_firsts_21 ?_
    refine lv_if_lt (tgt := 29) hx hb dX5_firsts_22 (by decide) (fun c_2 => ?_) (fun c_2 => ?_)
    · have hq := hq.trans (if_pos c_2)
      refine lv_iconst (v := (nI 0)) hx hb dX5_firsts_29 (by decide) ?_
      refine lv_iadd hx hb dX5_firsts_30 ?_
      refine lv_eqi (y := (nI (y1_6 + 0))) (nI_add _ _) ?_
      refine lv_istore_n (lv' := [(1, .int (nI (y1_6 + 0))), (3, .int (nI i6)), (2, .int (nI y2_6)), (0, .ref (a 0))]) hx hb dX5_firsts_31 rfl hl (by decide) rfl (fun ls hl => ?_)
      refine lv_iload_n hx hb dX5_firsts_32 rfl (lv_at hl 2 rfl) ?_
      refine lv_aload_n hx hb dX5_firsts_33 rfl (lv_at hl 3 rfl) ?_
      refine va_get (D := Γ.1) (ci := 5) (v := .ref (a 1)) (C := RX5) (T := TX5) (N := 10) hx hb hts hi5 hown hK hP 0 rfl rfl 0 (by decide) kf7 (fun _ h9 => h9) rfl dX5_firsts_34 ?_
      refine lv_bipush (v := (nI 40)) hx hb dX5_firsts_37 (by decide) ?_
      refine lv_iload_n hx hb dX5_firsts_39 rfl (lv_at hl 1 rfl) ?_
      refine lv_iadd hx hb dX5_firsts_40 ?_
      refine lv_eqi (y := (nI (40 + i6))) (nI_add _ _) ?_
      refine va_iald_n (f := ms) hx hb hK hP 1 0 rfl rfl (by omega) (Nat.le_of_ble_eq_true rfl) dX5_firsts_41 ?_
      refine lv_iload_n hx hb dX5_firsts_42 rfl (lv_at hl 1 rfl) ?_
      refine lv_icmp_ne (tgt := 50) hx hb dX5_firsts_43 (by decide) (fun c_3 => ?_) (fun c_3 => ?_)
      · have hq := hq.trans (if_neg c_3)
        refine lv_iconst (v := (nI 0)) hx hb dX5_firsts_50 (by decide) ?_
        refine lv_iadd hx hb dX5_firsts_51 ?_
        refine lv_eqi (y := (nI (y2_6 + 0))) (nI_add _ _) ?_
        refine lv_istore_n (lv' := [(2, .int (nI (y2_6 + 0))), (1, .int (nI (y1_6 + 0))), (3, .int (nI i6)), (0, .ref (a 0))]) hx hb dX5_firsts_52 rfl hl (by decide) rfl (fun ls hl => ?_)
        refine lv_iinc (v := (nI (i6 + 1))) (lv' := [(3, .int (nI (i6 + 1))), (2, .int (nI (y2_6 + 0))), (1, .int (nI (y1_6 + 0))), (0, .ref (a 0))]) hx hb dX5_firsts_53 hl (k := 2) rfl (nI_1 _) (by decide) rfl (fun ls hl => ?_)
        refine lv_goto (tgt := 6) hx hb dX5_firsts_56 (by decide) ?_
        exact ih6 ((i6 + 1), (y1_6 + 0), (y2_6 + 0)) H locs ls ⟨⟨by omega, by omega, by omega⟩, hq, hP, hS, lv_sub hl [0, 1, 2, 3] rfl⟩
      · have hq := hq.trans (if_pos c_3)
        refine lv_iconst (v := (nI 1)) hx hb dX5_firsts_46 (by decide) ?_
        refine lv_goto (tgt := 51) hx hb dX5_firsts_47 (by decide) ?_
        refine lv_iadd hx hb dX5_firsts_51 ?_
        refine lv_eqi (y := (nI (y2_6 + 1))) (nI_add _ _) ?_
        refine lv_istore_n (lv' := [(2, .int (nI (y2_6 + 1))), (1, .int (nI (y1_6 + 0))), (3, .int (nI i6)), (0, .ref (a 0))]) hx hb dX5_firsts_52 rfl hl (by decide) rfl (fun ls hl => ?_)
        refine lv_iinc (v := (nI (i6 + 1))) (lv' := [(3, .int (nI (i6 + 1))), (2, .int (nI (y2_6 + 1))), (1, .int (nI (y1_6 + 0))), (0, .ref (a 0))]) hx hb dX5_firsts_53 hl (k := 2) rfl (nI_1 _) (by decide) rfl (fun ls hl => ?_)
        refine lv_goto (tgt := 6) hx hb dX5_firsts_56 (by decide) ?_
        exact ih6 ((i6 + 1), (y1_6 + 0), (y2_6 + 1)) H locs ls ⟨⟨by omega, by omega, by omega⟩, hq, hP, hS, lv_sub hl [0, 1, 2, 3] rfl⟩
    · have hq := hq.trans (if_neg c_2)
      refine lv_iconst (v := (nI 1)) hx hb dX5_firsts_25 (by decide) ?_
      refine lv_goto (tgt := 30) hx hb dX5_firsts_26 (by decide) ?_
      refine lv_iadd hx hb dX5_firsts_30 ?_
      refine lv_eqi (y := (nI (y1_6 + 1))) (nI_add _ _) ?_
      refine lv_istore_n (lv' := [(1, .int (nI (y1_6 + 1))), (3, .int (nI i6)), (2, .int (nI y2_6)), (0, .ref (a 0))]) hx hb dX5_firsts_31 rfl hl (by decide) rfl (fun ls hl => ?_)
      refine lv_iload_n hx hb dX5_firsts_32 rfl (lv_at hl 2 rfl) ?_
      refine lv_aload_n hx hb dX5_firsts_33 rfl (lv_at hl 3 rfl) ?_
      refine va_get (D := Γ.1) (ci := 5) (v := .ref (a 1)) (C := RX5) (T := TX5) (N := 10) hx hb hts hi5 hown hK hP 0 rfl rfl 0 (by decide) kf7 (fun _ h9 => h9) rfl dX5_firsts_34 ?_
      refine lv_bipush (v := (nI 40)) hx hb dX5_firsts_37 (by decide) ?_
      refine lv_iload_n hx hb dX5_firsts_39 rfl (lv_at hl 1 rfl) ?_
      refine lv_iadd hx hb dX5_firsts_40 ?_
      refine lv_eqi (y := (nI (40 + i6))) (nI_add _ _) ?_
      refine va_iald_n (f := ms) hx hb hK hP 1 0 rfl rfl (by omega) (Nat.le_of_ble_eq_true rfl) dX5_firsts_41 ?_
      refine lv_iload_n hx hb dX5_firsts_42 rfl (lv_at hl 1 rfl) ?_
      refine lv_icmp_ne (tgt := 50) hx hb dX5_firsts_43 (by decide) (fun c_4 => ?_) (fun c_4 => ?_)
      · have hq := hq.trans (if_neg c_4)
        refine lv_iconst (v := (nI 0)) hx hb dX5_firsts_50 (by decide) ?_
        refine lv_iadd hx hb dX5_firsts_51 ?_
        refine lv_eqi (y := (nI (y2_6 + 0))) (nI_add _ _) ?_
        refine lv_istore_n (lv' := [(2, .int (nI (y2_6 + 0))), (1, .int (nI (y1_6 + 1))), (3, .int (nI i6)), (0, .ref (a 0))]) hx hb dX5_firsts_52 rfl hl (by decide) rfl (fun ls hl => ?_)
        refine lv_iinc (v := (nI (i6 + 1))) (lv' := [(3, .int (nI (i6 + 1))), (2, .int (nI (y2_6 + 0))), (1, .int (nI (y1_6 + 1))), (0, .ref (a 0))]) hx hb dX5_firsts_53 hl (k := 2) rfl (nI_1 _) (by decide) rfl (fun ls hl => ?_)
        refine lv_goto (tgt := 6) hx hb dX5_firsts_56 (by decide) ?_
        exact ih6 ((i6 + 1), (y1_6 + 1), (y2_6 + 0)) H locs ls ⟨⟨by omega, by omega, by omega⟩, hq, hP, hS, lv_sub hl [0, 1, 2, 3] rfl⟩
      · have hq := hq.trans (if_pos c_4)
        refine lv_iconst (v := (nI 1)) hx hb dX5_firsts_46 (by decide) ?_
        refine lv_goto (tgt := 51) hx hb dX5_firsts_47 (by decide) ?_
        refine lv_iadd hx hb dX5_firsts_51 ?_
        refine lv_eqi (y := (nI (y2_6 + 1))) (nI_add _ _) ?_
        refine lv_istore_n (lv' := [(2, .int (nI (y2_6 + 1))), (1, .int (nI (y1_6 + 1))), (3, .int (nI i6)), (0, .ref (a 0))]) hx hb dX5_firsts_52 rfl hl (by decide) rfl (fun ls hl => ?_)
        refine lv_iinc (v := (nI (i6 + 1))) (lv' := [(3, .int (nI (i6 + 1))), (2, .int (nI (y2_6 + 1))), (1, .int (nI (y1_6 + 1))), (0, .ref (a 0))]) hx hb dX5_firsts_53 hl (k := 2) rfl (nI_1 _) (by decide) rfl (fun ls hl => ?_)
        refine lv_goto (tgt := 6) hx hb dX5_firsts_56 (by decide) ?_
        exact ih6 ((i6 + 1), (y1_6 + 1), (y2_6 + 1)) H locs ls ⟨⟨by omega, by omega, by omega⟩, hq, hP, hS, lv_sub hl [0, 1, 2, 3] rfl⟩
def fX5_firstShare (ms : (Nat → Int32)) : UInt64 × Int32 := ((fX5_firsts ms), (nI 0))
set_option maxHeartbeats 4000000 in
set_option maxRecDepth 100000 in
theorem kX5_firstShare (l : Launch) (Γ : wG) (a : Nat → Nat) (ms : (Nat → Int32)) (mt : (Nat → Int32)) (mc : (Nat → Int32)) (md : (Nat → Int32)) (m0 : Int32) (m1 : Int32) (m2 : Int32) (m3 : Int32) (m4 : Int32) (m5 : Int32) : MD l Γ yX5_firstShare wsX5_firstShare ({ frames := 1, cells := 0, slots := 0, locals := 23 }) [.ref (a 0)] [moB Γ a ms mt mc md m0 m1 m2 m3 m4 m5] [moB Γ a ms mt mc md m0 (fX5_firstShare ms).2 m2 m3 m4 m5] (fX5_firstShare ms).1 := by
  intro sz
  refine Met.ofW (cc := cX5_firstShare) (maxL := 1) (ret := (some .double)) (by decide) rfl ?_
  intro p e s m args below meth c s₁ B hml hv
  obtain ⟨rfl, hsz, hP, hK, hD0, hAm⟩ := hv
  have hx := B.exec
  have hb := B.bytes
  have hr := B.returns
  have hts := atoms_spec (ws := wsX5_firstShare) B.pre
  have hown : s.vm.findClass RX5 = some m.cls := findClass_of_methodNamed B.named
  have hlocks := B.notSynchronized
  subst hsz
  have hD := hD0.self (sz := s.heap.size)
  generalize hAe : va_A (wcat [moB Γ a ms mt mc md m0 m1 m2 m3 m4 m5]) s.heap.size = A at hD hAm ⊢
  have hA : ∀ q : Nat, s.heap.size ≤ q → A q := fun q h => by rw [← hAe]; exact Or.inr h
  have hAB : ∀ q : Nat, A q → A q := fun _ h => h
  have hS : va_S A s.heap s.heap [] := va_S.rf
  have hl := lv_entry ([.ref (a 0)]) (n := 1) (Nat.le_of_ble_eq_true rfl)
  rw [lg_entry_eq]
  generalize (lg_sl ([.ref (a 0)]) ++ List.replicate (1 - (lg_sl ([.ref (a 0)])).length) Slot.unset).toArray = ls at hl ⊢
  have hl : lv_has ls 1 [(0, .ref (a 0))] := hl
  have hi5 : ∀ w ∈ wsX50, w ∈ wsX5_firstShare := by decide +kernel
  have kf23 := hts (.fieldLink RX5 23 "CapsuleKeepersModel" "thrown" "I") (by decide +kernel)
  have hq : (fX5_firstShare ms) = ((fX5_firsts ms), (nI 0)) := rfl
  refine lv_aload_n hx hb dX5_firstShare_0 rfl (lv_at hl 0 rfl) ?_
  refine lv_iconst (v := (nI 0)) hx hb dX5_firstShare_1 (by decide) ?_
  refine va_put (D := Γ.1) (ci := 5) (v := .int (nI 0)) (ty := .int) (C := RX5) (T := TX5) (N := 10) hx hb hts hi5 tyX5 tyX5_ok nmX5 hown hK hP hD hS 0 rfl rfl 2 (by decide) kf23 (fun _ h9 => h9) rfl (by decide +kernel) rfl rfl (Nat.le_of_ble_eq_true rfl) dX5_firstShare_2 (fun H locs hP hD hS => ?_)
  have hP : va_P Γ.1 vwCl (wcat [moB Γ a ms mt mc md m0 (nI 0) m2 m3 m4 m5]) H := hP
  have hD : va_D A (wcat [moB Γ a ms mt mc md m0 (nI 0) m2 m3 m4 m5]) := hD
  refine lv_aload_n hx hb dX5_firstShare_5 rfl (lv_at hl 0 rfl) ?_
  refine cLD (va_runV (As := []) (rest := []) ⟨hx, hb, hml, hown, hts⟩ ((kX5_firsts l Γ a ms mt mc md m0 (nI 0) m2 m3 m4 m5) _) (cwV 0 hts gX5_firstShare_X5_firsts rfl rfl rfl (by decide +kernel) ⟨Nat.le_of_ble_eq_true rfl, Nat.le_of_ble_eq_true rfl⟩) ⟨wPre_blind, va_recv hK hP (ci := 5) (q0 := 0) rfl rfl, wPre_mk hP hD hK hS hA hAB hAm [0] rfl rfl⟩ rfl rfl hl.1 rfl (lv_room (Nat.le_of_ble_eq_true rfl)) dX5_firstShare_6 ⟨Nat.zero_le _, Nat.zero_le _⟩) hP hS hA (fun H locs hP hS => ?_)
  exact W.dret (v := (fX5_firsts ms)) hx hb hr (fun t ht hW => eMD (by rw [hq]; exact hP) hS ht (by rw [hq])) hS.2.2 dX5_firstShare_9
