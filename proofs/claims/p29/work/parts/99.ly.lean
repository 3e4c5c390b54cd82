/-! ===== what the start gives ===== -/
section ST
variable {s : State} {b : Nat}
theorem K_start (hts : ∀ w ∈ lw_tbl, w.before #[Value.ref b] s = true) : ∃ Γ : wG, va_K Γ.1 vwCl (wtys Γ) s := by
  obtain ⟨c0, i0, k0⟩ := u_known (C := RX0) (T := TX0) (N := 1) (n := 1) hts inX0 (hts (.instantiable RX0 1) (by decide +kernel))
  obtain ⟨c1, i1, k1⟩ := u_known (C := RX1) (T := TX1) (N := 2) (n := 2) hts inX1 (hts (.instantiable RX1 2) (by decide +kernel))
  obtain ⟨c2, i2, k2⟩ := u_known (C := RX2) (T := TX2) (N := 16) (n := 16) hts inX2 (hts (.instantiable RX2 16) (by decide +kernel))
  obtain ⟨c3, i3, k3⟩ := u_known (C := RX3) (T := TX3) (N := 2) (n := 2) hts inX3 (hts (.instantiable RX3 2) (by decide +kernel))
  obtain ⟨c4, i4, k4⟩ := u_known (C := RX4) (T := TX4) (N := 7) (n := 7) hts inX4 (hts (.instantiable RX4 7) (by decide +kernel))
  obtain ⟨aI, kI, mI, n1, n2, n3⟩ := Cond.arrayClass_spec (hts (.arrayClass .int) (by decide +kernel))
  obtain ⟨mO, aO, kO, q1, q2, q3, q4, q5⟩ := Cond.arrayOver_spec (hts (.arrayOver (.object RX2)) (by decide +kernel))
  refine ⟨((fun k => if k = 0 then c0 else if k = 1 then c1 else if k = 2 then c2 else if k = 3 then c3 else c4, fun k => if k = 0 then i0 else if k = 1 then i1 else if k = 2 then i2 else if k = 3 then i3 else i4), fun k => if k = 0 then aI else if k = 1 then aI else aO), ?_, ?_⟩
  · intro k q hq
    match k, hq with
    | 0, hq => cases hq; exact k0
    | 1, hq => cases hq; exact k1
    | 2, hq => cases hq; exact k2
    | 3, hq => cases hq; exact k3
    | 4, hq => cases hq; exact k4
    | k + 5, hq => simp [vwCl] at hq
  · intro k q hq
    match k, hq with
    | 0, hq => cases hq; exact ⟨fun n z => ⟨fun k h => (by cases h), kI, n2, mI, n3⟩, n1⟩
    | 1, hq => cases hq; exact ⟨fun n z => ⟨fun k h => (by cases h), kI, n2, mI, n3⟩, n1⟩
    | 2, hq => cases hq; exact ⟨fun n z => ⟨fun k h => (by cases h), kO, q3, mO, q4⟩, kO, mO, q3, q4, q1, q5⟩
    | k + 3, hq => simp [wtys] at hq
theorem amb_start (hts : ∀ w ∈ lw_tbl, w.before #[Value.ref b] s = true) (hgv : (Jvm.Cond.and given_1 narrow_1).before #[Value.ref b] s = true) : Amb (fun q => s.heap.size ≤ q) s := by
  have hs := flat_of_before _ hgv
  have hA : ∀ a : Nat, a < s.heap.size → ¬ (fun q => s.heap.size ≤ q) a := fun a h z => absurd h (Nat.not_lt.mpr z)
  obtain ⟨c4, i4, k4⟩ := u_known (C := RX4) (T := TX4) (N := 7) (n := 7) hts inX4 (hts (.instantiable RX4 7) (by decide +kernel))
  have nw : ∀ w ∈ lw_tbl, w.onTables = true → va_Nw w s := fun w h h2 => va_Nw.of h2 (hts w h)
  have nw2 : ∀ w ∈ flatC (Jvm.Cond.and given_1 narrow_1), w.onTables = true → va_Nw w s := fun w h h2 => va_Nw.of h2 (hs w h)
  refine ⟨⟨nw _ (by decide +kernel) rfl, nw _ (by decide +kernel) rfl, nw _ (by decide +kernel) rfl, nw _ (by decide +kernel) rfl, nw _ (by decide +kernel) rfl⟩, ?_, ?_, ?_, ?_, ?_, ?_, ?_⟩
  · have el : ∀ j : Nat, j < 8 → (Term.elem (.static "CapsuleKeepers$Curves" "INVERSES" "[I") (.int (Int32.ofNat j))).eval #[Value.ref b] s none [] s = some (.int (wInv j)) := by
      intro j hj
      rcases (show j = 0 ∨ j = 1 ∨ j = 2 ∨ j = 3 ∨ j = 4 ∨ j = 5 ∨ j = 6 ∨ j = 7 by omega) with rfl | rfl | rfl | rfl | rfl | rfl | rfl | rfl <;> exact va_eqt (hs _ (by decide +kernel))
    obtain ⟨t, ht, hT⟩ := va_Tof (f := fun j => .int (wInv j)) (N := 8) (by decide) (hs (.arrayOf (.static "CapsuleKeepers$Curves" "INVERSES" "[I") .int) (by decide +kernel)) (va_eqt (hs _ (by decide +kernel))) el hA
    exact ⟨t, va_Zref (hts (.laysStatic "CapsuleKeepers$Curves" "INVERSES" "[I") (by decide +kernel)) (hts (.initialized "CapsuleKeepers$Curves") (by decide +kernel)) ht hA, hT⟩
  · exact vx_Zqof (hts _ (by decide +kernel)) (hts _ (by decide +kernel)) (hs _ (by decide +kernel)) hA
  · exact vx_Zqof (hts _ (by decide +kernel)) (hts _ (by decide +kernel)) (hs _ (by decide +kernel)) hA
  · have str : ∀ q ∈ wStr, Cond.stringRef RX4 q.1 q.2 ∈ lw_tbl := by decide +kernel
    intro q hq
    have h := hts _ (str q hq)
    obtain ⟨k, cf, i, a, -, -, -, -, -, hev⟩ := Cond.stringRef_spec k4.2.1 h
    exact ⟨a, vk_R.of h hev⟩
  · have cs : ∀ X ∈ wX, Cond.castable X X ∈ lw_tbl := by decide +kernel
    exact fun X hX => nw _ (cs X hX) rfl
  · have ds : ∀ Y ∈ wY, Cond.declares (Bundle.initS Y) ∈ lw_tbl := by decide +kernel
    exact fun Y hY => nw _ (ds Y hY) rfl
  · have nc : ∀ E ∈ wX, ∀ F ∈ wX, E ≠ F → Cond.not (.castable E F) ∈ flatC (Jvm.Cond.and given_1 narrow_1) := by decide +kernel
    exact fun E hE F hF hEF => va_Nc.of (hs _ (nc E hE F hF hEF))
theorem ao_start (hts : ∀ w ∈ lw_tbl, w.before #[Value.ref b] s = true) : va_AO RX2 s := va_AO.of (hts (.arrayOver (.object RX2)) (by decide +kernel))
end ST
