set_option maxHeartbeats 4000000 in
set_option maxRecDepth 100000 in
theorem k_cell (l : Launch) (Γ : wG) {b N : Nat} {xs : Nat → Int32} (hN : N < 2 ^ 31) {k : Nat} (hk : k < 2 ^ 31) (sz : Nat) : Met l yL_cell wsL_cell ({ frames := 0, cells := 0, slots := 0, locals := 0 }) (va_Pc [.ref b, .int (nI k)] (fun U => wPre Γ [] sz U ∧ (va_X b N xs U U.heap ∧ b < U.heap.size))) (va_Qi (fun r (_ : Unit) => ∃ Y : Nat, Y < 2 ^ 31 ∧ r = nI Y) (fun _ _ => True) (va_A [] sz)) 0 0 (va_A [] sz) := by
  refine Met.ofW (cc := cL_cell) (maxL := 2) (ret := (some .int)) (by decide) rfl ?_
  intro p e s m args below meth c s₁ B hml hv
  obtain ⟨rfl, ⟨hsz, hP, hK, hD0, hAm⟩, hX, hbl⟩ := hv
  have hx := B.exec
  have hb := B.bytes
  have hr := B.returns
  have hts := atoms_spec (ws := wsL_cell) B.pre
  have hown : s.vm.findClass RL = some m.cls := findClass_of_methodNamed B.named
  subst hsz
  obtain ⟨A, hAe⟩ : ∃ A, A = va_A [] s.heap.size := ⟨_, rfl⟩
  rw [← hAe]
  have hS : va_S A s.heap s.heap [] := va_S.rf
  have hl := lv_entry ([.ref b, .int (nI k)]) (n := 2) (Nat.le_of_ble_eq_true rfl)
  rw [lg_entry_eq]
  generalize (lg_sl ([.ref b, .int (nI k)]) ++ List.replicate (2 - (lg_sl ([.ref b, .int (nI k)])).length) Slot.unset).toArray = ls at hl ⊢
  have hl : lv_has ls 2 [(0, .ref b), (1, .int (nI k))] := hl
  have hbA : ¬ A b := fun z => by
    rw [hAe] at z
    exact absurd hbl (Nat.not_lt.mpr (wnone z))
  refine wj (pc := 24) (σ := Int32) (st := fun z => [.int z]) (fun z H locs ls => va_S A s.heap H locs) ?_ (fun hJ => ?_)
  · intro z H locs ls hS
    refine lv_ldc hx hb hown (hts (.constant RL 8 (2147483647)) (by decide +kernel)) dL_cell_24 ?_
    refine lv_iand hx hb dL_cell_26 ?_
    obtain ⟨Y, hY, e⟩ := pk_andE z (m := 2147483647) 31 (by decide)
    refine lv_eqi (y := nI Y) e ?_
    exact W.iret (v := nI Y) hx hb hr (fun t ht hW => ⟨⟨nI Y, (), rfl, ⟨Y, hY, rfl⟩, trivial⟩, hS.F ht⟩) hS.2.2 dL_cell_27
  · refine lv_iload_n hx hb dL_cell_0 rfl (lv_at hl 1 rfl) ?_
    refine lv_aload_n hx hb dL_cell_1 rfl (lv_at hl 0 rfl) ?_
    refine va_slen hx hb hX hbl hbA hS dL_cell_2 ?_
    refine lv_icmp_ge (tgt := 12) hx hb dL_cell_3 (by decide) (fun z => ?_) (fun z => ?_)
    · refine lv_ldc hx hb hown (hts (.constant RL 7 (40609)) (by decide +kernel)) dL_cell_12 ?_
      refine lv_iload_n hx hb dL_cell_14 rfl (lv_at hl 1 rfl) ?_
      refine lv_sipush (v := nI 4096) hx hb dL_cell_15 (by decide) ?_
      refine lv_irem hx hb dL_cell_18 (by decide) ?_
      refine lv_imul hx hb dL_cell_19 ?_
      refine lv_sipush (v := nI 211) hx hb dL_cell_20 (by decide) ?_
      refine lv_iadd hx hb dL_cell_23 ?_
      exact hJ _ _ _ _ hS
    · refine lv_aload_n hx hb dL_cell_6 rfl (lv_at hl 0 rfl) ?_
      refine lv_iload_n hx hb dL_cell_7 rfl (lv_at hl 1 rfl) ?_
      refine va_sld hx hb hX hbl hbA hS (vp_in_nI (ltN hk hN z) hN) dL_cell_8 ?_
      refine lv_goto (tgt := 24) hx hb dL_cell_9 (by decide) ?_
      exact hJ _ _ _ _ hS
theorem cell_blind {Γ : wG} {b N : Nat} {xs : Nat → Int32} {sz : Nat} {av : List Value} : FrameBlind (va_Pc av (fun U => wPre Γ [] sz U ∧ (va_X b N xs U U.heap ∧ b < U.heap.size))) := fun a U g mk q => by
  obtain ⟨q0, q1, q2, q3⟩ := q
  obtain ⟨h1, h2⟩ := wPre_blind (av := av) (Γ := Γ) (bs := []) (sz := sz) a U g mk ⟨q0, q1⟩
  exact ⟨h1, h2, va_X.moved (u := U) (U := U.calling g mk a) (Vm.Alike.refl U.vm) q2, q3⟩
theorem cell_mk {Γ : wG} {b N : Nat} {xs : Nat → Int32} {s : State} {H : Heap} {av : List Value} (hX : va_X b N xs s H) (hbl : b < H.size) (h : ∀ U : State, U.heap = H → s.WarmedH U.vm → va_Pc av (wPre Γ [] H.size) av.toArray U) : ∀ U : State, U.heap = H → s.WarmedH U.vm → va_Pc av (fun U => wPre Γ [] H.size U ∧ (va_X b N xs U U.heap ∧ b < U.heap.size)) av.toArray U := fun U h1 h2 => ⟨(h U h1 h2).1, (h U h1 h2).2, by rw [h1]; exact va_X.moved h2.alike hX, by rw [h1]; exact hbl⟩
