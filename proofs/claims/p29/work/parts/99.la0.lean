/-! ===== the law: cell, lowest, digest ===== -/
def lwF (g : Nat) : Nat → Nat → Nat
  | 0, k => k
  | n + 1, k => if g.testBit k = true then k else lwF g n (k + 1)
def lwN (g : Nat) : Nat := lwF g 8 0
theorem lw_bit : ∀ g, g < 256 → 1 ≤ g → g.testBit (lwN g) = true ∧ lwN g < 8 := by decide +kernel
set_option maxHeartbeats 4000000 in
set_option maxRecDepth 100000 in
theorem k_lowest (l : Launch) (Γ : wG) {g : Nat} (hg : g < 256) (h1 : 1 ≤ g) : LI l Γ yL_lowest wsL_lowest ({ frames := 0, cells := 0, slots := 0, locals := 0 }) [.int (nI g)] [] (nI (lwN g)) := by
  intro sz
  refine Met.ofW (cc := cL_lowest) (maxL := 2) (ret := (some .int)) (by decide) rfl ?_
  intro p e s m args below meth c s₁ B hml hv
  obtain ⟨rfl, hsz, hP, hK, hD0, hAm⟩ := hv
  have hx := B.exec
  have hb := B.bytes
  have hr := B.returns
  have hts := atoms_spec (ws := wsL_lowest) B.pre
  have hown : s.vm.findClass RL = some m.cls := findClass_of_methodNamed B.named
  subst hsz
  obtain ⟨A, hAe⟩ : ∃ A, A = va_A [] s.heap.size := ⟨_, rfl⟩
  rw [← hAe]
  have hS : va_S A s.heap s.heap [] := va_S.rf
  have hl := lv_entry ([.int (nI g)]) (n := 2) (Nat.le_of_ble_eq_true rfl)
  rw [lg_entry_eq]
  generalize (lg_sl ([.int (nI g)]) ++ List.replicate (2 - (lg_sl ([.int (nI g)])).length) Slot.unset).toArray = ls at hl ⊢
  have hl : lv_has ls 2 [(0, .int (nI g))] := hl
  have hbt := lw_bit g hg h1
  refine lv_iconst (v := nI 0) hx hb dL_lowest_0 (by decide) ?_
  refine lv_istore_n (lv' := [(1, .int (nI 0)), (0, .int (nI g))]) hx hb dL_lowest_1 rfl hl (by decide) rfl (fun ls hl => ?_)
  refine wl (pc := 2) (σ := Nat) (fun n k H locs ls => k + n = 8 ∧ lwF g n k = lwN g ∧ va_S A s.heap H locs ∧ lv_has ls 2 [(1, .int (nI k)), (0, .int (nI g))]) ?_ ?_ 8 0 _ _ _ ⟨rfl, rfl, hS, hl⟩
  · intro k H locs ls h
    obtain ⟨hk, hf, hS, hl⟩ := h
    have hf : k = lwN g := hf
    omega
  · intro n ih k H locs ls h
    obtain ⟨hk, hf, hS, hl⟩ := h
    refine lv_iload_n hx hb dL_lowest_2 rfl (lv_at hl 1 rfl) ?_
    refine lv_iload_n hx hb dL_lowest_3 rfl (lv_at hl 0 rfl) ?_
    refine lv_ishr hx hb dL_lowest_4 ?_
    refine lv_iconst (v := nI 1) hx hb dL_lowest_5 (by decide) ?_
    refine lv_iand hx hb dL_lowest_6 ?_
    refine lv_eqi (y := nI (if g.testBit k = true then 1 else 0)) (bit_nat g hg k (by omega)) ?_
    cases hq : g.testBit k with
    | true =>
      refine lv_if_ne (tgt := 16) hx hb dL_lowest_7 (by decide) (fun _ => ?_) (fun z => absurd z (by decide))
      refine lv_iload_n hx hb dL_lowest_16 rfl (lv_at hl 0 rfl) ?_
      have hk2 : k = lwN g := by rw [← hf]; show k = if g.testBit k = true then k else _; rw [if_pos hq]
      exact W.iret (v := nI k) hx hb hr (fun t ht hW => eLI hS ht (by rw [hk2])) hS.2.2 dL_lowest_17
    | false =>
      refine lv_if_ne (tgt := 16) hx hb dL_lowest_7 (by decide) (fun z => absurd (by decide) z) (fun _ => ?_)
      refine lv_iinc (v := (nI (k + 1))) (lv' := [(1, .int ((nI (k + 1)))), (0, .int (nI g))]) hx hb dL_lowest_10 hl (k := 0) rfl (nI_1 _) (by decide) rfl (fun ls hl => ?_)
      refine lv_goto (tgt := 2) hx hb dL_lowest_13 (by decide) ?_
      exact ih (k + 1) H locs ls ⟨by omega, by rw [← hf]; show _ = if g.testBit k = true then k else _; rw [if_neg (by rw [hq]; decide)], hS, (lv_sub hl [0, 1] rfl)⟩
