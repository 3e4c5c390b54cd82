/-! ===== the law's hangs ===== -/
section HG
variable {p : Program} {l : Launch} {e : Env} {R : Room} {s : State} {m : MethodId} {args : Array Value} {below : List Frame} {meth : Method} {c : Code} {H : Heap} {locs : List Loc} {cells slots : Nat} {Q : State → Prop}
variable {pc : Nat} {ls : Array Slot} {rest st0 : List Value} {cc : ByteArray} {A : Nat → Prop} {Γ : wG} {D : AD} {x : ST} {nL : Nat} {Ts : List Cond} {P : Nat → Nat → Nat} {S idx mc ms : Nat} {Post : Int32 → ST → Prop}
theorem sh_1 (P : Nat → Nat → Nat) (j : Nat) : shV P j 1 = dn (P 4 j) := by
  unfold shV
  by_cases e : P 4 j = 0
  · rw [if_pos e, e]; rfl
  · rw [if_neg e]; rfl
theorem sh_m1 {P : Nat → Nat → Nat} (hW : WF P) {j : Nat} (hj : j < 8) {w : Nat} (hw : w = 0 ∨ w = 2) : shV P j w = -1 ↔ P 4 j = 0 := by
  have hv := hW.va hj
  unfold shV
  by_cases e : P 4 j = 0
  · rw [if_pos e]; simp [e]
  · rw [if_neg e]
    have m1 : ∀ y, y < 251 → ¬ nI y = -1 := by decide +kernel
    rcases hw with rfl | rfl
    · exact ⟨fun z => absurd z (m1 _ hv), fun z => absurd z e⟩
    · refine ⟨fun z => absurd z (m1 _ (by split <;> decide)), fun z => absurd z e⟩
theorem sh_250 {P : Nat → Nat → Nat} (hW : WF P) {j : Nat} (hj : j < 8) : ¬ nI 250 < shV P j 0 := by
  have hv := hW.va hj
  unfold shV
  by_cases e : P 4 j = 0
  · rw [if_pos e]; decide
  · rw [if_neg e]
    exact fun z => absurd ((nI_ltI (by decide) (by omega)).mp z) (by omega)
theorem bI_eq {p q : Prop} [Decidable p] [Decidable q] (h : p ↔ q) : bI (decide p) = bI (decide q) := by
  congr 1
  exact decide_eq_decide.mpr h
theorem b01_0 (b : Bool) : (nI (if b = true then 1 else 0) = 0) ↔ b = false := b01z b
theorem b01_1 (b : Bool) : (nI (if b = true then 1 else 0) = nI 1) ↔ b = true := by cases b <;> decide
theorem dn_nlt : ∀ i, i < 9 → ∀ n, n < 9 → i ≤ n → ¬ nI n ≤ dn i := by decide +kernel
theorem dn_m1lt : ∀ i, i < 9 → ¬ dn i < -1 := by decide +kernel
theorem liv_s : ∀ m, m < 256 → ∀ k, k < 8 → (nI (m % 2 ^ k)) ||| ((nI (if m.testBit k then 1 else 0)) <<< ((nI k) &&& 31)) = nI (m % 2 ^ (k + 1)) := by decide +kernel
theorem nIm1 {n : Nat} (h : n < 2 ^ 31) : ¬ nI n = -1 := fun z => by
  have h2 : (nI n).toInt = (-1 : Int32).toInt := by rw [z]
  rw [nI_toInt h, show (-1 : Int32).toInt = -1 by decide] at h2
  omega
theorem dropL_i {g : Nat} (h : 1 ≤ g) : nI g &&& (nI g - nI 1) = nI (dropL g) := by
  rw [pk_sub h, xI_and]; rfl
def fgB (P : Nat → Nat → Nat) : Nat → Bool
  | 0 => false
  | j + 1 => fgB P j || (decide (P 4 j ≠ 0) && (P 0 2).testBit j)
theorem fg_no {P : Nat → Nat → Nat} : ∀ n, fgB P n = false → ∀ j, j < n → P 4 j ≠ 0 → (P 0 2).testBit j = false := by
  intro n
  induction n with
  | zero => intro _ j hj; omega
  | succ n ih =>
    intro h j hj h4
    unfold fgB at h
    rw [Bool.or_eq_false_iff] at h
    by_cases e : j = n
    · subst e
      have := h.2
      simpa [h4] using this
    · exact ih h.1 j (by omega) h4
theorem sh_fg (P : Nat → Nat → Nat) (j : Nat) : (shV P j 2 = nI 1) ↔ (decide (P 4 j ≠ 0) && (P 0 2).testBit j) = true := by
  unfold shV
  by_cases e : P 4 j = 0
  · rw [if_pos e]; simp [e]; decide
  · rw [if_neg e]
    show nI (if (P 0 2).testBit j = true then 1 else 0) = nI 1 ↔ _
    rw [b01_1]; simp [e]
theorem gr_one {P : Nat → Nat → Nat} (h : P 0 4 ≠ 1) : grN P = 0 := (gr_sm P).mpr (Decidable.byContradiction fun z => by
  have h1 : 1 ≤ smN P := by omega
  exact h ((op_iff h1).mp (sm_op z)).2.1)
theorem smA_1 (P : Nat → Nat → Nat) : smA P (nI 1) = maskI (smN P) := by
  unfold smA smO maskI
  by_cases e : smN P = 0
  · rw [if_pos e, if_pos e]
  · rw [if_neg e, if_neg e, if_neg (by decide)]
set_option maxHeartbeats 4000000 in
set_option maxRecDepth 100000 in
theorem k_bits (l : Launch) (Γ : wG) {g : Nat} (hg : g < 256) : LI l Γ yL_bits wsL_bits ({ frames := 0, cells := 0, slots := 0, locals := 0 }) [.int (nI g)] [] (nI (pop g)) := by
  intro sz
  refine Met.ofW (cc := cL_bits) (maxL := 3) (ret := (some .int)) (by decide) rfl ?_
  intro p e s m args below meth c s₁ B hml hv
  obtain ⟨rfl, hsz, hP, hK, hD0, hAm⟩ := hv
  have hx := B.exec
  have hb := B.bytes
  have hr := B.returns
  have hts := atoms_spec (ws := wsL_bits) B.pre
  have hown : s.vm.findClass RL = some m.cls := findClass_of_methodNamed B.named
  subst hsz
  obtain ⟨A, hAe⟩ : ∃ A, A = va_A [] s.heap.size := ⟨_, rfl⟩
  rw [← hAe]
  have hS : va_S A s.heap s.heap [] := va_S.rf
  have hl := lv_entry ([.int (nI g)]) (n := 3) (Nat.le_of_ble_eq_true rfl)
  rw [lg_entry_eq]
  generalize (lg_sl ([.int (nI g)]) ++ List.replicate (3 - (lg_sl ([.int (nI g)])).length) Slot.unset).toArray = ls at hl ⊢
  have hl : lv_has ls 3 [(0, .int (nI g))] := hl
  refine lv_iconst (v := nI 0) hx hb dL_bits_0 (by decide) ?_
  refine lv_istore_n (lv' := [(1, .int (nI 0)), (0, .int (nI g))]) hx hb dL_bits_1 rfl hl (by decide) rfl (fun ls hl => ?_)
  refine lv_iconst (v := nI 0) hx hb dL_bits_2 (by decide) ?_
  refine lv_istore_n (lv' := [(2, .int (nI 0)), (1, .int (nI 0)), (0, .int (nI g))]) hx hb dL_bits_3 rfl hl (by decide) rfl (fun ls hl => ?_)
  refine wl (pc := 4) (σ := Nat) (fun n k H locs ls => k + n = 8 ∧ va_S A s.heap H locs ∧ lv_has ls 3 [(2, .int (nI k)), (1, .int (nI (sumN (fun j => if g.testBit j then 1 else 0) k))), (0, .int (nI g))]) ?_ ?_ 8 0 _ _ _ ⟨rfl, hS, hl⟩
  · intro k H locs ls h
    obtain ⟨hk, hS, hl⟩ := h
    have hk : k = 8 := by omega
    subst hk
    refine lv_iload_n hx hb dL_bits_4 rfl (lv_at hl 0 rfl) ?_
    refine lv_bipush (v := nI 8) hx hb dL_bits_5 (by decide) ?_
    refine lv_icmp_ge (tgt := 24) hx hb dL_bits_7 (by decide) (fun _ => ?_) (fun z => absurd (by decide) z)
    refine lv_iload_n hx hb dL_bits_24 rfl (lv_at hl 1 rfl) ?_
    refine lv_eqi (y := nI (pop g)) (by rw [pop_bits g hg]) ?_
    exact W.iret (v := nI (pop g)) hx hb hr (fun t ht hW => eLI hS ht rfl) hS.2.2 dL_bits_25
  · intro n ih k H locs ls h
    obtain ⟨hk, hS, hl⟩ := h
    refine lv_iload_n hx hb dL_bits_4 rfl (lv_at hl 0 rfl) ?_
    refine lv_bipush (v := nI 8) hx hb dL_bits_5 (by decide) ?_
    refine lv_icmp_ge (tgt := 24) hx hb dL_bits_7 (by decide) (fun z => absurd z (fun y => absurd ((nI_leI (by omega) (by omega)).mp y) (by omega))) (fun _ => ?_)
    refine lv_iload_n hx hb dL_bits_10 rfl (lv_at hl 1 rfl) ?_
    refine lv_iload_n hx hb dL_bits_11 rfl (lv_at hl 2 rfl) ?_
    refine lv_iload_n hx hb dL_bits_12 rfl (lv_at hl 0 rfl) ?_
    refine lv_ishr hx hb dL_bits_13 ?_
    refine lv_iconst (v := nI 1) hx hb dL_bits_14 (by decide) ?_
    refine lv_iand hx hb dL_bits_15 ?_
    refine lv_eqi (y := nI (if g.testBit k then 1 else 0)) (bit_nat g hg k (by omega)) ?_
    refine lv_iadd hx hb dL_bits_16 ?_
    refine lv_eqi (y := nI (sumN (fun j => if g.testBit j then 1 else 0) (k + 1))) (nI_add _ _) ?_
    refine lv_istore_n (lv' := [(1, .int (nI (sumN (fun j => if g.testBit j then 1 else 0) (k + 1)))), (2, .int (nI k)), (0, .int (nI g))]) hx hb dL_bits_17 rfl hl (by decide) rfl (fun ls hl => ?_)
    refine lv_iinc (v := (nI (k + 1))) (lv' := [(2, .int ((nI (k + 1)))), (1, .int (nI (sumN (fun j => if g.testBit j then 1 else 0) (k + 1)))), (0, .int (nI g))]) hx hb dL_bits_18 hl (k := 1) rfl (nI_1 _) (by decide) rfl (fun ls hl => ?_)
    refine lv_goto (tgt := 4) hx hb dL_bits_21 (by decide) ?_
    exact ih (k + 1) H locs ls ⟨by omega, hS, (lv_sub hl [0, 1, 2] rfl)⟩
theorem n_bits (C : CX p R s m args c A Γ cc nL Ts) (g : GoodIn Ts (va_wsS RL idx yL_bits wsL_bits)) (w : WD Γ D A s P S H locs) {k : Nat} (hk : k < 256) (hls : ls.size = nL) (hroom : (rest.map fun v => v.category).sum ≤ 8) (hdg : decode cc pc = .ok (.invokestatic idx, 3)) (hc : cells ≤ R.cells ∧ slots ≤ R.slots)
    (kk : ∀ (H1 : Heap) (locs1 : List Loc), WD Γ D A s P S H1 locs1 → W p l e R s m args below meth c H1 locs1 cells slots Q (F0 m (pc + 3) ls (.int (nI (pop k)) :: rest))) : W p l e R s m args below meth c H locs cells slots Q (F0 m pc ls (.int (nI k) :: rest)) := by
  obtain ⟨_, _, _, _, _, _, _, _, hR1, hR2⟩ := id C
  exact callN (n := 1) (As := [.int (nI k)]) C (k_bits l Γ hk) g rfl rfl rfl ⟨Nat.le_trans (Nat.le_of_ble_eq_true rfl) hR1, Nat.le_trans (Nat.le_of_ble_eq_true rfl) hR2⟩ (by decide +kernel) rfl hls hroom hdg hc w kk
set_option maxHeartbeats 4000000 in
set_option maxRecDepth 100000 in
theorem h_j1 (C : CX p R s m args c A Γ cL_hangs 16 wsL_hangs) (hc : cells ≤ R.cells ∧ slots ≤ R.slots) (hW : WF P) {k : Nat} (hk : k < P 0 0) {v10 v6 v5 v4 v3 v2 : Int32} (go : ∀ (H : Heap) (locs : List Loc) (ls : Array Slot), WD Γ D A s P S H locs → lv_has ls 16 [(10, .int v10), (9, .int (nI (owK P k))), (8, .int (nI k)), (7, .int (nI 1)), (6, .int v6), (5, .int v5), (4, .int v4), (3, .int v3), (2, .int v2), (1, .int (nI (P 0 0))), (0, .ref D.1)] → W p l e R s m args below meth c H locs cells slots Q (F0 m 243 ls [])) : ∀ (n j : Nat), j + n = 8 → ∀ (H : Heap) (locs : List Loc) (ls : Array Slot), WD Γ D A s P S H locs → lv_has ls 16 [(12, .int (nI j)), (10, .int v10), (9, .int (nI (owK P k))), (8, .int (nI k)), (7, .int (nI 1)), (6, .int v6), (5, .int v5), (4, .int v4), (3, .int v3), (2, .int v2), (1, .int (nI (P 0 0))), (0, .ref D.1)] → W p l e R s m args below meth c H locs cells slots Q (F0 m 182 ls []) := by
  obtain ⟨hx, hb, hml, hown, hts, hK, hAm, hA, hR1, hR2⟩ := id C
  have h8 := hW.k8
  intro n
  induction n with
  | zero =>
    intro j hj H locs ls w hl
    have hj : j = 8 := by omega
    subst hj
    refine lv_iload hx hb dL_hangs_182 (lv_at hl 0 rfl) ?_
    refine lv_bipush (v := nI 8) hx hb dL_hangs_184 (by decide) ?_
    refine lv_icmp_ge (tgt := 243) hx hb dL_hangs_186 (by decide) (fun _ => ?_) (fun z => absurd (by decide) z)
    exact go H locs ls w (lv_sub hl [1, 2, 3, 4, 5, 6, 7, 8, 9, 10, 11] rfl)
  | succ n ih =>
    intro j hj H locs ls w hl
    refine lv_iload hx hb dL_hangs_182 (lv_at hl 0 rfl) ?_
    refine lv_bipush (v := nI 8) hx hb dL_hangs_184 (by decide) ?_
    refine lv_icmp_ge (tgt := 243) hx hb dL_hangs_186 (by decide) (fun z => absurd z (fun y => absurd ((nI_leI (by omega) (by omega)).mp y) (by omega))) (fun _ => ?_)
    refine lv_iload hx hb dL_hangs_189 (lv_at hl 4 rfl) ?_
    refine lv_if_eq (tgt := 243) hx hb dL_hangs_191 (by decide) (fun z => absurd z (by decide)) (fun _ => ?_)
    refine lv_aload_n hx hb dL_hangs_194 rfl (lv_at hl 11 rfl) ?_
    refine lv_iload hx hb dL_hangs_195 (lv_at hl 0 rfl) ?_
    refine lv_iconst (v := nI 1) hx hb dL_hangs_197 (by decide) ?_
    refine n_share C gL_hangs_L_share w (k := j) (i := 1) (by omega) (by decide) (f := (dn (P 4 j))) (sh_1 P j) hl.1 (Nat.le_of_ble_eq_true rfl) dL_hangs_198 hc (fun H locs w => ?_)
    refine lv_iload hx hb dL_hangs_201 (lv_at hl 3 rfl) ?_
    refine eqB hx hb dL_hangs_203 dL_hangs_206 dL_hangs_207 dL_hangs_210 ?_
    refine lv_iload hx hb dL_hangs_211 (lv_at hl 2 rfl) ?_
    refine lv_iload hx hb dL_hangs_213 (lv_at hl 0 rfl) ?_
    refine lv_ishr hx hb dL_hangs_215 ?_
    refine lv_iconst (v := nI 1) hx hb dL_hangs_216 (by decide) ?_
    refine lv_iand hx hb dL_hangs_217 ?_
    refine lv_eqi (y := nI (if (owK P k).testBit j = true then 1 else 0)) (bit_nat _ (owK_lt P k) j (by omega)) ?_
    refine lv_iconst (v := nI 1) hx hb dL_hangs_218 (by decide) ?_
    refine eqB hx hb dL_hangs_219 dL_hangs_222 dL_hangs_223 dL_hangs_226 ?_
    refine lv_icmp_ne (tgt := 234) hx hb dL_hangs_227 (by decide) (fun z => absurd (bI_eq (by rw [b01_1, owK_bit (by omega), decide_eq_true_eq]; exact dn_nI _ (hW.ow (by omega)) k (by omega))) z) (fun _ => ?_)
    refine lv_iconst (v := nI 1) hx hb dL_hangs_230 (by decide) ?_
    refine lv_goto (tgt := 235) hx hb dL_hangs_231 (by decide) ?_
    refine lv_istore (lv' := [(7, .int (nI 1)), (12, .int (nI j)), (10, .int v10), (9, .int (nI (owK P k))), (8, .int (nI k)), (6, .int v6), (5, .int v5), (4, .int v4), (3, .int v3), (2, .int v2), (1, .int (nI (P 0 0))), (0, .ref D.1)]) hx hb dL_hangs_235 hl (by decide) rfl (fun ls hl => ?_)
    refine lv_iinc (v := (nI (j + 1))) (lv' := [(12, .int ((nI (j + 1)))), (7, .int (nI 1)), (10, .int v10), (9, .int (nI (owK P k))), (8, .int (nI k)), (6, .int v6), (5, .int v5), (4, .int v4), (3, .int v3), (2, .int v2), (1, .int (nI (P 0 0))), (0, .ref D.1)]) hx hb dL_hangs_237 hl (k := 1) rfl (nI_1 _) (by decide) rfl (fun ls hl => ?_)
    refine lv_goto (tgt := 182) hx hb dL_hangs_240 (by decide) ?_
    exact ih (j + 1) (by omega) H locs ls w (lv_sub hl [0, 2, 3, 4, 1, 5, 6, 7, 8, 9, 10, 11] rfl)
set_option maxHeartbeats 4000000 in
set_option maxRecDepth 100000 in
theorem h_j2 (C : CX p R s m args c A Γ cL_hangs 16 wsL_hangs) (hc : cells ≤ R.cells ∧ slots ≤ R.slots) (hW : WF P) {k : Nat} (hk : k < P 0 0) {v10 v6 v5 v4 v3 v2 : Int32} (go : ∀ (H : Heap) (locs : List Loc) (ls : Array Slot), WD Γ D A s P S H locs → lv_has ls 16 [(10, .int v10), (9, .int (nI (owK P k))), (8, .int (nI k)), (7, .int (nI 1)), (6, .int v6), (5, .int v5), (4, .int v4), (3, .int v3), (2, .int v2), (1, .int (nI (P 0 0))), (0, .ref D.1)] → W p l e R s m args below meth c H locs cells slots Q (F0 m 297 ls [])) : ∀ (n j : Nat), j + n = P 0 0 → ∀ (H : Heap) (locs : List Loc) (ls : Array Slot), WD Γ D A s P S H locs → lv_has ls 16 [(12, .int (nI j)), (10, .int v10), (9, .int (nI (owK P k))), (8, .int (nI k)), (7, .int (nI 1)), (6, .int v6), (5, .int v5), (4, .int v4), (3, .int v3), (2, .int v2), (1, .int (nI (P 0 0))), (0, .ref D.1)] → W p l e R s m args below meth c H locs cells slots Q (F0 m 246 ls []) := by
  obtain ⟨hx, hb, hml, hown, hts, hK, hAm, hA, hR1, hR2⟩ := id C
  have h8 := hW.k8
  intro n
  induction n with
  | zero =>
    intro j hj H locs ls w hl
    have hj : j = P 0 0 := by omega
    subst hj
    refine lv_iload hx hb dL_hangs_246 (lv_at hl 0 rfl) ?_
    refine lv_iload_n hx hb dL_hangs_248 rfl (lv_at hl 10 rfl) ?_
    refine lv_icmp_ge (tgt := 297) hx hb dL_hangs_249 (by decide) (fun _ => ?_) (fun z => absurd (nr2 (by omega) (by omega) (Nat.le_refl _)) z)
    exact go H locs ls w (lv_sub hl [1, 2, 3, 4, 5, 6, 7, 8, 9, 10, 11] rfl)
  | succ n ih =>
    intro j hj H locs ls w hl
    refine lv_iload hx hb dL_hangs_246 (lv_at hl 0 rfl) ?_
    refine lv_iload_n hx hb dL_hangs_248 rfl (lv_at hl 10 rfl) ?_
    refine lv_icmp_ge (tgt := 297) hx hb dL_hangs_249 (by decide) (fun z => absurd z (fun y => absurd ((nI_leI (by omega) (by omega)).mp y) (by omega))) (fun _ => ?_)
    refine lv_iload hx hb dL_hangs_252 (lv_at hl 4 rfl) ?_
    refine lv_if_eq (tgt := 297) hx hb dL_hangs_254 (by decide) (fun z => absurd z (by decide)) (fun _ => ?_)
    refine lv_aload_n hx hb dL_hangs_257 rfl (lv_at hl 11 rfl) ?_
    refine lv_iload hx hb dL_hangs_258 (lv_at hl 3 rfl) ?_
    refine lv_iconst (v := nI 3) hx hb dL_hangs_260 (by decide) ?_
    refine n_keeperOf C gL_hangs_L_keeperOf w (k := k) (i := 3) hk (by decide) (f := (nI (P 2 k))) (rfl) hl.1 (Nat.le_of_ble_eq_true rfl) dL_hangs_261 hc (fun H locs w => ?_)
    refine lv_iload hx hb dL_hangs_264 (lv_at hl 0 rfl) ?_
    refine lv_ishr hx hb dL_hangs_266 ?_
    refine lv_iconst (v := nI 1) hx hb dL_hangs_267 (by decide) ?_
    refine lv_iand hx hb dL_hangs_268 ?_
    refine lv_eqi (y := nI (if (P 2 k).testBit j = true then 1 else 0)) (bit_nat _ (hW.qm (by omega)) j (by omega)) ?_
    refine lv_aload_n hx hb dL_hangs_269 rfl (lv_at hl 11 rfl) ?_
    refine lv_iload hx hb dL_hangs_270 (lv_at hl 0 rfl) ?_
    refine lv_iconst (v := nI 3) hx hb dL_hangs_272 (by decide) ?_
    refine n_keeperOf C gL_hangs_L_keeperOf w (k := j) (i := 3) (by omega) (by decide) (f := (nI (P 2 j))) (rfl) hl.1 (Nat.le_of_ble_eq_true rfl) dL_hangs_273 hc (fun H locs w => ?_)
    refine lv_iload hx hb dL_hangs_276 (lv_at hl 3 rfl) ?_
    refine lv_ishr hx hb dL_hangs_278 ?_
    refine lv_iconst (v := nI 1) hx hb dL_hangs_279 (by decide) ?_
    refine lv_iand hx hb dL_hangs_280 ?_
    refine lv_eqi (y := nI (if (P 2 j).testBit k = true then 1 else 0)) (bit_nat _ (hW.qm (by omega)) k (by omega)) ?_
    refine lv_icmp_ne (tgt := 288) hx hb dL_hangs_281 (by decide) (fun z => absurd (by rw [(hW.2 k (by omega)).2.2.2.2.1 j (by omega)]) z) (fun _ => ?_)
    refine lv_iconst (v := nI 1) hx hb dL_hangs_284 (by decide) ?_
    refine lv_goto (tgt := 289) hx hb dL_hangs_285 (by decide) ?_
    refine lv_istore (lv' := [(7, .int (nI 1)), (12, .int (nI j)), (10, .int v10), (9, .int (nI (owK P k))), (8, .int (nI k)), (6, .int v6), (5, .int v5), (4, .int v4), (3, .int v3), (2, .int v2), (1, .int (nI (P 0 0))), (0, .ref D.1)]) hx hb dL_hangs_289 hl (by decide) rfl (fun ls hl => ?_)
    refine lv_iinc (v := (nI (j + 1))) (lv' := [(12, .int ((nI (j + 1)))), (7, .int (nI 1)), (10, .int v10), (9, .int (nI (owK P k))), (8, .int (nI k)), (6, .int v6), (5, .int v5), (4, .int v4), (3, .int v3), (2, .int v2), (1, .int (nI (P 0 0))), (0, .ref D.1)]) hx hb dL_hangs_291 hl (k := 1) rfl (nI_1 _) (by decide) rfl (fun ls hl => ?_)
    refine lv_goto (tgt := 246) hx hb dL_hangs_294 (by decide) ?_
    exact ih (j + 1) (by omega) H locs ls w (lv_sub hl [0, 2, 3, 4, 1, 5, 6, 7, 8, 9, 10, 11] rfl)
set_option maxHeartbeats 4000000 in
set_option maxRecDepth 100000 in
theorem h_k (C : CX p R s m args c A Γ cL_hangs 16 wsL_hangs) (hc : cells ≤ R.cells ∧ slots ≤ R.slots) (hW : WF P) (hI : IV P) (go : ∀ (H : Heap) (locs : List Loc) (ls : Array Slot), WD Γ D A s P S H locs → lv_has ls 16 [(7, .int (nI 1)), (6, .int (nI (sqN P 8))), (5, .int (nI (thM P))), (4, .int (nI (P 0 1))), (3, .int (nI (P 0 6))), (2, .int (nI (P 0 4))), (1, .int (nI (P 0 0))), (0, .ref D.1)] → W p l e R s m args below meth c H locs cells slots Q (F0 m 362 ls [])) : ∀ (n k : Nat), k + n = P 0 0 → ∀ (H : Heap) (locs : List Loc) (ls : Array Slot), WD Γ D A s P S H locs → lv_has ls 16 [(8, .int (nI k)), (7, .int (nI 1)), (6, .int (nI (sqN P k))), (5, .int (nI (owG P (2 ^ k - 1)))), (4, .int (nI (P 0 1 % 2 ^ k))), (3, .int (nI (P 0 6))), (2, .int (nI (P 0 4))), (1, .int (nI (P 0 0))), (0, .ref D.1)] → W p l e R s m args below meth c H locs cells slots Q (F0 m 96 ls []) := by
  obtain ⟨hx, hb, hml, hown, hts, hK, hAm, hA, hR1, hR2⟩ := id C
  have h8 := hW.k8
  intro n
  induction n with
  | zero =>
    intro k hk H locs ls w hl
    have hk : k = P 0 0 := by omega
    subst hk
    rw [Nat.mod_eq_of_lt hW.1.2.1, owG_all hW, sq_cut hW] at hl
    refine lv_iload hx hb dL_hangs_96 (lv_at hl 0 rfl) ?_
    refine lv_iload_n hx hb dL_hangs_98 rfl (lv_at hl 7 rfl) ?_
    refine lv_icmp_ge (tgt := 362) hx hb dL_hangs_99 (by decide) (fun _ => ?_) (fun z => absurd (nr2 (by omega) (by omega) (Nat.le_refl _)) z)
    exact go H locs ls w (lv_sub hl [1, 2, 3, 4, 5, 6, 7, 8] rfl)
  | succ n ih =>
    intro k hk H locs ls w hl
    have hk0 : k < P 0 0 := by omega
    have hw2 := hW.2 k (by omega)
    refine lv_iload hx hb dL_hangs_96 (lv_at hl 0 rfl) ?_
    refine lv_iload_n hx hb dL_hangs_98 rfl (lv_at hl 7 rfl) ?_
    refine lv_icmp_ge (tgt := 362) hx hb dL_hangs_99 (by decide) (fun z => absurd z (fun y => absurd ((nI_leI (by omega) (by omega)).mp y) (by omega))) (fun _ => ?_)
    refine lv_iload hx hb dL_hangs_102 (lv_at hl 1 rfl) ?_
    refine lv_if_eq (tgt := 362) hx hb dL_hangs_104 (by decide) (fun z => absurd z (by decide)) (fun _ => ?_)
    refine lv_aload_n hx hb dL_hangs_107 rfl (lv_at hl 8 rfl) ?_
    refine lv_iload hx hb dL_hangs_108 (lv_at hl 0 rfl) ?_
    refine lv_iconst (v := nI 2) hx hb dL_hangs_110 (by decide) ?_
    refine n_keeperOf C gL_hangs_L_keeperOf w (k := k) (i := 2) hk0 (by decide) (f := (nI (owK P k))) (rfl) hl.1 (Nat.le_of_ble_eq_true rfl) dL_hangs_111 hc (fun H locs w => ?_)
    refine lv_istore (lv' := [(9, .int ((nI (owK P k)))), (8, .int (nI k)), (7, .int (nI 1)), (6, .int (nI (sqN P k))), (5, .int (nI (owG P (2 ^ k - 1)))), (4, .int (nI (P 0 1 % 2 ^ k))), (3, .int (nI (P 0 6))), (2, .int (nI (P 0 4))), (1, .int (nI (P 0 0))), (0, .ref D.1)]) hx hb dL_hangs_114 hl (by decide) rfl (fun ls hl => ?_)
    refine lv_aload_n hx hb dL_hangs_116 rfl (lv_at hl 9 rfl) ?_
    refine lv_iload hx hb dL_hangs_117 (lv_at hl 1 rfl) ?_
    refine lv_iconst (v := nI 0) hx hb dL_hangs_119 (by decide) ?_
    refine n_keeperOf C gL_hangs_L_keeperOf w (k := k) (i := 0) hk0 (by decide) (f := (nI (if (P 0 1).testBit k = true then 1 else 0))) (rfl) hl.1 (Nat.le_of_ble_eq_true rfl) dL_hangs_120 hc (fun H locs w => ?_)
    refine lv_istore (lv' := [(10, .int ((nI (if (P 0 1).testBit k = true then 1 else 0)))), (9, .int ((nI (owK P k)))), (8, .int (nI k)), (7, .int (nI 1)), (6, .int (nI (sqN P k))), (5, .int (nI (owG P (2 ^ k - 1)))), (4, .int (nI (P 0 1 % 2 ^ k))), (3, .int (nI (P 0 6))), (2, .int (nI (P 0 4))), (1, .int (nI (P 0 0))), (0, .ref D.1)]) hx hb dL_hangs_123 hl (by decide) rfl (fun ls hl => ?_)
    refine lv_aload_n hx hb dL_hangs_125 rfl (lv_at hl 10 rfl) ?_
    refine lv_iload hx hb dL_hangs_126 (lv_at hl 2 rfl) ?_
    refine lv_iconst (v := nI 1) hx hb dL_hangs_128 (by decide) ?_
    refine n_keeperOf C gL_hangs_L_keeperOf w (k := k) (i := 1) hk0 (by decide) (f := (dn (P 1 k))) (rfl) hl.1 (Nat.le_of_ble_eq_true rfl) dL_hangs_129 hc (fun H locs w => ?_)
    refine lv_istore (lv' := [(11, .int ((dn (P 1 k)))), (10, .int ((nI (if (P 0 1).testBit k = true then 1 else 0)))), (9, .int ((nI (owK P k)))), (8, .int (nI k)), (7, .int (nI 1)), (6, .int (nI (sqN P k))), (5, .int (nI (owG P (2 ^ k - 1)))), (4, .int (nI (P 0 1 % 2 ^ k))), (3, .int (nI (P 0 6))), (2, .int (nI (P 0 4))), (1, .int (nI (P 0 0))), (0, .ref D.1)]) hx hb dL_hangs_132 hl (by decide) rfl (fun ls hl => ?_)
    have hj : W p l e R s m args below meth c H locs cells slots Q (F0 m 145 ls []) := by
      refine lv_iload hx hb dL_hangs_145 (lv_at hl 6 rfl) ?_
      refine lv_iload hx hb dL_hangs_147 (lv_at hl 2 rfl) ?_
      refine lv_iand hx hb dL_hangs_149 ?_
      refine lv_eqi (y := nI 0) (by rw [xI_and, ow_apart]) ?_
      refine lv_if_ne (tgt := 176) hx hb dL_hangs_150 (by decide) (fun z => absurd (by decide) z) (fun _ => ?_)
      refine lv_iload hx hb dL_hangs_153 (lv_at hl 0 rfl) ?_
      refine lv_iload hx hb dL_hangs_155 (lv_at hl 3 rfl) ?_
      refine lv_icmp_eq (tgt := 176) hx hb dL_hangs_157 (by decide) (fun z => absurd z (fun y => hw2.2.1 ((dn_nI _ (hW.he (by omega)) k (by omega)).mp y))) (fun _ => ?_)
      refine lv_iload hx hb dL_hangs_160 (lv_at hl 0 rfl) ?_
      refine lv_iload_n hx hb dL_hangs_162 rfl (lv_at hl 10 rfl) ?_
      refine lv_icmp_ge (tgt := 176) hx hb dL_hangs_163 (by decide) (fun z => absurd z (dn_nlt _ (hW.he (by omega)) _ (by omega) hw2.1)) (fun _ => ?_)
      refine lv_iload hx hb dL_hangs_166 (lv_at hl 0 rfl) ?_
      refine lv_iconst (v := (-1)) hx hb dL_hangs_168 (by decide) ?_
      refine lv_icmp_lt (tgt := 176) hx hb dL_hangs_169 (by decide) (fun z => absurd z (dn_m1lt _ (hW.he (by omega)))) (fun _ => ?_)
      refine lv_iconst (v := nI 1) hx hb dL_hangs_172 (by decide) ?_
      refine lv_goto (tgt := 177) hx hb dL_hangs_173 (by decide) ?_
      refine lv_istore (lv' := [(7, .int (nI 1)), (11, .int ((dn (P 1 k)))), (10, .int ((nI (if (P 0 1).testBit k = true then 1 else 0)))), (9, .int ((nI (owK P k)))), (8, .int (nI k)), (6, .int (nI (sqN P k))), (5, .int (nI (owG P (2 ^ k - 1)))), (4, .int (nI (P 0 1 % 2 ^ k))), (3, .int (nI (P 0 6))), (2, .int (nI (P 0 4))), (1, .int (nI (P 0 0))), (0, .ref D.1)]) hx hb dL_hangs_177 hl (by decide) rfl (fun ls hl => ?_)
      refine lv_iconst (v := nI 0) hx hb dL_hangs_179 (by decide) ?_
      refine lv_istore (lv' := [(12, .int (nI 0)), (7, .int (nI 1)), (11, .int ((dn (P 1 k)))), (10, .int ((nI (if (P 0 1).testBit k = true then 1 else 0)))), (9, .int ((nI (owK P k)))), (8, .int (nI k)), (6, .int (nI (sqN P k))), (5, .int (nI (owG P (2 ^ k - 1)))), (4, .int (nI (P 0 1 % 2 ^ k))), (3, .int (nI (P 0 6))), (2, .int (nI (P 0 4))), (1, .int (nI (P 0 0))), (0, .ref D.1)]) hx hb dL_hangs_180 hl (by decide) rfl (fun ls hl => ?_)
      refine h_j1 C hc hW hk0 (fun H locs ls w hl => ?_) 8 0 rfl H locs ls w (lv_sub hl [0, 3, 4, 5, 1, 6, 7, 8, 9, 10, 11, 12] rfl)
      refine lv_iconst (v := nI 0) hx hb dL_hangs_243 (by decide) ?_
      refine lv_istore (lv' := [(12, .int (nI 0)), (10, .int (nI (if (P 0 1).testBit k = true then 1 else 0))), (9, .int (nI (owK P k))), (8, .int (nI k)), (7, .int (nI 1)), (6, .int (nI (sqN P k))), (5, .int (nI (owG P (2 ^ k - 1)))), (4, .int (nI (P 0 1 % 2 ^ k))), (3, .int (nI (P 0 6))), (2, .int (nI (P 0 4))), (1, .int (nI (P 0 0))), (0, .ref D.1)]) hx hb dL_hangs_244 hl (by decide) rfl (fun ls hl => ?_)
      refine h_j2 C hc hW hk0 (fun H locs ls w hl => ?_) (P 0 0) 0 (Nat.zero_add _) H locs ls w (lv_sub hl [0, 1, 2, 3, 4, 5, 6, 7, 8, 9, 10, 11] rfl)
      refine lv_iload hx hb dL_hangs_297 (lv_at hl 3 rfl) ?_
      refine lv_if_eq (tgt := 321) hx hb dL_hangs_299 (by decide) (fun z => absurd z (by decide)) (fun _ => ?_)
      refine lv_aload_n hx hb dL_hangs_302 rfl (lv_at hl 10 rfl) ?_
      refine lv_iload hx hb dL_hangs_303 (lv_at hl 2 rfl) ?_
      refine lv_iconst (v := nI 3) hx hb dL_hangs_305 (by decide) ?_
      refine n_keeperOf C gL_hangs_L_keeperOf w (k := k) (i := 3) hk0 (by decide) (f := (nI (P 2 k))) (rfl) hl.1 (Nat.le_of_ble_eq_true rfl) dL_hangs_306 hc (fun H locs w => ?_)
      refine lv_iload hx hb dL_hangs_309 (lv_at hl 2 rfl) ?_
      refine lv_ishr hx hb dL_hangs_311 ?_
      refine lv_iconst (v := nI 1) hx hb dL_hangs_312 (by decide) ?_
      refine lv_iand hx hb dL_hangs_313 ?_
      refine lv_eqi (y := nI (if (P 2 k).testBit k = true then 1 else 0)) (bit_nat _ (hW.qm (by omega)) k (by omega)) ?_
      refine lv_if_ne (tgt := 321) hx hb dL_hangs_314 (by decide) (fun z => absurd ((b01_0 _).mpr hw2.2.2.2.1) z) (fun _ => ?_)
      refine lv_iconst (v := nI 1) hx hb dL_hangs_317 (by decide) ?_
      refine lv_goto (tgt := 322) hx hb dL_hangs_318 (by decide) ?_
      refine lv_istore (lv' := [(7, .int (nI 1)), (10, .int (nI (if (P 0 1).testBit k = true then 1 else 0))), (9, .int (nI (owK P k))), (8, .int (nI k)), (6, .int (nI (sqN P k))), (5, .int (nI (owG P (2 ^ k - 1)))), (4, .int (nI (P 0 1 % 2 ^ k))), (3, .int (nI (P 0 6))), (2, .int (nI (P 0 4))), (1, .int (nI (P 0 0))), (0, .ref D.1)]) hx hb dL_hangs_322 hl (by decide) rfl (fun ls hl => ?_)
      refine lv_iload hx hb dL_hangs_324 (lv_at hl 6 rfl) ?_
      refine lv_iload hx hb dL_hangs_326 (lv_at hl 1 rfl) ?_
      refine lv_iload hx hb dL_hangs_328 (lv_at hl 3 rfl) ?_
      refine lv_ishl hx hb dL_hangs_330 ?_
      refine lv_ior hx hb dL_hangs_331 ?_
      refine lv_eqi (y := nI (P 0 1 % 2 ^ (k + 1))) (liv_s _ hW.lv k (by omega)) ?_
      refine lv_istore (lv' := [(4, .int (nI (P 0 1 % 2 ^ (k + 1)))), (7, .int (nI 1)), (10, .int (nI (if (P 0 1).testBit k = true then 1 else 0))), (9, .int (nI (owK P k))), (8, .int (nI k)), (6, .int (nI (sqN P k))), (5, .int (nI (owG P (2 ^ k - 1)))), (3, .int (nI (P 0 6))), (2, .int (nI (P 0 4))), (1, .int (nI (P 0 0))), (0, .ref D.1)]) hx hb dL_hangs_332 hl (by decide) rfl (fun ls hl => ?_)
      refine lv_iload hx hb dL_hangs_334 (lv_at hl 6 rfl) ?_
      refine lv_iload hx hb dL_hangs_336 (lv_at hl 3 rfl) ?_
      refine lv_ior hx hb dL_hangs_338 ?_
      refine lv_eqi (y := nI (owG P (2 ^ (k + 1) - 1))) (by rw [nI_or, owG_low P (by omega)]) ?_
      refine lv_istore (lv' := [(5, .int (nI (owG P (2 ^ (k + 1) - 1)))), (4, .int (nI (P 0 1 % 2 ^ (k + 1)))), (7, .int (nI 1)), (10, .int (nI (if (P 0 1).testBit k = true then 1 else 0))), (9, .int (nI (owK P k))), (8, .int (nI k)), (6, .int (nI (sqN P k))), (3, .int (nI (P 0 6))), (2, .int (nI (P 0 4))), (1, .int (nI (P 0 0))), (0, .ref D.1)]) hx hb dL_hangs_339 hl (by decide) rfl (fun ls hl => ?_)
      refine lv_iload hx hb dL_hangs_341 (lv_at hl 6 rfl) ?_
      refine lv_aload_n hx hb dL_hangs_343 rfl (lv_at hl 10 rfl) ?_
      refine lv_iload hx hb dL_hangs_344 (lv_at hl 5 rfl) ?_
      refine lv_iconst (v := nI 3) hx hb dL_hangs_346 (by decide) ?_
      refine n_keeperOf C gL_hangs_L_keeperOf w (k := k) (i := 3) hk0 (by decide) (f := (nI (P 2 k))) (rfl) hl.1 (Nat.le_of_ble_eq_true rfl) dL_hangs_347 hc (fun H locs w => ?_)
      refine n_bits C gL_hangs_L_bits w (k := (P 2 k)) (hW.qm (by omega)) hl.1 (Nat.le_of_ble_eq_true rfl) dL_hangs_350 hc (fun H locs w => ?_)
      refine lv_iadd hx hb dL_hangs_353 ?_
      refine lv_eqi (y := nI (sqN P (k + 1))) (nI_add _ _) ?_
      refine lv_istore (lv' := [(6, .int (nI (sqN P (k + 1)))), (5, .int (nI (owG P (2 ^ (k + 1) - 1)))), (4, .int (nI (P 0 1 % 2 ^ (k + 1)))), (7, .int (nI 1)), (10, .int (nI (if (P 0 1).testBit k = true then 1 else 0))), (9, .int (nI (owK P k))), (8, .int (nI k)), (3, .int (nI (P 0 6))), (2, .int (nI (P 0 4))), (1, .int (nI (P 0 0))), (0, .ref D.1)]) hx hb dL_hangs_354 hl (by decide) rfl (fun ls hl => ?_)
      refine lv_iinc (v := (nI (k + 1))) (lv' := [(8, .int ((nI (k + 1)))), (6, .int (nI (sqN P (k + 1)))), (5, .int (nI (owG P (2 ^ (k + 1) - 1)))), (4, .int (nI (P 0 1 % 2 ^ (k + 1)))), (7, .int (nI 1)), (10, .int (nI (if (P 0 1).testBit k = true then 1 else 0))), (9, .int (nI (owK P k))), (3, .int (nI (P 0 6))), (2, .int (nI (P 0 4))), (1, .int (nI (P 0 0))), (0, .ref D.1)]) hx hb dL_hangs_356 hl (k := 6) rfl (nI_1 _) (by decide) rfl (fun ls hl => ?_)
      refine lv_goto (tgt := 96) hx hb dL_hangs_359 (by decide) ?_
      exact ih (k + 1) (by omega) H locs ls w (lv_sub hl [0, 4, 1, 2, 3, 7, 8, 9, 10] rfl)
    refine lv_iload hx hb dL_hangs_134 (lv_at hl 1 rfl) ?_
    refine lv_iconst (v := nI 1) hx hb dL_hangs_136 (by decide) ?_
    refine lv_icmp_eq (tgt := 145) hx hb dL_hangs_137 (by decide) (fun z => ?_) (fun z => ?_)
    · exact hj
    · refine lv_iload hx hb dL_hangs_140 (lv_at hl 2 rfl) ?_
      have hbf : (P 0 1).testBit k = false := by
        cases hq : (P 0 1).testBit k with
        | false => rfl
        | true => exact absurd ((b01_1 _).mpr hq) z
      refine lv_if_ne (tgt := 176) hx hb dL_hangs_142 (by decide) (fun z => absurd (by rw [ow_live hI hbf]; decide) z) (fun _ => ?_)
      exact hj
set_option maxHeartbeats 4000000 in
set_option maxRecDepth 100000 in
theorem h_s (C : CX p R s m args c A Γ cL_hangs 16 wsL_hangs) (hc : cells ≤ R.cells ∧ slots ≤ R.slots) (hW : WF P) {v4 v3 v2 v1 : Int32} (go : ∀ (H : Heap) (locs : List Loc) (ls : Array Slot), WD Γ D A s P S H locs → lv_has ls 16 [(7, .int (nI 1)), (5, .int (nI (thM P))), (4, .int v4), (3, .int v3), (2, .int v2), (1, .int v1), (0, .ref D.1)] → W p l e R s m args below meth c H locs cells slots Q (F0 m 518 ls [])) : ∀ (n j : Nat), j + n = 8 → ∀ (H : Heap) (locs : List Loc) (ls : Array Slot), WD Γ D A s P S H locs → lv_has ls 16 [(8, .int (nI j)), (7, .int (nI 1)), (5, .int (nI (thM P))), (4, .int v4), (3, .int v3), (2, .int v2), (1, .int v1), (0, .ref D.1)] → W p l e R s m args below meth c H locs cells slots Q (F0 m 417 ls []) := by
  obtain ⟨hx, hb, hml, hown, hts, hK, hAm, hA, hR1, hR2⟩ := id C
  intro n
  induction n with
  | zero =>
    intro j hj H locs ls w hl
    have hj : j = 8 := by omega
    subst hj
    refine lv_iload hx hb dL_hangs_417 (lv_at hl 0 rfl) ?_
    refine lv_bipush (v := nI 8) hx hb dL_hangs_419 (by decide) ?_
    refine lv_icmp_ge (tgt := 518) hx hb dL_hangs_421 (by decide) (fun _ => ?_) (fun z => absurd (by decide) z)
    exact go H locs ls w (lv_sub hl [1, 2, 3, 4, 5, 6, 7] rfl)
  | succ n ih =>
    intro j hj H locs ls w hl
    have hj8 : j < 8 := by omega
    refine lv_iload hx hb dL_hangs_417 (lv_at hl 0 rfl) ?_
    refine lv_bipush (v := nI 8) hx hb dL_hangs_419 (by decide) ?_
    refine lv_icmp_ge (tgt := 518) hx hb dL_hangs_421 (by decide) (fun z => absurd z (fun y => absurd ((nI_leI (by omega) (by omega)).mp y) (by omega))) (fun _ => ?_)
    refine lv_iload hx hb dL_hangs_424 (lv_at hl 1 rfl) ?_
    refine lv_if_eq (tgt := 518) hx hb dL_hangs_426 (by decide) (fun z => absurd z (by decide)) (fun _ => ?_)
    refine lv_aload_n hx hb dL_hangs_429 rfl (lv_at hl 7 rfl) ?_
    refine lv_iload hx hb dL_hangs_430 (lv_at hl 0 rfl) ?_
    refine lv_iconst (v := nI 0) hx hb dL_hangs_432 (by decide) ?_
    refine n_share C gL_hangs_L_share w (k := j) (i := 0) hj8 (by decide) (f := (shV P j 0)) (rfl) hl.1 (Nat.le_of_ble_eq_true rfl) dL_hangs_433 hc (fun H locs w => ?_)
    refine lv_istore (lv' := [(9, .int ((shV P j 0))), (8, .int (nI j)), (7, .int (nI 1)), (5, .int (nI (thM P))), (4, .int v4), (3, .int v3), (2, .int v2), (1, .int v1), (0, .ref D.1)]) hx hb dL_hangs_436 hl (by decide) rfl (fun ls hl => ?_)
    refine lv_iload hx hb dL_hangs_438 (lv_at hl 0 rfl) ?_
    refine lv_iconst (v := (-1)) hx hb dL_hangs_440 (by decide) ?_
    refine eqB hx hb dL_hangs_441 dL_hangs_444 dL_hangs_445 dL_hangs_448 ?_
    refine lv_iload hx hb dL_hangs_449 (lv_at hl 3 rfl) ?_
    refine lv_iload hx hb dL_hangs_451 (lv_at hl 1 rfl) ?_
    refine lv_ishr hx hb dL_hangs_453 ?_
    refine lv_iconst (v := nI 1) hx hb dL_hangs_454 (by decide) ?_
    refine lv_iand hx hb dL_hangs_455 ?_
    refine lv_eqi (y := nI (if (thM P).testBit j = true then 1 else 0)) (bit_nat _ (thM_lt P) j hj8) ?_
    refine eqZ hx hb dL_hangs_456 dL_hangs_459 dL_hangs_460 dL_hangs_463 ?_
    refine lv_icmp_ne (tgt := 509) hx hb dL_hangs_464 (by decide) (fun z => absurd (bI_eq (by rw [sh_m1 hW hj8 (Or.inl rfl), b01_0, thM_bit hj8]; simp)) z) (fun _ => ?_)
    refine lv_iload hx hb dL_hangs_467 (lv_at hl 0 rfl) ?_
    refine lv_sipush (v := nI 250) hx hb dL_hangs_469 (by decide) ?_
    refine lv_icmp_gt (tgt := 509) hx hb dL_hangs_472 (by decide) (fun z => absurd z (sh_250 hW hj8)) (fun _ => ?_)
    refine lv_aload_n hx hb dL_hangs_475 rfl (lv_at hl 8 rfl) ?_
    refine lv_iload hx hb dL_hangs_476 (lv_at hl 1 rfl) ?_
    refine lv_iconst (v := nI 2) hx hb dL_hangs_478 (by decide) ?_
    refine n_share C gL_hangs_L_share w (k := j) (i := 2) hj8 (by decide) (f := (shV P j 2)) (rfl) hl.1 (Nat.le_of_ble_eq_true rfl) dL_hangs_479 hc (fun H locs w => ?_)
    refine lv_iconst (v := (-1)) hx hb dL_hangs_482 (by decide) ?_
    refine eqB hx hb dL_hangs_483 dL_hangs_486 dL_hangs_487 dL_hangs_490 ?_
    refine lv_iload hx hb dL_hangs_491 (lv_at hl 0 rfl) ?_
    refine lv_iconst (v := (-1)) hx hb dL_hangs_493 (by decide) ?_
    refine eqB hx hb dL_hangs_494 dL_hangs_497 dL_hangs_498 dL_hangs_501 ?_
    refine lv_icmp_ne (tgt := 509) hx hb dL_hangs_502 (by decide) (fun z => absurd (bI_eq (by rw [sh_m1 hW hj8 (Or.inl rfl), sh_m1 hW hj8 (Or.inr rfl)])) z) (fun _ => ?_)
    refine lv_iconst (v := nI 1) hx hb dL_hangs_505 (by decide) ?_
    refine lv_goto (tgt := 510) hx hb dL_hangs_506 (by decide) ?_
    refine lv_istore (lv' := [(7, .int (nI 1)), (9, .int ((shV P j 0))), (8, .int (nI j)), (5, .int (nI (thM P))), (4, .int v4), (3, .int v3), (2, .int v2), (1, .int v1), (0, .ref D.1)]) hx hb dL_hangs_510 hl (by decide) rfl (fun ls hl => ?_)
    refine lv_iinc (v := (nI (j + 1))) (lv' := [(8, .int ((nI (j + 1)))), (7, .int (nI 1)), (9, .int ((shV P j 0))), (5, .int (nI (thM P))), (4, .int v4), (3, .int v3), (2, .int v2), (1, .int v1), (0, .ref D.1)]) hx hb dL_hangs_512 hl (k := 2) rfl (nI_1 _) (by decide) rfl (fun ls hl => ?_)
    refine lv_goto (tgt := 417) hx hb dL_hangs_515 (by decide) ?_
    exact ih (j + 1) (by omega) H locs ls w (lv_sub hl [0, 1, 3, 4, 5, 6, 7, 8] rfl)
set_option maxHeartbeats 4000000 in
set_option maxRecDepth 100000 in
theorem h_f (C : CX p R s m args c A Γ cL_hangs 16 wsL_hangs) (hc : cells ≤ R.cells ∧ slots ≤ R.slots) (hW : WF P) {v4 v3 v2 : Int32} (go : ∀ (H : Heap) (locs : List Loc) (ls : Array Slot), WD Γ D A s P S H locs → lv_has ls 16 [(8, .int (bI (fgB P 8))), (7, .int (nI 1)), (5, .int (nI (thM P))), (4, .int v4), (3, .int v3), (2, .int v2), (0, .ref D.1)] → W p l e R s m args below meth c H locs cells slots Q (F0 m 560 ls [])) : ∀ (n j : Nat), j + n = 8 → ∀ (H : Heap) (locs : List Loc) (ls : Array Slot), WD Γ D A s P S H locs → lv_has ls 16 [(9, .int (nI j)), (8, .int (bI (fgB P j))), (7, .int (nI 1)), (5, .int (nI (thM P))), (4, .int v4), (3, .int v3), (2, .int v2), (0, .ref D.1)] → W p l e R s m args below meth c H locs cells slots Q (F0 m 524 ls []) := by
  obtain ⟨hx, hb, hml, hown, hts, hK, hAm, hA, hR1, hR2⟩ := id C
  intro n
  induction n with
  | zero =>
    intro j hj H locs ls w hl
    have hj : j = 8 := by omega
    subst hj
    refine lv_iload hx hb dL_hangs_524 (lv_at hl 0 rfl) ?_
    refine lv_bipush (v := nI 8) hx hb dL_hangs_526 (by decide) ?_
    refine lv_icmp_ge (tgt := 560) hx hb dL_hangs_528 (by decide) (fun _ => ?_) (fun z => absurd (by decide) z)
    exact go H locs ls w (lv_sub hl [1, 2, 3, 4, 5, 6, 7] rfl)
  | succ n ih =>
    intro j hj H locs ls w hl
    have hj8 : j < 8 := by omega
    refine lv_iload hx hb dL_hangs_524 (lv_at hl 0 rfl) ?_
    refine lv_bipush (v := nI 8) hx hb dL_hangs_526 (by decide) ?_
    refine lv_icmp_ge (tgt := 560) hx hb dL_hangs_528 (by decide) (fun z => absurd z (fun y => absurd ((nI_leI (by omega) (by omega)).mp y) (by omega))) (fun _ => ?_)
    refine lv_iload hx hb dL_hangs_531 (lv_at hl 1 rfl) ?_
    cases hq : fgB P j with
    | true =>
      refine lv_if_ne (tgt := 547) hx hb dL_hangs_533 (by decide) (fun _ => ?_) (fun z => absurd z (by decide))
      refine lv_iconst (v := nI 1) hx hb dL_hangs_547 (by decide) ?_
      refine lv_goto (tgt := 552) hx hb dL_hangs_548 (by decide) ?_
      refine lv_eqi (y := bI (fgB P (j + 1))) (by show nI 1 = bI (fgB P j || _); rw [hq]; rfl) ?_
      refine lv_istore (lv' := [(8, .int (bI (fgB P (j + 1)))), (9, .int (nI j)), (7, .int (nI 1)), (5, .int (nI (thM P))), (4, .int v4), (3, .int v3), (2, .int v2), (0, .ref D.1)]) hx hb dL_hangs_552 hl (by decide) rfl (fun ls hl => ?_)
      refine lv_iinc (v := (nI (j + 1))) (lv' := [(9, .int ((nI (j + 1)))), (8, .int (bI (fgB P (j + 1)))), (7, .int (nI 1)), (5, .int (nI (thM P))), (4, .int v4), (3, .int v3), (2, .int v2), (0, .ref D.1)]) hx hb dL_hangs_554 hl (k := 1) rfl (nI_1 _) (by decide) rfl (fun ls hl => ?_)
      refine lv_goto (tgt := 524) hx hb dL_hangs_557 (by decide) ?_
      exact ih (j + 1) (by omega) H locs ls w (lv_sub hl [0, 1, 2, 3, 4, 5, 6, 7] rfl)
    | false =>
      refine lv_if_ne (tgt := 547) hx hb dL_hangs_533 (by decide) (fun z => absurd (by decide) z) (fun _ => ?_)
      refine lv_aload_n hx hb dL_hangs_536 rfl (lv_at hl 7 rfl) ?_
      refine lv_iload hx hb dL_hangs_537 (lv_at hl 0 rfl) ?_
      refine lv_iconst (v := nI 2) hx hb dL_hangs_539 (by decide) ?_
      refine n_share C gL_hangs_L_share w (k := j) (i := 2) hj8 (by decide) (f := (shV P j 2)) (rfl) hl.1 (Nat.le_of_ble_eq_true rfl) dL_hangs_540 hc (fun H locs w => ?_)
      refine lv_iconst (v := nI 1) hx hb dL_hangs_543 (by decide) ?_
      refine eqB hx hb dL_hangs_544 dL_hangs_547 dL_hangs_548 dL_hangs_551 ?_
      refine lv_eqi (y := bI (fgB P (j + 1))) (by show _ = bI (fgB P j || _); rw [hq, Bool.false_or]; congr 1; exact Bool.eq_iff_iff.mpr (by rw [decide_eq_true_eq]; exact sh_fg P j)) ?_
      refine lv_istore (lv' := [(8, .int (bI (fgB P (j + 1)))), (9, .int (nI j)), (7, .int (nI 1)), (5, .int (nI (thM P))), (4, .int v4), (3, .int v3), (2, .int v2), (0, .ref D.1)]) hx hb dL_hangs_552 hl (by decide) rfl (fun ls hl => ?_)
      refine lv_iinc (v := (nI (j + 1))) (lv' := [(9, .int ((nI (j + 1)))), (8, .int (bI (fgB P (j + 1)))), (7, .int (nI 1)), (5, .int (nI (thM P))), (4, .int v4), (3, .int v3), (2, .int v2), (0, .ref D.1)]) hx hb dL_hangs_554 hl (k := 1) rfl (nI_1 _) (by decide) rfl (fun ls hl => ?_)
      refine lv_goto (tgt := 524) hx hb dL_hangs_557 (by decide) ?_
      exact ih (j + 1) (by omega) H locs ls w (lv_sub hl [0, 1, 2, 3, 4, 5, 6, 7] rfl)
set_option maxHeartbeats 4000000 in
set_option maxRecDepth 100000 in
theorem h_end (C : CX p R s m args c A Γ cL_hangs 16 wsL_hangs) (hc : cells ≤ R.cells ∧ slots ≤ R.slots) (hW : WF P) (hI : IV P) (ex : ∀ (H : Heap) (locs : List Loc) (ls : Array Slot), WD Γ D A s P S H locs → W p l e R s m args below meth c H locs cells slots Q (F0 m 979 ls [.int (nI 1)])) (w : WD Γ D A s P S H locs) (hl : lv_has ls 16 [(9, .int (nI (grN P))), (7, .int (nI 1)), (2, .int (nI (P 0 4))), (0, .ref D.1)]) : W p l e R s m args below meth c H locs cells slots Q (F0 m 914 ls []) := by
  obtain ⟨hx, hb, hml, hown, hts, hK, hAm, hA, hR1, hR2⟩ := id C
  have h4 := hW.1.2.2.2.2.1
  have hs := hI.1
  have hq1 := hW.1.2.2.2.2.2.2.2.1 hs
  have p0 : pop 0 = 0 := by decide
  have s0 : subB 0 (thM P) = true := subB_iff.mpr (fun j _ z => by simp at z)
  have e0 : poV P 0 = nI 251 := by unfold poV; rw [if_neg hs, if_pos s0, if_neg (by omega)]
  have hpp := Nat.two_pow_pos (P 0 0)
  refine lv_iload hx hb dL_hangs_914 (lv_at hl 1 rfl) ?_
  refine lv_if_eq (tgt := 978) hx hb dL_hangs_916 (by decide) (fun z => absurd z (by decide)) (fun _ => ?_)
  refine lv_iload_n hx hb dL_hangs_919 rfl (lv_at hl 2 rfl) ?_
  refine lv_if_ne (tgt := 944) hx hb dL_hangs_920 (by decide) (fun _ => ?_) (fun z => absurd z (nI_ne0 (by omega) (by omega)))
  refine lv_aload_n hx hb dL_hangs_944 rfl (lv_at hl 3 rfl) ?_
  refine lv_iconst (v := nI 0) hx hb dL_hangs_945 (by decide) ?_
  refine n_possible C gL_hangs_L_possible w (k := 0) (by decide) (f := (nI 251)) (e0) hl.1 (Nat.le_of_ble_eq_true rfl) dL_hangs_946 hc (fun H locs w => ?_)
  refine lv_sipush (v := nI 251) hx hb dL_hangs_949 (by decide) ?_
  refine lv_icmp_ne (tgt := 978) hx hb dL_hangs_952 (by decide) (fun z => absurd (rfl) z) (fun _ => ?_)
  refine lv_iload_n hx hb dL_hangs_955 rfl (lv_at hl 2 rfl) ?_
  refine lv_iconst (v := nI 1) hx hb dL_hangs_956 (by decide) ?_
  have hj : W p l e R s m args below meth c H locs cells slots Q (F0 m 974 ls []) := by
    refine lv_iconst (v := nI 1) hx hb dL_hangs_974 (by decide) ?_
    refine lv_goto (tgt := 979) hx hb dL_hangs_975 (by decide) ?_
    exact ex H locs ls w
  refine lv_icmp_eq (tgt := 974) hx hb dL_hangs_957 (by decide) (fun z => ?_) (fun z => ?_)
  · exact hj
  · have hn1 : P 0 4 ≠ 1 := fun y => z (by rw [y])
    refine lv_iload hx hb dL_hangs_960 (lv_at hl 0 rfl) ?_
    refine lv_if_ne (tgt := 978) hx hb dL_hangs_962 (by decide) (fun z => absurd (by rw [gr_one hn1]; decide) z) (fun _ => ?_)
    refine lv_aload_n hx hb dL_hangs_965 rfl (lv_at hl 3 rfl) ?_
    refine lv_iconst (v := nI 0) hx hb dL_hangs_966 (by decide) ?_
    refine n_why C gL_hangs_L_why w (k := 0) hpp (f := (nI 1)) (by unfold reaN; rw [if_neg hn1]) hl.1 (Nat.le_of_ble_eq_true rfl) dL_hangs_967 hc (fun H locs w => ?_)
    refine lv_iconst (v := nI 1) hx hb dL_hangs_970 (by decide) ?_
    refine lv_icmp_ne (tgt := 978) hx hb dL_hangs_971 (by decide) (fun z => absurd (rfl) z) (fun _ => ?_)
    refine lv_iconst (v := nI 1) hx hb dL_hangs_974 (by decide) ?_
    refine lv_goto (tgt := 979) hx hb dL_hangs_975 (by decide) ?_
    exact ex H locs ls w
set_option maxHeartbeats 4000000 in
set_option maxRecDepth 100000 in
theorem h_lh (C : CX p R s m args c A Γ cL_hangs 16 wsL_hangs) (hc : cells ≤ R.cells ∧ slots ≤ R.slots) (hW : WF P) (go : ∀ (H : Heap) (locs : List Loc) (ls : Array Slot), WD Γ D A s P S H locs → lv_has ls 16 [(14, .int (nI (hiQ (thM P) (P 0 6) 8))), (13, .int (nI (lowQ (thM P) (P 0 6) 8))), (9, .int (nI (grN P))), (7, .int (nI 1)), (5, .int (nI (thM P))), (3, .int (nI (P 0 6))), (2, .int (nI (P 0 4))), (0, .ref D.1)] → W p l e R s m args below meth c H locs cells slots Q (F0 m 850 ls [])) : ∀ (n j : Nat), j + n = 8 → ∀ (H : Heap) (locs : List Loc) (ls : Array Slot), WD Γ D A s P S H locs → lv_has ls 16 [(15, .int (nI j)), (14, .int (nI (hiQ (thM P) (P 0 6) j))), (13, .int (nI (lowQ (thM P) (P 0 6) j))), (9, .int (nI (grN P))), (7, .int (nI 1)), (5, .int (nI (thM P))), (3, .int (nI (P 0 6))), (2, .int (nI (P 0 4))), (0, .ref D.1)] → W p l e R s m args below meth c H locs cells slots Q (F0 m 765 ls []) := by
  obtain ⟨hx, hb, hml, hown, hts, hK, hAm, hA, hR1, hR2⟩ := id C
  have ht := thM_lt P
  have hq8 := hW.1.2.2.2.2.2.2.1
  intro n
  induction n with
  | zero =>
    intro j hj H locs ls w hl
    have hj : j = 8 := by omega
    subst hj
    refine lv_iload hx hb dL_hangs_765 (lv_at hl 0 rfl) ?_
    refine lv_bipush (v := nI 8) hx hb dL_hangs_767 (by decide) ?_
    refine lv_icmp_ge (tgt := 850) hx hb dL_hangs_769 (by decide) (fun _ => ?_) (fun z => absurd (by decide) z)
    exact go H locs ls w (lv_sub hl [1, 2, 3, 4, 5, 6, 7, 8] rfl)
  | succ n ih =>
    intro j hj H locs ls w hl
    have hj8 : j < 8 := by omega
    have hlo : lowQ (thM P) (P 0 6) j < 256 := Nat.lt_of_lt_of_le (lowQ_lt _ _ j) (p2_256 (by omega))
    have hhi := hiQ_lt (thM P) ht (P 0 6) (by omega) j (by omega)
    have ppl := pop_le (lowQ (thM P) (P 0 6) j)
    have pph := pop_le (hiQ (thM P) (P 0 6) j)
    refine lv_iload hx hb dL_hangs_765 (lv_at hl 0 rfl) ?_
    refine lv_bipush (v := nI 8) hx hb dL_hangs_767 (by decide) ?_
    refine lv_icmp_ge (tgt := 850) hx hb dL_hangs_769 (by decide) (fun z => absurd z (fun y => absurd ((nI_leI (by omega) (by omega)).mp y) (by omega))) (fun _ => ?_)
    have h841 : ∀ (H : Heap) (locs : List Loc) (ls : Array Slot) (z : Int32), WD Γ D A s P S H locs → lv_has ls 16 [(13, .int (nI (lowQ (thM P) (P 0 6) (j + 1)))), (15, .int (nI j)), (14, .int (nI (hiQ (thM P) (P 0 6) j))), (9, .int (nI (grN P))), (7, .int (nI 1)), (5, .int (nI (thM P))), (3, .int (nI (P 0 6))), (2, .int (nI (P 0 4))), (0, .ref D.1)] → nI (hiQ (thM P) (P 0 6) j) ||| z = nI (hiQ (thM P) (P 0 6) (j + 1)) → W p l e R s m args below meth c H locs cells slots Q (F0 m 841 ls [.int z, .int (nI (hiQ (thM P) (P 0 6) j))]) := by
      intro H locs ls z w hl hz
      refine lv_ior hx hb dL_hangs_841 ?_
      refine lv_eqi (y := nI (hiQ (thM P) (P 0 6) (j + 1))) (hz) ?_
      refine lv_istore (lv' := [(14, .int (nI (hiQ (thM P) (P 0 6) (j + 1)))), (13, .int (nI (lowQ (thM P) (P 0 6) (j + 1)))), (15, .int (nI j)), (9, .int (nI (grN P))), (7, .int (nI 1)), (5, .int (nI (thM P))), (3, .int (nI (P 0 6))), (2, .int (nI (P 0 4))), (0, .ref D.1)]) hx hb dL_hangs_842 hl (by decide) rfl (fun ls hl => ?_)
      refine lv_iinc (v := (nI (j + 1))) (lv' := [(15, .int ((nI (j + 1)))), (14, .int (nI (hiQ (thM P) (P 0 6) (j + 1)))), (13, .int (nI (lowQ (thM P) (P 0 6) (j + 1)))), (9, .int (nI (grN P))), (7, .int (nI 1)), (5, .int (nI (thM P))), (3, .int (nI (P 0 6))), (2, .int (nI (P 0 4))), (0, .ref D.1)]) hx hb dL_hangs_844 hl (k := 2) rfl (nI_1 _) (by decide) rfl (fun ls hl => ?_)
      refine lv_goto (tgt := 765) hx hb dL_hangs_847 (by decide) ?_
      exact ih (j + 1) (by omega) H locs ls w (lv_sub hl [0, 1, 2, 3, 4, 5, 6, 7, 8] rfl)
    have h802 : ∀ (H : Heap) (locs : List Loc) (z : Int32), WD Γ D A s P S H locs → nI (lowQ (thM P) (P 0 6) j) ||| z = nI (lowQ (thM P) (P 0 6) (j + 1)) → W p l e R s m args below meth c H locs cells slots Q (F0 m 802 ls [.int z, .int (nI (lowQ (thM P) (P 0 6) j))]) := by
      intro H locs z w hz
      refine lv_ior hx hb dL_hangs_802 ?_
      refine lv_eqi (y := nI (lowQ (thM P) (P 0 6) (j + 1))) (hz) ?_
      refine lv_istore (lv' := [(13, .int (nI (lowQ (thM P) (P 0 6) (j + 1)))), (15, .int (nI j)), (14, .int (nI (hiQ (thM P) (P 0 6) j))), (9, .int (nI (grN P))), (7, .int (nI 1)), (5, .int (nI (thM P))), (3, .int (nI (P 0 6))), (2, .int (nI (P 0 4))), (0, .ref D.1)]) hx hb dL_hangs_803 hl (by decide) rfl (fun ls hl => ?_)
      refine lv_iload hx hb dL_hangs_805 (lv_at hl 2 rfl) ?_
      refine lv_iload hx hb dL_hangs_807 (lv_at hl 5 rfl) ?_
      refine lv_bipush (v := nI 7) hx hb dL_hangs_809 (by decide) ?_
      refine lv_iload hx hb dL_hangs_811 (lv_at hl 1 rfl) ?_
      refine lv_isub hx hb dL_hangs_813 ?_
      refine lv_eqi (y := nI (7 - j)) (pk_sub (by omega)) ?_
      refine lv_ishr hx hb dL_hangs_814 ?_
      refine lv_iconst (v := nI 1) hx hb dL_hangs_815 (by decide) ?_
      refine lv_iand hx hb dL_hangs_816 ?_
      refine lv_eqi (y := nI (if (thM P).testBit (7 - j) = true then 1 else 0)) (bit_nat _ ht (7 - j) (by omega)) ?_
      refine lv_iconst (v := nI 1) hx hb dL_hangs_817 (by decide) ?_
      by_cases hz1 : (thM P).testBit (7 - j) = true
      · refine lv_icmp_ne (tgt := 840) hx hb dL_hangs_818 (by decide) (fun z => absurd ((b01_1 _).mpr hz1) z) (fun _ => ?_)
        refine lv_iload hx hb dL_hangs_821 (lv_at hl 2 rfl) ?_
        refine n_bits C gL_hangs_L_bits w (k := (hiQ (thM P) (P 0 6) j)) (hhi) hl.1 (Nat.le_of_ble_eq_true rfl) dL_hangs_823 hc (fun H locs w => ?_)
        refine lv_iload_n hx hb dL_hangs_826 rfl (lv_at hl 6 rfl) ?_
        by_cases hz2 : pop (hiQ (thM P) (P 0 6) j) < P 0 6
        · refine lv_icmp_ge (tgt := 840) hx hb dL_hangs_827 (by decide) (fun z => absurd z (fun y => absurd ((nI_leI (by omega) (by omega)).mp y) (by omega))) (fun _ => ?_)
          refine lv_iconst (v := nI 1) hx hb dL_hangs_830 (by decide) ?_
          refine lv_bipush (v := nI 7) hx hb dL_hangs_831 (by decide) ?_
          refine lv_iload hx hb dL_hangs_833 (lv_at hl 1 rfl) ?_
          refine lv_isub hx hb dL_hangs_835 ?_
          refine lv_eqi (y := nI (7 - j)) (pk_sub (by omega)) ?_
          refine lv_ishl hx hb dL_hangs_836 ?_
          refine lv_eqi (y := nI (2 ^ (7 - j))) (shl1 (by omega)) ?_
          refine lv_goto (tgt := 841) hx hb dL_hangs_837 (by decide) ?_
          exact h841 H locs ls _ w (lv_sub hl [0, 1, 2, 3, 4, 5, 6, 7, 8] rfl) (by rw [nI_or]; show _ = nI (_ ||| (if _ then _ else _)); rw [if_pos (by simp [hz1, hz2])])
        · refine lv_icmp_ge (tgt := 840) hx hb dL_hangs_827 (by decide) (fun _ => ?_) (fun z => absurd (nr2 (by omega) (by omega) (by omega)) z)
          refine lv_iconst (v := nI 0) hx hb dL_hangs_840 (by decide) ?_
          exact h841 H locs ls _ w (lv_sub hl [0, 1, 2, 3, 4, 5, 6, 7, 8] rfl) (by rw [or_z]; show _ = nI (_ ||| (if _ then _ else _)); rw [if_neg (by simp [hz2]), Nat.or_zero])
      · refine lv_icmp_ne (tgt := 840) hx hb dL_hangs_818 (by decide) (fun _ => ?_) (fun z => absurd z (fun y => hz1 ((b01_1 _).mp y)))
        refine lv_iconst (v := nI 0) hx hb dL_hangs_840 (by decide) ?_
        exact h841 H locs ls _ w (lv_sub hl [0, 1, 2, 3, 4, 5, 6, 7, 8] rfl) (by rw [or_z]; show _ = nI (_ ||| (if _ then _ else _)); rw [if_neg (by simp [hz1]), Nat.or_zero])
    refine lv_iload hx hb dL_hangs_772 (lv_at hl 2 rfl) ?_
    refine lv_iload hx hb dL_hangs_774 (lv_at hl 5 rfl) ?_
    refine lv_iload hx hb dL_hangs_776 (lv_at hl 0 rfl) ?_
    refine lv_ishr hx hb dL_hangs_778 ?_
    refine lv_iconst (v := nI 1) hx hb dL_hangs_779 (by decide) ?_
    refine lv_iand hx hb dL_hangs_780 ?_
    refine lv_eqi (y := nI (if (thM P).testBit j = true then 1 else 0)) (bit_nat _ ht j hj8) ?_
    refine lv_iconst (v := nI 1) hx hb dL_hangs_781 (by decide) ?_
    by_cases hz1 : (thM P).testBit j = true
    · refine lv_icmp_ne (tgt := 801) hx hb dL_hangs_782 (by decide) (fun z => absurd ((b01_1 _).mpr hz1) z) (fun _ => ?_)
      refine lv_iload hx hb dL_hangs_785 (lv_at hl 2 rfl) ?_
      refine n_bits C gL_hangs_L_bits w (k := (lowQ (thM P) (P 0 6) j)) (hlo) hl.1 (Nat.le_of_ble_eq_true rfl) dL_hangs_787 hc (fun H locs w => ?_)
      refine lv_iload_n hx hb dL_hangs_790 rfl (lv_at hl 6 rfl) ?_
      by_cases hz2 : pop (lowQ (thM P) (P 0 6) j) < P 0 6
      · refine lv_icmp_ge (tgt := 801) hx hb dL_hangs_791 (by decide) (fun z => absurd z (fun y => absurd ((nI_leI (by omega) (by omega)).mp y) (by omega))) (fun _ => ?_)
        refine lv_iconst (v := nI 1) hx hb dL_hangs_794 (by decide) ?_
        refine lv_iload hx hb dL_hangs_795 (lv_at hl 0 rfl) ?_
        refine lv_ishl hx hb dL_hangs_797 ?_
        refine lv_eqi (y := nI (2 ^ j)) (shl1 (by omega)) ?_
        refine lv_goto (tgt := 802) hx hb dL_hangs_798 (by decide) ?_
        exact h802 H locs _ w (by rw [nI_or]; show _ = nI (_ ||| (if _ then _ else _)); rw [if_pos (by simp [hz1, hz2])])
      · refine lv_icmp_ge (tgt := 801) hx hb dL_hangs_791 (by decide) (fun _ => ?_) (fun z => absurd (nr2 (by omega) (by omega) (by omega)) z)
        refine lv_iconst (v := nI 0) hx hb dL_hangs_801 (by decide) ?_
        exact h802 H locs _ w (by rw [or_z]; show _ = nI (_ ||| (if _ then _ else _)); rw [if_neg (by simp [hz2]), Nat.or_zero])
    · refine lv_icmp_ne (tgt := 801) hx hb dL_hangs_782 (by decide) (fun _ => ?_) (fun z => absurd z (fun y => hz1 ((b01_1 _).mp y)))
      refine lv_iconst (v := nI 0) hx hb dL_hangs_801 (by decide) ?_
      exact h802 H locs _ w (by rw [or_z]; show _ = nI (_ ||| (if _ then _ else _)); rw [if_neg (by simp [hz1]), Nat.or_zero])
set_option maxHeartbeats 4000000 in
set_option maxRecDepth 100000 in
theorem h_tail (C : CX p R s m args c A Γ cL_hangs 16 wsL_hangs) (hc : cells ≤ R.cells ∧ slots ≤ R.slots) (hW : WF P) (hI : IV P) (ex : ∀ (H : Heap) (locs : List Loc) (ls : Array Slot), WD Γ D A s P S H locs → W p l e R s m args below meth c H locs cells slots Q (F0 m 979 ls [.int (nI 1)])) (w : WD Γ D A s P S H locs) (hl : lv_has ls 16 [(9, .int (nI (grN P))), (8, .int (bI (fgB P 8))), (7, .int (nI 1)), (5, .int (nI (thM P))), (3, .int (nI (P 0 6))), (2, .int (nI (P 0 4))), (0, .ref D.1)]) : W p l e R s m args below meth c H locs cells slots Q (F0 m 733 ls []) := by
  obtain ⟨hx, hb, hml, hown, hts, hK, hAm, hA, hR1, hR2⟩ := id C
  have h4 := hW.1.2.2.2.2.1
  have hs := hI.1
  have hq1 := hW.1.2.2.2.2.2.2.2.1 hs
  have hq8 := hW.1.2.2.2.2.2.2.1
  have ht := thM_lt P
  have hpt := pop_le (thM P)
  refine lv_iload hx hb dL_hangs_733 (lv_at hl 2 rfl) ?_
  refine lv_if_eq (tgt := 914) hx hb dL_hangs_735 (by decide) (fun z => absurd z (by decide)) (fun _ => ?_)
  refine lv_iload_n hx hb dL_hangs_738 rfl (lv_at hl 5 rfl) ?_
  refine lv_if_le (tgt := 914) hx hb dL_hangs_739 (by decide) (fun z => absurd z (nI_nle (by omega) (by omega))) (fun _ => ?_)
  refine lv_iload hx hb dL_hangs_742 (lv_at hl 1 rfl) ?_
  cases hf : fgB P 8 with
  | true =>
    refine lv_if_ne (tgt := 914) hx hb dL_hangs_744 (by decide) (fun _ => ?_) (fun z => absurd z (by decide))
    exact h_end C hc hW hI ex w (lv_sub hl [0, 2, 5, 6] rfl)
  | false =>
    have hno := fg_no 8 hf
    refine lv_if_ne (tgt := 914) hx hb dL_hangs_744 (by decide) (fun z => absurd (by decide) z) (fun _ => ?_)
    refine lv_iload hx hb dL_hangs_747 (lv_at hl 3 rfl) ?_
    refine n_bits C gL_hangs_L_bits w (k := (thM P)) (ht) hl.1 (Nat.le_of_ble_eq_true rfl) dL_hangs_749 hc (fun H locs w => ?_)
    refine lv_iload_n hx hb dL_hangs_752 rfl (lv_at hl 4 rfl) ?_
    by_cases hp : pop (thM P) < P 0 6
    · refine lv_icmp_lt (tgt := 914) hx hb dL_hangs_753 (by decide) (fun _ => ?_) (fun z => absurd ((nI_ltI (by omega) (by omega)).mpr hp) z)
      exact h_end C hc hW hI ex w (lv_sub hl [0, 2, 5, 6] rfl)
    · refine lv_icmp_lt (tgt := 914) hx hb dL_hangs_753 (by decide) (fun z => absurd z (nr (by omega) (by omega) (by omega))) (fun _ => ?_)
      obtain ⟨l1, l2⟩ := lowq_t (thM P) ht (P 0 6) (by omega) (by omega)
      obtain ⟨u1, u2⟩ := hiQ_t (thM P) ht (P 0 6) (by omega) (by omega)
      have l3 := lowq_lt (thM P) (P 0 6)
      have u3 := hiQ_lt (thM P) ht (P 0 6) (by omega) 8 (by decide)
      have tel : ∀ g, g < 256 → subB g (thM P) = true → P 0 6 ≤ pop g → toV P g = nI (P 0 5) := fun g g1 g2 g3 => by
          unfold toV
          rw [if_neg hs, if_pos g2, if_pos g3, hI.2.2 g g1 (fun k hk z => by
            have := sub_th (subB_iff.mp g2) hk z
            exact ⟨this, hno k hk this⟩) g3]
      have tl := tel (lowq (thM P) (P 0 6)) l3 l2 (by omega)
      have th := tel (hiQ (thM P) (P 0 6) 8) u3 u2 (by omega)
      have sr : subB (thM P) (thM P) = true := subB_iff.mpr (fun j _ z => z)
      have tt := tel (thM P) ht sr (by omega)
      have po : poV P (thM P) = nI 1 := by
          unfold poV
          rw [if_neg hs, if_pos sr, if_pos (by omega), one_KD hI.2.2 hno 8 (thM P) ht (fun k hk z => sub_th (subB_iff.mp sr) hk z)]
          rfl
      obtain ⟨d1, d2⟩ := dropL_t (lowq (thM P) (P 0 6)) l3 (pop_pos _ l3 (by omega))
      have d3 := (tabL3 (lowq (thM P) (P 0 6)) l3 (pop_pos _ l3 (by omega))).2
      have pd : poV P (dropL (lowq (thM P) (P 0 6))) = nI 251 := by
          unfold poV
          rw [if_neg hs, if_pos (subB_tr d2 l2), if_neg (by omega)]
      refine lv_iconst (v := nI 0) hx hb dL_hangs_756 (by decide) ?_
      refine lv_istore (lv' := [(13, .int (nI 0)), (9, .int (nI (grN P))), (8, .int (bI (fgB P 8))), (7, .int (nI 1)), (5, .int (nI (thM P))), (3, .int (nI (P 0 6))), (2, .int (nI (P 0 4))), (0, .ref D.1)]) hx hb dL_hangs_757 hl (by decide) rfl (fun ls hl => ?_)
      refine lv_iconst (v := nI 0) hx hb dL_hangs_759 (by decide) ?_
      refine lv_istore (lv' := [(14, .int (nI 0)), (13, .int (nI 0)), (9, .int (nI (grN P))), (8, .int (bI (fgB P 8))), (7, .int (nI 1)), (5, .int (nI (thM P))), (3, .int (nI (P 0 6))), (2, .int (nI (P 0 4))), (0, .ref D.1)]) hx hb dL_hangs_760 hl (by decide) rfl (fun ls hl => ?_)
      refine lv_iconst (v := nI 0) hx hb dL_hangs_762 (by decide) ?_
      refine lv_istore (lv' := [(15, .int (nI 0)), (14, .int (nI 0)), (13, .int (nI 0)), (9, .int (nI (grN P))), (8, .int (bI (fgB P 8))), (7, .int (nI 1)), (5, .int (nI (thM P))), (3, .int (nI (P 0 6))), (2, .int (nI (P 0 4))), (0, .ref D.1)]) hx hb dL_hangs_763 hl (by decide) rfl (fun ls hl => ?_)
      refine h_lh C hc hW (fun H locs ls w hl => ?_) 8 0 rfl H locs ls w (lv_sub hl [0, 1, 2, 3, 5, 6, 7, 8, 9] rfl)
      replace hl : lv_has ls 16 [(14, .int (nI (hiQ (thM P) (P 0 6) 8))), (13, .int (nI (lowq (thM P) (P 0 6)))), (9, .int (nI (grN P))), (7, .int (nI 1)), (5, .int (nI (thM P))), (3, .int (nI (P 0 6))), (2, .int (nI (P 0 4))), (0, .ref D.1)] := hl
      refine lv_aload_n hx hb dL_hangs_850 rfl (lv_at hl 7 rfl) ?_
      refine lv_iload hx hb dL_hangs_851 (lv_at hl 1 rfl) ?_
      refine n_told C gL_hangs_L_told w (k := (lowq (thM P) (P 0 6))) l3 (f := (nI (P 0 5))) (tl) hl.1 (Nat.le_of_ble_eq_true rfl) dL_hangs_853 hc (fun H locs w => ?_)
      refine lv_aload_n hx hb dL_hangs_856 rfl (lv_at hl 7 rfl) ?_
      refine lv_iload hx hb dL_hangs_857 (lv_at hl 0 rfl) ?_
      refine n_told C gL_hangs_L_told w (k := (hiQ (thM P) (P 0 6) 8)) u3 (f := (nI (P 0 5))) (th) hl.1 (Nat.le_of_ble_eq_true rfl) dL_hangs_859 hc (fun H locs w => ?_)
      refine lv_icmp_ne (tgt := 911) hx hb dL_hangs_862 (by decide) (fun z => absurd (rfl) z) (fun _ => ?_)
      refine lv_aload_n hx hb dL_hangs_865 rfl (lv_at hl 7 rfl) ?_
      refine lv_iload hx hb dL_hangs_866 (lv_at hl 4 rfl) ?_
      refine n_told C gL_hangs_L_told w (k := thM P) ht (f := (nI (P 0 5))) (tt) hl.1 (Nat.le_of_ble_eq_true rfl) dL_hangs_868 hc (fun H locs w => ?_)
      refine lv_aload_n hx hb dL_hangs_871 rfl (lv_at hl 7 rfl) ?_
      refine lv_iload hx hb dL_hangs_872 (lv_at hl 1 rfl) ?_
      refine n_told C gL_hangs_L_told w (k := (lowq (thM P) (P 0 6))) l3 (f := (nI (P 0 5))) (tl) hl.1 (Nat.le_of_ble_eq_true rfl) dL_hangs_874 hc (fun H locs w => ?_)
      refine lv_icmp_ne (tgt := 911) hx hb dL_hangs_877 (by decide) (fun z => absurd (rfl) z) (fun _ => ?_)
      refine lv_aload_n hx hb dL_hangs_880 rfl (lv_at hl 7 rfl) ?_
      refine lv_iload hx hb dL_hangs_881 (lv_at hl 4 rfl) ?_
      refine n_possible C gL_hangs_L_possible w (k := thM P) ht (f := (nI 1)) (po) hl.1 (Nat.le_of_ble_eq_true rfl) dL_hangs_883 hc (fun H locs w => ?_)
      refine lv_iconst (v := nI 1) hx hb dL_hangs_886 (by decide) ?_
      refine lv_icmp_ne (tgt := 911) hx hb dL_hangs_887 (by decide) (fun z => absurd (rfl) z) (fun _ => ?_)
      refine lv_aload_n hx hb dL_hangs_890 rfl (lv_at hl 7 rfl) ?_
      refine lv_iload hx hb dL_hangs_891 (lv_at hl 1 rfl) ?_
      refine lv_iload hx hb dL_hangs_893 (lv_at hl 1 rfl) ?_
      refine lv_iconst (v := nI 1) hx hb dL_hangs_895 (by decide) ?_
      refine lv_isub hx hb dL_hangs_896 ?_
      refine lv_iand hx hb dL_hangs_897 ?_
      refine lv_eqi (y := nI (dropL (lowq (thM P) (P 0 6)))) (dropL_i (pop_pos _ l3 (by omega))) ?_
      refine n_possible C gL_hangs_L_possible w (k := dropL (lowq (thM P) (P 0 6))) d3 (f := (nI 251)) (pd) hl.1 (Nat.le_of_ble_eq_true rfl) dL_hangs_898 hc (fun H locs w => ?_)
      refine lv_sipush (v := nI 251) hx hb dL_hangs_901 (by decide) ?_
      refine lv_icmp_ne (tgt := 911) hx hb dL_hangs_904 (by decide) (fun z => absurd (rfl) z) (fun _ => ?_)
      refine lv_iconst (v := nI 1) hx hb dL_hangs_907 (by decide) ?_
      refine lv_goto (tgt := 912) hx hb dL_hangs_908 (by decide) ?_
      refine lv_istore (lv' := [(7, .int (nI 1)), (14, .int (nI (hiQ (thM P) (P 0 6) 8))), (13, .int (nI (lowq (thM P) (P 0 6)))), (9, .int (nI (grN P))), (5, .int (nI (thM P))), (3, .int (nI (P 0 6))), (2, .int (nI (P 0 4))), (0, .ref D.1)]) hx hb dL_hangs_912 hl (by decide) rfl (fun ls hl => ?_)
      exact h_end C hc hW hI ex w (lv_sub hl [3, 0, 6, 7] rfl)
set_option maxHeartbeats 4000000 in
set_option maxRecDepth 100000 in
theorem h_grA (C : CX p R s m args c A Γ cL_hangs 16 wsL_hangs) (hc : cells ≤ R.cells ∧ slots ≤ R.slots) (hW : WF P) (hI : IV P) (ex : ∀ (H : Heap) (locs : List Loc) (ls : Array Slot), WD Γ D A s P S H locs → W p l e R s m args below meth c H locs cells slots Q (F0 m 979 ls [.int (nI 1)])) (h0 : smN P = 0) (w : WD Γ D A s P S H locs) (hl : lv_has ls 16 [(8, .int (bI (fgB P 8))), (7, .int (nI 1)), (5, .int (nI (thM P))), (4, .int (nI (P 0 1))), (3, .int (nI (P 0 6))), (2, .int (nI (P 0 4))), (0, .ref D.1)]) : W p l e R s m args below meth c H locs cells slots Q (F0 m 560 ls []) := by
  obtain ⟨hx, hb, hml, hown, hts, hK, hAm, hA, hR1, hR2⟩ := id C
  have hg := (gr_sm P).mpr h0
  have hn : neN P = 0 := by unfold neN; rw [if_pos hg]
  have hs0 : smA P (nI 0) = -1 := by unfold smA smO; rw [if_pos h0]
  refine lv_aload_n hx hb dL_hangs_560 rfl (lv_at hl 6 rfl) ?_
  refine n_groups C gL_hangs_X4_groups w hl.1 (Nat.le_of_ble_eq_true rfl) dL_hangs_561 hc (fun H locs w => ?_)
  refine lv_istore (lv' := [(9, .int ((nI (grN P)))), (8, .int (bI (fgB P 8))), (7, .int (nI 1)), (5, .int (nI (thM P))), (4, .int (nI (P 0 1))), (3, .int (nI (P 0 6))), (2, .int (nI (P 0 4))), (0, .ref D.1)]) hx hb dL_hangs_564 hl (by decide) rfl (fun ls hl => ?_)
  refine lv_aload_n hx hb dL_hangs_566 rfl (lv_at hl 7 rfl) ?_
  refine lv_iconst (v := nI 1) hx hb dL_hangs_567 (by decide) ?_
  refine n_smallest C gL_hangs_L_smallest w (k := 1) (by decide) (f := (-1)) (by rw [smA_1]; unfold maskI; rw [if_pos h0]) hl.1 (Nat.le_of_ble_eq_true rfl) dL_hangs_568 hc (fun H locs w => ?_)
  refine lv_istore (lv' := [(10, .int ((-1))), (9, .int ((nI (grN P)))), (8, .int (bI (fgB P 8))), (7, .int (nI 1)), (5, .int (nI (thM P))), (4, .int (nI (P 0 1))), (3, .int (nI (P 0 6))), (2, .int (nI (P 0 4))), (0, .ref D.1)]) hx hb dL_hangs_571 hl (by decide) rfl (fun ls hl => ?_)
  refine lv_aload_n hx hb dL_hangs_573 rfl (lv_at hl 8 rfl) ?_
  refine n_needed C gL_hangs_X4_needed w hl.1 (Nat.le_of_ble_eq_true rfl) dL_hangs_574 hc (fun H locs w => ?_)
  refine lv_istore (lv' := [(11, .int ((nI (neN P)))), (10, .int ((-1))), (9, .int ((nI (grN P)))), (8, .int (bI (fgB P 8))), (7, .int (nI 1)), (5, .int (nI (thM P))), (4, .int (nI (P 0 1))), (3, .int (nI (P 0 6))), (2, .int (nI (P 0 4))), (0, .ref D.1)]) hx hb dL_hangs_577 hl (by decide) rfl (fun ls hl => ?_)
  refine lv_iload hx hb dL_hangs_579 (lv_at hl 4 rfl) ?_
  refine lv_if_eq (tgt := 672) hx hb dL_hangs_581 (by decide) (fun z => absurd z (by decide)) (fun _ => ?_)
  refine lv_iload hx hb dL_hangs_584 (lv_at hl 2 rfl) ?_
  refine eqZ hx hb dL_hangs_586 dL_hangs_589 dL_hangs_590 dL_hangs_593 ?_
  refine lv_iload hx hb dL_hangs_594 (lv_at hl 1 rfl) ?_
  refine lv_iconst (v := (-1)) hx hb dL_hangs_596 (by decide) ?_
  refine eqB hx hb dL_hangs_597 dL_hangs_600 dL_hangs_601 dL_hangs_604 ?_
  refine lv_icmp_ne (tgt := 672) hx hb dL_hangs_605 (by decide) (fun z => absurd (by rw [hg]; decide) z) (fun _ => ?_)
  refine lv_iload hx hb dL_hangs_608 (lv_at hl 2 rfl) ?_
  refine lv_if_ne (tgt := 630) hx hb dL_hangs_610 (by decide) (fun z => absurd (by rw [hg]; decide) z) (fun _ => ?_)
  refine lv_aload_n hx hb dL_hangs_613 rfl (lv_at hl 9 rfl) ?_
  refine lv_iconst (v := nI 0) hx hb dL_hangs_614 (by decide) ?_
  refine n_smallest C gL_hangs_L_smallest w (k := 0) (by decide) (f := (-1)) (hs0) hl.1 (Nat.le_of_ble_eq_true rfl) dL_hangs_615 hc (fun H locs w => ?_)
  refine lv_iconst (v := (-1)) hx hb dL_hangs_618 (by decide) ?_
  refine lv_icmp_ne (tgt := 672) hx hb dL_hangs_619 (by decide) (fun z => absurd (rfl) z) (fun _ => ?_)
  refine lv_iload hx hb dL_hangs_622 (lv_at hl 0 rfl) ?_
  refine lv_if_ne (tgt := 672) hx hb dL_hangs_624 (by decide) (fun z => absurd (by rw [hn]; decide) z) (fun _ => ?_)
  refine lv_goto (tgt := 668) hx hb dL_hangs_627 (by decide) ?_
  refine lv_iconst (v := nI 1) hx hb dL_hangs_668 (by decide) ?_
  refine lv_goto (tgt := 673) hx hb dL_hangs_669 (by decide) ?_
  refine lv_istore (lv' := [(7, .int (nI 1)), (11, .int ((nI (neN P)))), (10, .int ((-1))), (9, .int ((nI (grN P)))), (8, .int (bI (fgB P 8))), (5, .int (nI (thM P))), (4, .int (nI (P 0 1))), (3, .int (nI (P 0 6))), (2, .int (nI (P 0 4))), (0, .ref D.1)]) hx hb dL_hangs_673 hl (by decide) rfl (fun ls hl => ?_)
  refine lv_iload hx hb dL_hangs_675 (lv_at hl 0 rfl) ?_
  refine lv_if_eq (tgt := 694) hx hb dL_hangs_677 (by decide) (fun z => absurd z (by decide)) (fun _ => ?_)
  refine lv_iload hx hb dL_hangs_680 (lv_at hl 2 rfl) ?_
  refine lv_if_le (tgt := 694) hx hb dL_hangs_682 (by decide) (fun _ => ?_) (fun z => absurd (by decide) z)
  refine lv_iconst (v := nI 0) hx hb dL_hangs_694 (by decide) ?_
  refine lv_istore (lv' := [(12, .int (nI 0)), (7, .int (nI 1)), (11, .int ((nI (neN P)))), (10, .int ((-1))), (9, .int ((nI (grN P)))), (8, .int (bI (fgB P 8))), (5, .int (nI (thM P))), (4, .int (nI (P 0 1))), (3, .int (nI (P 0 6))), (2, .int (nI (P 0 4))), (0, .ref D.1)]) hx hb dL_hangs_695 hl (by decide) rfl (fun ls hl => ?_)
  refine lv_iload hx hb dL_hangs_697 (lv_at hl 1 rfl) ?_
  refine lv_if_eq (tgt := 730) hx hb dL_hangs_699 (by decide) (fun z => absurd z (by decide)) (fun _ => ?_)
  refine lv_iload hx hb dL_hangs_702 (lv_at hl 0 rfl) ?_
  refine lv_if_eq (tgt := 726) hx hb dL_hangs_704 (by decide) (fun _ => ?_) (fun z => absurd (by decide) z)
  refine lv_iconst (v := nI 1) hx hb dL_hangs_726 (by decide) ?_
  refine lv_goto (tgt := 731) hx hb dL_hangs_727 (by decide) ?_
  refine lv_istore (lv' := [(7, .int (nI 1)), (12, .int (nI 0)), (11, .int ((nI (neN P)))), (10, .int ((-1))), (9, .int ((nI (grN P)))), (8, .int (bI (fgB P 8))), (5, .int (nI (thM P))), (4, .int (nI (P 0 1))), (3, .int (nI (P 0 6))), (2, .int (nI (P 0 4))), (0, .ref D.1)]) hx hb dL_hangs_731 hl (by decide) rfl (fun ls hl => ?_)
  exact h_tail C hc hW hI ex w (lv_sub hl [4, 5, 0, 6, 8, 9, 10] rfl)
theorem ne_lt (P : Nat → Nat → Nat) : neN P < 256 := by
  unfold neN
  split
  · decide
  · exact orL_lt _ 8
theorem sub_le {a b : Nat} (ha : a < 256) (hb : b < 256) (h : subB a b = true) : a ≤ b := by
  rw [subB_iff] at h
  have e : a &&& b = a := msk_eq (Nat.lt_of_le_of_lt Nat.and_le_left ha) ha fun j hj => by
    rw [Nat.testBit_and]
    cases z : a.testBit j with
    | false => rfl
    | true => rw [h j hj z]; rfl
  rw [← e]
  exact Nat.and_le_right
set_option maxHeartbeats 4000000 in
set_option maxRecDepth 100000 in
theorem h_grB (C : CX p R s m args c A Γ cL_hangs 16 wsL_hangs) (hc : cells ≤ R.cells ∧ slots ≤ R.slots) (hW : WF P) (hI : IV P) (ex : ∀ (H : Heap) (locs : List Loc) (ls : Array Slot), WD Γ D A s P S H locs → W p l e R s m args below meth c H locs cells slots Q (F0 m 979 ls [.int (nI 1)])) (h0 : smN P ≠ 0) (w : WD Γ D A s P S H locs) (hl : lv_has ls 16 [(8, .int (bI (fgB P 8))), (7, .int (nI 1)), (5, .int (nI (thM P))), (4, .int (nI (P 0 1))), (3, .int (nI (P 0 6))), (2, .int (nI (P 0 4))), (0, .ref D.1)]) : W p l e R s m args below meth c H locs cells slots Q (F0 m 560 ls []) := by
  obtain ⟨hx, hb, hml, hown, hts, hK, hAm, hA, hR1, hR2⟩ := id C
  have hg : grN P ≠ 0 := fun z => h0 ((gr_sm P).mp z)
  have hgl := grN_le P
  have hsl := smN_lt P
  have h1 : 1 ≤ smN P := by omega
  have hop := sm_op h0
  obtain ⟨a1, a2, a3, a4, a5⟩ := (op_iff h1).mp hop
  have hs0 : smA P (nI 0) = nI (pop (smN P)) := by unfold smA smO; rw [if_neg h0, if_pos (by decide)]
  have h8 := hW.k8
  have hlv := hW.lv
  have hkk : smN P < 2 ^ P 0 0 := by
    refine Nat.lt_of_le_of_lt ?_ hW.1.2.1
    exact sub_le hsl hlv a3
  have hw7 := hW.1.2.2.2.2.2.2.2.2.1
  have hw3 := hW.1.2.2.2.1
  refine lv_aload_n hx hb dL_hangs_560 rfl (lv_at hl 6 rfl) ?_
  refine n_groups C gL_hangs_X4_groups w hl.1 (Nat.le_of_ble_eq_true rfl) dL_hangs_561 hc (fun H locs w => ?_)
  refine lv_istore (lv' := [(9, .int ((nI (grN P)))), (8, .int (bI (fgB P 8))), (7, .int (nI 1)), (5, .int (nI (thM P))), (4, .int (nI (P 0 1))), (3, .int (nI (P 0 6))), (2, .int (nI (P 0 4))), (0, .ref D.1)]) hx hb dL_hangs_564 hl (by decide) rfl (fun ls hl => ?_)
  refine lv_aload_n hx hb dL_hangs_566 rfl (lv_at hl 7 rfl) ?_
  refine lv_iconst (v := nI 1) hx hb dL_hangs_567 (by decide) ?_
  refine n_smallest C gL_hangs_L_smallest w (k := 1) (by decide) (f := (nI (smN P))) (by rw [smA_1]; unfold maskI; rw [if_neg h0]) hl.1 (Nat.le_of_ble_eq_true rfl) dL_hangs_568 hc (fun H locs w => ?_)
  refine lv_istore (lv' := [(10, .int ((nI (smN P)))), (9, .int ((nI (grN P)))), (8, .int (bI (fgB P 8))), (7, .int (nI 1)), (5, .int (nI (thM P))), (4, .int (nI (P 0 1))), (3, .int (nI (P 0 6))), (2, .int (nI (P 0 4))), (0, .ref D.1)]) hx hb dL_hangs_571 hl (by decide) rfl (fun ls hl => ?_)
  refine lv_aload_n hx hb dL_hangs_573 rfl (lv_at hl 8 rfl) ?_
  refine n_needed C gL_hangs_X4_needed w hl.1 (Nat.le_of_ble_eq_true rfl) dL_hangs_574 hc (fun H locs w => ?_)
  refine lv_istore (lv' := [(11, .int ((nI (neN P)))), (10, .int ((nI (smN P)))), (9, .int ((nI (grN P)))), (8, .int (bI (fgB P 8))), (7, .int (nI 1)), (5, .int (nI (thM P))), (4, .int (nI (P 0 1))), (3, .int (nI (P 0 6))), (2, .int (nI (P 0 4))), (0, .ref D.1)]) hx hb dL_hangs_577 hl (by decide) rfl (fun ls hl => ?_)
  refine lv_iload hx hb dL_hangs_579 (lv_at hl 4 rfl) ?_
  refine lv_if_eq (tgt := 672) hx hb dL_hangs_581 (by decide) (fun z => absurd z (by decide)) (fun _ => ?_)
  refine lv_iload hx hb dL_hangs_584 (lv_at hl 2 rfl) ?_
  refine eqZ hx hb dL_hangs_586 dL_hangs_589 dL_hangs_590 dL_hangs_593 ?_
  refine lv_iload hx hb dL_hangs_594 (lv_at hl 1 rfl) ?_
  refine lv_iconst (v := (-1)) hx hb dL_hangs_596 (by decide) ?_
  refine eqB hx hb dL_hangs_597 dL_hangs_600 dL_hangs_601 dL_hangs_604 ?_
  refine lv_icmp_ne (tgt := 672) hx hb dL_hangs_605 (by decide) (fun z => absurd (bI_eq ⟨fun z => absurd z (nI_ne0 (by omega) (by omega)), fun z => absurd z (nIm1 (by omega))⟩) z) (fun _ => ?_)
  refine lv_iload hx hb dL_hangs_608 (lv_at hl 2 rfl) ?_
  refine lv_if_ne (tgt := 630) hx hb dL_hangs_610 (by decide) (fun _ => ?_) (fun z => absurd z (nI_ne0 (by omega) (by omega)))
  refine lv_iload hx hb dL_hangs_630 (lv_at hl 1 rfl) ?_
  refine n_bits C gL_hangs_L_bits w (k := (smN P)) (hsl) hl.1 (Nat.le_of_ble_eq_true rfl) dL_hangs_632 hc (fun H locs w => ?_)
  refine lv_aload_n hx hb dL_hangs_635 rfl (lv_at hl 9 rfl) ?_
  refine lv_iconst (v := nI 0) hx hb dL_hangs_636 (by decide) ?_
  refine n_smallest C gL_hangs_L_smallest w (k := 0) (by decide) (f := (nI (pop (smN P)))) (hs0) hl.1 (Nat.le_of_ble_eq_true rfl) dL_hangs_637 hc (fun H locs w => ?_)
  refine lv_icmp_ne (tgt := 672) hx hb dL_hangs_640 (by decide) (fun z => absurd (rfl) z) (fun _ => ?_)
  refine lv_iload hx hb dL_hangs_643 (lv_at hl 3 rfl) ?_
  have hj : W p l e R s m args below meth c H locs cells slots Q (F0 m 658 ls []) := by
    refine lv_iload hx hb dL_hangs_658 (lv_at hl 1 rfl) ?_
    refine lv_iload hx hb dL_hangs_660 (lv_at hl 6 rfl) ?_
    refine lv_iconst (v := (-1)) hx hb dL_hangs_662 (by decide) ?_
    refine lv_ixor hx hb dL_hangs_663 ?_
    refine lv_iand hx hb dL_hangs_664 ?_
    refine lv_eqi (y := nI 0) ((sub_b hsl).mpr a3) ?_
    refine lv_if_ne (tgt := 672) hx hb dL_hangs_665 (by decide) (fun z => absurd (by decide) z) (fun _ => ?_)
    refine lv_iconst (v := nI 1) hx hb dL_hangs_668 (by decide) ?_
    refine lv_goto (tgt := 673) hx hb dL_hangs_669 (by decide) ?_
    refine lv_istore (lv' := [(7, .int (nI 1)), (11, .int ((nI (neN P)))), (10, .int ((nI (smN P)))), (9, .int ((nI (grN P)))), (8, .int (bI (fgB P 8))), (5, .int (nI (thM P))), (4, .int (nI (P 0 1))), (3, .int (nI (P 0 6))), (2, .int (nI (P 0 4))), (0, .ref D.1)]) hx hb dL_hangs_673 hl (by decide) rfl (fun ls hl => ?_)
    refine lv_iload hx hb dL_hangs_675 (lv_at hl 0 rfl) ?_
    refine lv_if_eq (tgt := 694) hx hb dL_hangs_677 (by decide) (fun z => absurd z (by decide)) (fun _ => ?_)
    refine lv_iload hx hb dL_hangs_680 (lv_at hl 2 rfl) ?_
    refine lv_if_le (tgt := 694) hx hb dL_hangs_682 (by decide) (fun z => absurd z (nI_nle (by omega) (by omega))) (fun _ => ?_)
    refine lv_aload_n hx hb dL_hangs_685 rfl (lv_at hl 9 rfl) ?_
    refine lv_iload hx hb dL_hangs_686 (lv_at hl 2 rfl) ?_
    refine n_why C gL_hangs_L_why w (k := smN P) hkk (f := (nI (reaN P (smN P) false))) (rfl) hl.1 (Nat.le_of_ble_eq_true rfl) dL_hangs_688 hc (fun H locs w => ?_)
    refine lv_goto (tgt := 695) hx hb dL_hangs_691 (by decide) ?_
    refine lv_istore (lv' := [(12, .int ((nI (reaN P (smN P) false)))), (7, .int (nI 1)), (11, .int ((nI (neN P)))), (10, .int ((nI (smN P)))), (9, .int ((nI (grN P)))), (8, .int (bI (fgB P 8))), (5, .int (nI (thM P))), (4, .int (nI (P 0 1))), (3, .int (nI (P 0 6))), (2, .int (nI (P 0 4))), (0, .ref D.1)]) hx hb dL_hangs_695 hl (by decide) rfl (fun ls hl => ?_)
    refine lv_iload hx hb dL_hangs_697 (lv_at hl 1 rfl) ?_
    refine lv_if_eq (tgt := 730) hx hb dL_hangs_699 (by decide) (fun z => absurd z (by decide)) (fun _ => ?_)
    refine lv_iload hx hb dL_hangs_702 (lv_at hl 0 rfl) ?_
    have hk : ∀ (H : Heap) (locs : List Loc), WD Γ D A s P S H locs → W p l e R s m args below meth c H locs cells slots Q (F0 m 726 ls []) := by
      intro H locs w
      refine lv_iconst (v := nI 1) hx hb dL_hangs_726 (by decide) ?_
      refine lv_goto (tgt := 731) hx hb dL_hangs_727 (by decide) ?_
      refine lv_istore (lv' := [(7, .int (nI 1)), (12, .int ((nI (reaN P (smN P) false)))), (11, .int ((nI (neN P)))), (10, .int ((nI (smN P)))), (9, .int ((nI (grN P)))), (8, .int (bI (fgB P 8))), (5, .int (nI (thM P))), (4, .int (nI (P 0 1))), (3, .int (nI (P 0 6))), (2, .int (nI (P 0 4))), (0, .ref D.1)]) hx hb dL_hangs_731 hl (by decide) rfl (fun ls hl => ?_)
      exact h_tail C hc hW hI ex w (lv_sub hl [4, 5, 0, 6, 8, 9, 10] rfl)
    rcases rea_op h1 hop with hr0 | ⟨hr4, hlt⟩
    · refine lv_if_eq (tgt := 726) hx hb dL_hangs_704 (by decide) (fun _ => ?_) (fun z => absurd (by rw [hr0]; decide) z)
      exact hk H locs w
    · refine lv_if_eq (tgt := 726) hx hb dL_hangs_704 (by decide) (fun z => absurd z (by rw [hr4]; decide)) (fun _ => ?_)
      refine lv_iload hx hb dL_hangs_707 (lv_at hl 0 rfl) ?_
      refine lv_iconst (v := nI 4) hx hb dL_hangs_709 (by decide) ?_
      refine lv_icmp_ne (tgt := 730) hx hb dL_hangs_710 (by decide) (fun z => absurd (by rw [hr4]) z) (fun _ => ?_)
      refine lv_aload_n hx hb dL_hangs_713 rfl (lv_at hl 10 rfl) ?_
      refine lv_iconst (v := nI 2) hx hb dL_hangs_714 (by decide) ?_
      refine n_count C gL_hangs_L_count w (k := 2) (by decide) (f := (nI (P 0 3))) (rfl) hl.1 (Nat.le_of_ble_eq_true rfl) dL_hangs_715 hc (fun H locs w => ?_)
      refine lv_aload_n hx hb dL_hangs_718 rfl (lv_at hl 10 rfl) ?_
      refine lv_iconst (v := nI 5) hx hb dL_hangs_719 (by decide) ?_
      refine n_count C gL_hangs_L_count w (k := 5) (by decide) (f := (nI (P 0 7))) (if_neg hI.1) hl.1 (Nat.le_of_ble_eq_true rfl) dL_hangs_720 hc (fun H locs w => ?_)
      refine lv_icmp_ge (tgt := 730) hx hb dL_hangs_723 (by decide) (fun z => absurd z (fun y => absurd ((nI_leI (by omega) (by omega)).mp y) (by omega))) (fun _ => ?_)
      exact hk H locs w
  cases hf : fgB P 8 with
  | true =>
    refine lv_if_ne (tgt := 658) hx hb dL_hangs_645 (by decide) (fun _ => ?_) (fun z => absurd z (by decide))
    exact hj
  | false =>
    refine lv_if_ne (tgt := 658) hx hb dL_hangs_645 (by decide) (fun z => absurd (by decide) z) (fun _ => ?_)
    refine lv_iload hx hb dL_hangs_648 (lv_at hl 0 rfl) ?_
    refine lv_iload hx hb dL_hangs_650 (lv_at hl 1 rfl) ?_
    refine lv_iconst (v := (-1)) hx hb dL_hangs_652 (by decide) ?_
    refine lv_ixor hx hb dL_hangs_653 ?_
    refine lv_iand hx hb dL_hangs_654 ?_
    refine lv_eqi (y := nI 0) ((sub_b (ne_lt P)).mpr (ne_sm hW hI (fg_no 8 hf) h0)) ?_
    refine lv_if_ne (tgt := 672) hx hb dL_hangs_655 (by decide) (fun z => absurd (by decide) z) (fun _ => ?_)
    exact hj
set_option maxHeartbeats 4000000 in
set_option maxRecDepth 100000 in
theorem h_entry (hfl : l.stackTraces = false) (C : CX p R s m args c A Γ cL_hangs 16 wsL_hangs) (hc1 : cells + 1 ≤ R.cells ∧ slots + 6 ≤ R.slots) (hW : WF P) (hI : IV P) (ex : ∀ (H : Heap) (locs : List Loc) (ls : Array Slot), WD Γ D A s P S H locs → W p l e R s m args below meth c H locs (cells + 1) (slots + 6) Q (F0 m 979 ls [.int (nI 1)])) (w : WD Γ D A s P S H locs) (hl : lv_has ls 16 [(0, .ref D.1)]) : W p l e R s m args below meth c H locs cells slots Q (F0 m 0 ls []) := by
  obtain ⟨hx, hb, hml, hown, hts, hK, hAm, hA, hR1, hR2⟩ := id C
  have h8 := hW.k8
  have h4 := hW.1.2.2.2.2.1
  have hs := hI.1
  have hw6 := hW.1.2.2.2.2.2.2.1
  have hw7 := hW.1.2.2.2.2.2.2.2.2.1
  have hc : cells ≤ R.cells ∧ slots ≤ R.slots := ⟨by omega, by omega⟩
  refine lv_aload_n hx hb dL_hangs_0 rfl (lv_at hl 0 rfl) ?_
  refine lv_iconst (v := nI 0) hx hb dL_hangs_1 (by decide) ?_
  refine n_count C gL_hangs_L_count w (k := 0) (by decide) (f := (nI (P 0 0))) (rfl) hl.1 (Nat.le_of_ble_eq_true rfl) dL_hangs_2 hc (fun H locs w => ?_)
  refine lv_istore_n (lv' := [(1, .int ((nI (P 0 0)))), (0, .ref D.1)]) hx hb dL_hangs_5 rfl hl (by decide) rfl (fun ls hl => ?_)
  refine lv_aload_n hx hb dL_hangs_6 rfl (lv_at hl 1 rfl) ?_
  refine lv_iconst (v := nI 3) hx hb dL_hangs_7 (by decide) ?_
  refine n_count C gL_hangs_L_count w (k := 3) (by decide) (f := (nI (P 0 4))) (rfl) hl.1 (Nat.le_of_ble_eq_true rfl) dL_hangs_8 hc (fun H locs w => ?_)
  refine lv_istore_n (lv' := [(2, .int ((nI (P 0 4)))), (1, .int ((nI (P 0 0)))), (0, .ref D.1)]) hx hb dL_hangs_11 rfl hl (by decide) rfl (fun ls hl => ?_)
  refine lv_aload_n hx hb dL_hangs_12 rfl (lv_at hl 2 rfl) ?_
  refine lv_iconst (v := nI 4) hx hb dL_hangs_13 (by decide) ?_
  refine n_count C gL_hangs_L_count w (k := 4) (by decide) (f := (nI (P 0 6))) (if_neg hs) hl.1 (Nat.le_of_ble_eq_true rfl) dL_hangs_14 hc (fun H locs w => ?_)
  refine lv_istore_n (lv' := [(3, .int ((nI (P 0 6)))), (2, .int ((nI (P 0 4)))), (1, .int ((nI (P 0 0)))), (0, .ref D.1)]) hx hb dL_hangs_17 rfl hl (by decide) rfl (fun ls hl => ?_)
  refine lv_iconst (v := nI 0) hx hb dL_hangs_18 (by decide) ?_
  refine lv_istore (lv' := [(4, .int (nI 0)), (3, .int ((nI (P 0 6)))), (2, .int ((nI (P 0 4)))), (1, .int ((nI (P 0 0)))), (0, .ref D.1)]) hx hb dL_hangs_19 hl (by decide) rfl (fun ls hl => ?_)
  refine lv_iconst (v := nI 0) hx hb dL_hangs_21 (by decide) ?_
  refine lv_istore (lv' := [(5, .int (nI 0)), (4, .int (nI 0)), (3, .int ((nI (P 0 6)))), (2, .int ((nI (P 0 4)))), (1, .int ((nI (P 0 0)))), (0, .ref D.1)]) hx hb dL_hangs_22 hl (by decide) rfl (fun ls hl => ?_)
  refine lv_iconst (v := nI 0) hx hb dL_hangs_24 (by decide) ?_
  refine lv_istore (lv' := [(6, .int (nI 0)), (5, .int (nI 0)), (4, .int (nI 0)), (3, .int ((nI (P 0 6)))), (2, .int ((nI (P 0 4)))), (1, .int ((nI (P 0 0)))), (0, .ref D.1)]) hx hb dL_hangs_25 hl (by decide) rfl (fun ls hl => ?_)
  refine lv_aload_n hx hb dL_hangs_27 rfl (lv_at hl 6 rfl) ?_
  refine lv_iload_n hx hb dL_hangs_28 rfl (lv_at hl 5 rfl) ?_
  refine lv_iconst (v := nI 0) hx hb dL_hangs_29 (by decide) ?_
  refine n_keeperOf1 hfl C gL_hangs_L_keeperOf w (k := P 0 0) (by omega) (by omega) hl.1 (Nat.le_of_ble_eq_true rfl) dL_hangs_30 hc1 (fun H locs w => ?_)
  refine lv_ldc hx hb hown (hts (.constant RL 17 (-2000001)) (by decide +kernel)) dL_hangs_33 ?_
  refine lv_icmp_ne (tgt := 90) hx hb dL_hangs_35 (by decide) (fun z => absurd (rfl) z) (fun _ => ?_)
  refine lv_iload_n hx hb dL_hangs_38 rfl (lv_at hl 4 rfl) ?_
  refine eqZ hx hb dL_hangs_39 dL_hangs_42 dL_hangs_43 dL_hangs_46 ?_
  refine lv_iload_n hx hb dL_hangs_47 rfl (lv_at hl 3 rfl) ?_
  refine lv_iconst (v := (-1)) hx hb dL_hangs_48 (by decide) ?_
  refine eqB hx hb dL_hangs_49 dL_hangs_52 dL_hangs_53 dL_hangs_56 ?_
  refine lv_icmp_ne (tgt := 90) hx hb dL_hangs_57 (by decide) (fun z => absurd (bI_eq ⟨fun z => absurd z (nI_ne0 (by omega) (by omega)), fun z => absurd z (nIm1 (by omega))⟩) z) (fun _ => ?_)
  refine lv_iload_n hx hb dL_hangs_60 rfl (lv_at hl 4 rfl) ?_
  refine eqZ hx hb dL_hangs_61 dL_hangs_64 dL_hangs_65 dL_hangs_68 ?_
  refine lv_aload_n hx hb dL_hangs_69 rfl (lv_at hl 6 rfl) ?_
  refine lv_iconst (v := nI 5) hx hb dL_hangs_70 (by decide) ?_
  refine n_count C gL_hangs_L_count w (k := 5) (by decide) (f := (nI (P 0 7))) (if_neg hs) hl.1 (Nat.le_of_ble_eq_true rfl) dL_hangs_71 hc1 (fun H locs w => ?_)
  refine lv_iconst (v := (-1)) hx hb dL_hangs_74 (by decide) ?_
  refine eqB hx hb dL_hangs_75 dL_hangs_78 dL_hangs_79 dL_hangs_82 ?_
  refine lv_icmp_ne (tgt := 90) hx hb dL_hangs_83 (by decide) (fun z => absurd (bI_eq ⟨fun z => absurd z (nI_ne0 (by omega) (by omega)), fun z => absurd z (nIm1 (by omega))⟩) z) (fun _ => ?_)
  refine lv_iconst (v := nI 1) hx hb dL_hangs_86 (by decide) ?_
  refine lv_goto (tgt := 91) hx hb dL_hangs_87 (by decide) ?_
  refine lv_istore (lv' := [(7, .int (nI 1)), (6, .int (nI 0)), (5, .int (nI 0)), (4, .int (nI 0)), (3, .int ((nI (P 0 6)))), (2, .int ((nI (P 0 4)))), (1, .int ((nI (P 0 0)))), (0, .ref D.1)]) hx hb dL_hangs_91 hl (by decide) rfl (fun ls hl => ?_)
  refine lv_iconst (v := nI 0) hx hb dL_hangs_93 (by decide) ?_
  refine lv_istore (lv' := [(8, .int (nI 0)), (7, .int (nI 1)), (6, .int (nI 0)), (5, .int (nI 0)), (4, .int (nI 0)), (3, .int ((nI (P 0 6)))), (2, .int ((nI (P 0 4)))), (1, .int ((nI (P 0 0)))), (0, .ref D.1)]) hx hb dL_hangs_94 hl (by decide) rfl (fun ls hl => ?_)
  refine h_k C hc1 hW hI (fun H locs ls w hl => ?_) (P 0 0) 0 (Nat.zero_add _) H locs ls w ?_
  case refine_2 => exact (by have hl := (lv_sub hl [0, 1, 2, 3, 4, 5, 6, 7, 8] rfl); rw [Nat.pow_zero, Nat.mod_one, Nat.sub_self, owG_zero]; exact hl)
  refine lv_iload hx hb dL_hangs_362 (lv_at hl 0 rfl) ?_
  refine lv_if_eq (tgt := 411) hx hb dL_hangs_364 (by decide) (fun z => absurd z (by decide)) (fun _ => ?_)
  refine lv_iload hx hb dL_hangs_367 (lv_at hl 3 rfl) ?_
  refine n_bits C gL_hangs_L_bits w (k := (P 0 1)) (hW.lv) hl.1 (Nat.le_of_ble_eq_true rfl) dL_hangs_369 hc1 (fun H locs w => ?_)
  refine lv_aload_n hx hb dL_hangs_372 rfl (lv_at hl 7 rfl) ?_
  refine lv_iconst (v := nI 1) hx hb dL_hangs_373 (by decide) ?_
  refine n_count C gL_hangs_L_count w (k := 1) (by decide) (f := (nI (pop (P 0 1)))) (rfl) hl.1 (Nat.le_of_ble_eq_true rfl) dL_hangs_374 hc1 (fun H locs w => ?_)
  refine lv_icmp_ne (tgt := 411) hx hb dL_hangs_377 (by decide) (fun z => absurd (rfl) z) (fun _ => ?_)
  refine lv_iload hx hb dL_hangs_380 (lv_at hl 2 rfl) ?_
  refine n_bits C gL_hangs_L_bits w (k := (thM P)) (thM_lt P) hl.1 (Nat.le_of_ble_eq_true rfl) dL_hangs_382 hc1 (fun H locs w => ?_)
  refine lv_aload_n hx hb dL_hangs_385 rfl (lv_at hl 7 rfl) ?_
  refine lv_bipush (v := nI 6) hx hb dL_hangs_386 (by decide) ?_
  refine n_count C gL_hangs_L_count w (k := 6) (by decide) (f := (nI (pop (thM P)))) (rfl) hl.1 (Nat.le_of_ble_eq_true rfl) dL_hangs_388 hc1 (fun H locs w => ?_)
  refine lv_icmp_ne (tgt := 411) hx hb dL_hangs_391 (by decide) (fun z => absurd (rfl) z) (fun _ => ?_)
  refine lv_iload hx hb dL_hangs_394 (lv_at hl 1 rfl) ?_
  refine lv_iconst (v := nI 2) hx hb dL_hangs_396 (by decide) ?_
  refine lv_aload_n hx hb dL_hangs_397 rfl (lv_at hl 7 rfl) ?_
  refine lv_bipush (v := nI 7) hx hb dL_hangs_398 (by decide) ?_
  refine n_count C gL_hangs_L_count w (k := 7) (by decide) (f := (nI (sqN P 8 / 2))) (rfl) hl.1 (Nat.le_of_ble_eq_true rfl) dL_hangs_400 hc1 (fun H locs w => ?_)
  refine lv_imul hx hb dL_hangs_403 ?_
  refine lv_eqi (y := nI (sqN P 8)) (by rw [pk_mul, sq_even hW]) ?_
  refine lv_icmp_ne (tgt := 411) hx hb dL_hangs_404 (by decide) (fun z => absurd (rfl) z) (fun _ => ?_)
  refine lv_iconst (v := nI 1) hx hb dL_hangs_407 (by decide) ?_
  refine lv_goto (tgt := 412) hx hb dL_hangs_408 (by decide) ?_
  refine lv_istore (lv' := [(7, .int (nI 1)), (6, .int (nI (sqN P 8))), (5, .int (nI (thM P))), (4, .int (nI (P 0 1))), (3, .int (nI (P 0 6))), (2, .int (nI (P 0 4))), (1, .int (nI (P 0 0))), (0, .ref D.1)]) hx hb dL_hangs_412 hl (by decide) rfl (fun ls hl => ?_)
  refine lv_iconst (v := nI 0) hx hb dL_hangs_414 (by decide) ?_
  refine lv_istore (lv' := [(8, .int (nI 0)), (7, .int (nI 1)), (6, .int (nI (sqN P 8))), (5, .int (nI (thM P))), (4, .int (nI (P 0 1))), (3, .int (nI (P 0 6))), (2, .int (nI (P 0 4))), (1, .int (nI (P 0 0))), (0, .ref D.1)]) hx hb dL_hangs_415 hl (by decide) rfl (fun ls hl => ?_)
  refine h_s C hc1 hW (fun H locs ls w hl => ?_) 8 0 rfl H locs ls w (lv_sub hl [0, 1, 3, 4, 5, 6, 7, 8] rfl)
  refine lv_iconst (v := nI 0) hx hb dL_hangs_518 (by decide) ?_
  refine lv_istore (lv' := [(8, .int (nI 0)), (7, .int (nI 1)), (5, .int (nI (thM P))), (4, .int (nI (P 0 1))), (3, .int (nI (P 0 6))), (2, .int (nI (P 0 4))), (1, .int (nI (P 0 0))), (0, .ref D.1)]) hx hb dL_hangs_519 hl (by decide) rfl (fun ls hl => ?_)
  refine lv_iconst (v := nI 0) hx hb dL_hangs_521 (by decide) ?_
  refine lv_istore (lv' := [(9, .int (nI 0)), (8, .int (nI 0)), (7, .int (nI 1)), (5, .int (nI (thM P))), (4, .int (nI (P 0 1))), (3, .int (nI (P 0 6))), (2, .int (nI (P 0 4))), (1, .int (nI (P 0 0))), (0, .ref D.1)]) hx hb dL_hangs_522 hl (by decide) rfl (fun ls hl => ?_)
  refine h_f C hc1 hW (fun H locs ls w hl => ?_) 8 0 rfl H locs ls w (lv_sub hl [0, 1, 2, 3, 4, 5, 6, 8] rfl)
  by_cases h0 : smN P = 0
  · exact h_grA C hc1 hW hI ex h0 w hl
  · exact h_grB C hc1 hW hI ex h0 w hl
end HG
set_option maxHeartbeats 4000000 in
set_option maxRecDepth 100000 in
theorem k_hangs (l : Launch) (hfl : l.stackTraces = false) (Γ : wG) (D : AD) {P : Nat → Nat → Nat} {S : Nat} {x : ST} (h : AB P S x) (hI : IV P) : CW l Γ D yL_hangs wsL_hangs ({ frames := 11, cells := 1, slots := 6, locals := 385 }) [.ref D.1] x (fun r u => r = nI 1 ∧ AB P S u) 1 6 := by
  intro sz
  refine Met.ofW (cc := cL_hangs) (maxL := 16) (ret := (some .boolean)) (by decide) rfl ?_
  intro p e s m args below meth c s₁ B hml hv
  obtain ⟨rfl, hsz, hP, hK, hD0, hAm⟩ := hv
  have hx := B.exec
  have hb := B.bytes
  have hr := B.returns
  have hts := atoms_spec (ws := wsL_hangs) B.pre
  have hown : s.vm.findClass RL = some m.cls := findClass_of_methodNamed B.named
  subst hsz
  have hD := hD0.self (sz := s.heap.size)
  generalize hAe : va_A (wcat (W7 Γ D x)) s.heap.size = A at hD hAm ⊢
  have hA : ∀ q : Nat, s.heap.size ≤ q → A q := fun q h => by rw [← hAe]; exact Or.inr h
  have hS : va_S A s.heap s.heap [] := va_S.rf
  have hl := lv_entry ([.ref D.1]) (n := 16) (Nat.le_of_ble_eq_true rfl)
  rw [lg_entry_eq]
  generalize (lg_sl ([.ref D.1]) ++ List.replicate (16 - (lg_sl ([.ref D.1])).length) Slot.unset).toArray = ls at hl ⊢
  have hl : lv_has ls 16 [(0, .ref D.1)] := hl
  refine h_entry (P := P) (S := S) hfl ⟨hx, hb, hml, hown, hts, hK, hAm, hA, Nat.le_of_ble_eq_true rfl, Nat.le_of_ble_eq_true rfl⟩ ⟨Nat.le_refl _, Nat.le_refl _⟩ h.2.1 hI (fun H locs ls w => ?_) ⟨x, hP, hD, hS, h⟩ hl
  obtain ⟨u, hP, hD, hS, hB⟩ := w
  exact W.zret (v := nI 1) hx hb hr (by first | rfl | decide) (fun t ht hW => eCW hP hS ht ⟨rfl, hB⟩) hS.2.2 dL_hangs_979
