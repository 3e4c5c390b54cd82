/-! ===== the law ===== -/
section LA0
variable {p : Program} {l : Launch} {e : Env} {R : Room} {s : State} {m : MethodId} {args : Array Value} {below : List Frame} {meth : Method} {c : Code} {H : Heap} {locs : List Loc} {cells slots : Nat} {Q : State → Prop}
variable {pc : Nat} {ls : Array Slot} {rest st0 : List Value} {cc : ByteArray} {A : Nat → Prop} {Γ : wG} {D : AD} {x : ST} {nL : Nat} {Ts : List Cond} {P : Nat → Nat → Nat} {S idx mc ms : Nat} {Post : Int32 → ST → Prop}
theorem lv_lcmp0 (hexec : p.tables.exec = Jvm.exec) (hb : c.code = cc) {x : Int64} (hdg : decode cc pc = .ok (.lcmp, 1))
    (k : W p l e R s m args below meth c H locs cells slots Q (F0 m (pc + 1) ls (.int 0 :: rest))) : W p l e R s m args below meth c H locs cells slots Q (F0 m pc ls (.long x :: .long x :: rest)) := by
  intro T hT X
  obtain ⟨t, a, b⟩ := k T hT X
  refine ⟨t, ?_, b⟩
  have h1 : ¬ x > x := fun z => by rw [gt_iff_lt, Int64.lt_iff_toInt_lt] at z; omega
  jvm_step X.here [X.here.top, hexec, hb, hdg, h1]
  first | exact a | (simp [h1]; exact a) | (simp; exact a)
end LA0
section LA
variable {p : Program} {l : Launch} {e : Env} {s : State} {m : MethodId} {args : Array Value} {below : List Frame} {meth : Method} {c : Code} {H : Heap} {locs : List Loc} {cells slots : Nat} {Q : State → Prop}
variable {pc : Nat} {ls : Array Slot} {rest st0 : List Value} {cc : ByteArray} {A : Nat → Prop} {Γ : wG} {D : AD} {x : ST} {nL : Nat} {Ts : List Cond} {P : Nat → Nat → Nat} {S idx mc ms : Nat} {Post : Int32 → ST → Prop}
def adK : Nat → Nat → Nat → Nat
  | 0 => P0
  | k + 1 => addP (adK k)
theorem ad_0 : ∀ k, adK k 0 0 = k := by
  intro k
  induction k with
  | zero => rfl
  | succ k ih => show adK k 0 0 + 1 = k + 1; rw [ih]
theorem ad_1 : ∀ k, k ≤ 8 → adK k 0 1 = 2 ^ k - 1 := by
  intro k
  induction k with
  | zero => intro _; rfl
  | succ k ih =>
    intro hk
    show adK k 0 1 ||| 2 ^ adK k 0 0 = 2 ^ (k + 1) - 1
    rw [ih (by omega), ad_0]
    have e : ∀ k, k < 8 → (2 ^ k - 1) ||| 2 ^ k = 2 ^ (k + 1) - 1 := by decide
    exact e k (by omega)
theorem ad_3 : ∀ k, adK k 0 3 = 0 := by
  intro k
  induction k with
  | zero => rfl
  | succ k ih => show adK k 0 3 = 0; exact ih
theorem pop_low : ∀ k, k < 9 → pop (2 ^ k - 1) = k := by decide +kernel
theorem low_shr : ∀ k, k < 9 → (nI 255) >>> ((nI (8 - k)) &&& 31) = nI (2 ^ k - 1) := by decide +kernel
theorem w_WF {Γ : wG} {D : AD} {A : Nat → Prop} {s : State} {P : Nat → Nat → Nat} {S : Nat} {H : Heap} {locs : List Loc} (w : WD Γ D A s P S H locs) : WF P ∧ S ≤ 6 := by
  obtain ⟨x, _, _, _, hB⟩ := w
  exact ⟨hB.2.1, hB.1.2.1⟩
set_option maxHeartbeats 4000000 in
set_option maxRecDepth 100000 in
theorem l_k (hfl : l.stackTraces = false) (C : CX p room_1 s m args c A Γ cL_law 19 wsL_law) (hc : cells ≤ 600130 ∧ slots ≤ 7301080) {b n : Nat} (hn : n ≤ 6) (go : ∀ (H : Heap) (locs : List Loc) (ls : Array Slot), WD Γ D A s (adK n) n H locs → lv_has ls 19 [(3, .int (nI n)), (2, .int (nI 1)), (1, .ref D.1), (0, .ref b)] → W p l e room_1 s m args below meth c H locs cells slots Q (F0 m 110 ls [])) : ∀ (d k : Nat), k + d = n → ∀ (H : Heap) (locs : List Loc) (ls : Array Slot), WD Γ D A s (adK k) k H locs → lv_has ls 19 [(4, .int (nI k)), (3, .int (nI n)), (2, .int (nI 1)), (1, .ref D.1), (0, .ref b)] → W p l e room_1 s m args below meth c H locs cells slots Q (F0 m 79 ls []) := by
  obtain ⟨hx, hb, hml, hown, hts, hK, hAm, hA, hR1, hR2⟩ := id C
  intro d
  induction d with
  | zero =>
    intro k hk H locs ls w hl
    have hk : k = n := by omega
    subst hk
    refine lv_iload hx hb dL_law_79 (lv_at hl 0 rfl) ?_
    refine lv_iload_n hx hb dL_law_81 rfl (lv_at hl 1 rfl) ?_
    refine lv_icmp_ge (tgt := 110) hx hb dL_law_82 (by decide) (fun _ => ?_) (fun z => absurd (nr2 (by omega) (by omega) (Nat.le_refl _)) z)
    exact go H locs ls w (lv_sub hl [1, 2, 3, 4] rfl)
  | succ d ih =>
    intro k hk H locs ls w hl
    have hk0 := ad_0 k
    refine lv_iload hx hb dL_law_79 (lv_at hl 0 rfl) ?_
    refine lv_iload_n hx hb dL_law_81 rfl (lv_at hl 1 rfl) ?_
    refine lv_icmp_ge (tgt := 110) hx hb dL_law_82 (by decide) (fun z => absurd z (fun y => absurd ((nI_leI (by omega) (by omega)).mp y) (by omega))) (fun _ => ?_)
    refine lv_iload_n hx hb dL_law_85 rfl (lv_at hl 2 rfl) ?_
    refine lv_if_eq (tgt := 110) hx hb dL_law_86 (by decide) (fun z => absurd z (by decide)) (fun _ => ?_)
    refine lv_aload_n hx hb dL_law_89 rfl (lv_at hl 3 rfl) ?_
    refine n_keeper C gL_law_L_keeper w (by omega) hl.1 (Nat.le_of_ble_eq_true rfl) dL_law_90 hc (fun H locs w => ?_)
    refine lv_iload hx hb dL_law_93 (lv_at hl 0 rfl) ?_
    refine lv_icmp_ne (tgt := 102) hx hb dL_law_95 (by decide) (fun z => absurd (by rw [hk0]) z) (fun _ => ?_)
    refine lv_iconst (v := nI 1) hx hb dL_law_98 (by decide) ?_
    refine lv_goto (tgt := 103) hx hb dL_law_99 (by decide) ?_
    refine lv_istore_n (lv' := [(2, .int (nI 1)), (4, .int (nI k)), (3, .int (nI n)), (1, .ref D.1), (0, .ref b)]) hx hb dL_law_103 rfl hl (by decide) rfl (fun ls hl => ?_)
    refine lv_iinc (v := (nI (k + 1))) (lv' := [(4, .int ((nI (k + 1)))), (2, .int (nI 1)), (3, .int (nI n)), (1, .ref D.1), (0, .ref b)]) hx hb dL_law_104 hl (k := 1) rfl (nI_1 _) (by decide) rfl (fun ls hl => ?_)
    refine lv_goto (tgt := 79) hx hb dL_law_107 (by decide) ?_
    have w := w.wd
    have hs : svS k = k + 1 := by unfold svS; rw [if_neg (by omega)]
    rw [hs] at w
    exact ih (k + 1) (by omega) H locs ls w (lv_sub hl [0, 2, 1, 3, 4] rfl)
theorem sealed {n ky q dt : Nat} (hn : n ≤ 6) (h1 : ky < 251) (h2 : 1 ≤ q) (h3 : q ≤ n) (h4 : dt ≤ 9999) (hW : WF (adK n)) : IV (dealP (shutP (adK n) ky q dt) q) ∧ toV (dealP (shutP (adK n) ky q dt) q) (2 ^ n - 1) = nI ky := by
  have w1 := shutP_w hW (ky := ky) (q := q) (dt := dt) h1 h2 (by omega) h4
  have hI : IV (dealP (shutP (adK n) ky q dt) q) := IV.deal w1 (by show (1 : Nat) ≠ 0; decide) h2 (by show q ≤ 8; omega)
  refine ⟨hI, ?_⟩
  have e4 : dealP (shutP (adK n) ky q dt) q 0 4 = 1 := rfl
  have e6 : dealP (shutP (adK n) ky q dt) q 0 6 = q := rfl
  have e5 : dealP (shutP (adK n) ky q dt) q 0 5 = ky := rfl
  have e2 : dealP (shutP (adK n) ky q dt) q 0 2 = 0 := rfl
  have o4 : ∀ j, dealP (shutP (adK n) ky q dt) q 4 j = if (adK n 0 1).testBit j then j + 1 else 0 := fun _ => rfl
  have hp2 : 2 ^ n - 1 < 256 := by
    have := p2_256 (show n ≤ 8 by omega)
    omega
  have ho : ∀ j, j < 8 → (2 ^ n - 1).testBit j = true → dealP (shutP (adK n) ky q dt) q 4 j ≠ 0 := fun j _ z => by
    rw [o4, ad_1 n (by omega), if_pos z]
    omega
  have hsub : subB (2 ^ n - 1) (thM (dealP (shutP (adK n) ky q dt) q)) = true := subB_iff.mpr fun j hj z => by
    rw [thM_bit hj, decide_eq_true_eq]
    exact ho j hj z
  have hpp := pop_low n (by omega)
  unfold toV
  rw [e4, if_neg (by decide), if_pos hsub, e6, if_pos (by omega), hI.2.2 (2 ^ n - 1) hp2 (fun k hk z => ⟨ho k hk z, by rw [e2]; simp⟩) (by rw [e6]; omega), e5]
set_option maxHeartbeats 4000000 in
set_option maxRecDepth 100000 in
theorem l_seal (hfl : l.stackTraces = false) (C : CX p room_1 s m args c A Γ cL_law 19 wsL_law) {b N : Nat} {xs : Nat → Int32} (hX : va_X b N xs s s.heap) (hbl : b < s.heap.size) (hbA : ¬ A b) (hN : N < 2 ^ 31) (hc : cells ≤ 600130 ∧ slots ≤ 7301080) {n : Nat} (hn3 : 3 ≤ n) (hn : n ≤ 6) (go : ∀ (H : Heap) (locs : List Loc) (ls : Array Slot) (P : Nat → Nat → Nat) (S : Nat), IV P → P 0 3 ≤ 0 → 1 ≤ P 0 0 → WD Γ D A s P S H locs → lv_has ls 19 [(6, .int (nI 0)), (2, .int (nI 1)), (1, .ref D.1), (0, .ref b)] → W p l e room_1 s m args below meth c H locs cells slots Q (F0 m 181 ls [])) (w : WD Γ D A s (adK n) n H locs) (hl : lv_has ls 19 [(3, .int (nI n)), (2, .int (nI 1)), (1, .ref D.1), (0, .ref b)]) : W p l e room_1 s m args below meth c H locs cells slots Q (F0 m 110 ls []) := by
  obtain ⟨hx, hb, hml, hown, hts, hK, hAm, hA, hR1, hR2⟩ := id C
  refine lv_aload_n hx hb dL_law_110 rfl (lv_at hl 3 rfl) ?_
  refine lv_iconst (v := nI 1) hx hb dL_law_111 (by decide) ?_
  refine n_cell C gL_law_L_cell hX hbl hbA hN w (k := 1) (by decide) hl.1 (Nat.le_of_ble_eq_true rfl) dL_law_112 hc (fun Y1 H locs hY1 w => ?_)
  refine lv_sipush (v := nI 251) hx hb dL_law_115 (by decide) ?_
  refine lv_irem hx hb dL_law_118 (by decide) ?_
  refine lv_eqi (y := nI (Y1 % 251)) (pk_rem (by omega) (by decide) (by decide)) ?_
  refine lv_istore (lv' := [(4, .int (nI (Y1 % 251))), (3, .int (nI n)), (2, .int (nI 1)), (1, .ref D.1), (0, .ref b)]) hx hb dL_law_119 hl (by decide) rfl (fun ls hl => ?_)
  refine lv_iconst (v := nI 1) hx hb dL_law_121 (by decide) ?_
  refine lv_aload_n hx hb dL_law_122 rfl (lv_at hl 4 rfl) ?_
  refine lv_iconst (v := nI 2) hx hb dL_law_123 (by decide) ?_
  refine n_cell C gL_law_L_cell hX hbl hbA hN w (k := 2) (by decide) hl.1 (Nat.le_of_ble_eq_true rfl) dL_law_124 hc (fun Y2 H locs hY2 w => ?_)
  refine lv_iconst (v := nI 3) hx hb dL_law_127 (by decide) ?_
  refine lv_irem hx hb dL_law_128 (by decide) ?_
  refine lv_eqi (y := nI (Y2 % 3)) (pk_rem (by omega) (by decide) (by decide)) ?_
  refine lv_iadd hx hb dL_law_129 ?_
  refine lv_eqi (y := nI (1 + Y2 % 3)) (nI_add _ _) ?_
  refine lv_istore (lv' := [(5, .int (nI (1 + Y2 % 3))), (4, .int (nI (Y1 % 251))), (3, .int (nI n)), (2, .int (nI 1)), (1, .ref D.1), (0, .ref b)]) hx hb dL_law_130 hl (by decide) rfl (fun ls hl => ?_)
  refine lv_iload_n hx hb dL_law_132 rfl (lv_at hl 3 rfl) ?_
  refine lv_if_eq (tgt := 176) hx hb dL_law_133 (by decide) (fun z => absurd z (by decide)) (fun _ => ?_)
  refine lv_aload_n hx hb dL_law_136 rfl (lv_at hl 4 rfl) ?_
  refine lv_iload hx hb dL_law_137 (lv_at hl 1 rfl) ?_
  refine lv_iload hx hb dL_law_139 (lv_at hl 0 rfl) ?_
  refine lv_aload_n hx hb dL_law_141 rfl (lv_at hl 5 rfl) ?_
  refine lv_iconst (v := nI 3) hx hb dL_law_142 (by decide) ?_
  refine n_cell C gL_law_L_cell hX hbl hbA hN w (k := 3) (by decide) hl.1 (Nat.le_of_ble_eq_true rfl) dL_law_143 hc (fun Y3 H locs hY3 w => ?_)
  refine lv_iconst (v := nI 3) hx hb dL_law_146 (by decide) ?_
  refine lv_irem hx hb dL_law_147 (by decide) ?_
  refine lv_eqi (y := nI (Y3 % 3)) (pk_rem (by omega) (by decide) (by decide)) ?_
  have h1p : adK n 0 1 = 2 ^ n - 1 := ad_1 n (by omega)
  have hpp := pop_low n (by omega)
  obtain ⟨hI, htv⟩ := sealed (n := n) (ky := Y1 % 251) (q := 1 + Y2 % 3) (dt := Y3 % 3) (by omega) (by omega) (by omega) (by omega) (by omega) (w_WF w).1
  refine n_seal C gL_law_L_seal w (k := Y1 % 251) (i := 1 + Y2 % 3) (d := Y3 % 3) (by omega) (by omega) (by omega) (by omega) (by rw [h1p]; omega) hl.1 (Nat.le_of_ble_eq_true rfl) dL_law_148 hc (fun H locs w => ?_)
  have w := w.wd
  refine lv_iload_n hx hb dL_law_151 rfl (lv_at hl 2 rfl) ?_
  refine lv_icmp_ne (tgt := 176) hx hb dL_law_152 (by decide) (fun z => absurd (by rw [h1p, hpp]) z) (fun _ => ?_)
  refine lv_aload_n hx hb dL_law_155 rfl (lv_at hl 4 rfl) ?_
  refine lv_sipush (v := nI 255) hx hb dL_law_156 (by decide) ?_
  refine lv_bipush (v := nI 8) hx hb dL_law_159 (by decide) ?_
  refine lv_iload_n hx hb dL_law_161 rfl (lv_at hl 2 rfl) ?_
  refine lv_isub hx hb dL_law_162 ?_
  refine lv_eqi (y := nI (8 - n)) (pk_sub (by omega)) ?_
  refine lv_ishr hx hb dL_law_163 ?_
  refine lv_eqi (y := nI (2 ^ n - 1)) (low_shr n (by omega)) ?_
  have hp2 := p2_256 (show n ≤ 8 by omega)
  refine n_told C gL_law_L_told w (k := 2 ^ n - 1) (by omega) (f := (nI (Y1 % 251))) (htv) hl.1 (Nat.le_of_ble_eq_true rfl) dL_law_164 hc (fun H locs w => ?_)
  refine lv_iload hx hb dL_law_167 (lv_at hl 1 rfl) ?_
  refine lv_icmp_ne (tgt := 176) hx hb dL_law_169 (by decide) (fun z => absurd (rfl) z) (fun _ => ?_)
  refine lv_iconst (v := nI 1) hx hb dL_law_172 (by decide) ?_
  refine lv_goto (tgt := 177) hx hb dL_law_173 (by decide) ?_
  refine lv_istore_n (lv' := [(2, .int (nI 1)), (5, .int (nI (1 + Y2 % 3))), (4, .int (nI (Y1 % 251))), (3, .int (nI n)), (1, .ref D.1), (0, .ref b)]) hx hb dL_law_177 rfl hl (by decide) rfl (fun ls hl => ?_)
  refine lv_iconst (v := nI 0) hx hb dL_law_178 (by decide) ?_
  refine lv_istore (lv' := [(6, .int (nI 0)), (2, .int (nI 1)), (5, .int (nI (1 + Y2 % 3))), (4, .int (nI (Y1 % 251))), (3, .int (nI n)), (1, .ref D.1), (0, .ref b)]) hx hb dL_law_179 hl (by decide) rfl (fun ls hl => ?_)
  exact go H locs ls _ _ hI (by show adK n 0 3 ≤ 0; rw [ad_3]; exact Nat.le_refl _) (by show 1 ≤ adK n 0 0; rw [ad_0]; omega) w (lv_sub hl [0, 1, 5, 6] rfl)
theorem bit_in {g k j : Nat} (hg : g < 2 ^ k) (h : g.testBit j = true) : j < k := by
  by_cases z : j < k
  · exact z
  · rw [Nat.testBit_lt_two_pow (Nat.lt_of_lt_of_le hg (Nat.pow_le_pow_right (by decide) (by omega)))] at h; cases h
set_option maxHeartbeats 4000000 in
set_option maxRecDepth 100000 in
theorem l_a (hfl : l.stackTraces = false) (C : CX p room_1 s m args c A Γ cL_law 19 wsL_law) {b N : Nat} {xs : Nat → Int32} (hX : va_X b N xs s s.heap) (hbl : b < s.heap.size) (hbA : ¬ A b) (hN : N < 2 ^ 31) (hc : cells ≤ 600130 ∧ slots ≤ 7301080) {i : Nat} (hi : i < 22) (go : ∀ (H : Heap) (locs : List Loc) (ls : Array Slot) (Y : Nat) (dq : Int64) (du tr : Int32), Y < 2 ^ 31 → (Y % 4 = 0 → dq = dgV P S) → (12 < Y % 16 → du = nI (reaN P (gpN P Y) false)) → (gpN P Y ≠ 0 → tr = nI (P 3 (lwN (gpN P Y)))) → WD Γ D A s P S H locs → lv_has ls 19 [(16, .int tr), (15, .int du), (14, .int (nI (gpN P Y))), (12, .long dq), (11, .int (nI (P 0 3))), (10, .int (nI (pop (thM P)))), (9, .int (nI (P 0 9))), (8, .int (nI S)), (7, .int (nI Y)), (6, .int (nI i)), (2, .int (nI 1)), (1, .ref D.1), (0, .ref b)] → W p l e room_1 s m args below meth c H locs cells slots Q (F0 m 314 ls [])) (w : WD Γ D A s P S H locs) (hl : lv_has ls 19 [(6, .int (nI i)), (2, .int (nI 1)), (1, .ref D.1), (0, .ref b)]) : W p l e room_1 s m args below meth c H locs cells slots Q (F0 m 192 ls []) := by
  obtain ⟨hx, hb, hml, hown, hts, hK, hAm, hA, hR1, hR2⟩ := id C
  obtain ⟨hW, hS6⟩ := w_WF w
  have h8 := hW.k8
  have hp8 := p2_256 h8
  refine lv_aload_n hx hb dL_law_192 rfl (lv_at hl 3 rfl) ?_
  refine lv_iconst (v := nI 4) hx hb dL_law_193 (by decide) ?_
  refine lv_iload hx hb dL_law_194 (lv_at hl 0 rfl) ?_
  refine lv_iadd hx hb dL_law_196 ?_
  refine lv_eqi (y := nI (4 + i)) (nI_add _ _) ?_
  refine n_cell C gL_law_L_cell hX hbl hbA hN w (k := 4 + i) (by omega) hl.1 (Nat.le_of_ble_eq_true rfl) dL_law_197 hc (fun Y H locs hY w => ?_)
  refine lv_istore (lv' := [(7, .int (nI Y)), (6, .int (nI i)), (2, .int (nI 1)), (1, .ref D.1), (0, .ref b)]) hx hb dL_law_200 hl (by decide) rfl (fun ls hl => ?_)
  refine lv_aload_n hx hb dL_law_202 rfl (lv_at hl 3 rfl) ?_
  refine lv_bipush (v := nI 11) hx hb dL_law_203 (by decide) ?_
  refine n_count C gL_law_L_count w (k := 11) (by decide) (f := (nI S)) (rfl) hl.1 (Nat.le_of_ble_eq_true rfl) dL_law_205 hc (fun H locs w => ?_)
  refine lv_istore (lv' := [(8, .int ((nI S))), (7, .int (nI Y)), (6, .int (nI i)), (2, .int (nI 1)), (1, .ref D.1), (0, .ref b)]) hx hb dL_law_208 hl (by decide) rfl (fun ls hl => ?_)
  refine lv_aload_n hx hb dL_law_210 rfl (lv_at hl 4 rfl) ?_
  refine lv_bipush (v := nI 9) hx hb dL_law_211 (by decide) ?_
  refine n_count C gL_law_L_count w (k := 9) (by decide) (f := (nI (P 0 9))) (rfl) hl.1 (Nat.le_of_ble_eq_true rfl) dL_law_213 hc (fun H locs w => ?_)
  refine lv_istore (lv' := [(9, .int ((nI (P 0 9)))), (8, .int ((nI S))), (7, .int (nI Y)), (6, .int (nI i)), (2, .int (nI 1)), (1, .ref D.1), (0, .ref b)]) hx hb dL_law_216 hl (by decide) rfl (fun ls hl => ?_)
  refine lv_aload_n hx hb dL_law_218 rfl (lv_at hl 5 rfl) ?_
  refine lv_bipush (v := nI 6) hx hb dL_law_219 (by decide) ?_
  refine n_count C gL_law_L_count w (k := 6) (by decide) (f := (nI (pop (thM P)))) (rfl) hl.1 (Nat.le_of_ble_eq_true rfl) dL_law_221 hc (fun H locs w => ?_)
  refine lv_istore (lv' := [(10, .int ((nI (pop (thM P))))), (9, .int ((nI (P 0 9)))), (8, .int ((nI S))), (7, .int (nI Y)), (6, .int (nI i)), (2, .int (nI 1)), (1, .ref D.1), (0, .ref b)]) hx hb dL_law_224 hl (by decide) rfl (fun ls hl => ?_)
  refine lv_aload_n hx hb dL_law_226 rfl (lv_at hl 6 rfl) ?_
  refine lv_iconst (v := nI 2) hx hb dL_law_227 (by decide) ?_
  refine n_count C gL_law_L_count w (k := 2) (by decide) (f := (nI (P 0 3))) (rfl) hl.1 (Nat.le_of_ble_eq_true rfl) dL_law_228 hc (fun H locs w => ?_)
  refine lv_istore (lv' := [(11, .int ((nI (P 0 3)))), (10, .int ((nI (pop (thM P))))), (9, .int ((nI (P 0 9)))), (8, .int ((nI S))), (7, .int (nI Y)), (6, .int (nI i)), (2, .int (nI 1)), (1, .ref D.1), (0, .ref b)]) hx hb dL_law_231 hl (by decide) rfl (fun ls hl => ?_)
  refine lv_iload hx hb dL_law_233 (lv_at hl 4 rfl) ?_
  refine lv_iconst (v := nI 4) hx hb dL_law_235 (by decide) ?_
  refine lv_irem hx hb dL_law_236 (by decide) ?_
  refine lv_eqi (y := nI (Y % 4)) (pk_rem (by omega) (by decide) (by decide)) ?_
  have hg := gp_lt P Y
  have h312 : ∀ (dq : Int64) (du tr : Int32), (Y % 4 = 0 → dq = dgV P S) → (12 < Y % 16 → du = nI (reaN P (gpN P Y) false)) → (gpN P Y ≠ 0 → tr = nI (P 3 (lwN (gpN P Y)))) → ∀ (H : Heap) (locs : List Loc) (ls : Array Slot), WD Γ D A s P S H locs → lv_has ls 19 [(15, .int du), (14, .int (nI (gpN P Y))), (12, .long dq), (11, .int ((nI (P 0 3)))), (10, .int ((nI (pop (thM P))))), (9, .int ((nI (P 0 9)))), (8, .int ((nI S))), (7, .int (nI Y)), (6, .int (nI i)), (2, .int (nI 1)), (1, .ref D.1), (0, .ref b)] → W p l e room_1 s m args below meth c H locs cells slots Q (F0 m 312 ls [.int tr]) := by
    intro dq du tr f1 f2 f3 H locs ls w hl
    refine lv_istore (lv' := [(16, .int tr), (15, .int du), (14, .int (nI (gpN P Y))), (12, .long dq), (11, .int ((nI (P 0 3)))), (10, .int ((nI (pop (thM P))))), (9, .int ((nI (P 0 9)))), (8, .int ((nI S))), (7, .int (nI Y)), (6, .int (nI i)), (2, .int (nI 1)), (1, .ref D.1), (0, .ref b)]) hx hb dL_law_312 hl (by decide) rfl (fun ls hl => ?_)
    exact go H locs ls Y dq du tr hY f1 f2 f3 w (lv_sub hl [0, 1, 2, 3, 4, 5, 6, 7, 8, 9, 10, 11, 12] rfl)
  have h291 : ∀ (dq : Int64) (du : Int32), (Y % 4 = 0 → dq = dgV P S) → (12 < Y % 16 → du = nI (reaN P (gpN P Y) false)) → ∀ (H : Heap) (locs : List Loc) (ls : Array Slot), WD Γ D A s P S H locs → lv_has ls 19 [(14, .int (nI (gpN P Y))), (12, .long dq), (11, .int ((nI (P 0 3)))), (10, .int ((nI (pop (thM P))))), (9, .int ((nI (P 0 9)))), (8, .int ((nI S))), (7, .int (nI Y)), (6, .int (nI i)), (2, .int (nI 1)), (1, .ref D.1), (0, .ref b)] → W p l e room_1 s m args below meth c H locs cells slots Q (F0 m 291 ls [.int du]) := by
    intro dq du f1 f2 H locs ls w hl
    refine lv_istore (lv' := [(15, .int du), (14, .int (nI (gpN P Y))), (12, .long dq), (11, .int ((nI (P 0 3)))), (10, .int ((nI (pop (thM P))))), (9, .int ((nI (P 0 9)))), (8, .int ((nI S))), (7, .int (nI Y)), (6, .int (nI i)), (2, .int (nI 1)), (1, .ref D.1), (0, .ref b)]) hx hb dL_law_291 hl (by decide) rfl (fun ls hl => ?_)
    refine lv_iload hx hb dL_law_293 (lv_at hl 1 rfl) ?_
    by_cases hg0 : gpN P Y = 0
    · refine lv_if_le (tgt := 311) hx hb dL_law_295 (by decide) (fun _ => ?_) (fun z => absurd (by rw [hg0]; decide) z)
      refine lv_iconst (v := nI 0) hx hb dL_law_311 (by decide) ?_
      exact h312 dq du (nI 0) f1 f2 (fun z => absurd hg0 z) H locs ls w hl
    · refine lv_if_le (tgt := 311) hx hb dL_law_295 (by decide) (fun z => absurd z (nI_nle (by omega) (by omega))) (fun _ => ?_)
      refine lv_aload_n hx hb dL_law_298 rfl (lv_at hl 10 rfl) ?_
      refine lv_iload hx hb dL_law_299 (lv_at hl 1 rfl) ?_
      refine n_lowest C gL_law_L_lowest w (k := gpN P Y) (by omega) (by omega) hl.1 (Nat.le_of_ble_eq_true rfl) dL_law_301 hc (fun H locs w => ?_)
      refine lv_iconst (v := nI 4) hx hb dL_law_304 (by decide) ?_
      obtain ⟨lb1, lb2⟩ := lw_bit (gpN P Y) (by omega) (by omega)
      have lb3 : lwN (gpN P Y) < P 0 0 := bit_in hg lb1
      refine n_keeperOf C gL_law_L_keeperOf w (k := lwN (gpN P Y)) (i := 4) lb3 (by decide) (f := (nI (P 3 (lwN (gpN P Y))))) (rfl) hl.1 (Nat.le_of_ble_eq_true rfl) dL_law_305 hc (fun H locs w => ?_)
      refine lv_goto (tgt := 312) hx hb dL_law_308 (by decide) ?_
      exact h312 dq du _ f1 f2 (fun _ => rfl) H locs ls w hl
  have h248 : ∀ (dq : Int64), (Y % 4 = 0 → dq = dgV P S) → ∀ (H : Heap) (locs : List Loc), WD Γ D A s P S H locs → W p l e room_1 s m args below meth c H locs cells slots Q (F0 m 248 ls [.long dq]) := by
    intro dq f1 H locs w
    refine lv_lstore (lv' := [(12, .long dq), (11, .int ((nI (P 0 3)))), (10, .int ((nI (pop (thM P))))), (9, .int ((nI (P 0 9)))), (8, .int ((nI S))), (7, .int (nI Y)), (6, .int (nI i)), (2, .int (nI 1)), (1, .ref D.1), (0, .ref b)]) hx hb dL_law_248 hl (by decide) rfl (fun ls hl => ?_)
    refine lv_iload hx hb dL_law_250 (lv_at hl 5 rfl) ?_
    refine lv_bipush (v := nI 16) hx hb dL_law_252 (by decide) ?_
    refine lv_idiv hx hb dL_law_254 (by decide) ?_
    refine lv_eqi (y := nI (Y / 16)) (pk_div (by omega) (by decide) (by decide)) ?_
    refine lv_sipush (v := nI 256) hx hb dL_law_255 (by decide) ?_
    refine lv_irem hx hb dL_law_258 (by decide) ?_
    refine lv_eqi (y := nI ((Y / 16) % 256)) (pk_rem (by omega) (by decide) (by decide)) ?_
    refine lv_iconst (v := nI 1) hx hb dL_law_259 (by decide) ?_
    refine lv_aload_n hx hb dL_law_260 rfl (lv_at hl 8 rfl) ?_
    refine lv_iconst (v := nI 0) hx hb dL_law_261 (by decide) ?_
    refine n_count C gL_law_L_count w (k := 0) (by decide) (f := (nI (P 0 0))) (rfl) hl.1 (Nat.le_of_ble_eq_true rfl) dL_law_262 hc (fun H locs w => ?_)
    refine lv_ishl hx hb dL_law_265 ?_
    refine lv_eqi (y := nI (2 ^ P 0 0)) (shl1 (by omega)) ?_
    refine lv_iconst (v := nI 1) hx hb dL_law_266 (by decide) ?_
    refine lv_isub hx hb dL_law_267 ?_
    refine lv_eqi (y := nI (2 ^ P 0 0 - 1)) (pk_sub (Nat.two_pow_pos _)) ?_
    refine lv_iand hx hb dL_law_268 ?_
    refine lv_eqi (y := nI (gpN P Y)) (by rw [xI_and]; rfl) ?_
    refine lv_istore (lv' := [(14, .int (nI (gpN P Y))), (12, .long dq), (11, .int ((nI (P 0 3)))), (10, .int ((nI (pop (thM P))))), (9, .int ((nI (P 0 9)))), (8, .int ((nI S))), (7, .int (nI Y)), (6, .int (nI i)), (2, .int (nI 1)), (1, .ref D.1), (0, .ref b)]) hx hb dL_law_269 hl (by decide) rfl (fun ls hl => ?_)
    refine lv_iload hx hb dL_law_271 (lv_at hl 6 rfl) ?_
    refine lv_bipush (v := nI 16) hx hb dL_law_273 (by decide) ?_
    refine lv_irem hx hb dL_law_275 (by decide) ?_
    refine lv_eqi (y := nI (Y % 16)) (pk_rem (by omega) (by decide) (by decide)) ?_
    refine lv_bipush (v := nI 12) hx hb dL_law_276 (by decide) ?_
    by_cases h12 : 12 < Y % 16
    · refine lv_icmp_le (tgt := 290) hx hb dL_law_278 (by decide) (fun z => absurd z (fun y => absurd ((nI_leI (by omega) (by omega)).mp y) (by omega))) (fun _ => ?_)
      refine lv_aload_n hx hb dL_law_281 rfl (lv_at hl 9 rfl) ?_
      refine lv_iload hx hb dL_law_282 (lv_at hl 0 rfl) ?_
      refine n_why C gL_law_L_why w (k := gpN P Y) hg (f := (nI (reaN P (gpN P Y) false))) (rfl) hl.1 (Nat.le_of_ble_eq_true rfl) dL_law_284 hc (fun H locs w => ?_)
      refine lv_goto (tgt := 291) hx hb dL_law_287 (by decide) ?_
      exact h291 dq _ f1 (fun _ => rfl) H locs ls w hl
    · refine lv_icmp_le (tgt := 290) hx hb dL_law_278 (by decide) (fun _ => ?_) (fun z => absurd (nr2 (by omega) (by omega) (by omega)) z)
      refine lv_iconst (v := nI 0) hx hb dL_law_290 (by decide) ?_
      exact h291 dq _ f1 (fun z => absurd z h12) H locs ls w hl
  by_cases h4 : Y % 4 = 0
  · refine lv_if_ne (tgt := 247) hx hb dL_law_237 (by decide) (fun z => absurd (by rw [h4]; decide) z) (fun _ => ?_)
    refine lv_aload_n hx hb dL_law_240 rfl (lv_at hl 7 rfl) ?_
    refine n_digest C gL_law_X4_digest w hl.1 (Nat.le_of_ble_eq_true rfl) dL_law_241 hc (fun H locs w => ?_)
    refine lv_goto (tgt := 248) hx hb dL_law_244 (by decide) ?_
    exact h248 _ (fun _ => rfl) H locs w
  · refine lv_if_ne (tgt := 247) hx hb dL_law_237 (by decide) (fun _ => ?_) (fun z => absurd z (nI_ne0 (by omega) (by omega)))
    refine lv_lconst (v := 0) hx hb dL_law_247 (by decide) ?_
    exact h248 _ (fun z => absurd z h4) H locs w
set_option maxHeartbeats 4000000 in
set_option maxRecDepth 100000 in
theorem l_no (hfl : l.stackTraces = false) (C : CX p room_1 s m args c A Γ cL_law 19 wsL_law) (hc : cells ≤ 600130 ∧ slots ≤ 7301080) (hI : IV P) {Y i : Nat} {b : Nat} {dq : Int64} {du tr r : Int32} (hY : Y < 2 ^ 31) (f1 : Y % 4 = 0 → dq = dgV P S) (hn : ¬ (-2000000 : Int32) < r) (h12 : Y % 16 ≤ 12) (go : ∀ (H : Heap) (locs : List Loc) (ls : Array Slot) (P2 : Nat → Nat → Nat) (S2 : Nat), IV P2 → P2 0 3 ≤ P 0 3 + 5 → P 0 0 ≤ P2 0 0 → WD Γ D A s P2 S2 H locs → lv_has ls 19 [(6, .int (nI i)), (2, .int (nI 1)), (1, .ref D.1), (0, .ref b)] → W p l e room_1 s m args below meth c H locs cells slots Q (F0 m 611 ls [])) (w : WD Γ D A s P S H locs) (hl : lv_has ls 19 [(17, .int r), (16, .int tr), (15, .int du), (14, .int (nI (gpN P Y))), (12, .long dq), (11, .int (nI (P 0 3))), (10, .int (nI (pop (thM P)))), (9, .int (nI (P 0 9))), (8, .int (nI S)), (7, .int (nI Y)), (6, .int (nI i)), (2, .int (nI 1)), (1, .ref D.1), (0, .ref b)]) : W p l e room_1 s m args below meth c H locs cells slots Q (F0 m 322 ls []) := by
  obtain ⟨hx, hb, hml, hown, hts, hK, hAm, hA, hR1, hR2⟩ := id C
  refine lv_iload hx hb dL_law_322 (lv_at hl 0 rfl) ?_
  refine lv_ldc hx hb hown (hts (.constant RL 153 (-2000000)) (by decide +kernel)) dL_law_324 ?_
  refine lv_icmp_le (tgt := 333) hx hb dL_law_326 (by decide) (fun _ => ?_) (fun z => absurd (Int32.not_lt.mp hn) z)
  refine lv_iconst (v := nI 0) hx hb dL_law_333 (by decide) ?_
  refine lv_istore (lv' := [(18, .int (nI 0)), (17, .int r), (16, .int tr), (15, .int du), (14, .int (nI (gpN P Y))), (12, .long dq), (11, .int (nI (P 0 3))), (10, .int (nI (pop (thM P)))), (9, .int (nI (P 0 9))), (8, .int (nI S)), (7, .int (nI Y)), (6, .int (nI i)), (2, .int (nI 1)), (1, .ref D.1), (0, .ref b)]) hx hb dL_law_334 hl (by decide) rfl (fun ls hl => ?_)
  refine lv_iload hx hb dL_law_336 (lv_at hl 0 rfl) ?_
  refine lv_if_eq (tgt := 374) hx hb dL_law_338 (by decide) (fun _ => ?_) (fun z => absurd (by decide) z)
  refine lv_aload_n hx hb dL_law_374 rfl (lv_at hl 13 rfl) ?_
  refine lv_bipush (v := nI 11) hx hb dL_law_375 (by decide) ?_
  refine n_count C gL_law_L_count w (k := 11) (by decide) (f := (nI S)) (rfl) hl.1 (Nat.le_of_ble_eq_true rfl) dL_law_377 hc (fun H locs w => ?_)
  refine lv_iload hx hb dL_law_380 (lv_at hl 9 rfl) ?_
  refine lv_icmp_ne (tgt := 406) hx hb dL_law_382 (by decide) (fun z => absurd (rfl) z) (fun _ => ?_)
  refine lv_iload hx hb dL_law_385 (lv_at hl 10 rfl) ?_
  refine lv_iconst (v := nI 4) hx hb dL_law_387 (by decide) ?_
  refine lv_irem hx hb dL_law_388 (by decide) ?_
  refine lv_eqi (y := nI (Y % 4)) (pk_rem (by omega) (by decide) (by decide)) ?_
  have hj : ∀ (H : Heap) (locs : List Loc), WD Γ D A s P S H locs → W p l e room_1 s m args below meth c H locs cells slots Q (F0 m 402 ls []) := by
    intro H locs w
    refine lv_iconst (v := nI 1) hx hb dL_law_402 (by decide) ?_
    refine lv_goto (tgt := 407) hx hb dL_law_403 (by decide) ?_
    refine lv_istore_n (lv' := [(2, .int (nI 1)), (18, .int (nI 0)), (17, .int r), (16, .int tr), (15, .int du), (14, .int (nI (gpN P Y))), (12, .long dq), (11, .int (nI (P 0 3))), (10, .int (nI (pop (thM P)))), (9, .int (nI (P 0 9))), (8, .int (nI S)), (7, .int (nI Y)), (6, .int (nI i)), (1, .ref D.1), (0, .ref b)]) hx hb dL_law_407 rfl hl (by decide) rfl (fun ls hl => ?_)
    refine lv_iload_n hx hb dL_law_408 rfl (lv_at hl 0 rfl) ?_
    refine lv_if_eq (tgt := 496) hx hb dL_law_409 (by decide) (fun z => absurd z (by decide)) (fun _ => ?_)
    refine lv_iload hx hb dL_law_412 (lv_at hl 11 rfl) ?_
    refine lv_bipush (v := nI 16) hx hb dL_law_414 (by decide) ?_
    refine lv_irem hx hb dL_law_416 (by decide) ?_
    refine lv_eqi (y := nI (Y % 16)) (pk_rem (by omega) (by decide) (by decide)) ?_
    refine lv_bipush (v := nI 12) hx hb dL_law_417 (by decide) ?_
    refine lv_icmp_le (tgt := 496) hx hb dL_law_419 (by decide) (fun _ => ?_) (fun z => absurd (nr2 (by omega) (by omega) h12) z)
    refine lv_iload_n hx hb dL_law_496 rfl (lv_at hl 0 rfl) ?_
    refine lv_if_eq (tgt := 551) hx hb dL_law_497 (by decide) (fun z => absurd z (by decide)) (fun _ => ?_)
    refine lv_iload hx hb dL_law_500 (lv_at hl 1 rfl) ?_
    refine lv_if_eq (tgt := 551) hx hb dL_law_502 (by decide) (fun _ => ?_) (fun z => absurd (by decide) z)
    refine lv_iload_n hx hb dL_law_551 rfl (lv_at hl 0 rfl) ?_
    refine lv_if_eq (tgt := 611) hx hb dL_law_552 (by decide) (fun z => absurd z (by decide)) (fun _ => ?_)
    refine lv_iload hx hb dL_law_555 (lv_at hl 1 rfl) ?_
    refine lv_if_eq (tgt := 611) hx hb dL_law_557 (by decide) (fun _ => ?_) (fun z => absurd (by decide) z)
    exact go H locs ls P S hI (Nat.le_add_right _ _) (Nat.le_refl _) w (lv_sub hl [12, 0, 13, 14] rfl)
  by_cases h4 : Y % 4 = 0
  · refine lv_if_ne (tgt := 402) hx hb dL_law_389 (by decide) (fun z => absurd (by rw [h4]; decide) z) (fun _ => ?_)
    refine lv_aload_n hx hb dL_law_392 rfl (lv_at hl 13 rfl) ?_
    refine n_digest C gL_law_X4_digest w hl.1 (Nat.le_of_ble_eq_true rfl) dL_law_393 hc (fun H locs w => ?_)
    refine lv_lload hx hb dL_law_396 (lv_at hl 5 rfl) ?_
    rw [f1 h4]
    refine lv_lcmp0 hx hb dL_law_398 ?_
    refine lv_if_ne (tgt := 406) hx hb dL_law_399 (by decide) (fun z => absurd (rfl) z) (fun _ => ?_)
    exact hj H locs w
  · refine lv_if_ne (tgt := 402) hx hb dL_law_389 (by decide) (fun _ => ?_) (fun z => absurd z (nI_ne0 (by omega) (by omega)))
    exact hj H locs w
set_option maxHeartbeats 4000000 in
set_option maxRecDepth 100000 in
theorem l_yes (hfl : l.stackTraces = false) (C : CX p room_1 s m args c A Γ cL_law 19 wsL_law) (hc : cells ≤ 600130 ∧ slots ≤ 7301080) {P2 : Nat → Nat → Nat} {Y i : Nat} {b : Nat} {dq : Int64} {du tr r : Int32}  (hS6 : S ≤ 6) (hgt : (-2000000 : Int32) < r) (go : ∀ (H : Heap) (locs : List Loc) (ls : Array Slot), WD Γ D A s P2 (svS S) H locs → lv_has ls 19 [(2, .int (nI 1)), (18, .int (nI 1)), (17, .int r), (16, .int tr), (15, .int du), (14, .int (nI (gpN P Y))), (12, .long dq), (11, .int (nI (P 0 3))), (10, .int (nI (pop (thM P)))), (9, .int (nI (P 0 9))), (8, .int (nI S)), (7, .int (nI Y)), (6, .int (nI i)), (1, .ref D.1), (0, .ref b)] → W p l e room_1 s m args below meth c H locs cells slots Q (F0 m 408 ls [])) (w : WD Γ D A s P2 (svS S) H locs) (hl : lv_has ls 19 [(17, .int r), (16, .int tr), (15, .int du), (14, .int (nI (gpN P Y))), (12, .long dq), (11, .int (nI (P 0 3))), (10, .int (nI (pop (thM P)))), (9, .int (nI (P 0 9))), (8, .int (nI S)), (7, .int (nI Y)), (6, .int (nI i)), (2, .int (nI 1)), (1, .ref D.1), (0, .ref b)]) : W p l e room_1 s m args below meth c H locs cells slots Q (F0 m 322 ls []) := by
  obtain ⟨hx, hb, hml, hown, hts, hK, hAm, hA, hR1, hR2⟩ := id C
  refine lv_iload hx hb dL_law_322 (lv_at hl 0 rfl) ?_
  refine lv_ldc hx hb hown (hts (.constant RL 153 (-2000000)) (by decide +kernel)) dL_law_324 ?_
  refine lv_icmp_le (tgt := 333) hx hb dL_law_326 (by decide) (fun z => absurd z (fun y => absurd hgt (Int32.not_lt.mpr y))) (fun _ => ?_)
  refine lv_iconst (v := nI 1) hx hb dL_law_329 (by decide) ?_
  refine lv_goto (tgt := 334) hx hb dL_law_330 (by decide) ?_
  refine lv_istore (lv' := [(18, .int (nI 1)), (17, .int r), (16, .int tr), (15, .int du), (14, .int (nI (gpN P Y))), (12, .long dq), (11, .int (nI (P 0 3))), (10, .int (nI (pop (thM P)))), (9, .int (nI (P 0 9))), (8, .int (nI S)), (7, .int (nI Y)), (6, .int (nI i)), (2, .int (nI 1)), (1, .ref D.1), (0, .ref b)]) hx hb dL_law_334 hl (by decide) rfl (fun ls hl => ?_)
  refine lv_iload hx hb dL_law_336 (lv_at hl 0 rfl) ?_
  refine lv_if_eq (tgt := 374) hx hb dL_law_338 (by decide) (fun z => absurd z (by decide)) (fun _ => ?_)
  refine lv_aload_n hx hb dL_law_341 rfl (lv_at hl 13 rfl) ?_
  refine lv_bipush (v := nI 11) hx hb dL_law_342 (by decide) ?_
  refine n_count C gL_law_L_count w (k := 11) (by decide) (f := (nI (svS S))) (rfl) hl.1 (Nat.le_of_ble_eq_true rfl) dL_law_344 hc (fun H locs w => ?_)
  refine lv_iload hx hb dL_law_347 (lv_at hl 9 rfl) ?_
  refine lv_bipush (v := nI 6) hx hb dL_law_349 (by decide) ?_
  have hj : W p l e room_1 s m args below meth c H locs cells slots Q (F0 m 363 ls [.int (nI (svS S)), .int (nI (svS S))]) := by
    refine lv_icmp_ne (tgt := 370) hx hb dL_law_363 (by decide) (fun z => absurd (rfl) z) (fun _ => ?_)
    refine lv_iconst (v := nI 1) hx hb dL_law_366 (by decide) ?_
    refine lv_goto (tgt := 407) hx hb dL_law_367 (by decide) ?_
    refine lv_istore_n (lv' := [(2, .int (nI 1)), (18, .int (nI 1)), (17, .int r), (16, .int tr), (15, .int du), (14, .int (nI (gpN P Y))), (12, .long dq), (11, .int (nI (P 0 3))), (10, .int (nI (pop (thM P)))), (9, .int (nI (P 0 9))), (8, .int (nI S)), (7, .int (nI Y)), (6, .int (nI i)), (1, .ref D.1), (0, .ref b)]) hx hb dL_law_407 rfl hl (by decide) rfl (fun ls hl => ?_)
    exact go H locs ls w (lv_sub hl [0, 1, 2, 3, 4, 5, 6, 7, 8, 9, 10, 11, 12, 13, 14] rfl)
  by_cases h6 : S = 6
  · refine lv_icmp_ne (tgt := 359) hx hb dL_law_351 (by decide) (fun z => absurd (by rw [h6]) z) (fun _ => ?_)
    refine lv_bipush (v := nI 6) hx hb dL_law_354 (by decide) ?_
    refine lv_goto (tgt := 363) hx hb dL_law_356 (by decide) ?_
    refine lv_eqi (y := nI (svS S)) (by unfold svS; rw [if_pos h6]) ?_
    exact hj
  · refine lv_icmp_ne (tgt := 359) hx hb dL_law_351 (by decide) (fun _ => ?_) (fun z => absurd z (ne5 (by omega) (by decide) h6))
    refine lv_iload hx hb dL_law_359 (lv_at hl 9 rfl) ?_
    refine lv_iconst (v := nI 1) hx hb dL_law_361 (by decide) ?_
    refine lv_iadd hx hb dL_law_362 ?_
    refine lv_eqi (y := nI (S + 1)) (nI_add _ _) ?_
    refine lv_eqi (y := nI (svS S)) (by unfold svS; rw [if_neg h6]) ?_
    exact hj
theorem try_3 (P : Nat → Nat → Nat) (g : Nat) (op : Bool) {k : Nat} (hk : k < 8) : tryP P g op 3 k = P 3 k + (if g.testBit k then 1 else 0) := by
  cases op
  · show (if 3 = 0 ∧ k = 9 then P 0 9 + 1 else if 3 = 3 ∧ k < 8 then P 3 k + (if g.testBit k then 1 else 0) else P 3 k) = _
    rw [if_neg (by simp), if_pos ⟨rfl, hk⟩]
  · show (if 3 = 0 ∧ k = 4 then 2 else if 3 = 3 ∧ k < 8 then P 3 k + (if g.testBit k then 1 else 0) else P 3 k) = _
    rw [if_neg (by simp), if_pos ⟨rfl, hk⟩]
set_option maxHeartbeats 4000000 in
set_option maxRecDepth 100000 in
theorem l_open (hfl : l.stackTraces = false) (C : CX p room_1 s m args c A Γ cL_law 19 wsL_law) (hc : cells ≤ 600130 ∧ slots ≤ 7301080) {P2 : Nat → Nat → Nat} {Y i b : Nat} {dq : Int64} {tr : Int32} (hY : Y < 2 ^ 31) (h12 : 12 < Y % 16) (hP2 : P2 = tryP P (gpN P Y) (decide (reaN P (gpN P Y) false = 0))) (f3 : gpN P Y ≠ 0 → tr = nI (P 3 (lwN (gpN P Y)))) (go : ∀ (H : Heap) (locs : List Loc) (ls : Array Slot), WD Γ D A s P2 (svS S) H locs → lv_has ls 19 [(6, .int (nI i)), (2, .int (nI 1)), (1, .ref D.1), (0, .ref b)] → W p l e room_1 s m args below meth c H locs cells slots Q (F0 m 611 ls [])) (w : WD Γ D A s P2 (svS S) H locs) (hl : lv_has ls 19 [(2, .int (nI 1)), (18, .int (nI 1)), (17, .int (nI (reaN P (gpN P Y) false))), (16, .int tr), (15, .int (nI (reaN P (gpN P Y) false))), (14, .int (nI (gpN P Y))), (12, .long dq), (11, .int (nI (P 0 3))), (10, .int (nI (pop (thM P)))), (9, .int (nI (P 0 9))), (8, .int (nI S)), (7, .int (nI Y)), (6, .int (nI i)), (1, .ref D.1), (0, .ref b)]) : W p l e room_1 s m args below meth c H locs cells slots Q (F0 m 408 ls []) := by
  obtain ⟨hx, hb, hml, hown, hts, hK, hAm, hA, hR1, hR2⟩ := id C
  have hg := gp_lt P Y
  obtain ⟨hW, _⟩ := w_WF w
  have hrl := reaN_lt P (gpN P Y) false
  have h8 : P 0 0 ≤ 8 := by have := hW.k8; rw [hP2, (tryP_0 P (gpN P Y) _).1] at this; exact this
  have hp8 := p2_256 h8
  refine lv_iload_n hx hb dL_law_408 rfl (lv_at hl 0 rfl) ?_
  refine lv_if_eq (tgt := 496) hx hb dL_law_409 (by decide) (fun z => absurd z (by decide)) (fun _ => ?_)
  refine lv_iload hx hb dL_law_412 (lv_at hl 11 rfl) ?_
  refine lv_bipush (v := nI 16) hx hb dL_law_414 (by decide) ?_
  refine lv_irem hx hb dL_law_416 (by decide) ?_
  refine lv_eqi (y := nI (Y % 16)) (pk_rem (by omega) (by decide) (by decide)) ?_
  refine lv_bipush (v := nI 12) hx hb dL_law_417 (by decide) ?_
  refine lv_icmp_le (tgt := 496) hx hb dL_law_419 (by decide) (fun z => absurd z (fun y => absurd ((nI_leI (by omega) (by omega)).mp y) (by omega))) (fun _ => ?_)
  refine lv_iload hx hb dL_law_422 (lv_at hl 2 rfl) ?_
  refine lv_iload hx hb dL_law_424 (lv_at hl 4 rfl) ?_
  refine lv_icmp_ne (tgt := 491) hx hb dL_law_426 (by decide) (fun z => absurd (rfl) z) (fun _ => ?_)
  refine lv_aload_n hx hb dL_law_429 rfl (lv_at hl 13 rfl) ?_
  refine lv_bipush (v := nI 9) hx hb dL_law_430 (by decide) ?_
  refine n_count C gL_law_L_count w (k := 9) (by decide) (f := (nI (P2 0 9))) (rfl) hl.1 (Nat.le_of_ble_eq_true rfl) dL_law_432 hc (fun H locs w => ?_)
  refine lv_iload hx hb dL_law_435 (lv_at hl 9 rfl) ?_
  refine lv_iload hx hb dL_law_437 (lv_at hl 4 rfl) ?_
  have h465 : ∀ (H : Heap) (locs : List Loc), WD Γ D A s P2 (svS S) H locs → W p l e room_1 s m args below meth c H locs cells slots Q (F0 m 465 ls []) := by
    intro H locs w
    refine lv_iload hx hb dL_law_465 (lv_at hl 5 rfl) ?_
    by_cases hg0 : gpN P Y = 0
    · refine lv_if_eq (tgt := 487) hx hb dL_law_467 (by decide) (fun _ => ?_) (fun z => absurd (by rw [hg0]; decide) z)
      refine lv_iconst (v := nI 1) hx hb dL_law_487 (by decide) ?_
      refine lv_goto (tgt := 492) hx hb dL_law_488 (by decide) ?_
      refine lv_istore_n (lv' := [(2, .int (nI 1)), (18, .int (nI 1)), (17, .int (nI (reaN P (gpN P Y) false))), (16, .int tr), (15, .int (nI (reaN P (gpN P Y) false))), (14, .int (nI (gpN P Y))), (12, .long dq), (11, .int (nI (P 0 3))), (10, .int (nI (pop (thM P)))), (9, .int (nI (P 0 9))), (8, .int (nI S)), (7, .int (nI Y)), (6, .int (nI i)), (1, .ref D.1), (0, .ref b)]) hx hb dL_law_492 rfl hl (by decide) rfl (fun ls hl => ?_)
      refine lv_goto (tgt := 611) hx hb dL_law_493 (by decide) ?_
      exact go H locs ls w (lv_sub hl [12, 0, 13, 14] rfl)
    · refine lv_if_eq (tgt := 487) hx hb dL_law_467 (by decide) (fun z => absurd z (nI_ne0 (by omega) (by omega))) (fun _ => ?_)
      refine lv_aload_n hx hb dL_law_470 rfl (lv_at hl 13 rfl) ?_
      refine lv_iload hx hb dL_law_471 (lv_at hl 5 rfl) ?_
      refine n_lowest C gL_law_L_lowest w (k := gpN P Y) (by omega) (by omega) hl.1 (Nat.le_of_ble_eq_true rfl) dL_law_473 hc (fun H locs w => ?_)
      refine lv_iconst (v := nI 4) hx hb dL_law_476 (by decide) ?_
      obtain ⟨lb1, lb2⟩ := lw_bit (gpN P Y) (by omega) (by omega)
      have lb3 : lwN (gpN P Y) < P2 0 0 := by rw [hP2, (tryP_0 P (gpN P Y) _).1]; exact bit_in hg lb1
      have h3 : P2 3 (lwN (gpN P Y)) = P 3 (lwN (gpN P Y)) + 1 := by rw [hP2, try_3 P _ _ lb2, if_pos lb1]
      refine n_keeperOf C gL_law_L_keeperOf w (k := lwN (gpN P Y)) (i := 4) lb3 (by decide) (f := (nI (P2 3 (lwN (gpN P Y))))) (rfl) hl.1 (Nat.le_of_ble_eq_true rfl) dL_law_477 hc (fun H locs w => ?_)
      refine lv_iload hx hb dL_law_480 (lv_at hl 3 rfl) ?_
      refine lv_iconst (v := nI 1) hx hb dL_law_482 (by decide) ?_
      refine lv_iadd hx hb dL_law_483 ?_
      refine lv_eqi (y := nI (P 3 (lwN (gpN P Y)) + 1)) (by rw [f3 hg0, nI_add]) ?_
      refine lv_icmp_ne (tgt := 491) hx hb dL_law_484 (by decide) (fun z => absurd (by rw [h3]) z) (fun _ => ?_)
      refine lv_iconst (v := nI 1) hx hb dL_law_487 (by decide) ?_
      refine lv_goto (tgt := 492) hx hb dL_law_488 (by decide) ?_
      refine lv_istore_n (lv' := [(2, .int (nI 1)), (18, .int (nI 1)), (17, .int (nI (reaN P (gpN P Y) false))), (16, .int tr), (15, .int (nI (reaN P (gpN P Y) false))), (14, .int (nI (gpN P Y))), (12, .long dq), (11, .int (nI (P 0 3))), (10, .int (nI (pop (thM P)))), (9, .int (nI (P 0 9))), (8, .int (nI S)), (7, .int (nI Y)), (6, .int (nI i)), (1, .ref D.1), (0, .ref b)]) hx hb dL_law_492 rfl hl (by decide) rfl (fun ls hl => ?_)
      refine lv_goto (tgt := 611) hx hb dL_law_493 (by decide) ?_
      exact go H locs ls w (lv_sub hl [12, 0, 13, 14] rfl)
  by_cases h0 : reaN P (gpN P Y) false = 0
  · refine lv_if_ne (tgt := 446) hx hb dL_law_439 (by decide) (fun z => absurd (by rw [h0]; decide) z) (fun _ => ?_)
    refine lv_iconst (v := nI 0) hx hb dL_law_442 (by decide) ?_
    refine lv_goto (tgt := 447) hx hb dL_law_443 (by decide) ?_
    refine lv_iadd hx hb dL_law_447 ?_
    refine lv_eqi (y := nI (P 0 9 + 0)) (nI_add _ _) ?_
    refine lv_icmp_ne (tgt := 491) hx hb dL_law_448 (by decide) (fun z => absurd (by rw [hP2, h0]; rfl) z) (fun _ => ?_)
    refine lv_iload hx hb dL_law_451 (lv_at hl 4 rfl) ?_
    refine lv_if_ne (tgt := 465) hx hb dL_law_453 (by decide) (fun z => absurd (by rw [h0]; decide) z) (fun _ => ?_)
    refine lv_aload_n hx hb dL_law_456 rfl (lv_at hl 13 rfl) ?_
    refine lv_iconst (v := nI 3) hx hb dL_law_457 (by decide) ?_
    refine n_count C gL_law_L_count w (k := 3) (by decide) (f := (nI 2)) (by rw [hP2, h0]; rfl) hl.1 (Nat.le_of_ble_eq_true rfl) dL_law_458 hc (fun H locs w => ?_)
    refine lv_iconst (v := nI 2) hx hb dL_law_461 (by decide) ?_
    refine lv_icmp_ne (tgt := 491) hx hb dL_law_462 (by decide) (fun z => absurd (rfl) z) (fun _ => ?_)
    exact h465 H locs w
  · refine lv_if_ne (tgt := 446) hx hb dL_law_439 (by decide) (fun _ => ?_) (fun z => absurd z (nI_ne0 (by omega) (by omega)))
    refine lv_iconst (v := nI 1) hx hb dL_law_446 (by decide) ?_
    refine lv_iadd hx hb dL_law_447 ?_
    refine lv_eqi (y := nI (P 0 9 + 1)) (nI_add _ _) ?_
    refine lv_icmp_ne (tgt := 491) hx hb dL_law_448 (by decide) (fun z => absurd (by rw [hP2, decide_eq_false h0]; rfl) z) (fun _ => ?_)
    refine lv_iload hx hb dL_law_451 (lv_at hl 4 rfl) ?_
    refine lv_if_ne (tgt := 465) hx hb dL_law_453 (by decide) (fun _ => ?_) (fun z => absurd z (nI_ne0 (by omega) (by omega)))
    exact h465 H locs w
set_option maxHeartbeats 4000000 in
set_option maxRecDepth 100000 in
theorem l_pass (hfl : l.stackTraces = false) (C : CX p room_1 s m args c A Γ cL_law 19 wsL_law) (hc : cells ≤ 600130 ∧ slots ≤ 7301080) {P2 : Nat → Nat → Nat} {Y i b : Nat} {dq : Int64} {du tr : Int32} (hY : Y < 2 ^ 31) (h12 : Y % 16 = 12) (h3 : P2 0 3 = P 0 3 + (1 + Y / 16 % 5)) (go : ∀ (H : Heap) (locs : List Loc) (ls : Array Slot), WD Γ D A s P2 (svS S) H locs → lv_has ls 19 [(6, .int (nI i)), (2, .int (nI 1)), (1, .ref D.1), (0, .ref b)] → W p l e room_1 s m args below meth c H locs cells slots Q (F0 m 611 ls [])) (w : WD Γ D A s P2 (svS S) H locs) (hl : lv_has ls 19 [(2, .int (nI 1)), (18, .int (nI 1)), (17, .int (nI (P 0 3 + (1 + Y / 16 % 5)))), (16, .int tr), (15, .int du), (14, .int (nI (gpN P Y))), (12, .long dq), (11, .int (nI (P 0 3))), (10, .int (nI (pop (thM P)))), (9, .int (nI (P 0 9))), (8, .int (nI S)), (7, .int (nI Y)), (6, .int (nI i)), (1, .ref D.1), (0, .ref b)]) : W p l e room_1 s m args below meth c H locs cells slots Q (F0 m 408 ls []) := by
  obtain ⟨hx, hb, hml, hown, hts, hK, hAm, hA, hR1, hR2⟩ := id C
  refine lv_iload_n hx hb dL_law_408 rfl (lv_at hl 0 rfl) ?_
  refine lv_if_eq (tgt := 496) hx hb dL_law_409 (by decide) (fun z => absurd z (by decide)) (fun _ => ?_)
  refine lv_iload hx hb dL_law_412 (lv_at hl 11 rfl) ?_
  refine lv_bipush (v := nI 16) hx hb dL_law_414 (by decide) ?_
  refine lv_irem hx hb dL_law_416 (by decide) ?_
  refine lv_eqi (y := nI (Y % 16)) (pk_rem (by omega) (by decide) (by decide)) ?_
  refine lv_bipush (v := nI 12) hx hb dL_law_417 (by decide) ?_
  refine lv_icmp_le (tgt := 496) hx hb dL_law_419 (by decide) (fun _ => ?_) (fun z => absurd (nr2 (by omega) (by omega) (by omega)) z)
  refine lv_iload_n hx hb dL_law_496 rfl (lv_at hl 0 rfl) ?_
  refine lv_if_eq (tgt := 551) hx hb dL_law_497 (by decide) (fun z => absurd z (by decide)) (fun _ => ?_)
  refine lv_iload hx hb dL_law_500 (lv_at hl 1 rfl) ?_
  refine lv_if_eq (tgt := 551) hx hb dL_law_502 (by decide) (fun z => absurd z (by decide)) (fun _ => ?_)
  refine lv_iload hx hb dL_law_505 (lv_at hl 11 rfl) ?_
  refine lv_bipush (v := nI 16) hx hb dL_law_507 (by decide) ?_
  refine lv_irem hx hb dL_law_509 (by decide) ?_
  refine lv_eqi (y := nI (Y % 16)) (pk_rem (by omega) (by decide) (by decide)) ?_
  refine lv_bipush (v := nI 12) hx hb dL_law_510 (by decide) ?_
  refine lv_icmp_ne (tgt := 551) hx hb dL_law_512 (by decide) (fun z => absurd (by rw [h12]) z) (fun _ => ?_)
  refine lv_iload hx hb dL_law_515 (lv_at hl 2 rfl) ?_
  refine lv_iload hx hb dL_law_517 (lv_at hl 7 rfl) ?_
  refine lv_iconst (v := nI 1) hx hb dL_law_519 (by decide) ?_
  refine lv_iadd hx hb dL_law_520 ?_
  refine lv_eqi (y := nI (P 0 3 + 1)) (nI_add _ _) ?_
  refine lv_iload hx hb dL_law_521 (lv_at hl 11 rfl) ?_
  refine lv_bipush (v := nI 16) hx hb dL_law_523 (by decide) ?_
  refine lv_idiv hx hb dL_law_525 (by decide) ?_
  refine lv_eqi (y := nI (Y / 16)) (pk_div (by omega) (by decide) (by decide)) ?_
  refine lv_iconst (v := nI 5) hx hb dL_law_526 (by decide) ?_
  refine lv_irem hx hb dL_law_527 (by decide) ?_
  refine lv_eqi (y := nI ((Y / 16) % 5)) (pk_rem (by omega) (by decide) (by decide)) ?_
  refine lv_iadd hx hb dL_law_528 ?_
  refine lv_eqi (y := nI (P 0 3 + (1 + Y / 16 % 5))) (by rw [nI_add, Nat.add_assoc]) ?_
  refine lv_icmp_ne (tgt := 546) hx hb dL_law_529 (by decide) (fun z => absurd (rfl) z) (fun _ => ?_)
  refine lv_aload_n hx hb dL_law_532 rfl (lv_at hl 13 rfl) ?_
  refine lv_iconst (v := nI 2) hx hb dL_law_533 (by decide) ?_
  refine n_count C gL_law_L_count w (k := 2) (by decide) (f := (nI (P 0 3 + (1 + Y / 16 % 5)))) (by show nI (P2 0 3) = _; rw [h3]) hl.1 (Nat.le_of_ble_eq_true rfl) dL_law_534 hc (fun H locs w => ?_)
  refine lv_iload hx hb dL_law_537 (lv_at hl 2 rfl) ?_
  refine lv_icmp_ne (tgt := 546) hx hb dL_law_539 (by decide) (fun z => absurd (rfl) z) (fun _ => ?_)
  refine lv_iconst (v := nI 1) hx hb dL_law_542 (by decide) ?_
  refine lv_goto (tgt := 547) hx hb dL_law_543 (by decide) ?_
  refine lv_istore_n (lv' := [(2, .int (nI 1)), (18, .int (nI 1)), (17, .int (nI (P 0 3 + (1 + Y / 16 % 5)))), (16, .int tr), (15, .int du), (14, .int (nI (gpN P Y))), (12, .long dq), (11, .int (nI (P 0 3))), (10, .int (nI (pop (thM P)))), (9, .int (nI (P 0 9))), (8, .int (nI S)), (7, .int (nI Y)), (6, .int (nI i)), (1, .ref D.1), (0, .ref b)]) hx hb dL_law_547 rfl hl (by decide) rfl (fun ls hl => ?_)
  refine lv_goto (tgt := 611) hx hb dL_law_548 (by decide) ?_
  exact go H locs ls w (lv_sub hl [12, 0, 13, 14] rfl)
set_option maxHeartbeats 4000000 in
set_option maxRecDepth 100000 in
theorem l_oth (hfl : l.stackTraces = false) (C : CX p room_1 s m args c A Γ cL_law 19 wsL_law) (hc : cells ≤ 600130 ∧ slots ≤ 7301080) {P2 : Nat → Nat → Nat} {Y i b : Nat} {dq : Int64} {du tr r : Int32} (hY : Y < 2 ^ 31) (h12 : Y % 16 < 12) (hd : (Y % 16 = 1 ∨ Y % 16 = 2) → pop (thM P2) ≤ pop (thM P) ∧ Y / 16 % 9 < P2 0 0 ∧ owK P2 (Y / 16 % 9) = 0) (go : ∀ (H : Heap) (locs : List Loc) (ls : Array Slot), WD Γ D A s P2 (svS S) H locs → lv_has ls 19 [(6, .int (nI i)), (2, .int (nI 1)), (1, .ref D.1), (0, .ref b)] → W p l e room_1 s m args below meth c H locs cells slots Q (F0 m 611 ls [])) (w : WD Γ D A s P2 (svS S) H locs) (hl : lv_has ls 19 [(2, .int (nI 1)), (18, .int (nI 1)), (17, .int r), (16, .int tr), (15, .int du), (14, .int (nI (gpN P Y))), (12, .long dq), (11, .int (nI (P 0 3))), (10, .int (nI (pop (thM P)))), (9, .int (nI (P 0 9))), (8, .int (nI S)), (7, .int (nI Y)), (6, .int (nI i)), (1, .ref D.1), (0, .ref b)]) : W p l e room_1 s m args below meth c H locs cells slots Q (F0 m 408 ls []) := by
  obtain ⟨hx, hb, hml, hown, hts, hK, hAm, hA, hR1, hR2⟩ := id C
  refine lv_iload_n hx hb dL_law_408 rfl (lv_at hl 0 rfl) ?_
  refine lv_if_eq (tgt := 496) hx hb dL_law_409 (by decide) (fun z => absurd z (by decide)) (fun _ => ?_)
  refine lv_iload hx hb dL_law_412 (lv_at hl 11 rfl) ?_
  refine lv_bipush (v := nI 16) hx hb dL_law_414 (by decide) ?_
  refine lv_irem hx hb dL_law_416 (by decide) ?_
  refine lv_eqi (y := nI (Y % 16)) (pk_rem (by omega) (by decide) (by decide)) ?_
  refine lv_bipush (v := nI 12) hx hb dL_law_417 (by decide) ?_
  refine lv_icmp_le (tgt := 496) hx hb dL_law_419 (by decide) (fun _ => ?_) (fun z => absurd (nr2 (by omega) (by omega) (by omega)) z)
  refine lv_iload_n hx hb dL_law_496 rfl (lv_at hl 0 rfl) ?_
  refine lv_if_eq (tgt := 551) hx hb dL_law_497 (by decide) (fun z => absurd z (by decide)) (fun _ => ?_)
  refine lv_iload hx hb dL_law_500 (lv_at hl 1 rfl) ?_
  refine lv_if_eq (tgt := 551) hx hb dL_law_502 (by decide) (fun z => absurd z (by decide)) (fun _ => ?_)
  refine lv_iload hx hb dL_law_505 (lv_at hl 11 rfl) ?_
  refine lv_bipush (v := nI 16) hx hb dL_law_507 (by decide) ?_
  refine lv_irem hx hb dL_law_509 (by decide) ?_
  refine lv_eqi (y := nI (Y % 16)) (pk_rem (by omega) (by decide) (by decide)) ?_
  refine lv_bipush (v := nI 12) hx hb dL_law_510 (by decide) ?_
  refine lv_icmp_ne (tgt := 551) hx hb dL_law_512 (by decide) (fun _ => ?_) (fun z => absurd z (ne5 (by omega) (by decide) (by omega)))
  refine lv_iload_n hx hb dL_law_551 rfl (lv_at hl 0 rfl) ?_
  refine lv_if_eq (tgt := 611) hx hb dL_law_552 (by decide) (fun z => absurd z (by decide)) (fun _ => ?_)
  refine lv_iload hx hb dL_law_555 (lv_at hl 1 rfl) ?_
  refine lv_if_eq (tgt := 611) hx hb dL_law_557 (by decide) (fun z => absurd z (by decide)) (fun _ => ?_)
  refine lv_iload hx hb dL_law_560 (lv_at hl 11 rfl) ?_
  refine lv_bipush (v := nI 16) hx hb dL_law_562 (by decide) ?_
  refine lv_irem hx hb dL_law_564 (by decide) ?_
  refine lv_eqi (y := nI (Y % 16)) (pk_rem (by omega) (by decide) (by decide)) ?_
  refine lv_iconst (v := nI 1) hx hb dL_law_565 (by decide) ?_
  have h578 : (Y % 16 = 1 ∨ Y % 16 = 2) → W p l e room_1 s m args below meth c H locs cells slots Q (F0 m 578 ls []) := by
    intro hk
    obtain ⟨d1, d2, d3⟩ := hd hk
    have hpt := pop_le (thM P)
    have hpt2 := pop_le (thM P2)
    refine lv_aload_n hx hb dL_law_578 rfl (lv_at hl 13 rfl) ?_
    refine lv_bipush (v := nI 6) hx hb dL_law_579 (by decide) ?_
    refine n_count C gL_law_L_count w (k := 6) (by decide) (f := (nI (pop (thM P2)))) (rfl) hl.1 (Nat.le_of_ble_eq_true rfl) dL_law_581 hc (fun H locs w => ?_)
    refine lv_iload hx hb dL_law_584 (lv_at hl 8 rfl) ?_
    refine lv_icmp_gt (tgt := 609) hx hb dL_law_586 (by decide) (fun z => absurd z (nr (by omega) (by omega) d1)) (fun _ => ?_)
    refine lv_aload_n hx hb dL_law_589 rfl (lv_at hl 13 rfl) ?_
    refine lv_iload hx hb dL_law_590 (lv_at hl 11 rfl) ?_
    refine lv_bipush (v := nI 16) hx hb dL_law_592 (by decide) ?_
    refine lv_idiv hx hb dL_law_594 (by decide) ?_
    refine lv_eqi (y := nI (Y / 16)) (pk_div (by omega) (by decide) (by decide)) ?_
    refine lv_bipush (v := nI 9) hx hb dL_law_595 (by decide) ?_
    refine lv_irem hx hb dL_law_597 (by decide) ?_
    refine lv_eqi (y := nI ((Y / 16) % 9)) (pk_rem (by omega) (by decide) (by decide)) ?_
    refine lv_iconst (v := nI 2) hx hb dL_law_598 (by decide) ?_
    refine n_keeperOf C gL_law_L_keeperOf w (k := Y / 16 % 9) (i := 2) d2 (by decide) (f := (nI 0)) (by show nI (owK P2 (Y / 16 % 9)) = _; rw [d3]) hl.1 (Nat.le_of_ble_eq_true rfl) dL_law_599 hc (fun H locs w => ?_)
    refine lv_if_ne (tgt := 609) hx hb dL_law_602 (by decide) (fun z => absurd (by decide) z) (fun _ => ?_)
    refine lv_iconst (v := nI 1) hx hb dL_law_605 (by decide) ?_
    refine lv_goto (tgt := 610) hx hb dL_law_606 (by decide) ?_
    refine lv_istore_n (lv' := [(2, .int (nI 1)), (18, .int (nI 1)), (17, .int r), (16, .int tr), (15, .int du), (14, .int (nI (gpN P Y))), (12, .long dq), (11, .int (nI (P 0 3))), (10, .int (nI (pop (thM P)))), (9, .int (nI (P 0 9))), (8, .int (nI S)), (7, .int (nI Y)), (6, .int (nI i)), (1, .ref D.1), (0, .ref b)]) hx hb dL_law_610 rfl hl (by decide) rfl (fun ls hl => ?_)
    exact go H locs ls w (lv_sub hl [12, 0, 13, 14] rfl)
  by_cases k1 : Y % 16 = 1
  · refine lv_icmp_eq (tgt := 578) hx hb dL_law_566 (by decide) (fun _ => ?_) (fun z => absurd (by rw [k1]) z)
    exact h578 (Or.inl k1)
  · refine lv_icmp_eq (tgt := 578) hx hb dL_law_566 (by decide) (fun z => absurd z (ne5 (by omega) (by decide) k1)) (fun _ => ?_)
    refine lv_iload hx hb dL_law_569 (lv_at hl 11 rfl) ?_
    refine lv_bipush (v := nI 16) hx hb dL_law_571 (by decide) ?_
    refine lv_irem hx hb dL_law_573 (by decide) ?_
    refine lv_eqi (y := nI (Y % 16)) (pk_rem (by omega) (by decide) (by decide)) ?_
    refine lv_iconst (v := nI 2) hx hb dL_law_574 (by decide) ?_
    by_cases k2 : Y % 16 = 2
    · refine lv_icmp_ne (tgt := 611) hx hb dL_law_575 (by decide) (fun z => absurd (by rw [k2]) z) (fun _ => ?_)
      exact h578 (Or.inr k2)
    · refine lv_icmp_ne (tgt := 611) hx hb dL_law_575 (by decide) (fun _ => ?_) (fun z => absurd z (ne5 (by omega) (by decide) k2))
      exact go H locs ls w (lv_sub hl [12, 0, 13, 14] rfl)
set_option maxHeartbeats 4000000 in
set_option maxRecDepth 100000 in
theorem l_b (hfl : l.stackTraces = false) (C : CX p room_1 s m args c A Γ cL_law 19 wsL_law) (hc1 : cells + 1 ≤ 600130 ∧ slots + 6 ≤ 7301080) (hI : IV P) {Y i b : Nat} {dq : Int64} {du tr : Int32} (hY : Y < 2 ^ 31) (f1 : Y % 4 = 0 → dq = dgV P S) (f2 : 12 < Y % 16 → du = nI (reaN P (gpN P Y) false)) (f3 : gpN P Y ≠ 0 → tr = nI (P 3 (lwN (gpN P Y)))) (go : ∀ (H : Heap) (locs : List Loc) (ls : Array Slot) (P2 : Nat → Nat → Nat) (S2 : Nat), IV P2 → P2 0 3 ≤ P 0 3 + 5 → P 0 0 ≤ P2 0 0 → WD Γ D A s P2 S2 H locs → lv_has ls 19 [(6, .int (nI i)), (2, .int (nI 1)), (1, .ref D.1), (0, .ref b)] → W p l e room_1 s m args below meth c H locs (cells + 1) (slots + 6) Q (F0 m 611 ls [])) (w : WD Γ D A s P S H locs) (hl : lv_has ls 19 [(16, .int tr), (15, .int du), (14, .int (nI (gpN P Y))), (12, .long dq), (11, .int (nI (P 0 3))), (10, .int (nI (pop (thM P)))), (9, .int (nI (P 0 9))), (8, .int (nI S)), (7, .int (nI Y)), (6, .int (nI i)), (2, .int (nI 1)), (1, .ref D.1), (0, .ref b)]) : W p l e room_1 s m args below meth c H locs cells slots Q (F0 m 314 ls []) := by
  obtain ⟨hx, hb, hml, hown, hts, hK, hAm, hA, hR1, hR2⟩ := id C
  obtain ⟨hW, hS6⟩ := w_WF w
  have hc : (cells + 1) ≤ 600130 ∧ (slots + 6) ≤ 7301080 := hc1
  refine lv_aload_n hx hb dL_law_314 rfl (lv_at hl 11 rfl) ?_
  refine lv_iload hx hb dL_law_315 (lv_at hl 8 rfl) ?_
  refine n_acts hfl C gL_law_L_acts w hY hl.1 (Nat.le_of_ble_eq_true rfl) dL_law_317 hc1 (fun r H locs w => ?_)
  refine lv_istore (lv' := [(17, .int r), (16, .int tr), (15, .int du), (14, .int (nI (gpN P Y))), (12, .long dq), (11, .int (nI (P 0 3))), (10, .int (nI (pop (thM P)))), (9, .int (nI (P 0 9))), (8, .int (nI S)), (7, .int (nI Y)), (6, .int (nI i)), (2, .int (nI 1)), (1, .ref D.1), (0, .ref b)]) hx hb dL_law_320 hl (by decide) rfl (fun ls hl => ?_)
  obtain ⟨u, hP, hD, hS, hact⟩ := w
  rcases hact with ⟨hn, hB, h12⟩ | ⟨hgt, P2, hB, hI2, ⟨h00, h03⟩, g1, g2, g3⟩
  · exact l_no hfl C hc hI hY f1 hn h12 go ⟨u, hP, hD, hS, hB⟩ (lv_sub hl [0, 1, 2, 3, 4, 5, 6, 7, 8, 9, 10, 11, 12, 13] rfl)
  · refine l_yes hfl C hc hS6 hgt (fun H locs ls w hl => ?_) ⟨u, hP, hD, hS, hB⟩ (lv_sub hl [0, 1, 2, 3, 4, 5, 6, 7, 8, 9, 10, 11, 12, 13] rfl)
    by_cases k12 : 12 < Y % 16
    · obtain ⟨e1, e2⟩ := g1 k12
      rw [f2 k12, e2] at hl
      exact l_open hfl C hc hY k12 e1 f3 (fun H locs ls w hl => go H locs ls P2 (svS S) (hI2 hI) h03 h00 w hl) w hl
    · by_cases k13 : Y % 16 = 12
      · obtain ⟨e1, e2⟩ := g2 k13
        rw [e1] at hl
        exact l_pass hfl C hc hY k13 e2 (fun H locs ls w hl => go H locs ls P2 (svS S) (hI2 hI) h03 h00 w hl) w hl
      · exact l_oth hfl C hc hY (by omega) g3 (fun H locs ls w hl => go H locs ls P2 (svS S) (hI2 hI) h03 h00 w hl) w hl
set_option maxHeartbeats 4000000 in
set_option maxRecDepth 100000 in
theorem l_main (hfl : l.stackTraces = false) (C : CX p room_1 s m args c A Γ cL_law 19 wsL_law) {b N : Nat} {xs : Nat → Int32} (hX : va_X b N xs s s.heap) (hbl : b < s.heap.size) (hbA : ¬ A b) (hN : N < 2 ^ 31) (go : ∀ (H : Heap) (locs : List Loc) (ls : Array Slot) (P : Nat → Nat → Nat) (S : Nat), IV P → P 0 3 ≤ 110 → 1 ≤ P 0 0 → WD Γ D A s P S H locs → lv_has ls 19 [(2, .int (nI 1)), (1, .ref D.1), (0, .ref b)] → W p l e room_1 s m args below meth c H locs 420 6320 Q (F0 m 634 ls [])) : ∀ (d i : Nat), i + d = 22 → ∀ (P : Nat → Nat → Nat) (S : Nat), IV P → P 0 3 ≤ 5 * i → 1 ≤ P 0 0 → ∀ (H : Heap) (locs : List Loc) (ls : Array Slot), WD Γ D A s P S H locs → lv_has ls 19 [(6, .int (nI i)), (2, .int (nI 1)), (1, .ref D.1), (0, .ref b)] → W p l e room_1 s m args below meth c H locs (200 + 10 * i) (5000 + 60 * i) Q (F0 m 181 ls []) := by
  obtain ⟨hx, hb, hml, hown, hts, hK, hAm, hA, hR1, hR2⟩ := id C
  intro d
  induction d with
  | zero =>
    intro i hi P S hI h3 h0 H locs ls w hl
    have hi : i = 22 := by omega
    subst hi
    refine lv_iload hx hb dL_law_181 (lv_at hl 0 rfl) ?_
    refine lv_bipush (v := nI 22) hx hb dL_law_183 (by decide) ?_
    refine lv_icmp_ge (tgt := 634) hx hb dL_law_185 (by decide) (fun _ => ?_) (fun z => absurd (by decide) z)
    exact go H locs ls P S hI (by omega) h0 w (lv_sub hl [1, 2, 3] rfl)
  | succ d ih =>
    intro i hi P S hI h3 h0 H locs ls w hl
    refine lv_iload hx hb dL_law_181 (lv_at hl 0 rfl) ?_
    refine lv_bipush (v := nI 22) hx hb dL_law_183 (by decide) ?_
    refine lv_icmp_ge (tgt := 634) hx hb dL_law_185 (by decide) (fun z => absurd z (fun y => absurd ((nI_leI (by omega) (by omega)).mp y) (by omega))) (fun _ => ?_)
    refine lv_iload_n hx hb dL_law_188 rfl (lv_at hl 1 rfl) ?_
    refine lv_if_eq (tgt := 634) hx hb dL_law_189 (by decide) (fun z => absurd z (by decide)) (fun _ => ?_)
    refine l_a hfl C hX hbl hbA hN ⟨by omega, by omega⟩ (i := i) (by omega) (fun H locs ls Y dq du tr hY f1 f2 f3 w hl => ?_) w hl
    refine l_b hfl C ⟨by omega, by omega⟩ hI hY f1 f2 f3 (fun H locs ls P2 S2 hI2 h32 h02 w hl => ?_) w hl
    refine lv_iload_n hx hb dL_law_611 rfl (lv_at hl 1 rfl) ?_
    refine lv_if_eq (tgt := 626) hx hb dL_law_612 (by decide) (fun z => absurd z (by decide)) (fun _ => ?_)
    refine lv_aload_n hx hb dL_law_615 rfl (lv_at hl 2 rfl) ?_
    refine n_hangs hfl C gL_law_L_hangs w hI2 hl.1 (Nat.le_of_ble_eq_true rfl) dL_law_616 ⟨by show _ ≤ 600130; omega, by show _ ≤ 7301080; omega⟩ (fun H locs w => ?_)
    refine lv_if_eq (tgt := 626) hx hb dL_law_619 (by decide) (fun z => absurd z (by decide)) (fun _ => ?_)
    refine lv_iconst (v := nI 1) hx hb dL_law_622 (by decide) ?_
    refine lv_goto (tgt := 627) hx hb dL_law_623 (by decide) ?_
    refine lv_istore_n (lv' := [(2, .int (nI 1)), (6, .int (nI i)), (1, .ref D.1), (0, .ref b)]) hx hb dL_law_627 rfl hl (by decide) rfl (fun ls hl => ?_)
    refine lv_iinc (v := (nI (i + 1))) (lv' := [(6, .int ((nI (i + 1)))), (2, .int (nI 1)), (1, .ref D.1), (0, .ref b)]) hx hb dL_law_628 hl (k := 1) rfl (nI_1 _) (by decide) rfl (fun ls hl => ?_)
    refine lv_goto (tgt := 181) hx hb dL_law_631 (by decide) ?_
    refine W.widen (k := 200 + 10 * (i + 1)) (n := 5000 + 60 * (i + 1)) (by omega) (by omega) ?_
    exact ih (i + 1) (by omega) P2 S2 hI2 (by omega) (by omega) H locs ls w (lv_sub hl [0, 1, 2, 3] rfl)
set_option maxHeartbeats 4000000 in
set_option maxRecDepth 100000 in
theorem l_end (hfl : l.stackTraces = false) (C : CX p room_1 s m args c A Γ cL_law 19 wsL_law) {b : Nat} (hI : IV P) (h3 : P 0 3 ≤ 110) (h0 : 1 ≤ P 0 0) (ex : ∀ (H : Heap) (locs : List Loc) (ls : Array Slot), WD Γ D A s P (svS S - 1) H locs → W p l e room_1 s m args below meth c H locs 600130 7301080 Q (F0 m 878 ls [.int (nI 1)])) (w : WD Γ D A s P S H locs) (hl : lv_has ls 19 [(2, .int (nI 1)), (1, .ref D.1), (0, .ref b)]) : W p l e room_1 s m args below meth c H locs 420 6320 Q (F0 m 634 ls []) := by
  obtain ⟨hx, hb, hml, hown, hts, hK, hAm, hA, hR1, hR2⟩ := id C
  obtain ⟨hW, hS6⟩ := w_WF w
  have hS7 := svS_le hS6
  refine lv_iload_n hx hb dL_law_634 rfl (lv_at hl 0 rfl) ?_
  refine lv_if_eq (tgt := 645) hx hb dL_law_635 (by decide) (fun z => absurd z (by decide)) (fun _ => ?_)
  refine lv_aload_n hx hb dL_law_638 rfl (lv_at hl 1 rfl) ?_
  refine n_digest C gL_law_X4_digest w hl.1 (Nat.le_of_ble_eq_true rfl) dL_law_639 ⟨by show _ ≤ 600130; omega, by show _ ≤ 7301080; omega⟩ (fun H locs w => ?_)
  refine lv_goto (tgt := 646) hx hb dL_law_642 (by decide) ?_
  refine lv_lstore (lv' := [(6, .long (dgV P S)), (2, .int (nI 1)), (1, .ref D.1), (0, .ref b)]) hx hb dL_law_646 hl (by decide) rfl (fun ls hl => ?_)
  refine lv_iload_n hx hb dL_law_648 rfl (lv_at hl 1 rfl) ?_
  refine lv_if_eq (tgt := 691) hx hb dL_law_649 (by decide) (fun z => absurd z (by decide)) (fun _ => ?_)
  refine lv_aload_n hx hb dL_law_652 rfl (lv_at hl 2 rfl) ?_
  refine lv_iconst (v := nI 1) hx hb dL_law_653 (by decide) ?_
  refine n_pass C gL_law_L_pass w (k := 1) (by decide) (by decide) (by omega) hl.1 (Nat.le_of_ble_eq_true rfl) dL_law_654 ⟨by show _ ≤ 600130; omega, by show _ ≤ 7301080; omega⟩ (fun H locs w => ?_)
  refine lv_if_lt (tgt := 691) hx hb dL_law_657 (by decide) (fun z => absurd z (nI_pos (by omega))) (fun _ => ?_)
  refine lv_aload_n hx hb dL_law_660 rfl (lv_at hl 2 rfl) ?_
  refine n_undo C gL_law_L_undo w hl.1 (Nat.le_of_ble_eq_true rfl) dL_law_661 ⟨by show _ ≤ 600130; omega, by show _ ≤ 7301080; omega⟩ (fun H locs w => ?_)
  refine lv_if_lt (tgt := 691) hx hb dL_law_664 (by decide) (fun z => absurd z (nI_pos (by omega))) (fun _ => ?_)
  refine lv_aload_n hx hb dL_law_667 rfl (lv_at hl 2 rfl) ?_
  refine lv_bipush (v := nI 11) hx hb dL_law_668 (by decide) ?_
  refine n_count C gL_law_L_count w (k := 11) (by decide) (f := (nI (svS S - 1))) (rfl) hl.1 (Nat.le_of_ble_eq_true rfl) dL_law_670 ⟨by show _ ≤ 600130; omega, by show _ ≤ 7301080; omega⟩ (fun H locs w => ?_)
  refine lv_iconst (v := nI 5) hx hb dL_law_673 (by decide) ?_
  have hj : ∀ (H : Heap) (locs : List Loc), WD Γ D A s P (svS S - 1) H locs → W p l e room_1 s m args below meth c H locs 420 6320 Q (F0 m 687 ls []) := by
    intro H locs w
    refine lv_iconst (v := nI 1) hx hb dL_law_687 (by decide) ?_
    refine lv_goto (tgt := 692) hx hb dL_law_688 (by decide) ?_
    refine lv_istore_n (lv' := [(2, .int (nI 1)), (6, .long (dgV P S)), (1, .ref D.1), (0, .ref b)]) hx hb dL_law_692 rfl hl (by decide) rfl (fun ls hl => ?_)
    refine lv_iload_n hx hb dL_law_693 rfl (lv_at hl 0 rfl) ?_
    refine lv_if_eq (tgt := 877) hx hb dL_law_694 (by decide) (fun z => absurd z (by decide)) (fun _ => ?_)
    refine lv_aload_n hx hb dL_law_697 rfl (lv_at hl 2 rfl) ?_
    refine n_hangs hfl C gL_law_L_hangs w hI hl.1 (Nat.le_of_ble_eq_true rfl) dL_law_698 ⟨by show _ ≤ 600130; omega, by show _ ≤ 7301080; omega⟩ (fun H locs w => ?_)
    refine lv_if_eq (tgt := 877) hx hb dL_law_701 (by decide) (fun z => absurd z (by decide)) (fun _ => ?_)
    have h8 := hW.k8
    refine lv_aload_n hx hb dL_law_704 rfl (lv_at hl 2 rfl) ?_
    refine lv_bipush (v := nI 8) hx hb dL_law_705 (by decide) ?_
    refine n_die1 hfl C gL_law_L_die w (k := 8) (by omega) (by decide) hl.1 (Nat.le_of_ble_eq_true rfl) dL_law_707 ⟨by show _ ≤ 600130; omega, by show _ ≤ 7301080; omega⟩ (fun H locs w => ?_)
    refine lv_ldc hx hb hown (hts (.constant RL 17 (-2000001)) (by decide +kernel)) dL_law_710 ?_
    refine lv_icmp_ne (tgt := 877) hx hb dL_law_712 (by decide) (fun z => absurd (rfl) z) (fun _ => ?_)
    refine lv_aload_n hx hb dL_law_715 rfl (lv_at hl 2 rfl) ?_
    refine lv_iconst (v := nI 0) hx hb dL_law_716 (by decide) ?_
    refine lv_iconst (v := nI 0) hx hb dL_law_717 (by decide) ?_
    refine n_heir2 hfl C gL_law_L_heir w (k := 0) (i := 1) h0 h0 (Or.inr (Or.inl rfl)) hl.1 (Nat.le_of_ble_eq_true rfl) dL_law_718 ⟨by show _ ≤ 600130; omega, by show _ ≤ 7301080; omega⟩ (fun H locs w => ?_)
    refine lv_ldc hx hb hown (hts (.constant RL 24 (-2000002)) (by decide +kernel)) dL_law_721 ?_
    refine lv_icmp_ne (tgt := 877) hx hb dL_law_723 (by decide) (fun z => absurd (rfl) z) (fun _ => ?_)
    refine lv_aload_n hx hb dL_law_726 rfl (lv_at hl 2 rfl) ?_
    refine lv_iconst (v := nI 0) hx hb dL_law_727 (by decide) ?_
    refine lv_bipush (v := (-2)) hx hb dL_law_728 (by decide) ?_
    refine n_heir3 hfl C gL_law_L_heir w (k := 0) h0 (by decide) (fun v h => by unfold fX2_hasKeeper; rw [if_pos (by decide)]; decide) hl.1 (Nat.le_of_ble_eq_true rfl) dL_law_730 ⟨by show _ ≤ 600130; omega, by show _ ≤ 7301080; omega⟩ (fun H locs w => ?_)
    refine lv_ldc hx hb hown (hts (.constant RL 17 (-2000001)) (by decide +kernel)) dL_law_733 ?_
    refine lv_icmp_ne (tgt := 877) hx hb dL_law_735 (by decide) (fun z => absurd (rfl) z) (fun _ => ?_)
    refine lv_aload_n hx hb dL_law_738 rfl (lv_at hl 2 rfl) ?_
    refine lv_iconst (v := nI 0) hx hb dL_law_739 (by decide) ?_
    refine lv_iconst (v := nI 0) hx hb dL_law_740 (by decide) ?_
    refine n_quarrel2 hfl C gL_law_L_quarrel w (k := 0) h0 hl.1 (Nat.le_of_ble_eq_true rfl) dL_law_741 ⟨by show _ ≤ 600130; omega, by show _ ≤ 7301080; omega⟩ (fun H locs w => ?_)
    refine lv_ldc hx hb hown (hts (.constant RL 24 (-2000002)) (by decide +kernel)) dL_law_744 ?_
    refine lv_icmp_ne (tgt := 877) hx hb dL_law_746 (by decide) (fun z => absurd (rfl) z) (fun _ => ?_)
    refine lv_aload_n hx hb dL_law_749 rfl (lv_at hl 2 rfl) ?_
    refine lv_sipush (v := nI 251) hx hb dL_law_750 (by decide) ?_
    refine lv_iconst (v := nI 1) hx hb dL_law_753 (by decide) ?_
    refine lv_iconst (v := nI 0) hx hb dL_law_754 (by decide) ?_
    refine n_seal1 hfl C gL_law_L_seal w hl.1 (Nat.le_of_ble_eq_true rfl) dL_law_755 ⟨by show _ ≤ 600130; omega, by show _ ≤ 7301080; omega⟩ (fun H locs w => ?_)
    refine lv_ldc hx hb hown (hts (.constant RL 17 (-2000001)) (by decide +kernel)) dL_law_758 ?_
    refine lv_icmp_ne (tgt := 877) hx hb dL_law_760 (by decide) (fun z => absurd (rfl) z) (fun _ => ?_)
    refine lv_aload_n hx hb dL_law_763 rfl (lv_at hl 2 rfl) ?_
    refine lv_bipush (v := nI 8) hx hb dL_law_764 (by decide) ?_
    refine lv_iconst (v := nI 0) hx hb dL_law_766 (by decide) ?_
    refine n_forge1 hfl C gL_law_L_forge w hl.1 (Nat.le_of_ble_eq_true rfl) dL_law_767 ⟨by show _ ≤ 600130; omega, by show _ ≤ 7301080; omega⟩ (fun H locs w => ?_)
    refine lv_ldc hx hb hown (hts (.constant RL 17 (-2000001)) (by decide +kernel)) dL_law_770 ?_
    refine lv_icmp_ne (tgt := 877) hx hb dL_law_772 (by decide) (fun z => absurd (rfl) z) (fun _ => ?_)
    refine lv_aload_n hx hb dL_law_775 rfl (lv_at hl 2 rfl) ?_
    refine lv_iconst (v := nI 0) hx hb dL_law_776 (by decide) ?_
    refine n_pass1 hfl C gL_law_L_pass w hl.1 (Nat.le_of_ble_eq_true rfl) dL_law_777 ⟨by show _ ≤ 600130; omega, by show _ ≤ 7301080; omega⟩ (fun H locs w => ?_)
    refine lv_ldc hx hb hown (hts (.constant RL 17 (-2000001)) (by decide +kernel)) dL_law_780 ?_
    refine lv_icmp_ne (tgt := 877) hx hb dL_law_782 (by decide) (fun z => absurd (rfl) z) (fun _ => ?_)
    refine lv_aload_n hx hb dL_law_785 rfl (lv_at hl 2 rfl) ?_
    refine lv_sipush (v := nI 256) hx hb dL_law_786 (by decide) ?_
    refine n_open1 hfl C gL_law_L_open w hl.1 (Nat.le_of_ble_eq_true rfl) dL_law_789 ⟨by show _ ≤ 600130; omega, by show _ ≤ 7301080; omega⟩ (fun H locs w => ?_)
    refine lv_ldc hx hb hown (hts (.constant RL 17 (-2000001)) (by decide +kernel)) dL_law_792 ?_
    refine lv_icmp_ne (tgt := 877) hx hb dL_law_794 (by decide) (fun z => absurd (rfl) z) (fun _ => ?_)
    refine lv_aload_n hx hb dL_law_797 rfl (lv_at hl 2 rfl) ?_
    refine lv_bipush (v := nI 32) hx hb dL_law_798 (by decide) ?_
    refine n_append1 hfl C gL_law_L_append w hl.1 (Nat.le_of_ble_eq_true rfl) dL_law_800 ⟨by show _ ≤ 600130; omega, by show _ ≤ 7301080; omega⟩ (fun H locs w => ?_)
    refine lv_ldc hx hb hown (hts (.constant RL 17 (-2000001)) (by decide +kernel)) dL_law_803 ?_
    refine lv_icmp_ne (tgt := 877) hx hb dL_law_805 (by decide) (fun z => absurd (rfl) z) (fun _ => ?_)
    refine lv_aload_n hx hb dL_law_808 rfl (lv_at hl 2 rfl) ?_
    refine lv_iconst (v := nI 0) hx hb dL_law_809 (by decide) ?_
    refine lv_iconst (v := nI 5) hx hb dL_law_810 (by decide) ?_
    refine n_keeperOf2 hfl C gL_law_L_keeperOf w (k := 0) h0 hl.1 (Nat.le_of_ble_eq_true rfl) dL_law_811 ⟨by show _ ≤ 600130; omega, by show _ ≤ 7301080; omega⟩ (fun H locs w => ?_)
    refine lv_ldc hx hb hown (hts (.constant RL 24 (-2000002)) (by decide +kernel)) dL_law_814 ?_
    refine lv_icmp_ne (tgt := 877) hx hb dL_law_816 (by decide) (fun z => absurd (rfl) z) (fun _ => ?_)
    refine lv_aload_n hx hb dL_law_819 rfl (lv_at hl 2 rfl) ?_
    refine lv_iconst (v := nI 0) hx hb dL_law_820 (by decide) ?_
    refine lv_iconst (v := nI 3) hx hb dL_law_821 (by decide) ?_
    refine n_share1 hfl C gL_law_L_share w hl.1 (Nat.le_of_ble_eq_true rfl) dL_law_822 ⟨by show _ ≤ 600130; omega, by show _ ≤ 7301080; omega⟩ (fun H locs w => ?_)
    refine lv_ldc hx hb hown (hts (.constant RL 17 (-2000001)) (by decide +kernel)) dL_law_825 ?_
    refine lv_icmp_ne (tgt := 877) hx hb dL_law_827 (by decide) (fun z => absurd (rfl) z) (fun _ => ?_)
    refine lv_aload_n hx hb dL_law_830 rfl (lv_at hl 2 rfl) ?_
    refine lv_bipush (v := nI 12) hx hb dL_law_831 (by decide) ?_
    refine n_count1 hfl C gL_law_L_count w hl.1 (Nat.le_of_ble_eq_true rfl) dL_law_833 ⟨by show _ ≤ 600130; omega, by show _ ≤ 7301080; omega⟩ (fun H locs w => ?_)
    refine lv_ldc hx hb hown (hts (.constant RL 17 (-2000001)) (by decide +kernel)) dL_law_836 ?_
    refine lv_icmp_ne (tgt := 877) hx hb dL_law_838 (by decide) (fun z => absurd (rfl) z) (fun _ => ?_)
    refine lv_aload_n hx hb dL_law_841 rfl (lv_at hl 2 rfl) ?_
    refine lv_sipush (v := nI 256) hx hb dL_law_842 (by decide) ?_
    refine n_told1 hfl C gL_law_L_told w hl.1 (Nat.le_of_ble_eq_true rfl) dL_law_845 ⟨by show _ ≤ 600130; omega, by show _ ≤ 7301080; omega⟩ (fun H locs w => ?_)
    refine lv_ldc hx hb hown (hts (.constant RL 17 (-2000001)) (by decide +kernel)) dL_law_848 ?_
    refine lv_icmp_ne (tgt := 877) hx hb dL_law_850 (by decide) (fun z => absurd (rfl) z) (fun _ => ?_)
    refine lv_aload_n hx hb dL_law_853 rfl (lv_at hl 2 rfl) ?_
    refine lv_iconst (v := (-1)) hx hb dL_law_854 (by decide) ?_
    refine n_possible1 hfl C gL_law_L_possible w hl.1 (Nat.le_of_ble_eq_true rfl) dL_law_855 ⟨by show _ ≤ 600130; omega, by show _ ≤ 7301080; omega⟩ (fun H locs w => ?_)
    refine lv_ldc hx hb hown (hts (.constant RL 17 (-2000001)) (by decide +kernel)) dL_law_858 ?_
    refine lv_icmp_ne (tgt := 877) hx hb dL_law_860 (by decide) (fun z => absurd (rfl) z) (fun _ => ?_)
    refine lv_aload_n hx hb dL_law_863 rfl (lv_at hl 2 rfl) ?_
    refine lv_iconst (v := nI 2) hx hb dL_law_864 (by decide) ?_
    refine n_smallest1 hfl C gL_law_L_smallest w hl.1 (Nat.le_of_ble_eq_true rfl) dL_law_865 ⟨by show _ ≤ 600130; omega, by show _ ≤ 7301080; omega⟩ (fun H locs w => ?_)
    refine lv_ldc hx hb hown (hts (.constant RL 17 (-2000001)) (by decide +kernel)) dL_law_868 ?_
    refine lv_icmp_ne (tgt := 877) hx hb dL_law_870 (by decide) (fun z => absurd (rfl) z) (fun _ => ?_)
    refine lv_iconst (v := nI 1) hx hb dL_law_873 (by decide) ?_
    refine lv_goto (tgt := 878) hx hb dL_law_874 (by decide) ?_
    refine W.widen (k := 600130) (n := 7301080) (by omega) (by omega) ?_
    exact ex H locs ls w
  by_cases h5 : svS S - 1 = 5
  · refine lv_icmp_eq (tgt := 687) hx hb dL_law_674 (by decide) (fun _ => ?_) (fun z => absurd (by rw [h5]) z)
    exact hj H locs w
  · have hs : svS S - 1 = S := by
      unfold svS at h5 ⊢
      by_cases z : S = 6
      · rw [if_pos z] at h5; omega
      · rw [if_neg z]; omega
    refine lv_icmp_eq (tgt := 687) hx hb dL_law_674 (by decide) (fun z => absurd z (ne5 (by omega) (by decide) h5)) (fun _ => ?_)
    refine lv_aload_n hx hb dL_law_677 rfl (lv_at hl 2 rfl) ?_
    refine n_digest C gL_law_X4_digest w hl.1 (Nat.le_of_ble_eq_true rfl) dL_law_678 ⟨by show _ ≤ 600130; omega, by show _ ≤ 7301080; omega⟩ (fun H locs w => ?_)
    refine lv_lload hx hb dL_law_681 (lv_at hl 0 rfl) ?_
    rw [hs]
    refine lv_lcmp0 hx hb dL_law_683 ?_
    refine lv_if_ne (tgt := 691) hx hb dL_law_684 (by decide) (fun z => absurd (rfl) z) (fun _ => ?_)
    exact hj H locs w
set_option maxHeartbeats 4000000 in
set_option maxRecDepth 100000 in
theorem l_start (hfl : l.stackTraces = false) (C : CX p room_1 s m args c A Γ cL_law 19 wsL_law) {b N : Nat} {xs : Nat → Int32} (hX : va_X b N xs s s.heap) (hbl : b < s.heap.size) (hbA : ¬ A b) (hN : N < 2 ^ 31) (ex : ∀ (H : Heap) (locs : List Loc) (ls : Array Slot) (P : Nat → Nat → Nat) (S : Nat), WD Γ D A s P S H locs → W p l e room_1 s m args below meth c H locs 600130 7301080 Q (F0 m 878 ls [.int (nI 1)])) (hcs : cells ≤ 100 ∧ slots ≤ 2000) (w : WD Γ D A s P0 0 H locs) (hl : lv_has ls 19 [(1, .ref D.1), (0, .ref b)]) : W p l e room_1 s m args below meth c H locs cells slots Q (F0 m 8 ls []) := by
  obtain ⟨hx, hb, hml, hown, hts, hK, hAm, hA, hR1, hR2⟩ := id C
  have e1 : reaN P0 0 false = 1 := by unfold reaN; rw [if_neg (by decide)]
  have e2 : (piF (gaN P0) (nI 0) 8 0 (-1, 0)).1 = -1 := by
    have : gaN P0 = fun _ _ => 0 := by
      funext i j
      unfold gaN
      have e : P0 2 i = 0 := by unfold P0; rw [if_neg (by simp)]
      rw [e, Nat.zero_testBit, if_neg (by decide)]
    rw [this]
    decide
  refine lv_aload_n hx hb dL_law_8 rfl (lv_at hl 0 rfl) ?_
  refine n_undo1 hfl C gL_law_L_undo w hl.1 (Nat.le_of_ble_eq_true rfl) dL_law_9 ⟨by show _ ≤ 600130; omega, by show _ ≤ 7301080; omega⟩ (fun H locs w => ?_)
  refine lv_ldc hx hb hown (hts (.constant RL 17 (-2000001)) (by decide +kernel)) dL_law_12 ?_
  refine lv_icmp_ne (tgt := 64) hx hb dL_law_14 (by decide) (fun z => absurd (rfl) z) (fun _ => ?_)
  refine lv_aload_n hx hb dL_law_17 rfl (lv_at hl 0 rfl) ?_
  refine lv_iconst (v := nI 0) hx hb dL_law_18 (by decide) ?_
  refine n_why C gL_law_L_why w (k := 0) (by decide) (f := (nI 1)) (by rw [e1]) hl.1 (Nat.le_of_ble_eq_true rfl) dL_law_19 ⟨by show _ ≤ 600130; omega, by show _ ≤ 7301080; omega⟩ (fun H locs w => ?_)
  refine lv_iconst (v := nI 1) hx hb dL_law_22 (by decide) ?_
  refine lv_icmp_ne (tgt := 64) hx hb dL_law_23 (by decide) (fun z => absurd (rfl) z) (fun _ => ?_)
  refine lv_aload_n hx hb dL_law_26 rfl (lv_at hl 0 rfl) ?_
  refine lv_iconst (v := nI 0) hx hb dL_law_27 (by decide) ?_
  refine n_peace C gL_law_X4_peace w (la := nI 0) (f := (-1)) (e2) hl.1 (Nat.le_of_ble_eq_true rfl) dL_law_28 ⟨by show _ ≤ 600130; omega, by show _ ≤ 7301080; omega⟩ (fun H locs w => ?_)
  refine lv_iconst (v := (-1)) hx hb dL_law_31 (by decide) ?_
  refine lv_icmp_ne (tgt := 64) hx hb dL_law_32 (by decide) (fun z => absurd (rfl) z) (fun _ => ?_)
  refine lv_aload_n hx hb dL_law_35 rfl (lv_at hl 0 rfl) ?_
  refine n_renew1 hfl C gL_law_L_renew w (by intro z; exact absurd z.1 (by decide)) hl.1 (Nat.le_of_ble_eq_true rfl) dL_law_36 ⟨by show _ ≤ 600130; omega, by show _ ≤ 7301080; omega⟩ (fun H locs w => ?_)
  refine lv_ldc hx hb hown (hts (.constant RL 17 (-2000001)) (by decide +kernel)) dL_law_39 ?_
  refine lv_icmp_ne (tgt := 64) hx hb dL_law_41 (by decide) (fun z => absurd (rfl) z) (fun _ => ?_)
  refine lv_aload_n hx hb dL_law_44 rfl (lv_at hl 0 rfl) ?_
  refine n_live1 hfl C gL_law_L_live w hl.1 (Nat.le_of_ble_eq_true rfl) dL_law_45 ⟨by show _ ≤ 600130; omega, by show _ ≤ 7301080; omega⟩ (fun H locs w => ?_)
  refine lv_ldc hx hb hown (hts (.constant RL 17 (-2000001)) (by decide +kernel)) dL_law_48 ?_
  refine lv_icmp_ne (tgt := 64) hx hb dL_law_50 (by decide) (fun z => absurd (rfl) z) (fun _ => ?_)
  refine lv_aload_n hx hb dL_law_53 rfl (lv_at hl 0 rfl) ?_
  refine n_firstError C gL_law_X4_firstError w hl.1 (Nat.le_of_ble_eq_true rfl) dL_law_54 ⟨by show _ ≤ 600130; omega, by show _ ≤ 7301080; omega⟩ (fun H locs w => ?_)
  refine lv_if_ne (tgt := 64) hx hb dL_law_57 (by decide) (fun z => absurd (by decide) z) (fun _ => ?_)
  refine lv_iconst (v := nI 1) hx hb dL_law_60 (by decide) ?_
  refine lv_goto (tgt := 65) hx hb dL_law_61 (by decide) ?_
  refine lv_istore_n (lv' := [(2, .int (nI 1)), (1, .ref D.1), (0, .ref b)]) hx hb dL_law_65 rfl hl (by decide) rfl (fun ls hl => ?_)
  refine lv_iconst (v := nI 3) hx hb dL_law_66 (by decide) ?_
  refine lv_aload_n hx hb dL_law_67 rfl (lv_at hl 2 rfl) ?_
  refine lv_iconst (v := nI 0) hx hb dL_law_68 (by decide) ?_
  refine n_cell C gL_law_L_cell hX hbl hbA hN w (k := 0) (by decide) hl.1 (Nat.le_of_ble_eq_true rfl) dL_law_69 ⟨by show _ ≤ 600130; omega, by show _ ≤ 7301080; omega⟩ (fun Y0 H locs hY0 w => ?_)
  refine lv_iconst (v := nI 4) hx hb dL_law_72 (by decide) ?_
  refine lv_irem hx hb dL_law_73 (by decide) ?_
  refine lv_eqi (y := nI (Y0 % 4)) (pk_rem (by omega) (by decide) (by decide)) ?_
  refine lv_iadd hx hb dL_law_74 ?_
  refine lv_eqi (y := nI (3 + Y0 % 4)) (nI_add _ _) ?_
  refine lv_istore_n (lv' := [(3, .int (nI (3 + Y0 % 4))), (2, .int (nI 1)), (1, .ref D.1), (0, .ref b)]) hx hb dL_law_75 rfl hl (by decide) rfl (fun ls hl => ?_)
  refine lv_iconst (v := nI 0) hx hb dL_law_76 (by decide) ?_
  refine lv_istore (lv' := [(4, .int (nI 0)), (3, .int (nI (3 + Y0 % 4))), (2, .int (nI 1)), (1, .ref D.1), (0, .ref b)]) hx hb dL_law_77 hl (by decide) rfl (fun ls hl => ?_)
  refine W.widen (k := 200) (n := 5000) (by omega) (by omega) ?_
  refine l_k hfl C ⟨by decide, by decide⟩ (n := 3 + Y0 % 4) (by omega) (fun H locs ls w hl => ?_) (3 + Y0 % 4) 0 (Nat.zero_add _) H locs ls w (lv_sub hl [0, 1, 2, 3, 4] rfl)
  refine l_seal hfl C hX hbl hbA hN ⟨by decide, by decide⟩ (n := 3 + Y0 % 4) (by omega) (by omega) (fun H locs ls P S hI h3 h0 w hl => ?_) w hl
  refine l_main hfl C hX hbl hbA hN (fun H locs ls P S hI h3 h0 w hl => ?_) 22 0 rfl P S hI (by omega) h0 H locs ls w hl
  exact l_end hfl C hI h3 h0 (fun H locs ls w => ex H locs ls P _ w) w hl
end LA
