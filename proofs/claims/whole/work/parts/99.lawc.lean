/-! ===== the law's loop ===== -/
theorem and31 (x : Int32) : ∃ k : Nat, k < 32 ∧ x &&& 31 = nI k := by
  refine ⟨(x &&& 31).toBitVec.toNat, ?_, ?_⟩
  · rw [Int32.toBitVec_and, BitVec.toNat_and]
    exact Nat.lt_of_le_of_lt Nat.and_le_right (by decide)
  · apply Int32.toBitVec_inj.mp
    show (x &&& 31).toBitVec = BitVec.ofNat 32 (x &&& 31).toBitVec.toNat
    rw [BitVec.ofNat_toNat, BitVec.setWidth_eq]
section LWD
variable {p : Program} {l : Launch} {e : Env} {s : State} {m : MethodId} {args : Array Value} {below : List Frame} {meth : Method} {c : Code} {H : Heap} {locs : List Loc} {cells slots : Nat} {Q : State → Prop} {ls : Array Slot} {A : Nat → Prop} {Γ : wG}
variable {q : Nat} {an ap : Nat → Nat} {qs : Nat} {ac au ax : Nat → Nat} {sa : Nat → Nat → Nat} {oa : Nat} {mo : Nat → Nat} {b N : Nat} {xs : Nat → Int32} {i : Nat}
set_option maxHeartbeats 4000000 in
set_option maxRecDepth 100000 in
theorem lc_all (hfl : l.stackTraces = false) (hx : p.tables.exec = Jvm.exec) (hb : c.code = cL_law) (hml : c.maxLocals = 9) (hown : s.vm.findClass RL = some m.cls) (hts : ∀ w ∈ wsL_law, w.before args s = true) (hK : va_K Γ.1 vwCl (wtys Γ) s) (hA : ∀ q, s.heap.size ≤ q → A q) (hAm : Amb A s) (hX : va_X b N xs s s.heap) (hbl : b < s.heap.size) (hbA : ¬ A b) (hi : i + 4 ≤ N) (hN : N ≤ 2048) (hc : cells + 1 ≤ 601024) (hs : slots + 6 ≤ 7293034) (go : LGO p l e s m args below meth c A Γ q an ap qs ac au ax sa oa mo b i (cells + 1) (slots + 6) Q) {SL sr : Nat} {vs : Nat → Nat → Nat → Int32} {v vsp : Nat → Nat → Int32} {ck so sp : Nat → Int32} {L : Nat} {cs : Nat → Int32} {ol : Nat → Int64} {ms mt mc md : Nat → Int32} {n1 n3 n4 n5 : Int32} (hR : REL SL sr vs v ck so sp L cs ms mt) (hP : va_P Γ.1 vwCl (wcat [mnC q an ap qs ac au ax (nI SL), plB Γ an v, plB Γ ap vsp, saB Γ qs sa sr vs, cuB Γ ac ck, suB Γ au so sp, txB Γ ax cs (nI L), moB Γ mo ms mt mc md (nI SL) n1 (nI L) n3 n4 n5, ouB Γ oa ol]) H) (hD : va_D A (wcat [mnC q an ap qs ac au ax (nI SL), plB Γ an v, plB Γ ap vsp, saB Γ qs sa sr vs, cuB Γ ac ck, suB Γ au so sp, txB Γ ax cs (nI L), moB Γ mo ms mt mc md (nI SL) n1 (nI L) n3 n4 n5, ouB Γ oa ol])) (hS : va_S A s.heap H locs) (hl : lv_has ls 9 [(4, .int (nI i)), (3, .ref oa), (2, .ref (mo 0)), (1, .ref q), (0, .ref b)]) : W p l e room_1 s m args below meth c H locs cells slots Q (F0 m 32 ls []) := by
  refine lv_aload_n hx hb dL_law_32 rfl (lv_at hl 4 rfl) ?_
  refine lv_iload hx hb dL_law_33 (lv_at hl 0 rfl) ?_
  refine va_sld hx hb hX hbl hbA hS (vp_in_nI (by omega) (by omega)) dL_law_35 ?_
  refine lv_bipush (v := 31) hx hb dL_law_36 (by decide) ?_
  refine lv_iand hx hb dL_law_38 ?_
  obtain ⟨k, hk, ek⟩ := and31 (xs (nI i).toNatClampNeg)
  rw [ek]
  have hd : ∀ k, 26 ≤ k → k < 32 → 25 < (nI k).toInt := fun k h1 h2 => by rw [nI_toInt (by omega)]; omega
  rcases (show k = 0 ∨ k = 1 ∨ k = 2 ∨ k = 3 ∨ k = 4 ∨ k = 5 ∨ k = 6 ∨ k = 7 ∨ k = 8 ∨ k = 9 ∨ k = 10 ∨ k = 11 ∨ k = 12 ∨ k = 13 ∨ k = 14 ∨ k = 15 ∨ k = 16 ∨ k = 17 ∨ k = 18 ∨ k = 19 ∨ k = 20 ∨ k = 21 ∨ k = 22 ∨ k = 23 ∨ k = 24 ∨ k = 25 ∨ 26 ≤ k by omega) with rfl | rfl | rfl | rfl | rfl | rfl | rfl | rfl | rfl | rfl | rfl | rfl | rfl | rfl | rfl | rfl | rfl | rfl | rfl | rfl | rfl | rfl | rfl | rfl | rfl | rfl | h26
  · exact lv_tableIn (off := 117) (tgt := 156) hx hb dL_law_39 (by decide) (by decide) (by decide) (by decide) (lc_keeper hfl hx hb hml hown hts hK hA hAm hX hbl hbA hi hN hc hs go hR hP hD hS hl)
  · exact lv_tableIn (off := 161) (tgt := 200) hx hb dL_law_39 (by decide) (by decide) (by decide) (by decide) (lc_die hfl hx hb hml hown hts hK hA hAm hX hbl hbA hi hN hc hs go hR hP hD hS hl)
  · exact lv_tableIn (off := 217) (tgt := 256) hx hb dL_law_39 (by decide) (by decide) (by decide) (by decide) (lc_heir hfl hx hb hml hown hts hK hA hAm hX hbl hbA hi hN hc hs go hR hP hD hS hl)
  · exact lv_tableIn (off := 285) (tgt := 324) hx hb dL_law_39 (by decide) (by decide) (by decide) (by decide) (lc_quarrel hfl hx hb hml hown hts hK hA hAm hX hbl hbA hi hN hc hs go hR hP hD hS hl)
  · exact lv_tableIn (off := 353) (tgt := 392) hx hb dL_law_39 (by decide) (by decide) (by decide) (by decide) (lc_seal hfl hx hb hml hown hts hK hA hAm hX hbl hbA hi hN hc hs go hR hP hD hS hl)
  · exact lv_tableIn (off := 433) (tgt := 472) hx hb dL_law_39 (by decide) (by decide) (by decide) (by decide) (lc_renew hfl hx hb hml hown hts hK hA hAm hX hbl hbA hi hN hc hs go hR hP hD hS hl)
  · exact lv_tableIn (off := 477) (tgt := 516) hx hb dL_law_39 (by decide) (by decide) (by decide) (by decide) (lc_forge hfl hx hb hml hown hts hK hA hAm hX hbl hbA hi hN hc hs go hR hP hD hS hl)
  · exact lv_tableIn (off := 545) (tgt := 584) hx hb dL_law_39 (by decide) (by decide) (by decide) (by decide) (lc_pass hfl hx hb hml hown hts hK hA hAm hX hbl hbA hi hN hc hs go hR hP hD hS hl)
  · exact lv_tableIn (off := 601) (tgt := 640) hx hb dL_law_39 (by decide) (by decide) (by decide) (by decide) (lc_open hfl hx hb hml hown hts hK hA hAm hX hbl hbA hi hN hc hs go hR hP hD hS hl)
  · exact lv_tableIn (off := 657) (tgt := 696) hx hb dL_law_39 (by decide) (by decide) (by decide) (by decide) (lc_append hfl hx hb hml hown hts hK hA hAm hX hbl hbA hi hN hc hs go hR hP hD hS hl)
  · exact lv_tableIn (off := 713) (tgt := 752) hx hb dL_law_39 (by decide) (by decide) (by decide) (by decide) (lc_clearBuffer hfl hx hb hml hown hts hK hA hAm hX hbl hbA hi hN hc hs go hR hP hD hS hl)
  · exact lv_tableIn (off := 726) (tgt := 765) hx hb dL_law_39 (by decide) (by decide) (by decide) (by decide) (lc_firstError hfl hx hb hml hown hts hK hA hAm hX hbl hbA hi hN hc hs go hR hP hD hS hl)
  · exact lv_tableIn (off := 739) (tgt := 778) hx hb dL_law_39 (by decide) (by decide) (by decide) (by decide) (lc_live hfl hx hb hml hown hts hK hA hAm hX hbl hbA hi hN hc hs go hR hP hD hS hl)
  · exact lv_tableIn (off := 783) (tgt := 822) hx hb dL_law_39 (by decide) (by decide) (by decide) (by decide) (lc_undo hfl hx hb hml hown hts hK hA hAm hX hbl hbA hi hN hc hs go hR hP hD hS hl)
  · exact lv_tableIn (off := 827) (tgt := 866) hx hb dL_law_39 (by decide) (by decide) (by decide) (by decide) (lc_keeperOf hfl hx hb hml hown hts hK hA hAm hX hbl hbA hi hN hc hs go hR hP hD hS hl)
  · exact lv_tableIn (off := 895) (tgt := 934) hx hb dL_law_39 (by decide) (by decide) (by decide) (by decide) (lc_share hfl hx hb hml hown hts hK hA hAm hX hbl hbA hi hN hc hs go hR hP hD hS hl)
  · exact lv_tableIn (off := 963) (tgt := 1002) hx hb dL_law_39 (by decide) (by decide) (by decide) (by decide) (lc_count hfl hx hb hml hown hts hK hA hAm hX hbl hbA hi hN hc hs go hR hP hD hS hl)
  · exact lv_tableIn (off := 1019) (tgt := 1058) hx hb dL_law_39 (by decide) (by decide) (by decide) (by decide) (lc_why hfl hx hb hml hown hts hK hA hAm hX hbl hbA hi hN hc hs go hR hP hD hS hl)
  · exact lv_tableIn (off := 1075) (tgt := 1114) hx hb dL_law_39 (by decide) (by decide) (by decide) (by decide) (lc_told hfl hx hb hml hown hts hK hA hAm hX hbl hbA hi hN hc hs go hR hP hD hS hl)
  · exact lv_tableIn (off := 1131) (tgt := 1170) hx hb dL_law_39 (by decide) (by decide) (by decide) (by decide) (lc_possible hfl hx hb hml hown hts hK hA hAm hX hbl hbA hi hN hc hs go hR hP hD hS hl)
  · exact lv_tableIn (off := 1187) (tgt := 1226) hx hb dL_law_39 (by decide) (by decide) (by decide) (by decide) (lc_smallest hfl hx hb hml hown hts hK hA hAm hX hbl hbA hi hN hc hs go hR hP hD hS hl)
  · exact lv_tableIn (off := 1243) (tgt := 1282) hx hb dL_law_39 (by decide) (by decide) (by decide) (by decide) (lc_groups hfl hx hb hml hown hts hK hA hAm hX hbl hbA hi hN hc hs go hR hP hD hS hl)
  · exact lv_tableIn (off := 1256) (tgt := 1295) hx hb dL_law_39 (by decide) (by decide) (by decide) (by decide) (lc_needed hfl hx hb hml hown hts hK hA hAm hX hbl hbA hi hN hc hs go hR hP hD hS hl)
  · exact lv_tableIn (off := 1269) (tgt := 1308) hx hb dL_law_39 (by decide) (by decide) (by decide) (by decide) (lc_peace hfl hx hb hml hown hts hK hA hAm hX hbl hbA hi hN hc hs go hR hP hD hS hl)
  · exact lv_tableIn (off := 1310) (tgt := 1349) hx hb dL_law_39 (by decide) (by decide) (by decide) (by decide) (lc_firstShare hfl hx hb hml hown hts hK hA hAm hX hbl hbA hi hN hc hs go hR hP hD hS hl)
  · exact lv_tableIn (off := 1351) (tgt := 1390) hx hb dL_law_39 (by decide) (by decide) (by decide) (by decide) (lc_digest hfl hx hb hml hown hts hK hA hAm hX hbl hbA hi hN hc hs go hR hP hD hS hl)
  · exact lv_tableOut (tgt := 1404) hx hb dL_law_39 (Or.inr (hd k h26 hk)) (by decide) (W.widen (k := cells + 1) (n := slots + 6) (by omega) (by omega) (go SL sr vs v vsp ck so sp L cs ol ms mt mc md n1 n3 n4 n5 H locs ls (hR) hP hD hS hl))
set_option maxHeartbeats 4000000 in
set_option maxRecDepth 100000 in
theorem lc_loop (hfl : l.stackTraces = false) (hx : p.tables.exec = Jvm.exec) (hb : c.code = cL_law) (hml : c.maxLocals = 9) (hown : s.vm.findClass RL = some m.cls) (hts : ∀ w ∈ wsL_law, w.before args s = true) (hK : va_K Γ.1 vwCl (wtys Γ) s) (hA : ∀ q, s.heap.size ≤ q → A q) (hAm : Amb A s) (hX : va_X b N xs s s.heap) (hbl : b < s.heap.size) (hbA : ¬ A b) (hN : N ≤ 2048) (ex : ∀ (H : Heap) (locs : List Loc) (ls : Array Slot) (cells slots : Nat), cells ≤ 601024 → slots ≤ 7293034 → va_S A s.heap H locs → W p l e room_1 s m args below meth c H locs cells slots Q (F0 m 1410 ls [])) : ∀ (n : Nat) (i cells slots : Nat) {SL sr : Nat} {vs : Nat → Nat → Nat → Int32} {v vsp : Nat → Nat → Int32} {ck so sp : Nat → Int32} {L : Nat} {cs : Nat → Int32} {ol : Nat → Int64} {ms mt mc md : Nat → Int32} {n1 n3 n4 n5 : Int32} (H : Heap) (locs : List Loc) (ls : Array Slot), i ≤ 2052 → N < i + 4 * n → cells + n ≤ 601024 → slots + 6 * n ≤ 7293034 → REL SL sr vs v ck so sp L cs ms mt → va_P Γ.1 vwCl (wcat [mnC q an ap qs ac au ax (nI SL), plB Γ an v, plB Γ ap vsp, saB Γ qs sa sr vs, cuB Γ ac ck, suB Γ au so sp, txB Γ ax cs (nI L), moB Γ mo ms mt mc md (nI SL) n1 (nI L) n3 n4 n5, ouB Γ oa ol]) H → va_D A (wcat [mnC q an ap qs ac au ax (nI SL), plB Γ an v, plB Γ ap vsp, saB Γ qs sa sr vs, cuB Γ ac ck, suB Γ au so sp, txB Γ ax cs (nI L), moB Γ mo ms mt mc md (nI SL) n1 (nI L) n3 n4 n5, ouB Γ oa ol]) → va_S A s.heap H locs → lv_has ls 9 [(4, .int (nI i)), (3, .ref oa), (2, .ref (mo 0)), (1, .ref q), (0, .ref b)] → W p l e room_1 s m args below meth c H locs cells slots Q (F0 m 23 ls []) := by
  intro n
  induction n with
  | zero =>
    intro i cells slots SL sr vs v vsp ck so sp L cs ol ms mt mc md n1 n3 n4 n5 H locs ls hi hn hc hs hR hP hD hS hl
    refine lv_iload hx hb dL_law_23 (lv_at hl 0 rfl) ?_
    refine lv_aload_n hx hb dL_law_25 rfl (lv_at hl 4 rfl) ?_
    refine va_slen hx hb hX hbl hbA hS dL_law_26 ?_
    refine lv_iconst (v := nI 4) hx hb dL_law_27 (by decide) ?_
    refine lv_isub hx hb dL_law_28 ?_
    have hcmp : (nI N - nI 4).toInt = (N : Int) - 4 := pk_sub_toInt (by omega) (by decide)
    have hii : (nI i).toInt = (i : Int) := nI_toInt (by omega)
    exact lv_icmp_gt (tgt := 1410) hx hb dL_law_29 (by decide) (fun _ => ex H locs ls cells slots (by omega) (by omega) hS) (fun z => absurd (show nI N - nI 4 < nI i by rw [Int32.lt_iff_toInt_lt, hcmp, hii]; omega) z)
  | succ n ih =>
    intro i cells slots SL sr vs v vsp ck so sp L cs ol ms mt mc md n1 n3 n4 n5 H locs ls hi hn hc hs hR hP hD hS hl
    refine lv_iload hx hb dL_law_23 (lv_at hl 0 rfl) ?_
    refine lv_aload_n hx hb dL_law_25 rfl (lv_at hl 4 rfl) ?_
    refine va_slen hx hb hX hbl hbA hS dL_law_26 ?_
    refine lv_iconst (v := nI 4) hx hb dL_law_27 (by decide) ?_
    refine lv_isub hx hb dL_law_28 ?_
    have hcmp : (nI N - nI 4).toInt = (N : Int) - 4 := pk_sub_toInt (by omega) (by decide)
    have hii : (nI i).toInt = (i : Int) := nI_toInt (by omega)
    refine lv_icmp_gt (tgt := 1410) hx hb dL_law_29 (by decide) (fun _ => ex H locs ls cells slots (by omega) (by omega) hS) (fun z => ?_)
    have hiN : i + 4 ≤ N := by
      have z : ¬ nI N - nI 4 < nI i := z
      rw [Int32.lt_iff_toInt_lt, hcmp, hii] at z; omega
    refine lc_all hfl hx hb hml hown hts hK hA hAm hX hbl hbA hiN hN (by omega) (by omega) ?_ hR hP hD hS hl
    intro SL sr vs v vsp ck so sp L cs ol ms mt mc md n1 n3 n4 n5 H locs ls hR hP hD hS hl
    refine lv_iinc (v := nI (i + 4)) (lv' := [(4, .int (nI (i + 4))), (3, .ref oa), (2, .ref (mo 0)), (1, .ref q), (0, .ref b)]) hx hb dL_law_1404 hl (k := 0) rfl (nI_add i 4) (by decide) rfl (fun ls hl => ?_)
    refine lv_goto (tgt := 23) hx hb dL_law_1407 (by decide) ?_
    exact ih (i + 4) (cells + 1) (slots + 6) H locs ls (by omega) (by omega) (by omega) (by omega) hR hP hD hS hl
end LWD
