/-! ===== the law: combinators ===== -/
section LWA
variable {p : Program} {l : Launch} {e : Env} {R : Room} {s : State} {m : MethodId} {args : Array Value} {below : List Frame} {meth : Method} {c : Code} {H : Heap} {locs : List Loc} {cells slots : Nat} {Q : State → Prop}
variable {pc : Nat} {ls : Array Slot} {rest st0 : List Value} {cc : ByteArray} {a : Array Value} {A : Nat → Prop} {Γ : wG} {bs bs' bc bc' : List va_W}
theorem cMJ {f : Int32} (hr : va_Run p l e R s m args below meth c H locs cells slots 1 6 (F0 m pc ls st0) rest (va_Qi (fun r (_ : Unit) => r = f) (fun _ t => va_P Γ.1 vwCl (wcat bc') t.heap) (va_A (wcat bc) H.size) a) (va_A (wcat bc) H.size)) (hP : va_P Γ.1 vwCl (wcat bs) H) (hD : va_D A (wcat bs)) (hS : va_S A s.heap H locs) (hA : ∀ q, s.heap.size ≤ q → A q) (is : List Nat) (his : is.map (fun i => bs[i]?) = bc.map some) (had : bc'.map wad = bc.map wad) (hset : wset bs is bc' = bs')
    (kk : ∀ (H1 : Heap) (locs1 : List Loc), va_P Γ.1 vwCl (wcat bs') H1 → va_D A (wcat bs') → va_S A s.heap H1 locs1 → W p l e R s m args below meth c H1 locs1 (cells + 1) (slots + 6) Q (F0 m (pc + 3) ls (.int f :: rest))) : W p l e R s m args below meth c H locs cells slots Q (F0 m pc ls st0) := by
  have hF := wfree hD hS hA his
  refine va_calli hr hS (fun q _ h => hF q h) hF (fun r u t H1 locs1 ht hvm hw hB hz1 hk1 hS1 => ?_)
  subst hw
  rw [ht] at hB
  obtain ⟨h1, h2⟩ := wjoin hP hD his had hset hk1 hB
  exact kk H1 locs1 h1 h2 hS1
theorem lv_lcmp0 (hexec : p.tables.exec = Jvm.exec) (hb : c.code = cc) {x : Int64} (hdg : decode cc pc = .ok (.lcmp, 1))
    (k : W p l e R s m args below meth c H locs cells slots Q (F0 m (pc + 1) ls (.int 0 :: rest))) : W p l e R s m args below meth c H locs cells slots Q (F0 m pc ls (.long x :: .long x :: rest)) := by
  intro T hT X
  obtain ⟨t, a, b⟩ := k T hT X
  refine ⟨t, ?_, b⟩
  have h1 : ¬ x > x := fun z => by rw [gt_iff_lt, Int64.lt_iff_toInt_lt] at z; omega
  jvm_step X.here [X.here.top, hexec, hb, hdg, h1]
  first | exact a | (simp [h1]; exact a) | (simp; exact a)
end LWA
def LGO (p : Program) (l : Launch) (e : Env) (s : State) (m : MethodId) (args : Array Value) (below : List Frame) (meth : Method) (c : Code) (A : Nat → Prop) (Γ : wG) (q : Nat) (an ap : Nat → Nat) (qs : Nat) (ac au ax : Nat → Nat) (sa : Nat → Nat → Nat) (oa : Nat) (mo : Nat → Nat) (b i cells slots : Nat) (Q : State → Prop) : Prop :=
  ∀ (SL sr : Nat) (vs : Nat → Nat → Nat → Int32) (v vsp : Nat → Nat → Int32) (ck so sp : Nat → Int32) (L : Nat) (cs : Nat → Int32) (ol : Nat → Int64) (ms mt mc md : Nat → Int32) (n1 n3 n4 n5 : Int32) (H : Heap) (locs : List Loc) (ls : Array Slot), REL SL sr vs v ck so sp L cs ms mt → va_P Γ.1 vwCl (wcat [mnC q an ap qs ac au ax (nI SL), plB Γ an v, plB Γ ap vsp, saB Γ qs sa sr vs, cuB Γ ac ck, suB Γ au so sp, txB Γ ax cs (nI L), moB Γ mo ms mt mc md (nI SL) n1 (nI L) n3 n4 n5, ouB Γ oa ol]) H → va_D A (wcat [mnC q an ap qs ac au ax (nI SL), plB Γ an v, plB Γ ap vsp, saB Γ qs sa sr vs, cuB Γ ac ck, suB Γ au so sp, txB Γ ax cs (nI L), moB Γ mo ms mt mc md (nI SL) n1 (nI L) n3 n4 n5, ouB Γ oa ol]) → va_S A s.heap H locs → lv_has ls 9 [(4, .int (nI i)), (3, .ref oa), (2, .ref (mo 0)), (1, .ref q), (0, .ref b)] → W p l e room_1 s m args below meth c H locs cells slots Q (F0 m 1404 ls [])
section LWB
variable {p : Program} {l : Launch} {e : Env} {s : State} {m : MethodId} {args : Array Value} {below : List Frame} {meth : Method} {c : Code} {H : Heap} {locs : List Loc} {cells slots : Nat} {Q : State → Prop} {ls : Array Slot} {A : Nat → Prop} {Γ : wG}
variable {q : Nat} {an ap : Nat → Nat} {qs : Nat} {ac au ax : Nat → Nat} {sa : Nat → Nat → Nat} {oa : Nat} {mo : Nat → Nat} {b N : Nat} {xs : Nat → Int32} {i : Nat}
set_option maxHeartbeats 4000000 in
set_option maxRecDepth 100000 in
theorem lc_keeper (hfl : l.stackTraces = false) (hx : p.tables.exec = Jvm.exec) (hb : c.code = cL_law) (hml : c.maxLocals = 9) (hown : s.vm.findClass RL = some m.cls) (hts : ∀ w ∈ wsL_law, w.before args s = true) (hK : va_K Γ.1 vwCl (wtys Γ) s) (hA : ∀ q, s.heap.size ≤ q → A q) (hAm : Amb A s) (hX : va_X b N xs s s.heap) (hbl : b < s.heap.size) (hbA : ¬ A b) (hi : i + 4 ≤ N) (hN : N ≤ 2048) (hc : cells + 1 ≤ 601024) (hs : slots + 6 ≤ 7293034) (go : LGO p l e s m args below meth c A Γ q an ap qs ac au ax sa oa mo b i (cells + 1) (slots + 6) Q) {SL sr : Nat} {vs : Nat → Nat → Nat → Int32} {v vsp : Nat → Nat → Int32} {ck so sp : Nat → Int32} {L : Nat} {cs : Nat → Int32} {ol : Nat → Int64} {ms mt mc md : Nat → Int32} {n1 n3 n4 n5 : Int32} (hR : REL SL sr vs v ck so sp L cs ms mt) (hP : va_P Γ.1 vwCl (wcat [mnC q an ap qs ac au ax (nI SL), plB Γ an v, plB Γ ap vsp, saB Γ qs sa sr vs, cuB Γ ac ck, suB Γ au so sp, txB Γ ax cs (nI L), moB Γ mo ms mt mc md (nI SL) n1 (nI L) n3 n4 n5, ouB Γ oa ol]) H) (hD : va_D A (wcat [mnC q an ap qs ac au ax (nI SL), plB Γ an v, plB Γ ap vsp, saB Γ qs sa sr vs, cuB Γ ac ck, suB Γ au so sp, txB Γ ax cs (nI L), moB Γ mo ms mt mc md (nI SL) n1 (nI L) n3 n4 n5, ouB Γ oa ol])) (hS : va_S A s.heap H locs) (hl : lv_has ls 9 [(4, .int (nI i)), (3, .ref oa), (2, .ref (mo 0)), (1, .ref q), (0, .ref b)]) : W p l e room_1 s m args below meth c H locs cells slots Q (F0 m 156 ls []) := by
  have hAB : ∀ q : Nat, A q → A q := fun _ h => h
  obtain ⟨SL2, sr2, vs2, v2, vsp2, ck2, so2, sp2, L2, cs2, ol2, ms2, mt2, mc2, md2, m1, m3, m4, m5, r, f, rm, ⟨kJ, k1, k2, k3, k4⟩, k5, k6, k7, k8⟩ := st_keeper (q := q) (an := an) (ap := ap) (qs := qs) (ac := ac) (au := au) (ax := ax) (sa := sa) (oa := oa) (mo := mo) (Γ := Γ) (vsp := vsp) (ol := ol) (mc := mc) (md := md) (n1 := n1) (n3 := n3) (n4 := n4) (n5 := n5) hfl hR 
  refine lv_aload_n hx hb dL_law_156 rfl (lv_at hl 3 rfl) ?_
  refine lv_aload_n hx hb dL_law_157 rfl (lv_at hl 1 rfl) ?_
  refine cMJ (bc' := [mnC q an ap qs ac au ax (nI SL2), plB Γ an v2, plB Γ ap vsp2, saB Γ qs sa sr2 vs2, cuB Γ ac ck2, suB Γ au so2 sp2, txB Γ ax cs2 (nI L2), ouB Γ oa ol2]) (vx_runSW (As := [.ref q, .ref oa]) (rest := []) ⟨hx, hb, hml, hown, hts⟩ (kJ _) (vx_cwSW 2 hts gL_law_L_keeper rfl rfl rfl (by decide +kernel) ⟨Nat.le_of_ble_eq_true rfl, Nat.le_of_ble_eq_true rfl⟩) ⟨wPre_blind, wPre_mk hP hD hK hS hA hAB hAm [0, 1, 2, 3, 4, 5, 6, 8] rfl rfl⟩ rfl rfl hl.1 rfl (lv_room (Nat.le_of_ble_eq_true rfl)) dL_law_158 ⟨hc, hs⟩) hP hD hS hA [0, 1, 2, 3, 4, 5, 6, 8] rfl (by simp only [List.map_cons, List.map_nil, suB_w, plB_w, cuB_w, txB_w, mnC_w, saB_w, ouB_w]) (bs' := [mnC q an ap qs ac au ax (nI SL2), plB Γ an v2, plB Γ ap vsp2, saB Γ qs sa sr2 vs2, cuB Γ ac ck2, suB Γ au so2 sp2, txB Γ ax cs2 (nI L2), moB Γ mo ms mt mc md (nI SL) n1 (nI L) n3 n4 n5, ouB Γ oa ol2]) rfl (fun H locs hP hD hS => ?_)
  refine lv_istore (lv' := [(5, .int r), (4, .int (nI i)), (3, .ref oa), (2, .ref (mo 0)), (1, .ref q), (0, .ref b)]) hx hb dL_law_161 hl (by decide) rfl (fun ls hl => ?_)
  refine lv_aload_n hx hb dL_law_163 rfl (lv_at hl 3 rfl) ?_
  refine cMI (bc' := [moB Γ mo ms2 mt2 mc2 md2 (nI SL2) m1 (nI L2) m3 m4 m5]) (va_runV (As := []) (rest := []) ⟨hx, hb, hml, hown, hts⟩ (k5 _) (cwV 0 hts gL_law_X5_keeper rfl k3 k4 (by decide +kernel) ⟨by show rm.frames + 1 ≤ 12; omega, by show 8 + (_ + 11) + rm.locals ≤ 436; omega⟩) ⟨wPre_blind, va_recv hK hP (ci := 5) (q0 := 57) rfl rfl, wPre_mk hP hD hK hS hA hAB hAm [7] rfl rfl⟩ rfl rfl hl.1 rfl (lv_room (Nat.le_of_ble_eq_true rfl)) dL_law_164 ⟨hc, hs⟩) hP hD hS hA [7] rfl (by simp only [List.map_cons, List.map_nil, moB_w]) (bs' := [mnC q an ap qs ac au ax (nI SL2), plB Γ an v2, plB Γ ap vsp2, saB Γ qs sa sr2 vs2, cuB Γ ac ck2, suB Γ au so2 sp2, txB Γ ax cs2 (nI L2), moB Γ mo ms2 mt2 mc2 md2 (nI SL2) m1 (nI L2) m3 m4 m5, ouB Γ oa ol2]) rfl (fun H locs hP hD hS => ?_)
  refine lv_istore (lv' := [(6, .int f), (5, .int r), (4, .int (nI i)), (3, .ref oa), (2, .ref (mo 0)), (1, .ref q), (0, .ref b)]) hx hb dL_law_167 hl (by decide) rfl (fun ls hl => ?_)
  refine lv_aload_n hx hb dL_law_169 rfl (lv_at hl 4 rfl) ?_
  refine cLI (va_runV (As := []) (rest := []) ⟨hx, hb, hml, hown, hts⟩ ((kX5_thrown l Γ mo ms2 mt2 mc2 md2 (nI SL2) m1 (nI L2) m3 m4 m5) _) (cwV 0 hts gL_law_X5_thrown rfl rfl rfl (by decide +kernel) ⟨Nat.le_of_ble_eq_true rfl, Nat.le_of_ble_eq_true rfl⟩) ⟨wPre_blind, va_recv hK hP (ci := 5) (q0 := 57) rfl rfl, wPre_mk hP hD hK hS hA hAB hAm [7] rfl rfl⟩ rfl rfl hl.1 rfl (lv_room (Nat.le_of_ble_eq_true rfl)) dL_law_170 ⟨hc, hs⟩) hP hS hA (fun H locs hP hS => ?_)
  refine lv_iload hx hb dL_law_173 (lv_at hl 1 rfl) ?_
  refine lv_icmp_eq (tgt := 180) hx hb dL_law_175 (by decide) (fun _ => ?_) (fun z => absurd k6 z)
  refine lv_iload hx hb dL_law_180 (lv_at hl 1 rfl) ?_
  have fin : W p l e room_1 s m args below meth c H locs (cells + 1) (slots + 6) Q (F0 m 197 ls []) := by
    refine lv_goto (tgt := 1404) hx hb dL_law_197 (by decide) ?_
    exact go SL2 sr2 vs2 v2 vsp2 ck2 so2 sp2 L2 cs2 ol2 ms2 mt2 mc2 md2 m1 m3 m4 m5 H locs ls k8 hP hD hS (lv_sub hl [2, 3, 4, 5, 6] rfl)
  refine lv_if_ne (tgt := 197) hx hb dL_law_182 (by decide) (fun _ => fin) (fun c1 => ?_)
  refine lv_aload_n hx hb dL_law_185 rfl (lv_at hl 3 rfl) ?_
  refine lv_iconst (v := nI 0) hx hb dL_law_186 (by decide) ?_
  refine lald0 hx hb hK hP 62 rfl dL_law_187 ?_
  rw [k7 c1]
  refine lv_iload hx hb dL_law_188 (lv_at hl 0 rfl) ?_
  refine lv_i2l (v := f.toInt64) hx hb dL_law_190 rfl ?_
  refine lv_lcmp0 hx hb dL_law_191 ?_
  exact lv_if_eq (tgt := 197) hx hb dL_law_192 (by decide) (fun _ => fin) (fun z => absurd rfl z)
set_option maxHeartbeats 4000000 in
set_option maxRecDepth 100000 in
theorem lc_die (hfl : l.stackTraces = false) (hx : p.tables.exec = Jvm.exec) (hb : c.code = cL_law) (hml : c.maxLocals = 9) (hown : s.vm.findClass RL = some m.cls) (hts : ∀ w ∈ wsL_law, w.before args s = true) (hK : va_K Γ.1 vwCl (wtys Γ) s) (hA : ∀ q, s.heap.size ≤ q → A q) (hAm : Amb A s) (hX : va_X b N xs s s.heap) (hbl : b < s.heap.size) (hbA : ¬ A b) (hi : i + 4 ≤ N) (hN : N ≤ 2048) (hc : cells + 1 ≤ 601024) (hs : slots + 6 ≤ 7293034) (go : LGO p l e s m args below meth c A Γ q an ap qs ac au ax sa oa mo b i (cells + 1) (slots + 6) Q) {SL sr : Nat} {vs : Nat → Nat → Nat → Int32} {v vsp : Nat → Nat → Int32} {ck so sp : Nat → Int32} {L : Nat} {cs : Nat → Int32} {ol : Nat → Int64} {ms mt mc md : Nat → Int32} {n1 n3 n4 n5 : Int32} (hR : REL SL sr vs v ck so sp L cs ms mt) (hP : va_P Γ.1 vwCl (wcat [mnC q an ap qs ac au ax (nI SL), plB Γ an v, plB Γ ap vsp, saB Γ qs sa sr vs, cuB Γ ac ck, suB Γ au so sp, txB Γ ax cs (nI L), moB Γ mo ms mt mc md (nI SL) n1 (nI L) n3 n4 n5, ouB Γ oa ol]) H) (hD : va_D A (wcat [mnC q an ap qs ac au ax (nI SL), plB Γ an v, plB Γ ap vsp, saB Γ qs sa sr vs, cuB Γ ac ck, suB Γ au so sp, txB Γ ax cs (nI L), moB Γ mo ms mt mc md (nI SL) n1 (nI L) n3 n4 n5, ouB Γ oa ol])) (hS : va_S A s.heap H locs) (hl : lv_has ls 9 [(4, .int (nI i)), (3, .ref oa), (2, .ref (mo 0)), (1, .ref q), (0, .ref b)]) : W p l e room_1 s m args below meth c H locs cells slots Q (F0 m 200 ls []) := by
  have hAB : ∀ q : Nat, A q → A q := fun _ h => h
  obtain ⟨SL2, sr2, vs2, v2, vsp2, ck2, so2, sp2, L2, cs2, ol2, ms2, mt2, mc2, md2, m1, m3, m4, m5, r, f, rm, ⟨kJ, k1, k2, k3, k4⟩, k5, k6, k7, k8⟩ := st_die (q := q) (an := an) (ap := ap) (qs := qs) (ac := ac) (au := au) (ax := ax) (sa := sa) (oa := oa) (mo := mo) (Γ := Γ) (vsp := vsp) (ol := ol) (mc := mc) (md := md) (n1 := n1) (n3 := n3) (n4 := n4) (n5 := n5) hfl hR (xs (nI i + nI 1).toNatClampNeg)
  refine lv_aload_n hx hb dL_law_200 rfl (lv_at hl 3 rfl) ?_
  refine lv_aload_n hx hb dL_law_201 rfl (lv_at hl 4 rfl) ?_
  refine lv_iload hx hb dL_law_202 (lv_at hl 0 rfl) ?_
  refine lv_iconst (v := nI 1) hx hb dL_law_204 (by decide) ?_
  refine lv_iadd hx hb dL_law_205 ?_
  refine va_sld hx hb hX hbl hbA hS (show vp_in (nI i + nI 1) N by rw [nI_add]; exact vp_in_nI (by omega) (by omega)) dL_law_206 ?_
  refine lv_aload_n hx hb dL_law_207 rfl (lv_at hl 1 rfl) ?_
  refine cMJ (bc' := [mnC q an ap qs ac au ax (nI SL2), plB Γ an v2, plB Γ ap vsp2, saB Γ qs sa sr2 vs2, cuB Γ ac ck2, suB Γ au so2 sp2, txB Γ ax cs2 (nI L2), ouB Γ oa ol2]) (vx_runSW (As := [.ref q, .int (xs (nI i + nI 1).toNatClampNeg), .ref oa]) (rest := []) ⟨hx, hb, hml, hown, hts⟩ (kJ _) (vx_cwSW 3 hts gL_law_L_die rfl rfl rfl (by decide +kernel) ⟨Nat.le_of_ble_eq_true rfl, Nat.le_of_ble_eq_true rfl⟩) ⟨wPre_blind, wPre_mk hP hD hK hS hA hAB hAm [0, 1, 2, 3, 4, 5, 6, 8] rfl rfl⟩ rfl rfl hl.1 rfl (lv_room (Nat.le_of_ble_eq_true rfl)) dL_law_208 ⟨hc, hs⟩) hP hD hS hA [0, 1, 2, 3, 4, 5, 6, 8] rfl (by simp only [List.map_cons, List.map_nil, suB_w, plB_w, cuB_w, txB_w, mnC_w, saB_w, ouB_w]) (bs' := [mnC q an ap qs ac au ax (nI SL2), plB Γ an v2, plB Γ ap vsp2, saB Γ qs sa sr2 vs2, cuB Γ ac ck2, suB Γ au so2 sp2, txB Γ ax cs2 (nI L2), moB Γ mo ms mt mc md (nI SL) n1 (nI L) n3 n4 n5, ouB Γ oa ol2]) rfl (fun H locs hP hD hS => ?_)
  refine lv_istore (lv' := [(5, .int r), (4, .int (nI i)), (3, .ref oa), (2, .ref (mo 0)), (1, .ref q), (0, .ref b)]) hx hb dL_law_211 hl (by decide) rfl (fun ls hl => ?_)
  refine lv_aload_n hx hb dL_law_213 rfl (lv_at hl 3 rfl) ?_
  refine lv_aload_n hx hb dL_law_214 rfl (lv_at hl 5 rfl) ?_
  refine lv_iload hx hb dL_law_215 (lv_at hl 1 rfl) ?_
  refine lv_iconst (v := nI 1) hx hb dL_law_217 (by decide) ?_
  refine lv_iadd hx hb dL_law_218 ?_
  refine va_sld hx hb hX hbl hbA hS (show vp_in (nI i + nI 1) N by rw [nI_add]; exact vp_in_nI (by omega) (by omega)) dL_law_219 ?_
  refine cMI (bc' := [moB Γ mo ms2 mt2 mc2 md2 (nI SL2) m1 (nI L2) m3 m4 m5]) (va_runV (As := [.int (xs (nI i + nI 1).toNatClampNeg)]) (rest := []) ⟨hx, hb, hml, hown, hts⟩ (k5 _) (cwV 1 hts gL_law_X5_die rfl k3 k4 (by decide +kernel) ⟨by show rm.frames + 1 ≤ 12; omega, by show 8 + (_ + 11) + rm.locals ≤ 436; omega⟩) ⟨wPre_blind, va_recv hK hP (ci := 5) (q0 := 57) rfl rfl, wPre_mk hP hD hK hS hA hAB hAm [7] rfl rfl⟩ rfl rfl hl.1 rfl (lv_room (Nat.le_of_ble_eq_true rfl)) dL_law_220 ⟨hc, hs⟩) hP hD hS hA [7] rfl (by simp only [List.map_cons, List.map_nil, moB_w]) (bs' := [mnC q an ap qs ac au ax (nI SL2), plB Γ an v2, plB Γ ap vsp2, saB Γ qs sa sr2 vs2, cuB Γ ac ck2, suB Γ au so2 sp2, txB Γ ax cs2 (nI L2), moB Γ mo ms2 mt2 mc2 md2 (nI SL2) m1 (nI L2) m3 m4 m5, ouB Γ oa ol2]) rfl (fun H locs hP hD hS => ?_)
  refine lv_istore (lv' := [(6, .int f), (5, .int r), (4, .int (nI i)), (3, .ref oa), (2, .ref (mo 0)), (1, .ref q), (0, .ref b)]) hx hb dL_law_223 hl (by decide) rfl (fun ls hl => ?_)
  refine lv_aload_n hx hb dL_law_225 rfl (lv_at hl 4 rfl) ?_
  refine cLI (va_runV (As := []) (rest := []) ⟨hx, hb, hml, hown, hts⟩ ((kX5_thrown l Γ mo ms2 mt2 mc2 md2 (nI SL2) m1 (nI L2) m3 m4 m5) _) (cwV 0 hts gL_law_X5_thrown rfl rfl rfl (by decide +kernel) ⟨Nat.le_of_ble_eq_true rfl, Nat.le_of_ble_eq_true rfl⟩) ⟨wPre_blind, va_recv hK hP (ci := 5) (q0 := 57) rfl rfl, wPre_mk hP hD hK hS hA hAB hAm [7] rfl rfl⟩ rfl rfl hl.1 rfl (lv_room (Nat.le_of_ble_eq_true rfl)) dL_law_226 ⟨hc, hs⟩) hP hS hA (fun H locs hP hS => ?_)
  refine lv_iload hx hb dL_law_229 (lv_at hl 1 rfl) ?_
  refine lv_icmp_eq (tgt := 236) hx hb dL_law_231 (by decide) (fun _ => ?_) (fun z => absurd k6 z)
  refine lv_iload hx hb dL_law_236 (lv_at hl 1 rfl) ?_
  have fin : W p l e room_1 s m args below meth c H locs (cells + 1) (slots + 6) Q (F0 m 253 ls []) := by
    refine lv_goto (tgt := 1404) hx hb dL_law_253 (by decide) ?_
    exact go SL2 sr2 vs2 v2 vsp2 ck2 so2 sp2 L2 cs2 ol2 ms2 mt2 mc2 md2 m1 m3 m4 m5 H locs ls k8 hP hD hS (lv_sub hl [2, 3, 4, 5, 6] rfl)
  refine lv_if_ne (tgt := 253) hx hb dL_law_238 (by decide) (fun _ => fin) (fun c1 => ?_)
  refine lv_aload_n hx hb dL_law_241 rfl (lv_at hl 3 rfl) ?_
  refine lv_iconst (v := nI 0) hx hb dL_law_242 (by decide) ?_
  refine lald0 hx hb hK hP 62 rfl dL_law_243 ?_
  rw [k7 c1]
  refine lv_iload hx hb dL_law_244 (lv_at hl 0 rfl) ?_
  refine lv_i2l (v := f.toInt64) hx hb dL_law_246 rfl ?_
  refine lv_lcmp0 hx hb dL_law_247 ?_
  exact lv_if_eq (tgt := 253) hx hb dL_law_248 (by decide) (fun _ => fin) (fun z => absurd rfl z)
set_option maxHeartbeats 4000000 in
set_option maxRecDepth 100000 in
theorem lc_heir (hfl : l.stackTraces = false) (hx : p.tables.exec = Jvm.exec) (hb : c.code = cL_law) (hml : c.maxLocals = 9) (hown : s.vm.findClass RL = some m.cls) (hts : ∀ w ∈ wsL_law, w.before args s = true) (hK : va_K Γ.1 vwCl (wtys Γ) s) (hA : ∀ q, s.heap.size ≤ q → A q) (hAm : Amb A s) (hX : va_X b N xs s s.heap) (hbl : b < s.heap.size) (hbA : ¬ A b) (hi : i + 4 ≤ N) (hN : N ≤ 2048) (hc : cells + 1 ≤ 601024) (hs : slots + 6 ≤ 7293034) (go : LGO p l e s m args below meth c A Γ q an ap qs ac au ax sa oa mo b i (cells + 1) (slots + 6) Q) {SL sr : Nat} {vs : Nat → Nat → Nat → Int32} {v vsp : Nat → Nat → Int32} {ck so sp : Nat → Int32} {L : Nat} {cs : Nat → Int32} {ol : Nat → Int64} {ms mt mc md : Nat → Int32} {n1 n3 n4 n5 : Int32} (hR : REL SL sr vs v ck so sp L cs ms mt) (hP : va_P Γ.1 vwCl (wcat [mnC q an ap qs ac au ax (nI SL), plB Γ an v, plB Γ ap vsp, saB Γ qs sa sr vs, cuB Γ ac ck, suB Γ au so sp, txB Γ ax cs (nI L), moB Γ mo ms mt mc md (nI SL) n1 (nI L) n3 n4 n5, ouB Γ oa ol]) H) (hD : va_D A (wcat [mnC q an ap qs ac au ax (nI SL), plB Γ an v, plB Γ ap vsp, saB Γ qs sa sr vs, cuB Γ ac ck, suB Γ au so sp, txB Γ ax cs (nI L), moB Γ mo ms mt mc md (nI SL) n1 (nI L) n3 n4 n5, ouB Γ oa ol])) (hS : va_S A s.heap H locs) (hl : lv_has ls 9 [(4, .int (nI i)), (3, .ref oa), (2, .ref (mo 0)), (1, .ref q), (0, .ref b)]) : W p l e room_1 s m args below meth c H locs cells slots Q (F0 m 256 ls []) := by
  have hAB : ∀ q : Nat, A q → A q := fun _ h => h
  obtain ⟨SL2, sr2, vs2, v2, vsp2, ck2, so2, sp2, L2, cs2, ol2, ms2, mt2, mc2, md2, m1, m3, m4, m5, r, f, rm, ⟨kJ, k1, k2, k3, k4⟩, k5, k6, k7, k8⟩ := st_heir (q := q) (an := an) (ap := ap) (qs := qs) (ac := ac) (au := au) (ax := ax) (sa := sa) (oa := oa) (mo := mo) (Γ := Γ) (vsp := vsp) (ol := ol) (mc := mc) (md := md) (n1 := n1) (n3 := n3) (n4 := n4) (n5 := n5) hfl hR (xs (nI i + nI 1).toNatClampNeg) (xs (nI i + nI 2).toNatClampNeg)
  refine lv_aload_n hx hb dL_law_256 rfl (lv_at hl 3 rfl) ?_
  refine lv_aload_n hx hb dL_law_257 rfl (lv_at hl 4 rfl) ?_
  refine lv_iload hx hb dL_law_258 (lv_at hl 0 rfl) ?_
  refine lv_iconst (v := nI 1) hx hb dL_law_260 (by decide) ?_
  refine lv_iadd hx hb dL_law_261 ?_
  refine va_sld hx hb hX hbl hbA hS (show vp_in (nI i + nI 1) N by rw [nI_add]; exact vp_in_nI (by omega) (by omega)) dL_law_262 ?_
  refine lv_aload_n hx hb dL_law_263 rfl (lv_at hl 4 rfl) ?_
  refine lv_iload hx hb dL_law_264 (lv_at hl 0 rfl) ?_
  refine lv_iconst (v := nI 2) hx hb dL_law_266 (by decide) ?_
  refine lv_iadd hx hb dL_law_267 ?_
  refine va_sld hx hb hX hbl hbA hS (show vp_in (nI i + nI 2) N by rw [nI_add]; exact vp_in_nI (by omega) (by omega)) dL_law_268 ?_
  refine lv_aload_n hx hb dL_law_269 rfl (lv_at hl 1 rfl) ?_
  refine cMJ (bc' := [mnC q an ap qs ac au ax (nI SL2), plB Γ an v2, plB Γ ap vsp2, saB Γ qs sa sr2 vs2, cuB Γ ac ck2, suB Γ au so2 sp2, txB Γ ax cs2 (nI L2), ouB Γ oa ol2]) (vx_runSW (As := [.ref q, .int (xs (nI i + nI 1).toNatClampNeg), .int (xs (nI i + nI 2).toNatClampNeg), .ref oa]) (rest := []) ⟨hx, hb, hml, hown, hts⟩ (kJ _) (vx_cwSW 4 hts gL_law_L_heir rfl rfl rfl (by decide +kernel) ⟨Nat.le_of_ble_eq_true rfl, Nat.le_of_ble_eq_true rfl⟩) ⟨wPre_blind, wPre_mk hP hD hK hS hA hAB hAm [0, 1, 2, 3, 4, 5, 6, 8] rfl rfl⟩ rfl rfl hl.1 rfl (lv_room (Nat.le_of_ble_eq_true rfl)) dL_law_270 ⟨hc, hs⟩) hP hD hS hA [0, 1, 2, 3, 4, 5, 6, 8] rfl (by simp only [List.map_cons, List.map_nil, suB_w, plB_w, cuB_w, txB_w, mnC_w, saB_w, ouB_w]) (bs' := [mnC q an ap qs ac au ax (nI SL2), plB Γ an v2, plB Γ ap vsp2, saB Γ qs sa sr2 vs2, cuB Γ ac ck2, suB Γ au so2 sp2, txB Γ ax cs2 (nI L2), moB Γ mo ms mt mc md (nI SL) n1 (nI L) n3 n4 n5, ouB Γ oa ol2]) rfl (fun H locs hP hD hS => ?_)
  refine lv_istore (lv' := [(5, .int r), (4, .int (nI i)), (3, .ref oa), (2, .ref (mo 0)), (1, .ref q), (0, .ref b)]) hx hb dL_law_273 hl (by decide) rfl (fun ls hl => ?_)
  refine lv_aload_n hx hb dL_law_275 rfl (lv_at hl 3 rfl) ?_
  refine lv_aload_n hx hb dL_law_276 rfl (lv_at hl 5 rfl) ?_
  refine lv_iload hx hb dL_law_277 (lv_at hl 1 rfl) ?_
  refine lv_iconst (v := nI 1) hx hb dL_law_279 (by decide) ?_
  refine lv_iadd hx hb dL_law_280 ?_
  refine va_sld hx hb hX hbl hbA hS (show vp_in (nI i + nI 1) N by rw [nI_add]; exact vp_in_nI (by omega) (by omega)) dL_law_281 ?_
  refine lv_aload_n hx hb dL_law_282 rfl (lv_at hl 5 rfl) ?_
  refine lv_iload hx hb dL_law_283 (lv_at hl 1 rfl) ?_
  refine lv_iconst (v := nI 2) hx hb dL_law_285 (by decide) ?_
  refine lv_iadd hx hb dL_law_286 ?_
  refine va_sld hx hb hX hbl hbA hS (show vp_in (nI i + nI 2) N by rw [nI_add]; exact vp_in_nI (by omega) (by omega)) dL_law_287 ?_
  refine cMI (bc' := [moB Γ mo ms2 mt2 mc2 md2 (nI SL2) m1 (nI L2) m3 m4 m5]) (va_runV (As := [.int (xs (nI i + nI 1).toNatClampNeg), .int (xs (nI i + nI 2).toNatClampNeg)]) (rest := []) ⟨hx, hb, hml, hown, hts⟩ (k5 _) (cwV 2 hts gL_law_X5_heir rfl k3 k4 (by decide +kernel) ⟨by show rm.frames + 1 ≤ 12; omega, by show 8 + (_ + 11) + rm.locals ≤ 436; omega⟩) ⟨wPre_blind, va_recv hK hP (ci := 5) (q0 := 57) rfl rfl, wPre_mk hP hD hK hS hA hAB hAm [7] rfl rfl⟩ rfl rfl hl.1 rfl (lv_room (Nat.le_of_ble_eq_true rfl)) dL_law_288 ⟨hc, hs⟩) hP hD hS hA [7] rfl (by simp only [List.map_cons, List.map_nil, moB_w]) (bs' := [mnC q an ap qs ac au ax (nI SL2), plB Γ an v2, plB Γ ap vsp2, saB Γ qs sa sr2 vs2, cuB Γ ac ck2, suB Γ au so2 sp2, txB Γ ax cs2 (nI L2), moB Γ mo ms2 mt2 mc2 md2 (nI SL2) m1 (nI L2) m3 m4 m5, ouB Γ oa ol2]) rfl (fun H locs hP hD hS => ?_)
  refine lv_istore (lv' := [(6, .int f), (5, .int r), (4, .int (nI i)), (3, .ref oa), (2, .ref (mo 0)), (1, .ref q), (0, .ref b)]) hx hb dL_law_291 hl (by decide) rfl (fun ls hl => ?_)
  refine lv_aload_n hx hb dL_law_293 rfl (lv_at hl 4 rfl) ?_
  refine cLI (va_runV (As := []) (rest := []) ⟨hx, hb, hml, hown, hts⟩ ((kX5_thrown l Γ mo ms2 mt2 mc2 md2 (nI SL2) m1 (nI L2) m3 m4 m5) _) (cwV 0 hts gL_law_X5_thrown rfl rfl rfl (by decide +kernel) ⟨Nat.le_of_ble_eq_true rfl, Nat.le_of_ble_eq_true rfl⟩) ⟨wPre_blind, va_recv hK hP (ci := 5) (q0 := 57) rfl rfl, wPre_mk hP hD hK hS hA hAB hAm [7] rfl rfl⟩ rfl rfl hl.1 rfl (lv_room (Nat.le_of_ble_eq_true rfl)) dL_law_294 ⟨hc, hs⟩) hP hS hA (fun H locs hP hS => ?_)
  refine lv_iload hx hb dL_law_297 (lv_at hl 1 rfl) ?_
  refine lv_icmp_eq (tgt := 304) hx hb dL_law_299 (by decide) (fun _ => ?_) (fun z => absurd k6 z)
  refine lv_iload hx hb dL_law_304 (lv_at hl 1 rfl) ?_
  have fin : W p l e room_1 s m args below meth c H locs (cells + 1) (slots + 6) Q (F0 m 321 ls []) := by
    refine lv_goto (tgt := 1404) hx hb dL_law_321 (by decide) ?_
    exact go SL2 sr2 vs2 v2 vsp2 ck2 so2 sp2 L2 cs2 ol2 ms2 mt2 mc2 md2 m1 m3 m4 m5 H locs ls k8 hP hD hS (lv_sub hl [2, 3, 4, 5, 6] rfl)
  refine lv_if_ne (tgt := 321) hx hb dL_law_306 (by decide) (fun _ => fin) (fun c1 => ?_)
  refine lv_aload_n hx hb dL_law_309 rfl (lv_at hl 3 rfl) ?_
  refine lv_iconst (v := nI 0) hx hb dL_law_310 (by decide) ?_
  refine lald0 hx hb hK hP 62 rfl dL_law_311 ?_
  rw [k7 c1]
  refine lv_iload hx hb dL_law_312 (lv_at hl 0 rfl) ?_
  refine lv_i2l (v := f.toInt64) hx hb dL_law_314 rfl ?_
  refine lv_lcmp0 hx hb dL_law_315 ?_
  exact lv_if_eq (tgt := 321) hx hb dL_law_316 (by decide) (fun _ => fin) (fun z => absurd rfl z)
set_option maxHeartbeats 4000000 in
set_option maxRecDepth 100000 in
theorem lc_quarrel (hfl : l.stackTraces = false) (hx : p.tables.exec = Jvm.exec) (hb : c.code = cL_law) (hml : c.maxLocals = 9) (hown : s.vm.findClass RL = some m.cls) (hts : ∀ w ∈ wsL_law, w.before args s = true) (hK : va_K Γ.1 vwCl (wtys Γ) s) (hA : ∀ q, s.heap.size ≤ q → A q) (hAm : Amb A s) (hX : va_X b N xs s s.heap) (hbl : b < s.heap.size) (hbA : ¬ A b) (hi : i + 4 ≤ N) (hN : N ≤ 2048) (hc : cells + 1 ≤ 601024) (hs : slots + 6 ≤ 7293034) (go : LGO p l e s m args below meth c A Γ q an ap qs ac au ax sa oa mo b i (cells + 1) (slots + 6) Q) {SL sr : Nat} {vs : Nat → Nat → Nat → Int32} {v vsp : Nat → Nat → Int32} {ck so sp : Nat → Int32} {L : Nat} {cs : Nat → Int32} {ol : Nat → Int64} {ms mt mc md : Nat → Int32} {n1 n3 n4 n5 : Int32} (hR : REL SL sr vs v ck so sp L cs ms mt) (hP : va_P Γ.1 vwCl (wcat [mnC q an ap qs ac au ax (nI SL), plB Γ an v, plB Γ ap vsp, saB Γ qs sa sr vs, cuB Γ ac ck, suB Γ au so sp, txB Γ ax cs (nI L), moB Γ mo ms mt mc md (nI SL) n1 (nI L) n3 n4 n5, ouB Γ oa ol]) H) (hD : va_D A (wcat [mnC q an ap qs ac au ax (nI SL), plB Γ an v, plB Γ ap vsp, saB Γ qs sa sr vs, cuB Γ ac ck, suB Γ au so sp, txB Γ ax cs (nI L), moB Γ mo ms mt mc md (nI SL) n1 (nI L) n3 n4 n5, ouB Γ oa ol])) (hS : va_S A s.heap H locs) (hl : lv_has ls 9 [(4, .int (nI i)), (3, .ref oa), (2, .ref (mo 0)), (1, .ref q), (0, .ref b)]) : W p l e room_1 s m args below meth c H locs cells slots Q (F0 m 324 ls []) := by
  have hAB : ∀ q : Nat, A q → A q := fun _ h => h
  obtain ⟨SL2, sr2, vs2, v2, vsp2, ck2, so2, sp2, L2, cs2, ol2, ms2, mt2, mc2, md2, m1, m3, m4, m5, r, f, rm, ⟨kJ, k1, k2, k3, k4⟩, k5, k6, k7, k8⟩ := st_quarrel (q := q) (an := an) (ap := ap) (qs := qs) (ac := ac) (au := au) (ax := ax) (sa := sa) (oa := oa) (mo := mo) (Γ := Γ) (vsp := vsp) (ol := ol) (mc := mc) (md := md) (n1 := n1) (n3 := n3) (n4 := n4) (n5 := n5) hfl hR (xs (nI i + nI 1).toNatClampNeg) (xs (nI i + nI 2).toNatClampNeg)
  refine lv_aload_n hx hb dL_law_324 rfl (lv_at hl 3 rfl) ?_
  refine lv_aload_n hx hb dL_law_325 rfl (lv_at hl 4 rfl) ?_
  refine lv_iload hx hb dL_law_326 (lv_at hl 0 rfl) ?_
  refine lv_iconst (v := nI 1) hx hb dL_law_328 (by decide) ?_
  refine lv_iadd hx hb dL_law_329 ?_
  refine va_sld hx hb hX hbl hbA hS (show vp_in (nI i + nI 1) N by rw [nI_add]; exact vp_in_nI (by omega) (by omega)) dL_law_330 ?_
  refine lv_aload_n hx hb dL_law_331 rfl (lv_at hl 4 rfl) ?_
  refine lv_iload hx hb dL_law_332 (lv_at hl 0 rfl) ?_
  refine lv_iconst (v := nI 2) hx hb dL_law_334 (by decide) ?_
  refine lv_iadd hx hb dL_law_335 ?_
  refine va_sld hx hb hX hbl hbA hS (show vp_in (nI i + nI 2) N by rw [nI_add]; exact vp_in_nI (by omega) (by omega)) dL_law_336 ?_
  refine lv_aload_n hx hb dL_law_337 rfl (lv_at hl 1 rfl) ?_
  refine cMJ (bc' := [mnC q an ap qs ac au ax (nI SL2), plB Γ an v2, plB Γ ap vsp2, saB Γ qs sa sr2 vs2, cuB Γ ac ck2, suB Γ au so2 sp2, txB Γ ax cs2 (nI L2), ouB Γ oa ol2]) (vx_runSW (As := [.ref q, .int (xs (nI i + nI 1).toNatClampNeg), .int (xs (nI i + nI 2).toNatClampNeg), .ref oa]) (rest := []) ⟨hx, hb, hml, hown, hts⟩ (kJ _) (vx_cwSW 4 hts gL_law_L_quarrel rfl rfl rfl (by decide +kernel) ⟨Nat.le_of_ble_eq_true rfl, Nat.le_of_ble_eq_true rfl⟩) ⟨wPre_blind, wPre_mk hP hD hK hS hA hAB hAm [0, 1, 2, 3, 4, 5, 6, 8] rfl rfl⟩ rfl rfl hl.1 rfl (lv_room (Nat.le_of_ble_eq_true rfl)) dL_law_338 ⟨hc, hs⟩) hP hD hS hA [0, 1, 2, 3, 4, 5, 6, 8] rfl (by simp only [List.map_cons, List.map_nil, suB_w, plB_w, cuB_w, txB_w, mnC_w, saB_w, ouB_w]) (bs' := [mnC q an ap qs ac au ax (nI SL2), plB Γ an v2, plB Γ ap vsp2, saB Γ qs sa sr2 vs2, cuB Γ ac ck2, suB Γ au so2 sp2, txB Γ ax cs2 (nI L2), moB Γ mo ms mt mc md (nI SL) n1 (nI L) n3 n4 n5, ouB Γ oa ol2]) rfl (fun H locs hP hD hS => ?_)
  refine lv_istore (lv' := [(5, .int r), (4, .int (nI i)), (3, .ref oa), (2, .ref (mo 0)), (1, .ref q), (0, .ref b)]) hx hb dL_law_341 hl (by decide) rfl (fun ls hl => ?_)
  refine lv_aload_n hx hb dL_law_343 rfl (lv_at hl 3 rfl) ?_
  refine lv_aload_n hx hb dL_law_344 rfl (lv_at hl 5 rfl) ?_
  refine lv_iload hx hb dL_law_345 (lv_at hl 1 rfl) ?_
  refine lv_iconst (v := nI 1) hx hb dL_law_347 (by decide) ?_
  refine lv_iadd hx hb dL_law_348 ?_
  refine va_sld hx hb hX hbl hbA hS (show vp_in (nI i + nI 1) N by rw [nI_add]; exact vp_in_nI (by omega) (by omega)) dL_law_349 ?_
  refine lv_aload_n hx hb dL_law_350 rfl (lv_at hl 5 rfl) ?_
  refine lv_iload hx hb dL_law_351 (lv_at hl 1 rfl) ?_
  refine lv_iconst (v := nI 2) hx hb dL_law_353 (by decide) ?_
  refine lv_iadd hx hb dL_law_354 ?_
  refine va_sld hx hb hX hbl hbA hS (show vp_in (nI i + nI 2) N by rw [nI_add]; exact vp_in_nI (by omega) (by omega)) dL_law_355 ?_
  refine cMI (bc' := [moB Γ mo ms2 mt2 mc2 md2 (nI SL2) m1 (nI L2) m3 m4 m5]) (va_runV (As := [.int (xs (nI i + nI 1).toNatClampNeg), .int (xs (nI i + nI 2).toNatClampNeg)]) (rest := []) ⟨hx, hb, hml, hown, hts⟩ (k5 _) (cwV 2 hts gL_law_X5_quarrel rfl k3 k4 (by decide +kernel) ⟨by show rm.frames + 1 ≤ 12; omega, by show 8 + (_ + 11) + rm.locals ≤ 436; omega⟩) ⟨wPre_blind, va_recv hK hP (ci := 5) (q0 := 57) rfl rfl, wPre_mk hP hD hK hS hA hAB hAm [7] rfl rfl⟩ rfl rfl hl.1 rfl (lv_room (Nat.le_of_ble_eq_true rfl)) dL_law_356 ⟨hc, hs⟩) hP hD hS hA [7] rfl (by simp only [List.map_cons, List.map_nil, moB_w]) (bs' := [mnC q an ap qs ac au ax (nI SL2), plB Γ an v2, plB Γ ap vsp2, saB Γ qs sa sr2 vs2, cuB Γ ac ck2, suB Γ au so2 sp2, txB Γ ax cs2 (nI L2), moB Γ mo ms2 mt2 mc2 md2 (nI SL2) m1 (nI L2) m3 m4 m5, ouB Γ oa ol2]) rfl (fun H locs hP hD hS => ?_)
  refine lv_istore (lv' := [(6, .int f), (5, .int r), (4, .int (nI i)), (3, .ref oa), (2, .ref (mo 0)), (1, .ref q), (0, .ref b)]) hx hb dL_law_359 hl (by decide) rfl (fun ls hl => ?_)
  refine lv_aload_n hx hb dL_law_361 rfl (lv_at hl 4 rfl) ?_
  refine cLI (va_runV (As := []) (rest := []) ⟨hx, hb, hml, hown, hts⟩ ((kX5_thrown l Γ mo ms2 mt2 mc2 md2 (nI SL2) m1 (nI L2) m3 m4 m5) _) (cwV 0 hts gL_law_X5_thrown rfl rfl rfl (by decide +kernel) ⟨Nat.le_of_ble_eq_true rfl, Nat.le_of_ble_eq_true rfl⟩) ⟨wPre_blind, va_recv hK hP (ci := 5) (q0 := 57) rfl rfl, wPre_mk hP hD hK hS hA hAB hAm [7] rfl rfl⟩ rfl rfl hl.1 rfl (lv_room (Nat.le_of_ble_eq_true rfl)) dL_law_362 ⟨hc, hs⟩) hP hS hA (fun H locs hP hS => ?_)
  refine lv_iload hx hb dL_law_365 (lv_at hl 1 rfl) ?_
  refine lv_icmp_eq (tgt := 372) hx hb dL_law_367 (by decide) (fun _ => ?_) (fun z => absurd k6 z)
  refine lv_iload hx hb dL_law_372 (lv_at hl 1 rfl) ?_
  have fin : W p l e room_1 s m args below meth c H locs (cells + 1) (slots + 6) Q (F0 m 389 ls []) := by
    refine lv_goto (tgt := 1404) hx hb dL_law_389 (by decide) ?_
    exact go SL2 sr2 vs2 v2 vsp2 ck2 so2 sp2 L2 cs2 ol2 ms2 mt2 mc2 md2 m1 m3 m4 m5 H locs ls k8 hP hD hS (lv_sub hl [2, 3, 4, 5, 6] rfl)
  refine lv_if_ne (tgt := 389) hx hb dL_law_374 (by decide) (fun _ => fin) (fun c1 => ?_)
  refine lv_aload_n hx hb dL_law_377 rfl (lv_at hl 3 rfl) ?_
  refine lv_iconst (v := nI 0) hx hb dL_law_378 (by decide) ?_
  refine lald0 hx hb hK hP 62 rfl dL_law_379 ?_
  rw [k7 c1]
  refine lv_iload hx hb dL_law_380 (lv_at hl 0 rfl) ?_
  refine lv_i2l (v := f.toInt64) hx hb dL_law_382 rfl ?_
  refine lv_lcmp0 hx hb dL_law_383 ?_
  exact lv_if_eq (tgt := 389) hx hb dL_law_384 (by decide) (fun _ => fin) (fun z => absurd rfl z)
set_option maxHeartbeats 4000000 in
set_option maxRecDepth 100000 in
theorem lc_seal (hfl : l.stackTraces = false) (hx : p.tables.exec = Jvm.exec) (hb : c.code = cL_law) (hml : c.maxLocals = 9) (hown : s.vm.findClass RL = some m.cls) (hts : ∀ w ∈ wsL_law, w.before args s = true) (hK : va_K Γ.1 vwCl (wtys Γ) s) (hA : ∀ q, s.heap.size ≤ q → A q) (hAm : Amb A s) (hX : va_X b N xs s s.heap) (hbl : b < s.heap.size) (hbA : ¬ A b) (hi : i + 4 ≤ N) (hN : N ≤ 2048) (hc : cells + 1 ≤ 601024) (hs : slots + 6 ≤ 7293034) (go : LGO p l e s m args below meth c A Γ q an ap qs ac au ax sa oa mo b i (cells + 1) (slots + 6) Q) {SL sr : Nat} {vs : Nat → Nat → Nat → Int32} {v vsp : Nat → Nat → Int32} {ck so sp : Nat → Int32} {L : Nat} {cs : Nat → Int32} {ol : Nat → Int64} {ms mt mc md : Nat → Int32} {n1 n3 n4 n5 : Int32} (hR : REL SL sr vs v ck so sp L cs ms mt) (hP : va_P Γ.1 vwCl (wcat [mnC q an ap qs ac au ax (nI SL), plB Γ an v, plB Γ ap vsp, saB Γ qs sa sr vs, cuB Γ ac ck, suB Γ au so sp, txB Γ ax cs (nI L), moB Γ mo ms mt mc md (nI SL) n1 (nI L) n3 n4 n5, ouB Γ oa ol]) H) (hD : va_D A (wcat [mnC q an ap qs ac au ax (nI SL), plB Γ an v, plB Γ ap vsp, saB Γ qs sa sr vs, cuB Γ ac ck, suB Γ au so sp, txB Γ ax cs (nI L), moB Γ mo ms mt mc md (nI SL) n1 (nI L) n3 n4 n5, ouB Γ oa ol])) (hS : va_S A s.heap H locs) (hl : lv_has ls 9 [(4, .int (nI i)), (3, .ref oa), (2, .ref (mo 0)), (1, .ref q), (0, .ref b)]) : W p l e room_1 s m args below meth c H locs cells slots Q (F0 m 392 ls []) := by
  have hAB : ∀ q : Nat, A q → A q := fun _ h => h
  obtain ⟨SL2, sr2, vs2, v2, vsp2, ck2, so2, sp2, L2, cs2, ol2, ms2, mt2, mc2, md2, m1, m3, m4, m5, r, f, rm, ⟨kJ, k1, k2, k3, k4⟩, k5, k6, k7, k8⟩ := st_seal (q := q) (an := an) (ap := ap) (qs := qs) (ac := ac) (au := au) (ax := ax) (sa := sa) (oa := oa) (mo := mo) (Γ := Γ) (vsp := vsp) (ol := ol) (mc := mc) (md := md) (n1 := n1) (n3 := n3) (n4 := n4) (n5 := n5) hfl hR (xs (nI i + nI 1).toNatClampNeg) (xs (nI i + nI 2).toNatClampNeg) (xs (nI i + nI 3).toNatClampNeg)
  refine lv_aload_n hx hb dL_law_392 rfl (lv_at hl 3 rfl) ?_
  refine lv_aload_n hx hb dL_law_393 rfl (lv_at hl 4 rfl) ?_
  refine lv_iload hx hb dL_law_394 (lv_at hl 0 rfl) ?_
  refine lv_iconst (v := nI 1) hx hb dL_law_396 (by decide) ?_
  refine lv_iadd hx hb dL_law_397 ?_
  refine va_sld hx hb hX hbl hbA hS (show vp_in (nI i + nI 1) N by rw [nI_add]; exact vp_in_nI (by omega) (by omega)) dL_law_398 ?_
  refine lv_aload_n hx hb dL_law_399 rfl (lv_at hl 4 rfl) ?_
  refine lv_iload hx hb dL_law_400 (lv_at hl 0 rfl) ?_
  refine lv_iconst (v := nI 2) hx hb dL_law_402 (by decide) ?_
  refine lv_iadd hx hb dL_law_403 ?_
  refine va_sld hx hb hX hbl hbA hS (show vp_in (nI i + nI 2) N by rw [nI_add]; exact vp_in_nI (by omega) (by omega)) dL_law_404 ?_
  refine lv_aload_n hx hb dL_law_405 rfl (lv_at hl 4 rfl) ?_
  refine lv_iload hx hb dL_law_406 (lv_at hl 0 rfl) ?_
  refine lv_iconst (v := nI 3) hx hb dL_law_408 (by decide) ?_
  refine lv_iadd hx hb dL_law_409 ?_
  refine va_sld hx hb hX hbl hbA hS (show vp_in (nI i + nI 3) N by rw [nI_add]; exact vp_in_nI (by omega) (by omega)) dL_law_410 ?_
  refine lv_aload_n hx hb dL_law_411 rfl (lv_at hl 1 rfl) ?_
  refine cMJ (bc' := [mnC q an ap qs ac au ax (nI SL2), plB Γ an v2, plB Γ ap vsp2, saB Γ qs sa sr2 vs2, cuB Γ ac ck2, suB Γ au so2 sp2, txB Γ ax cs2 (nI L2), ouB Γ oa ol2]) (vx_runSW (As := [.ref q, .int (xs (nI i + nI 1).toNatClampNeg), .int (xs (nI i + nI 2).toNatClampNeg), .int (xs (nI i + nI 3).toNatClampNeg), .ref oa]) (rest := []) ⟨hx, hb, hml, hown, hts⟩ (kJ _) (vx_cwSW 5 hts gL_law_L_seal rfl rfl rfl (by decide +kernel) ⟨Nat.le_of_ble_eq_true rfl, Nat.le_of_ble_eq_true rfl⟩) ⟨wPre_blind, wPre_mk hP hD hK hS hA hAB hAm [0, 1, 2, 3, 4, 5, 6, 8] rfl rfl⟩ rfl rfl hl.1 rfl (lv_room (Nat.le_of_ble_eq_true rfl)) dL_law_412 ⟨hc, hs⟩) hP hD hS hA [0, 1, 2, 3, 4, 5, 6, 8] rfl (by simp only [List.map_cons, List.map_nil, suB_w, plB_w, cuB_w, txB_w, mnC_w, saB_w, ouB_w]) (bs' := [mnC q an ap qs ac au ax (nI SL2), plB Γ an v2, plB Γ ap vsp2, saB Γ qs sa sr2 vs2, cuB Γ ac ck2, suB Γ au so2 sp2, txB Γ ax cs2 (nI L2), moB Γ mo ms mt mc md (nI SL) n1 (nI L) n3 n4 n5, ouB Γ oa ol2]) rfl (fun H locs hP hD hS => ?_)
  refine lv_istore (lv' := [(5, .int r), (4, .int (nI i)), (3, .ref oa), (2, .ref (mo 0)), (1, .ref q), (0, .ref b)]) hx hb dL_law_415 hl (by decide) rfl (fun ls hl => ?_)
  refine lv_aload_n hx hb dL_law_417 rfl (lv_at hl 3 rfl) ?_
  refine lv_aload_n hx hb dL_law_418 rfl (lv_at hl 5 rfl) ?_
  refine lv_iload hx hb dL_law_419 (lv_at hl 1 rfl) ?_
  refine lv_iconst (v := nI 1) hx hb dL_law_421 (by decide) ?_
  refine lv_iadd hx hb dL_law_422 ?_
  refine va_sld hx hb hX hbl hbA hS (show vp_in (nI i + nI 1) N by rw [nI_add]; exact vp_in_nI (by omega) (by omega)) dL_law_423 ?_
  refine lv_aload_n hx hb dL_law_424 rfl (lv_at hl 5 rfl) ?_
  refine lv_iload hx hb dL_law_425 (lv_at hl 1 rfl) ?_
  refine lv_iconst (v := nI 2) hx hb dL_law_427 (by decide) ?_
  refine lv_iadd hx hb dL_law_428 ?_
  refine va_sld hx hb hX hbl hbA hS (show vp_in (nI i + nI 2) N by rw [nI_add]; exact vp_in_nI (by omega) (by omega)) dL_law_429 ?_
  refine lv_aload_n hx hb dL_law_430 rfl (lv_at hl 5 rfl) ?_
  refine lv_iload hx hb dL_law_431 (lv_at hl 1 rfl) ?_
  refine lv_iconst (v := nI 3) hx hb dL_law_433 (by decide) ?_
  refine lv_iadd hx hb dL_law_434 ?_
  refine va_sld hx hb hX hbl hbA hS (show vp_in (nI i + nI 3) N by rw [nI_add]; exact vp_in_nI (by omega) (by omega)) dL_law_435 ?_
  refine cMI (bc' := [moB Γ mo ms2 mt2 mc2 md2 (nI SL2) m1 (nI L2) m3 m4 m5]) (va_runV (As := [.int (xs (nI i + nI 1).toNatClampNeg), .int (xs (nI i + nI 2).toNatClampNeg), .int (xs (nI i + nI 3).toNatClampNeg)]) (rest := []) ⟨hx, hb, hml, hown, hts⟩ (k5 _) (cwV 3 hts gL_law_X5_seal rfl k3 k4 (by decide +kernel) ⟨by show rm.frames + 1 ≤ 12; omega, by show 8 + (_ + 11) + rm.locals ≤ 436; omega⟩) ⟨wPre_blind, va_recv hK hP (ci := 5) (q0 := 57) rfl rfl, wPre_mk hP hD hK hS hA hAB hAm [7] rfl rfl⟩ rfl rfl hl.1 rfl (lv_room (Nat.le_of_ble_eq_true rfl)) dL_law_436 ⟨hc, hs⟩) hP hD hS hA [7] rfl (by simp only [List.map_cons, List.map_nil, moB_w]) (bs' := [mnC q an ap qs ac au ax (nI SL2), plB Γ an v2, plB Γ ap vsp2, saB Γ qs sa sr2 vs2, cuB Γ ac ck2, suB Γ au so2 sp2, txB Γ ax cs2 (nI L2), moB Γ mo ms2 mt2 mc2 md2 (nI SL2) m1 (nI L2) m3 m4 m5, ouB Γ oa ol2]) rfl (fun H locs hP hD hS => ?_)
  refine lv_istore (lv' := [(6, .int f), (5, .int r), (4, .int (nI i)), (3, .ref oa), (2, .ref (mo 0)), (1, .ref q), (0, .ref b)]) hx hb dL_law_439 hl (by decide) rfl (fun ls hl => ?_)
  refine lv_aload_n hx hb dL_law_441 rfl (lv_at hl 4 rfl) ?_
  refine cLI (va_runV (As := []) (rest := []) ⟨hx, hb, hml, hown, hts⟩ ((kX5_thrown l Γ mo ms2 mt2 mc2 md2 (nI SL2) m1 (nI L2) m3 m4 m5) _) (cwV 0 hts gL_law_X5_thrown rfl rfl rfl (by decide +kernel) ⟨Nat.le_of_ble_eq_true rfl, Nat.le_of_ble_eq_true rfl⟩) ⟨wPre_blind, va_recv hK hP (ci := 5) (q0 := 57) rfl rfl, wPre_mk hP hD hK hS hA hAB hAm [7] rfl rfl⟩ rfl rfl hl.1 rfl (lv_room (Nat.le_of_ble_eq_true rfl)) dL_law_442 ⟨hc, hs⟩) hP hS hA (fun H locs hP hS => ?_)
  refine lv_iload hx hb dL_law_445 (lv_at hl 1 rfl) ?_
  refine lv_icmp_eq (tgt := 452) hx hb dL_law_447 (by decide) (fun _ => ?_) (fun z => absurd k6 z)
  refine lv_iload hx hb dL_law_452 (lv_at hl 1 rfl) ?_
  have fin : W p l e room_1 s m args below meth c H locs (cells + 1) (slots + 6) Q (F0 m 469 ls []) := by
    refine lv_goto (tgt := 1404) hx hb dL_law_469 (by decide) ?_
    exact go SL2 sr2 vs2 v2 vsp2 ck2 so2 sp2 L2 cs2 ol2 ms2 mt2 mc2 md2 m1 m3 m4 m5 H locs ls k8 hP hD hS (lv_sub hl [2, 3, 4, 5, 6] rfl)
  refine lv_if_ne (tgt := 469) hx hb dL_law_454 (by decide) (fun _ => fin) (fun c1 => ?_)
  refine lv_aload_n hx hb dL_law_457 rfl (lv_at hl 3 rfl) ?_
  refine lv_iconst (v := nI 0) hx hb dL_law_458 (by decide) ?_
  refine lald0 hx hb hK hP 62 rfl dL_law_459 ?_
  rw [k7 c1]
  refine lv_iload hx hb dL_law_460 (lv_at hl 0 rfl) ?_
  refine lv_i2l (v := f.toInt64) hx hb dL_law_462 rfl ?_
  refine lv_lcmp0 hx hb dL_law_463 ?_
  exact lv_if_eq (tgt := 469) hx hb dL_law_464 (by decide) (fun _ => fin) (fun z => absurd rfl z)
set_option maxHeartbeats 4000000 in
set_option maxRecDepth 100000 in
theorem lc_renew (hfl : l.stackTraces = false) (hx : p.tables.exec = Jvm.exec) (hb : c.code = cL_law) (hml : c.maxLocals = 9) (hown : s.vm.findClass RL = some m.cls) (hts : ∀ w ∈ wsL_law, w.before args s = true) (hK : va_K Γ.1 vwCl (wtys Γ) s) (hA : ∀ q, s.heap.size ≤ q → A q) (hAm : Amb A s) (hX : va_X b N xs s s.heap) (hbl : b < s.heap.size) (hbA : ¬ A b) (hi : i + 4 ≤ N) (hN : N ≤ 2048) (hc : cells + 1 ≤ 601024) (hs : slots + 6 ≤ 7293034) (go : LGO p l e s m args below meth c A Γ q an ap qs ac au ax sa oa mo b i (cells + 1) (slots + 6) Q) {SL sr : Nat} {vs : Nat → Nat → Nat → Int32} {v vsp : Nat → Nat → Int32} {ck so sp : Nat → Int32} {L : Nat} {cs : Nat → Int32} {ol : Nat → Int64} {ms mt mc md : Nat → Int32} {n1 n3 n4 n5 : Int32} (hR : REL SL sr vs v ck so sp L cs ms mt) (hP : va_P Γ.1 vwCl (wcat [mnC q an ap qs ac au ax (nI SL), plB Γ an v, plB Γ ap vsp, saB Γ qs sa sr vs, cuB Γ ac ck, suB Γ au so sp, txB Γ ax cs (nI L), moB Γ mo ms mt mc md (nI SL) n1 (nI L) n3 n4 n5, ouB Γ oa ol]) H) (hD : va_D A (wcat [mnC q an ap qs ac au ax (nI SL), plB Γ an v, plB Γ ap vsp, saB Γ qs sa sr vs, cuB Γ ac ck, suB Γ au so sp, txB Γ ax cs (nI L), moB Γ mo ms mt mc md (nI SL) n1 (nI L) n3 n4 n5, ouB Γ oa ol])) (hS : va_S A s.heap H locs) (hl : lv_has ls 9 [(4, .int (nI i)), (3, .ref oa), (2, .ref (mo 0)), (1, .ref q), (0, .ref b)]) : W p l e room_1 s m args below meth c H locs cells slots Q (F0 m 472 ls []) := by
  have hAB : ∀ q : Nat, A q → A q := fun _ h => h
  obtain ⟨SL2, sr2, vs2, v2, vsp2, ck2, so2, sp2, L2, cs2, ol2, ms2, mt2, mc2, md2, m1, m3, m4, m5, r, f, rm, ⟨kJ, k1, k2, k3, k4⟩, k5, k6, k7, k8⟩ := st_renew (q := q) (an := an) (ap := ap) (qs := qs) (ac := ac) (au := au) (ax := ax) (sa := sa) (oa := oa) (mo := mo) (Γ := Γ) (vsp := vsp) (ol := ol) (mc := mc) (md := md) (n1 := n1) (n3 := n3) (n4 := n4) (n5 := n5) hfl hR 
  refine lv_aload_n hx hb dL_law_472 rfl (lv_at hl 3 rfl) ?_
  refine lv_aload_n hx hb dL_law_473 rfl (lv_at hl 1 rfl) ?_
  refine cMJ (bc' := [mnC q an ap qs ac au ax (nI SL2), plB Γ an v2, plB Γ ap vsp2, saB Γ qs sa sr2 vs2, cuB Γ ac ck2, suB Γ au so2 sp2, txB Γ ax cs2 (nI L2), ouB Γ oa ol2]) (vx_runSW (As := [.ref q, .ref oa]) (rest := []) ⟨hx, hb, hml, hown, hts⟩ (kJ _) (vx_cwSW 2 hts gL_law_L_renew rfl rfl rfl (by decide +kernel) ⟨Nat.le_of_ble_eq_true rfl, Nat.le_of_ble_eq_true rfl⟩) ⟨wPre_blind, wPre_mk hP hD hK hS hA hAB hAm [0, 1, 2, 3, 4, 5, 6, 8] rfl rfl⟩ rfl rfl hl.1 rfl (lv_room (Nat.le_of_ble_eq_true rfl)) dL_law_474 ⟨hc, hs⟩) hP hD hS hA [0, 1, 2, 3, 4, 5, 6, 8] rfl (by simp only [List.map_cons, List.map_nil, suB_w, plB_w, cuB_w, txB_w, mnC_w, saB_w, ouB_w]) (bs' := [mnC q an ap qs ac au ax (nI SL2), plB Γ an v2, plB Γ ap vsp2, saB Γ qs sa sr2 vs2, cuB Γ ac ck2, suB Γ au so2 sp2, txB Γ ax cs2 (nI L2), moB Γ mo ms mt mc md (nI SL) n1 (nI L) n3 n4 n5, ouB Γ oa ol2]) rfl (fun H locs hP hD hS => ?_)
  refine lv_istore (lv' := [(5, .int r), (4, .int (nI i)), (3, .ref oa), (2, .ref (mo 0)), (1, .ref q), (0, .ref b)]) hx hb dL_law_477 hl (by decide) rfl (fun ls hl => ?_)
  refine lv_aload_n hx hb dL_law_479 rfl (lv_at hl 3 rfl) ?_
  refine cMI (bc' := [moB Γ mo ms2 mt2 mc2 md2 (nI SL2) m1 (nI L2) m3 m4 m5]) (va_runV (As := []) (rest := []) ⟨hx, hb, hml, hown, hts⟩ (k5 _) (cwV 0 hts gL_law_X5_renew rfl k3 k4 (by decide +kernel) ⟨by show rm.frames + 1 ≤ 12; omega, by show 8 + (_ + 11) + rm.locals ≤ 436; omega⟩) ⟨wPre_blind, va_recv hK hP (ci := 5) (q0 := 57) rfl rfl, wPre_mk hP hD hK hS hA hAB hAm [7] rfl rfl⟩ rfl rfl hl.1 rfl (lv_room (Nat.le_of_ble_eq_true rfl)) dL_law_480 ⟨hc, hs⟩) hP hD hS hA [7] rfl (by simp only [List.map_cons, List.map_nil, moB_w]) (bs' := [mnC q an ap qs ac au ax (nI SL2), plB Γ an v2, plB Γ ap vsp2, saB Γ qs sa sr2 vs2, cuB Γ ac ck2, suB Γ au so2 sp2, txB Γ ax cs2 (nI L2), moB Γ mo ms2 mt2 mc2 md2 (nI SL2) m1 (nI L2) m3 m4 m5, ouB Γ oa ol2]) rfl (fun H locs hP hD hS => ?_)
  refine lv_istore (lv' := [(6, .int f), (5, .int r), (4, .int (nI i)), (3, .ref oa), (2, .ref (mo 0)), (1, .ref q), (0, .ref b)]) hx hb dL_law_483 hl (by decide) rfl (fun ls hl => ?_)
  refine lv_aload_n hx hb dL_law_485 rfl (lv_at hl 4 rfl) ?_
  refine cLI (va_runV (As := []) (rest := []) ⟨hx, hb, hml, hown, hts⟩ ((kX5_thrown l Γ mo ms2 mt2 mc2 md2 (nI SL2) m1 (nI L2) m3 m4 m5) _) (cwV 0 hts gL_law_X5_thrown rfl rfl rfl (by decide +kernel) ⟨Nat.le_of_ble_eq_true rfl, Nat.le_of_ble_eq_true rfl⟩) ⟨wPre_blind, va_recv hK hP (ci := 5) (q0 := 57) rfl rfl, wPre_mk hP hD hK hS hA hAB hAm [7] rfl rfl⟩ rfl rfl hl.1 rfl (lv_room (Nat.le_of_ble_eq_true rfl)) dL_law_486 ⟨hc, hs⟩) hP hS hA (fun H locs hP hS => ?_)
  refine lv_iload hx hb dL_law_489 (lv_at hl 1 rfl) ?_
  refine lv_icmp_eq (tgt := 496) hx hb dL_law_491 (by decide) (fun _ => ?_) (fun z => absurd k6 z)
  refine lv_iload hx hb dL_law_496 (lv_at hl 1 rfl) ?_
  have fin : W p l e room_1 s m args below meth c H locs (cells + 1) (slots + 6) Q (F0 m 513 ls []) := by
    refine lv_goto (tgt := 1404) hx hb dL_law_513 (by decide) ?_
    exact go SL2 sr2 vs2 v2 vsp2 ck2 so2 sp2 L2 cs2 ol2 ms2 mt2 mc2 md2 m1 m3 m4 m5 H locs ls k8 hP hD hS (lv_sub hl [2, 3, 4, 5, 6] rfl)
  refine lv_if_ne (tgt := 513) hx hb dL_law_498 (by decide) (fun _ => fin) (fun c1 => ?_)
  refine lv_aload_n hx hb dL_law_501 rfl (lv_at hl 3 rfl) ?_
  refine lv_iconst (v := nI 0) hx hb dL_law_502 (by decide) ?_
  refine lald0 hx hb hK hP 62 rfl dL_law_503 ?_
  rw [k7 c1]
  refine lv_iload hx hb dL_law_504 (lv_at hl 0 rfl) ?_
  refine lv_i2l (v := f.toInt64) hx hb dL_law_506 rfl ?_
  refine lv_lcmp0 hx hb dL_law_507 ?_
  exact lv_if_eq (tgt := 513) hx hb dL_law_508 (by decide) (fun _ => fin) (fun z => absurd rfl z)
set_option maxHeartbeats 4000000 in
set_option maxRecDepth 100000 in
theorem lc_forge (hfl : l.stackTraces = false) (hx : p.tables.exec = Jvm.exec) (hb : c.code = cL_law) (hml : c.maxLocals = 9) (hown : s.vm.findClass RL = some m.cls) (hts : ∀ w ∈ wsL_law, w.before args s = true) (hK : va_K Γ.1 vwCl (wtys Γ) s) (hA : ∀ q, s.heap.size ≤ q → A q) (hAm : Amb A s) (hX : va_X b N xs s s.heap) (hbl : b < s.heap.size) (hbA : ¬ A b) (hi : i + 4 ≤ N) (hN : N ≤ 2048) (hc : cells + 1 ≤ 601024) (hs : slots + 6 ≤ 7293034) (go : LGO p l e s m args below meth c A Γ q an ap qs ac au ax sa oa mo b i (cells + 1) (slots + 6) Q) {SL sr : Nat} {vs : Nat → Nat → Nat → Int32} {v vsp : Nat → Nat → Int32} {ck so sp : Nat → Int32} {L : Nat} {cs : Nat → Int32} {ol : Nat → Int64} {ms mt mc md : Nat → Int32} {n1 n3 n4 n5 : Int32} (hR : REL SL sr vs v ck so sp L cs ms mt) (hP : va_P Γ.1 vwCl (wcat [mnC q an ap qs ac au ax (nI SL), plB Γ an v, plB Γ ap vsp, saB Γ qs sa sr vs, cuB Γ ac ck, suB Γ au so sp, txB Γ ax cs (nI L), moB Γ mo ms mt mc md (nI SL) n1 (nI L) n3 n4 n5, ouB Γ oa ol]) H) (hD : va_D A (wcat [mnC q an ap qs ac au ax (nI SL), plB Γ an v, plB Γ ap vsp, saB Γ qs sa sr vs, cuB Γ ac ck, suB Γ au so sp, txB Γ ax cs (nI L), moB Γ mo ms mt mc md (nI SL) n1 (nI L) n3 n4 n5, ouB Γ oa ol])) (hS : va_S A s.heap H locs) (hl : lv_has ls 9 [(4, .int (nI i)), (3, .ref oa), (2, .ref (mo 0)), (1, .ref q), (0, .ref b)]) : W p l e room_1 s m args below meth c H locs cells slots Q (F0 m 516 ls []) := by
  have hAB : ∀ q : Nat, A q → A q := fun _ h => h
  obtain ⟨SL2, sr2, vs2, v2, vsp2, ck2, so2, sp2, L2, cs2, ol2, ms2, mt2, mc2, md2, m1, m3, m4, m5, r, f, rm, ⟨kJ, k1, k2, k3, k4⟩, k5, k6, k7, k8⟩ := st_forge (q := q) (an := an) (ap := ap) (qs := qs) (ac := ac) (au := au) (ax := ax) (sa := sa) (oa := oa) (mo := mo) (Γ := Γ) (vsp := vsp) (ol := ol) (mc := mc) (md := md) (n1 := n1) (n3 := n3) (n4 := n4) (n5 := n5) hfl hR (xs (nI i + nI 1).toNatClampNeg) (xs (nI i + nI 2).toNatClampNeg)
  refine lv_aload_n hx hb dL_law_516 rfl (lv_at hl 3 rfl) ?_
  refine lv_aload_n hx hb dL_law_517 rfl (lv_at hl 4 rfl) ?_
  refine lv_iload hx hb dL_law_518 (lv_at hl 0 rfl) ?_
  refine lv_iconst (v := nI 1) hx hb dL_law_520 (by decide) ?_
  refine lv_iadd hx hb dL_law_521 ?_
  refine va_sld hx hb hX hbl hbA hS (show vp_in (nI i + nI 1) N by rw [nI_add]; exact vp_in_nI (by omega) (by omega)) dL_law_522 ?_
  refine lv_aload_n hx hb dL_law_523 rfl (lv_at hl 4 rfl) ?_
  refine lv_iload hx hb dL_law_524 (lv_at hl 0 rfl) ?_
  refine lv_iconst (v := nI 2) hx hb dL_law_526 (by decide) ?_
  refine lv_iadd hx hb dL_law_527 ?_
  refine va_sld hx hb hX hbl hbA hS (show vp_in (nI i + nI 2) N by rw [nI_add]; exact vp_in_nI (by omega) (by omega)) dL_law_528 ?_
  refine lv_aload_n hx hb dL_law_529 rfl (lv_at hl 1 rfl) ?_
  refine cMJ (bc' := [mnC q an ap qs ac au ax (nI SL2), plB Γ an v2, plB Γ ap vsp2, saB Γ qs sa sr2 vs2, cuB Γ ac ck2, suB Γ au so2 sp2, txB Γ ax cs2 (nI L2), ouB Γ oa ol2]) (vx_runSW (As := [.ref q, .int (xs (nI i + nI 1).toNatClampNeg), .int (xs (nI i + nI 2).toNatClampNeg), .ref oa]) (rest := []) ⟨hx, hb, hml, hown, hts⟩ (kJ _) (vx_cwSW 4 hts gL_law_L_forge rfl rfl rfl (by decide +kernel) ⟨Nat.le_of_ble_eq_true rfl, Nat.le_of_ble_eq_true rfl⟩) ⟨wPre_blind, wPre_mk hP hD hK hS hA hAB hAm [0, 1, 2, 3, 4, 5, 6, 8] rfl rfl⟩ rfl rfl hl.1 rfl (lv_room (Nat.le_of_ble_eq_true rfl)) dL_law_530 ⟨hc, hs⟩) hP hD hS hA [0, 1, 2, 3, 4, 5, 6, 8] rfl (by simp only [List.map_cons, List.map_nil, suB_w, plB_w, cuB_w, txB_w, mnC_w, saB_w, ouB_w]) (bs' := [mnC q an ap qs ac au ax (nI SL2), plB Γ an v2, plB Γ ap vsp2, saB Γ qs sa sr2 vs2, cuB Γ ac ck2, suB Γ au so2 sp2, txB Γ ax cs2 (nI L2), moB Γ mo ms mt mc md (nI SL) n1 (nI L) n3 n4 n5, ouB Γ oa ol2]) rfl (fun H locs hP hD hS => ?_)
  refine lv_istore (lv' := [(5, .int r), (4, .int (nI i)), (3, .ref oa), (2, .ref (mo 0)), (1, .ref q), (0, .ref b)]) hx hb dL_law_533 hl (by decide) rfl (fun ls hl => ?_)
  refine lv_aload_n hx hb dL_law_535 rfl (lv_at hl 3 rfl) ?_
  refine lv_aload_n hx hb dL_law_536 rfl (lv_at hl 5 rfl) ?_
  refine lv_iload hx hb dL_law_537 (lv_at hl 1 rfl) ?_
  refine lv_iconst (v := nI 1) hx hb dL_law_539 (by decide) ?_
  refine lv_iadd hx hb dL_law_540 ?_
  refine va_sld hx hb hX hbl hbA hS (show vp_in (nI i + nI 1) N by rw [nI_add]; exact vp_in_nI (by omega) (by omega)) dL_law_541 ?_
  refine lv_aload_n hx hb dL_law_542 rfl (lv_at hl 5 rfl) ?_
  refine lv_iload hx hb dL_law_543 (lv_at hl 1 rfl) ?_
  refine lv_iconst (v := nI 2) hx hb dL_law_545 (by decide) ?_
  refine lv_iadd hx hb dL_law_546 ?_
  refine va_sld hx hb hX hbl hbA hS (show vp_in (nI i + nI 2) N by rw [nI_add]; exact vp_in_nI (by omega) (by omega)) dL_law_547 ?_
  refine cMI (bc' := [moB Γ mo ms2 mt2 mc2 md2 (nI SL2) m1 (nI L2) m3 m4 m5]) (va_runV (As := [.int (xs (nI i + nI 1).toNatClampNeg), .int (xs (nI i + nI 2).toNatClampNeg)]) (rest := []) ⟨hx, hb, hml, hown, hts⟩ (k5 _) (cwV 2 hts gL_law_X5_forge rfl k3 k4 (by decide +kernel) ⟨by show rm.frames + 1 ≤ 12; omega, by show 8 + (_ + 11) + rm.locals ≤ 436; omega⟩) ⟨wPre_blind, va_recv hK hP (ci := 5) (q0 := 57) rfl rfl, wPre_mk hP hD hK hS hA hAB hAm [7] rfl rfl⟩ rfl rfl hl.1 rfl (lv_room (Nat.le_of_ble_eq_true rfl)) dL_law_548 ⟨hc, hs⟩) hP hD hS hA [7] rfl (by simp only [List.map_cons, List.map_nil, moB_w]) (bs' := [mnC q an ap qs ac au ax (nI SL2), plB Γ an v2, plB Γ ap vsp2, saB Γ qs sa sr2 vs2, cuB Γ ac ck2, suB Γ au so2 sp2, txB Γ ax cs2 (nI L2), moB Γ mo ms2 mt2 mc2 md2 (nI SL2) m1 (nI L2) m3 m4 m5, ouB Γ oa ol2]) rfl (fun H locs hP hD hS => ?_)
  refine lv_istore (lv' := [(6, .int f), (5, .int r), (4, .int (nI i)), (3, .ref oa), (2, .ref (mo 0)), (1, .ref q), (0, .ref b)]) hx hb dL_law_551 hl (by decide) rfl (fun ls hl => ?_)
  refine lv_aload_n hx hb dL_law_553 rfl (lv_at hl 4 rfl) ?_
  refine cLI (va_runV (As := []) (rest := []) ⟨hx, hb, hml, hown, hts⟩ ((kX5_thrown l Γ mo ms2 mt2 mc2 md2 (nI SL2) m1 (nI L2) m3 m4 m5) _) (cwV 0 hts gL_law_X5_thrown rfl rfl rfl (by decide +kernel) ⟨Nat.le_of_ble_eq_true rfl, Nat.le_of_ble_eq_true rfl⟩) ⟨wPre_blind, va_recv hK hP (ci := 5) (q0 := 57) rfl rfl, wPre_mk hP hD hK hS hA hAB hAm [7] rfl rfl⟩ rfl rfl hl.1 rfl (lv_room (Nat.le_of_ble_eq_true rfl)) dL_law_554 ⟨hc, hs⟩) hP hS hA (fun H locs hP hS => ?_)
  refine lv_iload hx hb dL_law_557 (lv_at hl 1 rfl) ?_
  refine lv_icmp_eq (tgt := 564) hx hb dL_law_559 (by decide) (fun _ => ?_) (fun z => absurd k6 z)
  refine lv_iload hx hb dL_law_564 (lv_at hl 1 rfl) ?_
  have fin : W p l e room_1 s m args below meth c H locs (cells + 1) (slots + 6) Q (F0 m 581 ls []) := by
    refine lv_goto (tgt := 1404) hx hb dL_law_581 (by decide) ?_
    exact go SL2 sr2 vs2 v2 vsp2 ck2 so2 sp2 L2 cs2 ol2 ms2 mt2 mc2 md2 m1 m3 m4 m5 H locs ls k8 hP hD hS (lv_sub hl [2, 3, 4, 5, 6] rfl)
  refine lv_if_ne (tgt := 581) hx hb dL_law_566 (by decide) (fun _ => fin) (fun c1 => ?_)
  refine lv_aload_n hx hb dL_law_569 rfl (lv_at hl 3 rfl) ?_
  refine lv_iconst (v := nI 0) hx hb dL_law_570 (by decide) ?_
  refine lald0 hx hb hK hP 62 rfl dL_law_571 ?_
  rw [k7 c1]
  refine lv_iload hx hb dL_law_572 (lv_at hl 0 rfl) ?_
  refine lv_i2l (v := f.toInt64) hx hb dL_law_574 rfl ?_
  refine lv_lcmp0 hx hb dL_law_575 ?_
  exact lv_if_eq (tgt := 581) hx hb dL_law_576 (by decide) (fun _ => fin) (fun z => absurd rfl z)
set_option maxHeartbeats 4000000 in
set_option maxRecDepth 100000 in
theorem lc_pass (hfl : l.stackTraces = false) (hx : p.tables.exec = Jvm.exec) (hb : c.code = cL_law) (hml : c.maxLocals = 9) (hown : s.vm.findClass RL = some m.cls) (hts : ∀ w ∈ wsL_law, w.before args s = true) (hK : va_K Γ.1 vwCl (wtys Γ) s) (hA : ∀ q, s.heap.size ≤ q → A q) (hAm : Amb A s) (hX : va_X b N xs s s.heap) (hbl : b < s.heap.size) (hbA : ¬ A b) (hi : i + 4 ≤ N) (hN : N ≤ 2048) (hc : cells + 1 ≤ 601024) (hs : slots + 6 ≤ 7293034) (go : LGO p l e s m args below meth c A Γ q an ap qs ac au ax sa oa mo b i (cells + 1) (slots + 6) Q) {SL sr : Nat} {vs : Nat → Nat → Nat → Int32} {v vsp : Nat → Nat → Int32} {ck so sp : Nat → Int32} {L : Nat} {cs : Nat → Int32} {ol : Nat → Int64} {ms mt mc md : Nat → Int32} {n1 n3 n4 n5 : Int32} (hR : REL SL sr vs v ck so sp L cs ms mt) (hP : va_P Γ.1 vwCl (wcat [mnC q an ap qs ac au ax (nI SL), plB Γ an v, plB Γ ap vsp, saB Γ qs sa sr vs, cuB Γ ac ck, suB Γ au so sp, txB Γ ax cs (nI L), moB Γ mo ms mt mc md (nI SL) n1 (nI L) n3 n4 n5, ouB Γ oa ol]) H) (hD : va_D A (wcat [mnC q an ap qs ac au ax (nI SL), plB Γ an v, plB Γ ap vsp, saB Γ qs sa sr vs, cuB Γ ac ck, suB Γ au so sp, txB Γ ax cs (nI L), moB Γ mo ms mt mc md (nI SL) n1 (nI L) n3 n4 n5, ouB Γ oa ol])) (hS : va_S A s.heap H locs) (hl : lv_has ls 9 [(4, .int (nI i)), (3, .ref oa), (2, .ref (mo 0)), (1, .ref q), (0, .ref b)]) : W p l e room_1 s m args below meth c H locs cells slots Q (F0 m 584 ls []) := by
  have hAB : ∀ q : Nat, A q → A q := fun _ h => h
  obtain ⟨SL2, sr2, vs2, v2, vsp2, ck2, so2, sp2, L2, cs2, ol2, ms2, mt2, mc2, md2, m1, m3, m4, m5, r, f, rm, ⟨kJ, k1, k2, k3, k4⟩, k5, k6, k7, k8⟩ := st_pass (q := q) (an := an) (ap := ap) (qs := qs) (ac := ac) (au := au) (ax := ax) (sa := sa) (oa := oa) (mo := mo) (Γ := Γ) (vsp := vsp) (ol := ol) (mc := mc) (md := md) (n1 := n1) (n3 := n3) (n4 := n4) (n5 := n5) hfl hR (xs (nI i + nI 1).toNatClampNeg)
  refine lv_aload_n hx hb dL_law_584 rfl (lv_at hl 3 rfl) ?_
  refine lv_aload_n hx hb dL_law_585 rfl (lv_at hl 4 rfl) ?_
  refine lv_iload hx hb dL_law_586 (lv_at hl 0 rfl) ?_
  refine lv_iconst (v := nI 1) hx hb dL_law_588 (by decide) ?_
  refine lv_iadd hx hb dL_law_589 ?_
  refine va_sld hx hb hX hbl hbA hS (show vp_in (nI i + nI 1) N by rw [nI_add]; exact vp_in_nI (by omega) (by omega)) dL_law_590 ?_
  refine lv_aload_n hx hb dL_law_591 rfl (lv_at hl 1 rfl) ?_
  refine cMJ (bc' := [mnC q an ap qs ac au ax (nI SL2), plB Γ an v2, plB Γ ap vsp2, saB Γ qs sa sr2 vs2, cuB Γ ac ck2, suB Γ au so2 sp2, txB Γ ax cs2 (nI L2), ouB Γ oa ol2]) (vx_runSW (As := [.ref q, .int (xs (nI i + nI 1).toNatClampNeg), .ref oa]) (rest := []) ⟨hx, hb, hml, hown, hts⟩ (kJ _) (vx_cwSW 3 hts gL_law_L_pass rfl rfl rfl (by decide +kernel) ⟨Nat.le_of_ble_eq_true rfl, Nat.le_of_ble_eq_true rfl⟩) ⟨wPre_blind, wPre_mk hP hD hK hS hA hAB hAm [0, 1, 2, 3, 4, 5, 6, 8] rfl rfl⟩ rfl rfl hl.1 rfl (lv_room (Nat.le_of_ble_eq_true rfl)) dL_law_592 ⟨hc, hs⟩) hP hD hS hA [0, 1, 2, 3, 4, 5, 6, 8] rfl (by simp only [List.map_cons, List.map_nil, suB_w, plB_w, cuB_w, txB_w, mnC_w, saB_w, ouB_w]) (bs' := [mnC q an ap qs ac au ax (nI SL2), plB Γ an v2, plB Γ ap vsp2, saB Γ qs sa sr2 vs2, cuB Γ ac ck2, suB Γ au so2 sp2, txB Γ ax cs2 (nI L2), moB Γ mo ms mt mc md (nI SL) n1 (nI L) n3 n4 n5, ouB Γ oa ol2]) rfl (fun H locs hP hD hS => ?_)
  refine lv_istore (lv' := [(5, .int r), (4, .int (nI i)), (3, .ref oa), (2, .ref (mo 0)), (1, .ref q), (0, .ref b)]) hx hb dL_law_595 hl (by decide) rfl (fun ls hl => ?_)
  refine lv_aload_n hx hb dL_law_597 rfl (lv_at hl 3 rfl) ?_
  refine lv_aload_n hx hb dL_law_598 rfl (lv_at hl 5 rfl) ?_
  refine lv_iload hx hb dL_law_599 (lv_at hl 1 rfl) ?_
  refine lv_iconst (v := nI 1) hx hb dL_law_601 (by decide) ?_
  refine lv_iadd hx hb dL_law_602 ?_
  refine va_sld hx hb hX hbl hbA hS (show vp_in (nI i + nI 1) N by rw [nI_add]; exact vp_in_nI (by omega) (by omega)) dL_law_603 ?_
  refine cMI (bc' := [moB Γ mo ms2 mt2 mc2 md2 (nI SL2) m1 (nI L2) m3 m4 m5]) (va_runV (As := [.int (xs (nI i + nI 1).toNatClampNeg)]) (rest := []) ⟨hx, hb, hml, hown, hts⟩ (k5 _) (cwV 1 hts gL_law_X5_pass rfl k3 k4 (by decide +kernel) ⟨by show rm.frames + 1 ≤ 12; omega, by show 8 + (_ + 11) + rm.locals ≤ 436; omega⟩) ⟨wPre_blind, va_recv hK hP (ci := 5) (q0 := 57) rfl rfl, wPre_mk hP hD hK hS hA hAB hAm [7] rfl rfl⟩ rfl rfl hl.1 rfl (lv_room (Nat.le_of_ble_eq_true rfl)) dL_law_604 ⟨hc, hs⟩) hP hD hS hA [7] rfl (by simp only [List.map_cons, List.map_nil, moB_w]) (bs' := [mnC q an ap qs ac au ax (nI SL2), plB Γ an v2, plB Γ ap vsp2, saB Γ qs sa sr2 vs2, cuB Γ ac ck2, suB Γ au so2 sp2, txB Γ ax cs2 (nI L2), moB Γ mo ms2 mt2 mc2 md2 (nI SL2) m1 (nI L2) m3 m4 m5, ouB Γ oa ol2]) rfl (fun H locs hP hD hS => ?_)
  refine lv_istore (lv' := [(6, .int f), (5, .int r), (4, .int (nI i)), (3, .ref oa), (2, .ref (mo 0)), (1, .ref q), (0, .ref b)]) hx hb dL_law_607 hl (by decide) rfl (fun ls hl => ?_)
  refine lv_aload_n hx hb dL_law_609 rfl (lv_at hl 4 rfl) ?_
  refine cLI (va_runV (As := []) (rest := []) ⟨hx, hb, hml, hown, hts⟩ ((kX5_thrown l Γ mo ms2 mt2 mc2 md2 (nI SL2) m1 (nI L2) m3 m4 m5) _) (cwV 0 hts gL_law_X5_thrown rfl rfl rfl (by decide +kernel) ⟨Nat.le_of_ble_eq_true rfl, Nat.le_of_ble_eq_true rfl⟩) ⟨wPre_blind, va_recv hK hP (ci := 5) (q0 := 57) rfl rfl, wPre_mk hP hD hK hS hA hAB hAm [7] rfl rfl⟩ rfl rfl hl.1 rfl (lv_room (Nat.le_of_ble_eq_true rfl)) dL_law_610 ⟨hc, hs⟩) hP hS hA (fun H locs hP hS => ?_)
  refine lv_iload hx hb dL_law_613 (lv_at hl 1 rfl) ?_
  refine lv_icmp_eq (tgt := 620) hx hb dL_law_615 (by decide) (fun _ => ?_) (fun z => absurd k6 z)
  refine lv_iload hx hb dL_law_620 (lv_at hl 1 rfl) ?_
  have fin : W p l e room_1 s m args below meth c H locs (cells + 1) (slots + 6) Q (F0 m 637 ls []) := by
    refine lv_goto (tgt := 1404) hx hb dL_law_637 (by decide) ?_
    exact go SL2 sr2 vs2 v2 vsp2 ck2 so2 sp2 L2 cs2 ol2 ms2 mt2 mc2 md2 m1 m3 m4 m5 H locs ls k8 hP hD hS (lv_sub hl [2, 3, 4, 5, 6] rfl)
  refine lv_if_ne (tgt := 637) hx hb dL_law_622 (by decide) (fun _ => fin) (fun c1 => ?_)
  refine lv_aload_n hx hb dL_law_625 rfl (lv_at hl 3 rfl) ?_
  refine lv_iconst (v := nI 0) hx hb dL_law_626 (by decide) ?_
  refine lald0 hx hb hK hP 62 rfl dL_law_627 ?_
  rw [k7 c1]
  refine lv_iload hx hb dL_law_628 (lv_at hl 0 rfl) ?_
  refine lv_i2l (v := f.toInt64) hx hb dL_law_630 rfl ?_
  refine lv_lcmp0 hx hb dL_law_631 ?_
  exact lv_if_eq (tgt := 637) hx hb dL_law_632 (by decide) (fun _ => fin) (fun z => absurd rfl z)
set_option maxHeartbeats 4000000 in
set_option maxRecDepth 100000 in
theorem lc_open (hfl : l.stackTraces = false) (hx : p.tables.exec = Jvm.exec) (hb : c.code = cL_law) (hml : c.maxLocals = 9) (hown : s.vm.findClass RL = some m.cls) (hts : ∀ w ∈ wsL_law, w.before args s = true) (hK : va_K Γ.1 vwCl (wtys Γ) s) (hA : ∀ q, s.heap.size ≤ q → A q) (hAm : Amb A s) (hX : va_X b N xs s s.heap) (hbl : b < s.heap.size) (hbA : ¬ A b) (hi : i + 4 ≤ N) (hN : N ≤ 2048) (hc : cells + 1 ≤ 601024) (hs : slots + 6 ≤ 7293034) (go : LGO p l e s m args below meth c A Γ q an ap qs ac au ax sa oa mo b i (cells + 1) (slots + 6) Q) {SL sr : Nat} {vs : Nat → Nat → Nat → Int32} {v vsp : Nat → Nat → Int32} {ck so sp : Nat → Int32} {L : Nat} {cs : Nat → Int32} {ol : Nat → Int64} {ms mt mc md : Nat → Int32} {n1 n3 n4 n5 : Int32} (hR : REL SL sr vs v ck so sp L cs ms mt) (hP : va_P Γ.1 vwCl (wcat [mnC q an ap qs ac au ax (nI SL), plB Γ an v, plB Γ ap vsp, saB Γ qs sa sr vs, cuB Γ ac ck, suB Γ au so sp, txB Γ ax cs (nI L), moB Γ mo ms mt mc md (nI SL) n1 (nI L) n3 n4 n5, ouB Γ oa ol]) H) (hD : va_D A (wcat [mnC q an ap qs ac au ax (nI SL), plB Γ an v, plB Γ ap vsp, saB Γ qs sa sr vs, cuB Γ ac ck, suB Γ au so sp, txB Γ ax cs (nI L), moB Γ mo ms mt mc md (nI SL) n1 (nI L) n3 n4 n5, ouB Γ oa ol])) (hS : va_S A s.heap H locs) (hl : lv_has ls 9 [(4, .int (nI i)), (3, .ref oa), (2, .ref (mo 0)), (1, .ref q), (0, .ref b)]) : W p l e room_1 s m args below meth c H locs cells slots Q (F0 m 640 ls []) := by
  have hAB : ∀ q : Nat, A q → A q := fun _ h => h
  obtain ⟨SL2, sr2, vs2, v2, vsp2, ck2, so2, sp2, L2, cs2, ol2, ms2, mt2, mc2, md2, m1, m3, m4, m5, r, f, rm, ⟨kJ, k1, k2, k3, k4⟩, k5, k6, k7, k8⟩ := st_open (q := q) (an := an) (ap := ap) (qs := qs) (ac := ac) (au := au) (ax := ax) (sa := sa) (oa := oa) (mo := mo) (Γ := Γ) (vsp := vsp) (ol := ol) (mc := mc) (md := md) (n1 := n1) (n3 := n3) (n4 := n4) (n5 := n5) hfl hR (xs (nI i + nI 1).toNatClampNeg)
  refine lv_aload_n hx hb dL_law_640 rfl (lv_at hl 3 rfl) ?_
  refine lv_aload_n hx hb dL_law_641 rfl (lv_at hl 4 rfl) ?_
  refine lv_iload hx hb dL_law_642 (lv_at hl 0 rfl) ?_
  refine lv_iconst (v := nI 1) hx hb dL_law_644 (by decide) ?_
  refine lv_iadd hx hb dL_law_645 ?_
  refine va_sld hx hb hX hbl hbA hS (show vp_in (nI i + nI 1) N by rw [nI_add]; exact vp_in_nI (by omega) (by omega)) dL_law_646 ?_
  refine lv_aload_n hx hb dL_law_647 rfl (lv_at hl 1 rfl) ?_
  refine cMJ (bc' := [mnC q an ap qs ac au ax (nI SL2), plB Γ an v2, plB Γ ap vsp2, saB Γ qs sa sr2 vs2, cuB Γ ac ck2, suB Γ au so2 sp2, txB Γ ax cs2 (nI L2), ouB Γ oa ol2]) (vx_runSW (As := [.ref q, .int (xs (nI i + nI 1).toNatClampNeg), .ref oa]) (rest := []) ⟨hx, hb, hml, hown, hts⟩ (kJ _) (vx_cwSW 3 hts gL_law_L_open rfl rfl rfl (by decide +kernel) ⟨Nat.le_of_ble_eq_true rfl, Nat.le_of_ble_eq_true rfl⟩) ⟨wPre_blind, wPre_mk hP hD hK hS hA hAB hAm [0, 1, 2, 3, 4, 5, 6, 8] rfl rfl⟩ rfl rfl hl.1 rfl (lv_room (Nat.le_of_ble_eq_true rfl)) dL_law_648 ⟨hc, hs⟩) hP hD hS hA [0, 1, 2, 3, 4, 5, 6, 8] rfl (by simp only [List.map_cons, List.map_nil, suB_w, plB_w, cuB_w, txB_w, mnC_w, saB_w, ouB_w]) (bs' := [mnC q an ap qs ac au ax (nI SL2), plB Γ an v2, plB Γ ap vsp2, saB Γ qs sa sr2 vs2, cuB Γ ac ck2, suB Γ au so2 sp2, txB Γ ax cs2 (nI L2), moB Γ mo ms mt mc md (nI SL) n1 (nI L) n3 n4 n5, ouB Γ oa ol2]) rfl (fun H locs hP hD hS => ?_)
  refine lv_istore (lv' := [(5, .int r), (4, .int (nI i)), (3, .ref oa), (2, .ref (mo 0)), (1, .ref q), (0, .ref b)]) hx hb dL_law_651 hl (by decide) rfl (fun ls hl => ?_)
  refine lv_aload_n hx hb dL_law_653 rfl (lv_at hl 3 rfl) ?_
  refine lv_aload_n hx hb dL_law_654 rfl (lv_at hl 5 rfl) ?_
  refine lv_iload hx hb dL_law_655 (lv_at hl 1 rfl) ?_
  refine lv_iconst (v := nI 1) hx hb dL_law_657 (by decide) ?_
  refine lv_iadd hx hb dL_law_658 ?_
  refine va_sld hx hb hX hbl hbA hS (show vp_in (nI i + nI 1) N by rw [nI_add]; exact vp_in_nI (by omega) (by omega)) dL_law_659 ?_
  refine cMI (bc' := [moB Γ mo ms2 mt2 mc2 md2 (nI SL2) m1 (nI L2) m3 m4 m5]) (va_runV (As := [.int (xs (nI i + nI 1).toNatClampNeg)]) (rest := []) ⟨hx, hb, hml, hown, hts⟩ (k5 _) (cwV 1 hts gL_law_X5_open rfl k3 k4 (by decide +kernel) ⟨by show rm.frames + 1 ≤ 12; omega, by show 8 + (_ + 11) + rm.locals ≤ 436; omega⟩) ⟨wPre_blind, va_recv hK hP (ci := 5) (q0 := 57) rfl rfl, wPre_mk hP hD hK hS hA hAB hAm [7] rfl rfl⟩ rfl rfl hl.1 rfl (lv_room (Nat.le_of_ble_eq_true rfl)) dL_law_660 ⟨hc, hs⟩) hP hD hS hA [7] rfl (by simp only [List.map_cons, List.map_nil, moB_w]) (bs' := [mnC q an ap qs ac au ax (nI SL2), plB Γ an v2, plB Γ ap vsp2, saB Γ qs sa sr2 vs2, cuB Γ ac ck2, suB Γ au so2 sp2, txB Γ ax cs2 (nI L2), moB Γ mo ms2 mt2 mc2 md2 (nI SL2) m1 (nI L2) m3 m4 m5, ouB Γ oa ol2]) rfl (fun H locs hP hD hS => ?_)
  refine lv_istore (lv' := [(6, .int f), (5, .int r), (4, .int (nI i)), (3, .ref oa), (2, .ref (mo 0)), (1, .ref q), (0, .ref b)]) hx hb dL_law_663 hl (by decide) rfl (fun ls hl => ?_)
  refine lv_aload_n hx hb dL_law_665 rfl (lv_at hl 4 rfl) ?_
  refine cLI (va_runV (As := []) (rest := []) ⟨hx, hb, hml, hown, hts⟩ ((kX5_thrown l Γ mo ms2 mt2 mc2 md2 (nI SL2) m1 (nI L2) m3 m4 m5) _) (cwV 0 hts gL_law_X5_thrown rfl rfl rfl (by decide +kernel) ⟨Nat.le_of_ble_eq_true rfl, Nat.le_of_ble_eq_true rfl⟩) ⟨wPre_blind, va_recv hK hP (ci := 5) (q0 := 57) rfl rfl, wPre_mk hP hD hK hS hA hAB hAm [7] rfl rfl⟩ rfl rfl hl.1 rfl (lv_room (Nat.le_of_ble_eq_true rfl)) dL_law_666 ⟨hc, hs⟩) hP hS hA (fun H locs hP hS => ?_)
  refine lv_iload hx hb dL_law_669 (lv_at hl 1 rfl) ?_
  refine lv_icmp_eq (tgt := 676) hx hb dL_law_671 (by decide) (fun _ => ?_) (fun z => absurd k6 z)
  refine lv_iload hx hb dL_law_676 (lv_at hl 1 rfl) ?_
  have fin : W p l e room_1 s m args below meth c H locs (cells + 1) (slots + 6) Q (F0 m 693 ls []) := by
    refine lv_goto (tgt := 1404) hx hb dL_law_693 (by decide) ?_
    exact go SL2 sr2 vs2 v2 vsp2 ck2 so2 sp2 L2 cs2 ol2 ms2 mt2 mc2 md2 m1 m3 m4 m5 H locs ls k8 hP hD hS (lv_sub hl [2, 3, 4, 5, 6] rfl)
  refine lv_if_ne (tgt := 693) hx hb dL_law_678 (by decide) (fun _ => fin) (fun c1 => ?_)
  refine lv_aload_n hx hb dL_law_681 rfl (lv_at hl 3 rfl) ?_
  refine lv_iconst (v := nI 0) hx hb dL_law_682 (by decide) ?_
  refine lald0 hx hb hK hP 62 rfl dL_law_683 ?_
  rw [k7 c1]
  refine lv_iload hx hb dL_law_684 (lv_at hl 0 rfl) ?_
  refine lv_i2l (v := f.toInt64) hx hb dL_law_686 rfl ?_
  refine lv_lcmp0 hx hb dL_law_687 ?_
  exact lv_if_eq (tgt := 693) hx hb dL_law_688 (by decide) (fun _ => fin) (fun z => absurd rfl z)
set_option maxHeartbeats 4000000 in
set_option maxRecDepth 100000 in
theorem lc_append (hfl : l.stackTraces = false) (hx : p.tables.exec = Jvm.exec) (hb : c.code = cL_law) (hml : c.maxLocals = 9) (hown : s.vm.findClass RL = some m.cls) (hts : ∀ w ∈ wsL_law, w.before args s = true) (hK : va_K Γ.1 vwCl (wtys Γ) s) (hA : ∀ q, s.heap.size ≤ q → A q) (hAm : Amb A s) (hX : va_X b N xs s s.heap) (hbl : b < s.heap.size) (hbA : ¬ A b) (hi : i + 4 ≤ N) (hN : N ≤ 2048) (hc : cells + 1 ≤ 601024) (hs : slots + 6 ≤ 7293034) (go : LGO p l e s m args below meth c A Γ q an ap qs ac au ax sa oa mo b i (cells + 1) (slots + 6) Q) {SL sr : Nat} {vs : Nat → Nat → Nat → Int32} {v vsp : Nat → Nat → Int32} {ck so sp : Nat → Int32} {L : Nat} {cs : Nat → Int32} {ol : Nat → Int64} {ms mt mc md : Nat → Int32} {n1 n3 n4 n5 : Int32} (hR : REL SL sr vs v ck so sp L cs ms mt) (hP : va_P Γ.1 vwCl (wcat [mnC q an ap qs ac au ax (nI SL), plB Γ an v, plB Γ ap vsp, saB Γ qs sa sr vs, cuB Γ ac ck, suB Γ au so sp, txB Γ ax cs (nI L), moB Γ mo ms mt mc md (nI SL) n1 (nI L) n3 n4 n5, ouB Γ oa ol]) H) (hD : va_D A (wcat [mnC q an ap qs ac au ax (nI SL), plB Γ an v, plB Γ ap vsp, saB Γ qs sa sr vs, cuB Γ ac ck, suB Γ au so sp, txB Γ ax cs (nI L), moB Γ mo ms mt mc md (nI SL) n1 (nI L) n3 n4 n5, ouB Γ oa ol])) (hS : va_S A s.heap H locs) (hl : lv_has ls 9 [(4, .int (nI i)), (3, .ref oa), (2, .ref (mo 0)), (1, .ref q), (0, .ref b)]) : W p l e room_1 s m args below meth c H locs cells slots Q (F0 m 696 ls []) := by
  have hAB : ∀ q : Nat, A q → A q := fun _ h => h
  obtain ⟨SL2, sr2, vs2, v2, vsp2, ck2, so2, sp2, L2, cs2, ol2, ms2, mt2, mc2, md2, m1, m3, m4, m5, r, f, rm, ⟨kJ, k1, k2, k3, k4⟩, k5, k6, k7, k8⟩ := st_append (q := q) (an := an) (ap := ap) (qs := qs) (ac := ac) (au := au) (ax := ax) (sa := sa) (oa := oa) (mo := mo) (Γ := Γ) (vsp := vsp) (ol := ol) (mc := mc) (md := md) (n1 := n1) (n3 := n3) (n4 := n4) (n5 := n5) hfl hR (xs (nI i + nI 1).toNatClampNeg)
  refine lv_aload_n hx hb dL_law_696 rfl (lv_at hl 3 rfl) ?_
  refine lv_aload_n hx hb dL_law_697 rfl (lv_at hl 4 rfl) ?_
  refine lv_iload hx hb dL_law_698 (lv_at hl 0 rfl) ?_
  refine lv_iconst (v := nI 1) hx hb dL_law_700 (by decide) ?_
  refine lv_iadd hx hb dL_law_701 ?_
  refine va_sld hx hb hX hbl hbA hS (show vp_in (nI i + nI 1) N by rw [nI_add]; exact vp_in_nI (by omega) (by omega)) dL_law_702 ?_
  refine lv_aload_n hx hb dL_law_703 rfl (lv_at hl 1 rfl) ?_
  refine cMJ (bc' := [mnC q an ap qs ac au ax (nI SL2), plB Γ an v2, plB Γ ap vsp2, saB Γ qs sa sr2 vs2, cuB Γ ac ck2, suB Γ au so2 sp2, txB Γ ax cs2 (nI L2), ouB Γ oa ol2]) (vx_runSW (As := [.ref q, .int (xs (nI i + nI 1).toNatClampNeg), .ref oa]) (rest := []) ⟨hx, hb, hml, hown, hts⟩ (kJ _) (vx_cwSW 3 hts gL_law_L_append rfl rfl rfl (by decide +kernel) ⟨Nat.le_of_ble_eq_true rfl, Nat.le_of_ble_eq_true rfl⟩) ⟨wPre_blind, wPre_mk hP hD hK hS hA hAB hAm [0, 1, 2, 3, 4, 5, 6, 8] rfl rfl⟩ rfl rfl hl.1 rfl (lv_room (Nat.le_of_ble_eq_true rfl)) dL_law_704 ⟨hc, hs⟩) hP hD hS hA [0, 1, 2, 3, 4, 5, 6, 8] rfl (by simp only [List.map_cons, List.map_nil, suB_w, plB_w, cuB_w, txB_w, mnC_w, saB_w, ouB_w]) (bs' := [mnC q an ap qs ac au ax (nI SL2), plB Γ an v2, plB Γ ap vsp2, saB Γ qs sa sr2 vs2, cuB Γ ac ck2, suB Γ au so2 sp2, txB Γ ax cs2 (nI L2), moB Γ mo ms mt mc md (nI SL) n1 (nI L) n3 n4 n5, ouB Γ oa ol2]) rfl (fun H locs hP hD hS => ?_)
  refine lv_istore (lv' := [(5, .int r), (4, .int (nI i)), (3, .ref oa), (2, .ref (mo 0)), (1, .ref q), (0, .ref b)]) hx hb dL_law_707 hl (by decide) rfl (fun ls hl => ?_)
  refine lv_aload_n hx hb dL_law_709 rfl (lv_at hl 3 rfl) ?_
  refine lv_aload_n hx hb dL_law_710 rfl (lv_at hl 5 rfl) ?_
  refine lv_iload hx hb dL_law_711 (lv_at hl 1 rfl) ?_
  refine lv_iconst (v := nI 1) hx hb dL_law_713 (by decide) ?_
  refine lv_iadd hx hb dL_law_714 ?_
  refine va_sld hx hb hX hbl hbA hS (show vp_in (nI i + nI 1) N by rw [nI_add]; exact vp_in_nI (by omega) (by omega)) dL_law_715 ?_
  refine cMI (bc' := [moB Γ mo ms2 mt2 mc2 md2 (nI SL2) m1 (nI L2) m3 m4 m5]) (va_runV (As := [.int (xs (nI i + nI 1).toNatClampNeg)]) (rest := []) ⟨hx, hb, hml, hown, hts⟩ (k5 _) (cwV 1 hts gL_law_X5_append rfl k3 k4 (by decide +kernel) ⟨by show rm.frames + 1 ≤ 12; omega, by show 8 + (_ + 11) + rm.locals ≤ 436; omega⟩) ⟨wPre_blind, va_recv hK hP (ci := 5) (q0 := 57) rfl rfl, wPre_mk hP hD hK hS hA hAB hAm [7] rfl rfl⟩ rfl rfl hl.1 rfl (lv_room (Nat.le_of_ble_eq_true rfl)) dL_law_716 ⟨hc, hs⟩) hP hD hS hA [7] rfl (by simp only [List.map_cons, List.map_nil, moB_w]) (bs' := [mnC q an ap qs ac au ax (nI SL2), plB Γ an v2, plB Γ ap vsp2, saB Γ qs sa sr2 vs2, cuB Γ ac ck2, suB Γ au so2 sp2, txB Γ ax cs2 (nI L2), moB Γ mo ms2 mt2 mc2 md2 (nI SL2) m1 (nI L2) m3 m4 m5, ouB Γ oa ol2]) rfl (fun H locs hP hD hS => ?_)
  refine lv_istore (lv' := [(6, .int f), (5, .int r), (4, .int (nI i)), (3, .ref oa), (2, .ref (mo 0)), (1, .ref q), (0, .ref b)]) hx hb dL_law_719 hl (by decide) rfl (fun ls hl => ?_)
  refine lv_aload_n hx hb dL_law_721 rfl (lv_at hl 4 rfl) ?_
  refine cLI (va_runV (As := []) (rest := []) ⟨hx, hb, hml, hown, hts⟩ ((kX5_thrown l Γ mo ms2 mt2 mc2 md2 (nI SL2) m1 (nI L2) m3 m4 m5) _) (cwV 0 hts gL_law_X5_thrown rfl rfl rfl (by decide +kernel) ⟨Nat.le_of_ble_eq_true rfl, Nat.le_of_ble_eq_true rfl⟩) ⟨wPre_blind, va_recv hK hP (ci := 5) (q0 := 57) rfl rfl, wPre_mk hP hD hK hS hA hAB hAm [7] rfl rfl⟩ rfl rfl hl.1 rfl (lv_room (Nat.le_of_ble_eq_true rfl)) dL_law_722 ⟨hc, hs⟩) hP hS hA (fun H locs hP hS => ?_)
  refine lv_iload hx hb dL_law_725 (lv_at hl 1 rfl) ?_
  refine lv_icmp_eq (tgt := 732) hx hb dL_law_727 (by decide) (fun _ => ?_) (fun z => absurd k6 z)
  refine lv_iload hx hb dL_law_732 (lv_at hl 1 rfl) ?_
  have fin : W p l e room_1 s m args below meth c H locs (cells + 1) (slots + 6) Q (F0 m 749 ls []) := by
    refine lv_goto (tgt := 1404) hx hb dL_law_749 (by decide) ?_
    exact go SL2 sr2 vs2 v2 vsp2 ck2 so2 sp2 L2 cs2 ol2 ms2 mt2 mc2 md2 m1 m3 m4 m5 H locs ls k8 hP hD hS (lv_sub hl [2, 3, 4, 5, 6] rfl)
  refine lv_if_ne (tgt := 749) hx hb dL_law_734 (by decide) (fun _ => fin) (fun c1 => ?_)
  refine lv_aload_n hx hb dL_law_737 rfl (lv_at hl 3 rfl) ?_
  refine lv_iconst (v := nI 0) hx hb dL_law_738 (by decide) ?_
  refine lald0 hx hb hK hP 62 rfl dL_law_739 ?_
  rw [k7 c1]
  refine lv_iload hx hb dL_law_740 (lv_at hl 0 rfl) ?_
  refine lv_i2l (v := f.toInt64) hx hb dL_law_742 rfl ?_
  refine lv_lcmp0 hx hb dL_law_743 ?_
  exact lv_if_eq (tgt := 749) hx hb dL_law_744 (by decide) (fun _ => fin) (fun z => absurd rfl z)
set_option maxHeartbeats 4000000 in
set_option maxRecDepth 100000 in
theorem lc_live (hfl : l.stackTraces = false) (hx : p.tables.exec = Jvm.exec) (hb : c.code = cL_law) (hml : c.maxLocals = 9) (hown : s.vm.findClass RL = some m.cls) (hts : ∀ w ∈ wsL_law, w.before args s = true) (hK : va_K Γ.1 vwCl (wtys Γ) s) (hA : ∀ q, s.heap.size ≤ q → A q) (hAm : Amb A s) (hX : va_X b N xs s s.heap) (hbl : b < s.heap.size) (hbA : ¬ A b) (hi : i + 4 ≤ N) (hN : N ≤ 2048) (hc : cells + 1 ≤ 601024) (hs : slots + 6 ≤ 7293034) (go : LGO p l e s m args below meth c A Γ q an ap qs ac au ax sa oa mo b i (cells + 1) (slots + 6) Q) {SL sr : Nat} {vs : Nat → Nat → Nat → Int32} {v vsp : Nat → Nat → Int32} {ck so sp : Nat → Int32} {L : Nat} {cs : Nat → Int32} {ol : Nat → Int64} {ms mt mc md : Nat → Int32} {n1 n3 n4 n5 : Int32} (hR : REL SL sr vs v ck so sp L cs ms mt) (hP : va_P Γ.1 vwCl (wcat [mnC q an ap qs ac au ax (nI SL), plB Γ an v, plB Γ ap vsp, saB Γ qs sa sr vs, cuB Γ ac ck, suB Γ au so sp, txB Γ ax cs (nI L), moB Γ mo ms mt mc md (nI SL) n1 (nI L) n3 n4 n5, ouB Γ oa ol]) H) (hD : va_D A (wcat [mnC q an ap qs ac au ax (nI SL), plB Γ an v, plB Γ ap vsp, saB Γ qs sa sr vs, cuB Γ ac ck, suB Γ au so sp, txB Γ ax cs (nI L), moB Γ mo ms mt mc md (nI SL) n1 (nI L) n3 n4 n5, ouB Γ oa ol])) (hS : va_S A s.heap H locs) (hl : lv_has ls 9 [(4, .int (nI i)), (3, .ref oa), (2, .ref (mo 0)), (1, .ref q), (0, .ref b)]) : W p l e room_1 s m args below meth c H locs cells slots Q (F0 m 778 ls []) := by
  have hAB : ∀ q : Nat, A q → A q := fun _ h => h
  obtain ⟨SL2, sr2, vs2, v2, vsp2, ck2, so2, sp2, L2, cs2, ol2, ms2, mt2, mc2, md2, m1, m3, m4, m5, r, f, rm, ⟨kJ, k1, k2, k3, k4⟩, k5, k6, k7, k8⟩ := st_live (q := q) (an := an) (ap := ap) (qs := qs) (ac := ac) (au := au) (ax := ax) (sa := sa) (oa := oa) (mo := mo) (Γ := Γ) (vsp := vsp) (ol := ol) (mc := mc) (md := md) (n1 := n1) (n3 := n3) (n4 := n4) (n5 := n5) hfl hR 
  refine lv_aload_n hx hb dL_law_778 rfl (lv_at hl 3 rfl) ?_
  refine lv_aload_n hx hb dL_law_779 rfl (lv_at hl 1 rfl) ?_
  refine cMJ (bc' := [mnC q an ap qs ac au ax (nI SL2), plB Γ an v2, plB Γ ap vsp2, saB Γ qs sa sr2 vs2, cuB Γ ac ck2, suB Γ au so2 sp2, txB Γ ax cs2 (nI L2), ouB Γ oa ol2]) (vx_runSW (As := [.ref q, .ref oa]) (rest := []) ⟨hx, hb, hml, hown, hts⟩ (kJ _) (vx_cwSW 2 hts gL_law_L_live rfl rfl rfl (by decide +kernel) ⟨Nat.le_of_ble_eq_true rfl, Nat.le_of_ble_eq_true rfl⟩) ⟨wPre_blind, wPre_mk hP hD hK hS hA hAB hAm [0, 1, 2, 3, 4, 5, 6, 8] rfl rfl⟩ rfl rfl hl.1 rfl (lv_room (Nat.le_of_ble_eq_true rfl)) dL_law_780 ⟨hc, hs⟩) hP hD hS hA [0, 1, 2, 3, 4, 5, 6, 8] rfl (by simp only [List.map_cons, List.map_nil, suB_w, plB_w, cuB_w, txB_w, mnC_w, saB_w, ouB_w]) (bs' := [mnC q an ap qs ac au ax (nI SL2), plB Γ an v2, plB Γ ap vsp2, saB Γ qs sa sr2 vs2, cuB Γ ac ck2, suB Γ au so2 sp2, txB Γ ax cs2 (nI L2), moB Γ mo ms mt mc md (nI SL) n1 (nI L) n3 n4 n5, ouB Γ oa ol2]) rfl (fun H locs hP hD hS => ?_)
  refine lv_istore (lv' := [(5, .int r), (4, .int (nI i)), (3, .ref oa), (2, .ref (mo 0)), (1, .ref q), (0, .ref b)]) hx hb dL_law_783 hl (by decide) rfl (fun ls hl => ?_)
  refine lv_aload_n hx hb dL_law_785 rfl (lv_at hl 3 rfl) ?_
  refine cMI (bc' := [moB Γ mo ms2 mt2 mc2 md2 (nI SL2) m1 (nI L2) m3 m4 m5]) (va_runV (As := []) (rest := []) ⟨hx, hb, hml, hown, hts⟩ (k5 _) (cwV 0 hts gL_law_X5_live rfl k3 k4 (by decide +kernel) ⟨by show rm.frames + 1 ≤ 12; omega, by show 8 + (_ + 11) + rm.locals ≤ 436; omega⟩) ⟨wPre_blind, va_recv hK hP (ci := 5) (q0 := 57) rfl rfl, wPre_mk hP hD hK hS hA hAB hAm [7] rfl rfl⟩ rfl rfl hl.1 rfl (lv_room (Nat.le_of_ble_eq_true rfl)) dL_law_786 ⟨hc, hs⟩) hP hD hS hA [7] rfl (by simp only [List.map_cons, List.map_nil, moB_w]) (bs' := [mnC q an ap qs ac au ax (nI SL2), plB Γ an v2, plB Γ ap vsp2, saB Γ qs sa sr2 vs2, cuB Γ ac ck2, suB Γ au so2 sp2, txB Γ ax cs2 (nI L2), moB Γ mo ms2 mt2 mc2 md2 (nI SL2) m1 (nI L2) m3 m4 m5, ouB Γ oa ol2]) rfl (fun H locs hP hD hS => ?_)
  refine lv_istore (lv' := [(6, .int f), (5, .int r), (4, .int (nI i)), (3, .ref oa), (2, .ref (mo 0)), (1, .ref q), (0, .ref b)]) hx hb dL_law_789 hl (by decide) rfl (fun ls hl => ?_)
  refine lv_aload_n hx hb dL_law_791 rfl (lv_at hl 4 rfl) ?_
  refine cLI (va_runV (As := []) (rest := []) ⟨hx, hb, hml, hown, hts⟩ ((kX5_thrown l Γ mo ms2 mt2 mc2 md2 (nI SL2) m1 (nI L2) m3 m4 m5) _) (cwV 0 hts gL_law_X5_thrown rfl rfl rfl (by decide +kernel) ⟨Nat.le_of_ble_eq_true rfl, Nat.le_of_ble_eq_true rfl⟩) ⟨wPre_blind, va_recv hK hP (ci := 5) (q0 := 57) rfl rfl, wPre_mk hP hD hK hS hA hAB hAm [7] rfl rfl⟩ rfl rfl hl.1 rfl (lv_room (Nat.le_of_ble_eq_true rfl)) dL_law_792 ⟨hc, hs⟩) hP hS hA (fun H locs hP hS => ?_)
  refine lv_iload hx hb dL_law_795 (lv_at hl 1 rfl) ?_
  refine lv_icmp_eq (tgt := 802) hx hb dL_law_797 (by decide) (fun _ => ?_) (fun z => absurd k6 z)
  refine lv_iload hx hb dL_law_802 (lv_at hl 1 rfl) ?_
  have fin : W p l e room_1 s m args below meth c H locs (cells + 1) (slots + 6) Q (F0 m 819 ls []) := by
    refine lv_goto (tgt := 1404) hx hb dL_law_819 (by decide) ?_
    exact go SL2 sr2 vs2 v2 vsp2 ck2 so2 sp2 L2 cs2 ol2 ms2 mt2 mc2 md2 m1 m3 m4 m5 H locs ls k8 hP hD hS (lv_sub hl [2, 3, 4, 5, 6] rfl)
  refine lv_if_ne (tgt := 819) hx hb dL_law_804 (by decide) (fun _ => fin) (fun c1 => ?_)
  refine lv_aload_n hx hb dL_law_807 rfl (lv_at hl 3 rfl) ?_
  refine lv_iconst (v := nI 0) hx hb dL_law_808 (by decide) ?_
  refine lald0 hx hb hK hP 62 rfl dL_law_809 ?_
  rw [k7 c1]
  refine lv_iload hx hb dL_law_810 (lv_at hl 0 rfl) ?_
  refine lv_i2l (v := f.toInt64) hx hb dL_law_812 rfl ?_
  refine lv_lcmp0 hx hb dL_law_813 ?_
  exact lv_if_eq (tgt := 819) hx hb dL_law_814 (by decide) (fun _ => fin) (fun z => absurd rfl z)
set_option maxHeartbeats 4000000 in
set_option maxRecDepth 100000 in
theorem lc_undo (hfl : l.stackTraces = false) (hx : p.tables.exec = Jvm.exec) (hb : c.code = cL_law) (hml : c.maxLocals = 9) (hown : s.vm.findClass RL = some m.cls) (hts : ∀ w ∈ wsL_law, w.before args s = true) (hK : va_K Γ.1 vwCl (wtys Γ) s) (hA : ∀ q, s.heap.size ≤ q → A q) (hAm : Amb A s) (hX : va_X b N xs s s.heap) (hbl : b < s.heap.size) (hbA : ¬ A b) (hi : i + 4 ≤ N) (hN : N ≤ 2048) (hc : cells + 1 ≤ 601024) (hs : slots + 6 ≤ 7293034) (go : LGO p l e s m args below meth c A Γ q an ap qs ac au ax sa oa mo b i (cells + 1) (slots + 6) Q) {SL sr : Nat} {vs : Nat → Nat → Nat → Int32} {v vsp : Nat → Nat → Int32} {ck so sp : Nat → Int32} {L : Nat} {cs : Nat → Int32} {ol : Nat → Int64} {ms mt mc md : Nat → Int32} {n1 n3 n4 n5 : Int32} (hR : REL SL sr vs v ck so sp L cs ms mt) (hP : va_P Γ.1 vwCl (wcat [mnC q an ap qs ac au ax (nI SL), plB Γ an v, plB Γ ap vsp, saB Γ qs sa sr vs, cuB Γ ac ck, suB Γ au so sp, txB Γ ax cs (nI L), moB Γ mo ms mt mc md (nI SL) n1 (nI L) n3 n4 n5, ouB Γ oa ol]) H) (hD : va_D A (wcat [mnC q an ap qs ac au ax (nI SL), plB Γ an v, plB Γ ap vsp, saB Γ qs sa sr vs, cuB Γ ac ck, suB Γ au so sp, txB Γ ax cs (nI L), moB Γ mo ms mt mc md (nI SL) n1 (nI L) n3 n4 n5, ouB Γ oa ol])) (hS : va_S A s.heap H locs) (hl : lv_has ls 9 [(4, .int (nI i)), (3, .ref oa), (2, .ref (mo 0)), (1, .ref q), (0, .ref b)]) : W p l e room_1 s m args below meth c H locs cells slots Q (F0 m 822 ls []) := by
  have hAB : ∀ q : Nat, A q → A q := fun _ h => h
  obtain ⟨SL2, sr2, vs2, v2, vsp2, ck2, so2, sp2, L2, cs2, ol2, ms2, mt2, mc2, md2, m1, m3, m4, m5, r, f, rm, ⟨kJ, k1, k2, k3, k4⟩, k5, k6, k7, k8⟩ := st_undo (q := q) (an := an) (ap := ap) (qs := qs) (ac := ac) (au := au) (ax := ax) (sa := sa) (oa := oa) (mo := mo) (Γ := Γ) (vsp := vsp) (ol := ol) (mc := mc) (md := md) (n1 := n1) (n3 := n3) (n4 := n4) (n5 := n5) hfl hR 
  refine lv_aload_n hx hb dL_law_822 rfl (lv_at hl 3 rfl) ?_
  refine lv_aload_n hx hb dL_law_823 rfl (lv_at hl 1 rfl) ?_
  refine cMJ (bc' := [mnC q an ap qs ac au ax (nI SL2), plB Γ an v2, plB Γ ap vsp2, saB Γ qs sa sr2 vs2, cuB Γ ac ck2, suB Γ au so2 sp2, txB Γ ax cs2 (nI L2), ouB Γ oa ol2]) (vx_runSW (As := [.ref q, .ref oa]) (rest := []) ⟨hx, hb, hml, hown, hts⟩ (kJ _) (vx_cwSW 2 hts gL_law_L_undo rfl rfl rfl (by decide +kernel) ⟨Nat.le_of_ble_eq_true rfl, Nat.le_of_ble_eq_true rfl⟩) ⟨wPre_blind, wPre_mk hP hD hK hS hA hAB hAm [0, 1, 2, 3, 4, 5, 6, 8] rfl rfl⟩ rfl rfl hl.1 rfl (lv_room (Nat.le_of_ble_eq_true rfl)) dL_law_824 ⟨hc, hs⟩) hP hD hS hA [0, 1, 2, 3, 4, 5, 6, 8] rfl (by simp only [List.map_cons, List.map_nil, suB_w, plB_w, cuB_w, txB_w, mnC_w, saB_w, ouB_w]) (bs' := [mnC q an ap qs ac au ax (nI SL2), plB Γ an v2, plB Γ ap vsp2, saB Γ qs sa sr2 vs2, cuB Γ ac ck2, suB Γ au so2 sp2, txB Γ ax cs2 (nI L2), moB Γ mo ms mt mc md (nI SL) n1 (nI L) n3 n4 n5, ouB Γ oa ol2]) rfl (fun H locs hP hD hS => ?_)
  refine lv_istore (lv' := [(5, .int r), (4, .int (nI i)), (3, .ref oa), (2, .ref (mo 0)), (1, .ref q), (0, .ref b)]) hx hb dL_law_827 hl (by decide) rfl (fun ls hl => ?_)
  refine lv_aload_n hx hb dL_law_829 rfl (lv_at hl 3 rfl) ?_
  refine cMI (bc' := [moB Γ mo ms2 mt2 mc2 md2 (nI SL2) m1 (nI L2) m3 m4 m5]) (va_runV (As := []) (rest := []) ⟨hx, hb, hml, hown, hts⟩ (k5 _) (cwV 0 hts gL_law_X5_undo rfl k3 k4 (by decide +kernel) ⟨by show rm.frames + 1 ≤ 12; omega, by show 8 + (_ + 11) + rm.locals ≤ 436; omega⟩) ⟨wPre_blind, va_recv hK hP (ci := 5) (q0 := 57) rfl rfl, wPre_mk hP hD hK hS hA hAB hAm [7] rfl rfl⟩ rfl rfl hl.1 rfl (lv_room (Nat.le_of_ble_eq_true rfl)) dL_law_830 ⟨hc, hs⟩) hP hD hS hA [7] rfl (by simp only [List.map_cons, List.map_nil, moB_w]) (bs' := [mnC q an ap qs ac au ax (nI SL2), plB Γ an v2, plB Γ ap vsp2, saB Γ qs sa sr2 vs2, cuB Γ ac ck2, suB Γ au so2 sp2, txB Γ ax cs2 (nI L2), moB Γ mo ms2 mt2 mc2 md2 (nI SL2) m1 (nI L2) m3 m4 m5, ouB Γ oa ol2]) rfl (fun H locs hP hD hS => ?_)
  refine lv_istore (lv' := [(6, .int f), (5, .int r), (4, .int (nI i)), (3, .ref oa), (2, .ref (mo 0)), (1, .ref q), (0, .ref b)]) hx hb dL_law_833 hl (by decide) rfl (fun ls hl => ?_)
  refine lv_aload_n hx hb dL_law_835 rfl (lv_at hl 4 rfl) ?_
  refine cLI (va_runV (As := []) (rest := []) ⟨hx, hb, hml, hown, hts⟩ ((kX5_thrown l Γ mo ms2 mt2 mc2 md2 (nI SL2) m1 (nI L2) m3 m4 m5) _) (cwV 0 hts gL_law_X5_thrown rfl rfl rfl (by decide +kernel) ⟨Nat.le_of_ble_eq_true rfl, Nat.le_of_ble_eq_true rfl⟩) ⟨wPre_blind, va_recv hK hP (ci := 5) (q0 := 57) rfl rfl, wPre_mk hP hD hK hS hA hAB hAm [7] rfl rfl⟩ rfl rfl hl.1 rfl (lv_room (Nat.le_of_ble_eq_true rfl)) dL_law_836 ⟨hc, hs⟩) hP hS hA (fun H locs hP hS => ?_)
  refine lv_iload hx hb dL_law_839 (lv_at hl 1 rfl) ?_
  refine lv_icmp_eq (tgt := 846) hx hb dL_law_841 (by decide) (fun _ => ?_) (fun z => absurd k6 z)
  refine lv_iload hx hb dL_law_846 (lv_at hl 1 rfl) ?_
  have fin : W p l e room_1 s m args below meth c H locs (cells + 1) (slots + 6) Q (F0 m 863 ls []) := by
    refine lv_goto (tgt := 1404) hx hb dL_law_863 (by decide) ?_
    exact go SL2 sr2 vs2 v2 vsp2 ck2 so2 sp2 L2 cs2 ol2 ms2 mt2 mc2 md2 m1 m3 m4 m5 H locs ls k8 hP hD hS (lv_sub hl [2, 3, 4, 5, 6] rfl)
  refine lv_if_ne (tgt := 863) hx hb dL_law_848 (by decide) (fun _ => fin) (fun c1 => ?_)
  refine lv_aload_n hx hb dL_law_851 rfl (lv_at hl 3 rfl) ?_
  refine lv_iconst (v := nI 0) hx hb dL_law_852 (by decide) ?_
  refine lald0 hx hb hK hP 62 rfl dL_law_853 ?_
  rw [k7 c1]
  refine lv_iload hx hb dL_law_854 (lv_at hl 0 rfl) ?_
  refine lv_i2l (v := f.toInt64) hx hb dL_law_856 rfl ?_
  refine lv_lcmp0 hx hb dL_law_857 ?_
  exact lv_if_eq (tgt := 863) hx hb dL_law_858 (by decide) (fun _ => fin) (fun z => absurd rfl z)
set_option maxHeartbeats 4000000 in
set_option maxRecDepth 100000 in
theorem lc_keeperOf (hfl : l.stackTraces = false) (hx : p.tables.exec = Jvm.exec) (hb : c.code = cL_law) (hml : c.maxLocals = 9) (hown : s.vm.findClass RL = some m.cls) (hts : ∀ w ∈ wsL_law, w.before args s = true) (hK : va_K Γ.1 vwCl (wtys Γ) s) (hA : ∀ q, s.heap.size ≤ q → A q) (hAm : Amb A s) (hX : va_X b N xs s s.heap) (hbl : b < s.heap.size) (hbA : ¬ A b) (hi : i + 4 ≤ N) (hN : N ≤ 2048) (hc : cells + 1 ≤ 601024) (hs : slots + 6 ≤ 7293034) (go : LGO p l e s m args below meth c A Γ q an ap qs ac au ax sa oa mo b i (cells + 1) (slots + 6) Q) {SL sr : Nat} {vs : Nat → Nat → Nat → Int32} {v vsp : Nat → Nat → Int32} {ck so sp : Nat → Int32} {L : Nat} {cs : Nat → Int32} {ol : Nat → Int64} {ms mt mc md : Nat → Int32} {n1 n3 n4 n5 : Int32} (hR : REL SL sr vs v ck so sp L cs ms mt) (hP : va_P Γ.1 vwCl (wcat [mnC q an ap qs ac au ax (nI SL), plB Γ an v, plB Γ ap vsp, saB Γ qs sa sr vs, cuB Γ ac ck, suB Γ au so sp, txB Γ ax cs (nI L), moB Γ mo ms mt mc md (nI SL) n1 (nI L) n3 n4 n5, ouB Γ oa ol]) H) (hD : va_D A (wcat [mnC q an ap qs ac au ax (nI SL), plB Γ an v, plB Γ ap vsp, saB Γ qs sa sr vs, cuB Γ ac ck, suB Γ au so sp, txB Γ ax cs (nI L), moB Γ mo ms mt mc md (nI SL) n1 (nI L) n3 n4 n5, ouB Γ oa ol])) (hS : va_S A s.heap H locs) (hl : lv_has ls 9 [(4, .int (nI i)), (3, .ref oa), (2, .ref (mo 0)), (1, .ref q), (0, .ref b)]) : W p l e room_1 s m args below meth c H locs cells slots Q (F0 m 866 ls []) := by
  have hAB : ∀ q : Nat, A q → A q := fun _ h => h
  obtain ⟨SL2, sr2, vs2, v2, vsp2, ck2, so2, sp2, L2, cs2, ol2, ms2, mt2, mc2, md2, m1, m3, m4, m5, r, f, rm, ⟨kJ, k1, k2, k3, k4⟩, k5, k6, k7, k8⟩ := st_keeperOf (q := q) (an := an) (ap := ap) (qs := qs) (ac := ac) (au := au) (ax := ax) (sa := sa) (oa := oa) (mo := mo) (Γ := Γ) (vsp := vsp) (ol := ol) (mc := mc) (md := md) (n1 := n1) (n3 := n3) (n4 := n4) (n5 := n5) hfl hR (xs (nI i + nI 1).toNatClampNeg) (xs (nI i + nI 2).toNatClampNeg)
  refine lv_aload_n hx hb dL_law_866 rfl (lv_at hl 3 rfl) ?_
  refine lv_aload_n hx hb dL_law_867 rfl (lv_at hl 4 rfl) ?_
  refine lv_iload hx hb dL_law_868 (lv_at hl 0 rfl) ?_
  refine lv_iconst (v := nI 1) hx hb dL_law_870 (by decide) ?_
  refine lv_iadd hx hb dL_law_871 ?_
  refine va_sld hx hb hX hbl hbA hS (show vp_in (nI i + nI 1) N by rw [nI_add]; exact vp_in_nI (by omega) (by omega)) dL_law_872 ?_
  refine lv_aload_n hx hb dL_law_873 rfl (lv_at hl 4 rfl) ?_
  refine lv_iload hx hb dL_law_874 (lv_at hl 0 rfl) ?_
  refine lv_iconst (v := nI 2) hx hb dL_law_876 (by decide) ?_
  refine lv_iadd hx hb dL_law_877 ?_
  refine va_sld hx hb hX hbl hbA hS (show vp_in (nI i + nI 2) N by rw [nI_add]; exact vp_in_nI (by omega) (by omega)) dL_law_878 ?_
  refine lv_aload_n hx hb dL_law_879 rfl (lv_at hl 1 rfl) ?_
  refine cMJ (bc' := [mnC q an ap qs ac au ax (nI SL2), plB Γ an v2, plB Γ ap vsp2, saB Γ qs sa sr2 vs2, cuB Γ ac ck2, suB Γ au so2 sp2, txB Γ ax cs2 (nI L2), ouB Γ oa ol2]) (vx_runSW (As := [.ref q, .int (xs (nI i + nI 1).toNatClampNeg), .int (xs (nI i + nI 2).toNatClampNeg), .ref oa]) (rest := []) ⟨hx, hb, hml, hown, hts⟩ (kJ _) (vx_cwSW 4 hts gL_law_L_keeperOf rfl rfl rfl (by decide +kernel) ⟨Nat.le_of_ble_eq_true rfl, Nat.le_of_ble_eq_true rfl⟩) ⟨wPre_blind, wPre_mk hP hD hK hS hA hAB hAm [0, 1, 2, 3, 4, 5, 6, 8] rfl rfl⟩ rfl rfl hl.1 rfl (lv_room (Nat.le_of_ble_eq_true rfl)) dL_law_880 ⟨hc, hs⟩) hP hD hS hA [0, 1, 2, 3, 4, 5, 6, 8] rfl (by simp only [List.map_cons, List.map_nil, suB_w, plB_w, cuB_w, txB_w, mnC_w, saB_w, ouB_w]) (bs' := [mnC q an ap qs ac au ax (nI SL2), plB Γ an v2, plB Γ ap vsp2, saB Γ qs sa sr2 vs2, cuB Γ ac ck2, suB Γ au so2 sp2, txB Γ ax cs2 (nI L2), moB Γ mo ms mt mc md (nI SL) n1 (nI L) n3 n4 n5, ouB Γ oa ol2]) rfl (fun H locs hP hD hS => ?_)
  refine lv_istore (lv' := [(5, .int r), (4, .int (nI i)), (3, .ref oa), (2, .ref (mo 0)), (1, .ref q), (0, .ref b)]) hx hb dL_law_883 hl (by decide) rfl (fun ls hl => ?_)
  refine lv_aload_n hx hb dL_law_885 rfl (lv_at hl 3 rfl) ?_
  refine lv_aload_n hx hb dL_law_886 rfl (lv_at hl 5 rfl) ?_
  refine lv_iload hx hb dL_law_887 (lv_at hl 1 rfl) ?_
  refine lv_iconst (v := nI 1) hx hb dL_law_889 (by decide) ?_
  refine lv_iadd hx hb dL_law_890 ?_
  refine va_sld hx hb hX hbl hbA hS (show vp_in (nI i + nI 1) N by rw [nI_add]; exact vp_in_nI (by omega) (by omega)) dL_law_891 ?_
  refine lv_aload_n hx hb dL_law_892 rfl (lv_at hl 5 rfl) ?_
  refine lv_iload hx hb dL_law_893 (lv_at hl 1 rfl) ?_
  refine lv_iconst (v := nI 2) hx hb dL_law_895 (by decide) ?_
  refine lv_iadd hx hb dL_law_896 ?_
  refine va_sld hx hb hX hbl hbA hS (show vp_in (nI i + nI 2) N by rw [nI_add]; exact vp_in_nI (by omega) (by omega)) dL_law_897 ?_
  refine cMI (bc' := [moB Γ mo ms2 mt2 mc2 md2 (nI SL2) m1 (nI L2) m3 m4 m5]) (va_runV (As := [.int (xs (nI i + nI 1).toNatClampNeg), .int (xs (nI i + nI 2).toNatClampNeg)]) (rest := []) ⟨hx, hb, hml, hown, hts⟩ (k5 _) (cwV 2 hts gL_law_X5_keeperOf rfl k3 k4 (by decide +kernel) ⟨by show rm.frames + 1 ≤ 12; omega, by show 8 + (_ + 11) + rm.locals ≤ 436; omega⟩) ⟨wPre_blind, va_recv hK hP (ci := 5) (q0 := 57) rfl rfl, wPre_mk hP hD hK hS hA hAB hAm [7] rfl rfl⟩ rfl rfl hl.1 rfl (lv_room (Nat.le_of_ble_eq_true rfl)) dL_law_898 ⟨hc, hs⟩) hP hD hS hA [7] rfl (by simp only [List.map_cons, List.map_nil, moB_w]) (bs' := [mnC q an ap qs ac au ax (nI SL2), plB Γ an v2, plB Γ ap vsp2, saB Γ qs sa sr2 vs2, cuB Γ ac ck2, suB Γ au so2 sp2, txB Γ ax cs2 (nI L2), moB Γ mo ms2 mt2 mc2 md2 (nI SL2) m1 (nI L2) m3 m4 m5, ouB Γ oa ol2]) rfl (fun H locs hP hD hS => ?_)
  refine lv_istore (lv' := [(6, .int f), (5, .int r), (4, .int (nI i)), (3, .ref oa), (2, .ref (mo 0)), (1, .ref q), (0, .ref b)]) hx hb dL_law_901 hl (by decide) rfl (fun ls hl => ?_)
  refine lv_aload_n hx hb dL_law_903 rfl (lv_at hl 4 rfl) ?_
  refine cLI (va_runV (As := []) (rest := []) ⟨hx, hb, hml, hown, hts⟩ ((kX5_thrown l Γ mo ms2 mt2 mc2 md2 (nI SL2) m1 (nI L2) m3 m4 m5) _) (cwV 0 hts gL_law_X5_thrown rfl rfl rfl (by decide +kernel) ⟨Nat.le_of_ble_eq_true rfl, Nat.le_of_ble_eq_true rfl⟩) ⟨wPre_blind, va_recv hK hP (ci := 5) (q0 := 57) rfl rfl, wPre_mk hP hD hK hS hA hAB hAm [7] rfl rfl⟩ rfl rfl hl.1 rfl (lv_room (Nat.le_of_ble_eq_true rfl)) dL_law_904 ⟨hc, hs⟩) hP hS hA (fun H locs hP hS => ?_)
  refine lv_iload hx hb dL_law_907 (lv_at hl 1 rfl) ?_
  refine lv_icmp_eq (tgt := 914) hx hb dL_law_909 (by decide) (fun _ => ?_) (fun z => absurd k6 z)
  refine lv_iload hx hb dL_law_914 (lv_at hl 1 rfl) ?_
  have fin : W p l e room_1 s m args below meth c H locs (cells + 1) (slots + 6) Q (F0 m 931 ls []) := by
    refine lv_goto (tgt := 1404) hx hb dL_law_931 (by decide) ?_
    exact go SL2 sr2 vs2 v2 vsp2 ck2 so2 sp2 L2 cs2 ol2 ms2 mt2 mc2 md2 m1 m3 m4 m5 H locs ls k8 hP hD hS (lv_sub hl [2, 3, 4, 5, 6] rfl)
  refine lv_if_ne (tgt := 931) hx hb dL_law_916 (by decide) (fun _ => fin) (fun c1 => ?_)
  refine lv_aload_n hx hb dL_law_919 rfl (lv_at hl 3 rfl) ?_
  refine lv_iconst (v := nI 0) hx hb dL_law_920 (by decide) ?_
  refine lald0 hx hb hK hP 62 rfl dL_law_921 ?_
  rw [k7 c1]
  refine lv_iload hx hb dL_law_922 (lv_at hl 0 rfl) ?_
  refine lv_i2l (v := f.toInt64) hx hb dL_law_924 rfl ?_
  refine lv_lcmp0 hx hb dL_law_925 ?_
  exact lv_if_eq (tgt := 931) hx hb dL_law_926 (by decide) (fun _ => fin) (fun z => absurd rfl z)
set_option maxHeartbeats 4000000 in
set_option maxRecDepth 100000 in
theorem lc_share (hfl : l.stackTraces = false) (hx : p.tables.exec = Jvm.exec) (hb : c.code = cL_law) (hml : c.maxLocals = 9) (hown : s.vm.findClass RL = some m.cls) (hts : ∀ w ∈ wsL_law, w.before args s = true) (hK : va_K Γ.1 vwCl (wtys Γ) s) (hA : ∀ q, s.heap.size ≤ q → A q) (hAm : Amb A s) (hX : va_X b N xs s s.heap) (hbl : b < s.heap.size) (hbA : ¬ A b) (hi : i + 4 ≤ N) (hN : N ≤ 2048) (hc : cells + 1 ≤ 601024) (hs : slots + 6 ≤ 7293034) (go : LGO p l e s m args below meth c A Γ q an ap qs ac au ax sa oa mo b i (cells + 1) (slots + 6) Q) {SL sr : Nat} {vs : Nat → Nat → Nat → Int32} {v vsp : Nat → Nat → Int32} {ck so sp : Nat → Int32} {L : Nat} {cs : Nat → Int32} {ol : Nat → Int64} {ms mt mc md : Nat → Int32} {n1 n3 n4 n5 : Int32} (hR : REL SL sr vs v ck so sp L cs ms mt) (hP : va_P Γ.1 vwCl (wcat [mnC q an ap qs ac au ax (nI SL), plB Γ an v, plB Γ ap vsp, saB Γ qs sa sr vs, cuB Γ ac ck, suB Γ au so sp, txB Γ ax cs (nI L), moB Γ mo ms mt mc md (nI SL) n1 (nI L) n3 n4 n5, ouB Γ oa ol]) H) (hD : va_D A (wcat [mnC q an ap qs ac au ax (nI SL), plB Γ an v, plB Γ ap vsp, saB Γ qs sa sr vs, cuB Γ ac ck, suB Γ au so sp, txB Γ ax cs (nI L), moB Γ mo ms mt mc md (nI SL) n1 (nI L) n3 n4 n5, ouB Γ oa ol])) (hS : va_S A s.heap H locs) (hl : lv_has ls 9 [(4, .int (nI i)), (3, .ref oa), (2, .ref (mo 0)), (1, .ref q), (0, .ref b)]) : W p l e room_1 s m args below meth c H locs cells slots Q (F0 m 934 ls []) := by
  have hAB : ∀ q : Nat, A q → A q := fun _ h => h
  obtain ⟨SL2, sr2, vs2, v2, vsp2, ck2, so2, sp2, L2, cs2, ol2, ms2, mt2, mc2, md2, m1, m3, m4, m5, r, f, rm, ⟨kJ, k1, k2, k3, k4⟩, k5, k6, k7, k8⟩ := st_share (q := q) (an := an) (ap := ap) (qs := qs) (ac := ac) (au := au) (ax := ax) (sa := sa) (oa := oa) (mo := mo) (Γ := Γ) (vsp := vsp) (ol := ol) (mc := mc) (md := md) (n1 := n1) (n3 := n3) (n4 := n4) (n5 := n5) hfl hR (xs (nI i + nI 1).toNatClampNeg) (xs (nI i + nI 2).toNatClampNeg)
  refine lv_aload_n hx hb dL_law_934 rfl (lv_at hl 3 rfl) ?_
  refine lv_aload_n hx hb dL_law_935 rfl (lv_at hl 4 rfl) ?_
  refine lv_iload hx hb dL_law_936 (lv_at hl 0 rfl) ?_
  refine lv_iconst (v := nI 1) hx hb dL_law_938 (by decide) ?_
  refine lv_iadd hx hb dL_law_939 ?_
  refine va_sld hx hb hX hbl hbA hS (show vp_in (nI i + nI 1) N by rw [nI_add]; exact vp_in_nI (by omega) (by omega)) dL_law_940 ?_
  refine lv_aload_n hx hb dL_law_941 rfl (lv_at hl 4 rfl) ?_
  refine lv_iload hx hb dL_law_942 (lv_at hl 0 rfl) ?_
  refine lv_iconst (v := nI 2) hx hb dL_law_944 (by decide) ?_
  refine lv_iadd hx hb dL_law_945 ?_
  refine va_sld hx hb hX hbl hbA hS (show vp_in (nI i + nI 2) N by rw [nI_add]; exact vp_in_nI (by omega) (by omega)) dL_law_946 ?_
  refine lv_aload_n hx hb dL_law_947 rfl (lv_at hl 1 rfl) ?_
  refine cMJ (bc' := [mnC q an ap qs ac au ax (nI SL2), plB Γ an v2, plB Γ ap vsp2, saB Γ qs sa sr2 vs2, cuB Γ ac ck2, suB Γ au so2 sp2, txB Γ ax cs2 (nI L2), ouB Γ oa ol2]) (vx_runSW (As := [.ref q, .int (xs (nI i + nI 1).toNatClampNeg), .int (xs (nI i + nI 2).toNatClampNeg), .ref oa]) (rest := []) ⟨hx, hb, hml, hown, hts⟩ (kJ _) (vx_cwSW 4 hts gL_law_L_share rfl rfl rfl (by decide +kernel) ⟨Nat.le_of_ble_eq_true rfl, Nat.le_of_ble_eq_true rfl⟩) ⟨wPre_blind, wPre_mk hP hD hK hS hA hAB hAm [0, 1, 2, 3, 4, 5, 6, 8] rfl rfl⟩ rfl rfl hl.1 rfl (lv_room (Nat.le_of_ble_eq_true rfl)) dL_law_948 ⟨hc, hs⟩) hP hD hS hA [0, 1, 2, 3, 4, 5, 6, 8] rfl (by simp only [List.map_cons, List.map_nil, suB_w, plB_w, cuB_w, txB_w, mnC_w, saB_w, ouB_w]) (bs' := [mnC q an ap qs ac au ax (nI SL2), plB Γ an v2, plB Γ ap vsp2, saB Γ qs sa sr2 vs2, cuB Γ ac ck2, suB Γ au so2 sp2, txB Γ ax cs2 (nI L2), moB Γ mo ms mt mc md (nI SL) n1 (nI L) n3 n4 n5, ouB Γ oa ol2]) rfl (fun H locs hP hD hS => ?_)
  refine lv_istore (lv' := [(5, .int r), (4, .int (nI i)), (3, .ref oa), (2, .ref (mo 0)), (1, .ref q), (0, .ref b)]) hx hb dL_law_951 hl (by decide) rfl (fun ls hl => ?_)
  refine lv_aload_n hx hb dL_law_953 rfl (lv_at hl 3 rfl) ?_
  refine lv_aload_n hx hb dL_law_954 rfl (lv_at hl 5 rfl) ?_
  refine lv_iload hx hb dL_law_955 (lv_at hl 1 rfl) ?_
  refine lv_iconst (v := nI 1) hx hb dL_law_957 (by decide) ?_
  refine lv_iadd hx hb dL_law_958 ?_
  refine va_sld hx hb hX hbl hbA hS (show vp_in (nI i + nI 1) N by rw [nI_add]; exact vp_in_nI (by omega) (by omega)) dL_law_959 ?_
  refine lv_aload_n hx hb dL_law_960 rfl (lv_at hl 5 rfl) ?_
  refine lv_iload hx hb dL_law_961 (lv_at hl 1 rfl) ?_
  refine lv_iconst (v := nI 2) hx hb dL_law_963 (by decide) ?_
  refine lv_iadd hx hb dL_law_964 ?_
  refine va_sld hx hb hX hbl hbA hS (show vp_in (nI i + nI 2) N by rw [nI_add]; exact vp_in_nI (by omega) (by omega)) dL_law_965 ?_
  refine cMI (bc' := [moB Γ mo ms2 mt2 mc2 md2 (nI SL2) m1 (nI L2) m3 m4 m5]) (va_runV (As := [.int (xs (nI i + nI 1).toNatClampNeg), .int (xs (nI i + nI 2).toNatClampNeg)]) (rest := []) ⟨hx, hb, hml, hown, hts⟩ (k5 _) (cwV 2 hts gL_law_X5_share rfl k3 k4 (by decide +kernel) ⟨by show rm.frames + 1 ≤ 12; omega, by show 8 + (_ + 11) + rm.locals ≤ 436; omega⟩) ⟨wPre_blind, va_recv hK hP (ci := 5) (q0 := 57) rfl rfl, wPre_mk hP hD hK hS hA hAB hAm [7] rfl rfl⟩ rfl rfl hl.1 rfl (lv_room (Nat.le_of_ble_eq_true rfl)) dL_law_966 ⟨hc, hs⟩) hP hD hS hA [7] rfl (by simp only [List.map_cons, List.map_nil, moB_w]) (bs' := [mnC q an ap qs ac au ax (nI SL2), plB Γ an v2, plB Γ ap vsp2, saB Γ qs sa sr2 vs2, cuB Γ ac ck2, suB Γ au so2 sp2, txB Γ ax cs2 (nI L2), moB Γ mo ms2 mt2 mc2 md2 (nI SL2) m1 (nI L2) m3 m4 m5, ouB Γ oa ol2]) rfl (fun H locs hP hD hS => ?_)
  refine lv_istore (lv' := [(6, .int f), (5, .int r), (4, .int (nI i)), (3, .ref oa), (2, .ref (mo 0)), (1, .ref q), (0, .ref b)]) hx hb dL_law_969 hl (by decide) rfl (fun ls hl => ?_)
  refine lv_aload_n hx hb dL_law_971 rfl (lv_at hl 4 rfl) ?_
  refine cLI (va_runV (As := []) (rest := []) ⟨hx, hb, hml, hown, hts⟩ ((kX5_thrown l Γ mo ms2 mt2 mc2 md2 (nI SL2) m1 (nI L2) m3 m4 m5) _) (cwV 0 hts gL_law_X5_thrown rfl rfl rfl (by decide +kernel) ⟨Nat.le_of_ble_eq_true rfl, Nat.le_of_ble_eq_true rfl⟩) ⟨wPre_blind, va_recv hK hP (ci := 5) (q0 := 57) rfl rfl, wPre_mk hP hD hK hS hA hAB hAm [7] rfl rfl⟩ rfl rfl hl.1 rfl (lv_room (Nat.le_of_ble_eq_true rfl)) dL_law_972 ⟨hc, hs⟩) hP hS hA (fun H locs hP hS => ?_)
  refine lv_iload hx hb dL_law_975 (lv_at hl 1 rfl) ?_
  refine lv_icmp_eq (tgt := 982) hx hb dL_law_977 (by decide) (fun _ => ?_) (fun z => absurd k6 z)
  refine lv_iload hx hb dL_law_982 (lv_at hl 1 rfl) ?_
  have fin : W p l e room_1 s m args below meth c H locs (cells + 1) (slots + 6) Q (F0 m 999 ls []) := by
    refine lv_goto (tgt := 1404) hx hb dL_law_999 (by decide) ?_
    exact go SL2 sr2 vs2 v2 vsp2 ck2 so2 sp2 L2 cs2 ol2 ms2 mt2 mc2 md2 m1 m3 m4 m5 H locs ls k8 hP hD hS (lv_sub hl [2, 3, 4, 5, 6] rfl)
  refine lv_if_ne (tgt := 999) hx hb dL_law_984 (by decide) (fun _ => fin) (fun c1 => ?_)
  refine lv_aload_n hx hb dL_law_987 rfl (lv_at hl 3 rfl) ?_
  refine lv_iconst (v := nI 0) hx hb dL_law_988 (by decide) ?_
  refine lald0 hx hb hK hP 62 rfl dL_law_989 ?_
  rw [k7 c1]
  refine lv_iload hx hb dL_law_990 (lv_at hl 0 rfl) ?_
  refine lv_i2l (v := f.toInt64) hx hb dL_law_992 rfl ?_
  refine lv_lcmp0 hx hb dL_law_993 ?_
  exact lv_if_eq (tgt := 999) hx hb dL_law_994 (by decide) (fun _ => fin) (fun z => absurd rfl z)
set_option maxHeartbeats 4000000 in
set_option maxRecDepth 100000 in
theorem lc_count (hfl : l.stackTraces = false) (hx : p.tables.exec = Jvm.exec) (hb : c.code = cL_law) (hml : c.maxLocals = 9) (hown : s.vm.findClass RL = some m.cls) (hts : ∀ w ∈ wsL_law, w.before args s = true) (hK : va_K Γ.1 vwCl (wtys Γ) s) (hA : ∀ q, s.heap.size ≤ q → A q) (hAm : Amb A s) (hX : va_X b N xs s s.heap) (hbl : b < s.heap.size) (hbA : ¬ A b) (hi : i + 4 ≤ N) (hN : N ≤ 2048) (hc : cells + 1 ≤ 601024) (hs : slots + 6 ≤ 7293034) (go : LGO p l e s m args below meth c A Γ q an ap qs ac au ax sa oa mo b i (cells + 1) (slots + 6) Q) {SL sr : Nat} {vs : Nat → Nat → Nat → Int32} {v vsp : Nat → Nat → Int32} {ck so sp : Nat → Int32} {L : Nat} {cs : Nat → Int32} {ol : Nat → Int64} {ms mt mc md : Nat → Int32} {n1 n3 n4 n5 : Int32} (hR : REL SL sr vs v ck so sp L cs ms mt) (hP : va_P Γ.1 vwCl (wcat [mnC q an ap qs ac au ax (nI SL), plB Γ an v, plB Γ ap vsp, saB Γ qs sa sr vs, cuB Γ ac ck, suB Γ au so sp, txB Γ ax cs (nI L), moB Γ mo ms mt mc md (nI SL) n1 (nI L) n3 n4 n5, ouB Γ oa ol]) H) (hD : va_D A (wcat [mnC q an ap qs ac au ax (nI SL), plB Γ an v, plB Γ ap vsp, saB Γ qs sa sr vs, cuB Γ ac ck, suB Γ au so sp, txB Γ ax cs (nI L), moB Γ mo ms mt mc md (nI SL) n1 (nI L) n3 n4 n5, ouB Γ oa ol])) (hS : va_S A s.heap H locs) (hl : lv_has ls 9 [(4, .int (nI i)), (3, .ref oa), (2, .ref (mo 0)), (1, .ref q), (0, .ref b)]) : W p l e room_1 s m args below meth c H locs cells slots Q (F0 m 1002 ls []) := by
  have hAB : ∀ q : Nat, A q → A q := fun _ h => h
  obtain ⟨SL2, sr2, vs2, v2, vsp2, ck2, so2, sp2, L2, cs2, ol2, ms2, mt2, mc2, md2, m1, m3, m4, m5, r, f, rm, ⟨kJ, k1, k2, k3, k4⟩, k5, k6, k7, k8⟩ := st_count (q := q) (an := an) (ap := ap) (qs := qs) (ac := ac) (au := au) (ax := ax) (sa := sa) (oa := oa) (mo := mo) (Γ := Γ) (vsp := vsp) (ol := ol) (mc := mc) (md := md) (n1 := n1) (n3 := n3) (n4 := n4) (n5 := n5) hfl hR (xs (nI i + nI 1).toNatClampNeg)
  refine lv_aload_n hx hb dL_law_1002 rfl (lv_at hl 3 rfl) ?_
  refine lv_aload_n hx hb dL_law_1003 rfl (lv_at hl 4 rfl) ?_
  refine lv_iload hx hb dL_law_1004 (lv_at hl 0 rfl) ?_
  refine lv_iconst (v := nI 1) hx hb dL_law_1006 (by decide) ?_
  refine lv_iadd hx hb dL_law_1007 ?_
  refine va_sld hx hb hX hbl hbA hS (show vp_in (nI i + nI 1) N by rw [nI_add]; exact vp_in_nI (by omega) (by omega)) dL_law_1008 ?_
  refine lv_aload_n hx hb dL_law_1009 rfl (lv_at hl 1 rfl) ?_
  refine cMJ (bc' := [mnC q an ap qs ac au ax (nI SL2), plB Γ an v2, plB Γ ap vsp2, saB Γ qs sa sr2 vs2, cuB Γ ac ck2, suB Γ au so2 sp2, txB Γ ax cs2 (nI L2), ouB Γ oa ol2]) (vx_runSW (As := [.ref q, .int (xs (nI i + nI 1).toNatClampNeg), .ref oa]) (rest := []) ⟨hx, hb, hml, hown, hts⟩ (kJ _) (vx_cwSW 3 hts gL_law_L_count rfl rfl rfl (by decide +kernel) ⟨Nat.le_of_ble_eq_true rfl, Nat.le_of_ble_eq_true rfl⟩) ⟨wPre_blind, wPre_mk hP hD hK hS hA hAB hAm [0, 1, 2, 3, 4, 5, 6, 8] rfl rfl⟩ rfl rfl hl.1 rfl (lv_room (Nat.le_of_ble_eq_true rfl)) dL_law_1010 ⟨hc, hs⟩) hP hD hS hA [0, 1, 2, 3, 4, 5, 6, 8] rfl (by simp only [List.map_cons, List.map_nil, suB_w, plB_w, cuB_w, txB_w, mnC_w, saB_w, ouB_w]) (bs' := [mnC q an ap qs ac au ax (nI SL2), plB Γ an v2, plB Γ ap vsp2, saB Γ qs sa sr2 vs2, cuB Γ ac ck2, suB Γ au so2 sp2, txB Γ ax cs2 (nI L2), moB Γ mo ms mt mc md (nI SL) n1 (nI L) n3 n4 n5, ouB Γ oa ol2]) rfl (fun H locs hP hD hS => ?_)
  refine lv_istore (lv' := [(5, .int r), (4, .int (nI i)), (3, .ref oa), (2, .ref (mo 0)), (1, .ref q), (0, .ref b)]) hx hb dL_law_1013 hl (by decide) rfl (fun ls hl => ?_)
  refine lv_aload_n hx hb dL_law_1015 rfl (lv_at hl 3 rfl) ?_
  refine lv_aload_n hx hb dL_law_1016 rfl (lv_at hl 5 rfl) ?_
  refine lv_iload hx hb dL_law_1017 (lv_at hl 1 rfl) ?_
  refine lv_iconst (v := nI 1) hx hb dL_law_1019 (by decide) ?_
  refine lv_iadd hx hb dL_law_1020 ?_
  refine va_sld hx hb hX hbl hbA hS (show vp_in (nI i + nI 1) N by rw [nI_add]; exact vp_in_nI (by omega) (by omega)) dL_law_1021 ?_
  refine cMI (bc' := [moB Γ mo ms2 mt2 mc2 md2 (nI SL2) m1 (nI L2) m3 m4 m5]) (va_runV (As := [.int (xs (nI i + nI 1).toNatClampNeg)]) (rest := []) ⟨hx, hb, hml, hown, hts⟩ (k5 _) (cwV 1 hts gL_law_X5_count rfl k3 k4 (by decide +kernel) ⟨by show rm.frames + 1 ≤ 12; omega, by show 8 + (_ + 11) + rm.locals ≤ 436; omega⟩) ⟨wPre_blind, va_recv hK hP (ci := 5) (q0 := 57) rfl rfl, wPre_mk hP hD hK hS hA hAB hAm [7] rfl rfl⟩ rfl rfl hl.1 rfl (lv_room (Nat.le_of_ble_eq_true rfl)) dL_law_1022 ⟨hc, hs⟩) hP hD hS hA [7] rfl (by simp only [List.map_cons, List.map_nil, moB_w]) (bs' := [mnC q an ap qs ac au ax (nI SL2), plB Γ an v2, plB Γ ap vsp2, saB Γ qs sa sr2 vs2, cuB Γ ac ck2, suB Γ au so2 sp2, txB Γ ax cs2 (nI L2), moB Γ mo ms2 mt2 mc2 md2 (nI SL2) m1 (nI L2) m3 m4 m5, ouB Γ oa ol2]) rfl (fun H locs hP hD hS => ?_)
  refine lv_istore (lv' := [(6, .int f), (5, .int r), (4, .int (nI i)), (3, .ref oa), (2, .ref (mo 0)), (1, .ref q), (0, .ref b)]) hx hb dL_law_1025 hl (by decide) rfl (fun ls hl => ?_)
  refine lv_aload_n hx hb dL_law_1027 rfl (lv_at hl 4 rfl) ?_
  refine cLI (va_runV (As := []) (rest := []) ⟨hx, hb, hml, hown, hts⟩ ((kX5_thrown l Γ mo ms2 mt2 mc2 md2 (nI SL2) m1 (nI L2) m3 m4 m5) _) (cwV 0 hts gL_law_X5_thrown rfl rfl rfl (by decide +kernel) ⟨Nat.le_of_ble_eq_true rfl, Nat.le_of_ble_eq_true rfl⟩) ⟨wPre_blind, va_recv hK hP (ci := 5) (q0 := 57) rfl rfl, wPre_mk hP hD hK hS hA hAB hAm [7] rfl rfl⟩ rfl rfl hl.1 rfl (lv_room (Nat.le_of_ble_eq_true rfl)) dL_law_1028 ⟨hc, hs⟩) hP hS hA (fun H locs hP hS => ?_)
  refine lv_iload hx hb dL_law_1031 (lv_at hl 1 rfl) ?_
  refine lv_icmp_eq (tgt := 1038) hx hb dL_law_1033 (by decide) (fun _ => ?_) (fun z => absurd k6 z)
  refine lv_iload hx hb dL_law_1038 (lv_at hl 1 rfl) ?_
  have fin : W p l e room_1 s m args below meth c H locs (cells + 1) (slots + 6) Q (F0 m 1055 ls []) := by
    refine lv_goto (tgt := 1404) hx hb dL_law_1055 (by decide) ?_
    exact go SL2 sr2 vs2 v2 vsp2 ck2 so2 sp2 L2 cs2 ol2 ms2 mt2 mc2 md2 m1 m3 m4 m5 H locs ls k8 hP hD hS (lv_sub hl [2, 3, 4, 5, 6] rfl)
  refine lv_if_ne (tgt := 1055) hx hb dL_law_1040 (by decide) (fun _ => fin) (fun c1 => ?_)
  refine lv_aload_n hx hb dL_law_1043 rfl (lv_at hl 3 rfl) ?_
  refine lv_iconst (v := nI 0) hx hb dL_law_1044 (by decide) ?_
  refine lald0 hx hb hK hP 62 rfl dL_law_1045 ?_
  rw [k7 c1]
  refine lv_iload hx hb dL_law_1046 (lv_at hl 0 rfl) ?_
  refine lv_i2l (v := f.toInt64) hx hb dL_law_1048 rfl ?_
  refine lv_lcmp0 hx hb dL_law_1049 ?_
  exact lv_if_eq (tgt := 1055) hx hb dL_law_1050 (by decide) (fun _ => fin) (fun z => absurd rfl z)
set_option maxHeartbeats 4000000 in
set_option maxRecDepth 100000 in
theorem lc_why (hfl : l.stackTraces = false) (hx : p.tables.exec = Jvm.exec) (hb : c.code = cL_law) (hml : c.maxLocals = 9) (hown : s.vm.findClass RL = some m.cls) (hts : ∀ w ∈ wsL_law, w.before args s = true) (hK : va_K Γ.1 vwCl (wtys Γ) s) (hA : ∀ q, s.heap.size ≤ q → A q) (hAm : Amb A s) (hX : va_X b N xs s s.heap) (hbl : b < s.heap.size) (hbA : ¬ A b) (hi : i + 4 ≤ N) (hN : N ≤ 2048) (hc : cells + 1 ≤ 601024) (hs : slots + 6 ≤ 7293034) (go : LGO p l e s m args below meth c A Γ q an ap qs ac au ax sa oa mo b i (cells + 1) (slots + 6) Q) {SL sr : Nat} {vs : Nat → Nat → Nat → Int32} {v vsp : Nat → Nat → Int32} {ck so sp : Nat → Int32} {L : Nat} {cs : Nat → Int32} {ol : Nat → Int64} {ms mt mc md : Nat → Int32} {n1 n3 n4 n5 : Int32} (hR : REL SL sr vs v ck so sp L cs ms mt) (hP : va_P Γ.1 vwCl (wcat [mnC q an ap qs ac au ax (nI SL), plB Γ an v, plB Γ ap vsp, saB Γ qs sa sr vs, cuB Γ ac ck, suB Γ au so sp, txB Γ ax cs (nI L), moB Γ mo ms mt mc md (nI SL) n1 (nI L) n3 n4 n5, ouB Γ oa ol]) H) (hD : va_D A (wcat [mnC q an ap qs ac au ax (nI SL), plB Γ an v, plB Γ ap vsp, saB Γ qs sa sr vs, cuB Γ ac ck, suB Γ au so sp, txB Γ ax cs (nI L), moB Γ mo ms mt mc md (nI SL) n1 (nI L) n3 n4 n5, ouB Γ oa ol])) (hS : va_S A s.heap H locs) (hl : lv_has ls 9 [(4, .int (nI i)), (3, .ref oa), (2, .ref (mo 0)), (1, .ref q), (0, .ref b)]) : W p l e room_1 s m args below meth c H locs cells slots Q (F0 m 1058 ls []) := by
  have hAB : ∀ q : Nat, A q → A q := fun _ h => h
  obtain ⟨SL2, sr2, vs2, v2, vsp2, ck2, so2, sp2, L2, cs2, ol2, ms2, mt2, mc2, md2, m1, m3, m4, m5, r, f, rm, ⟨kJ, k1, k2, k3, k4⟩, k5, k6, k7, k8⟩ := st_why (q := q) (an := an) (ap := ap) (qs := qs) (ac := ac) (au := au) (ax := ax) (sa := sa) (oa := oa) (mo := mo) (Γ := Γ) (vsp := vsp) (ol := ol) (mc := mc) (md := md) (n1 := n1) (n3 := n3) (n4 := n4) (n5 := n5) hfl hR (xs (nI i + nI 1).toNatClampNeg)
  refine lv_aload_n hx hb dL_law_1058 rfl (lv_at hl 3 rfl) ?_
  refine lv_aload_n hx hb dL_law_1059 rfl (lv_at hl 4 rfl) ?_
  refine lv_iload hx hb dL_law_1060 (lv_at hl 0 rfl) ?_
  refine lv_iconst (v := nI 1) hx hb dL_law_1062 (by decide) ?_
  refine lv_iadd hx hb dL_law_1063 ?_
  refine va_sld hx hb hX hbl hbA hS (show vp_in (nI i + nI 1) N by rw [nI_add]; exact vp_in_nI (by omega) (by omega)) dL_law_1064 ?_
  refine lv_aload_n hx hb dL_law_1065 rfl (lv_at hl 1 rfl) ?_
  refine cMJ (bc' := [mnC q an ap qs ac au ax (nI SL2), plB Γ an v2, plB Γ ap vsp2, saB Γ qs sa sr2 vs2, cuB Γ ac ck2, suB Γ au so2 sp2, txB Γ ax cs2 (nI L2), ouB Γ oa ol2]) (vx_runSW (As := [.ref q, .int (xs (nI i + nI 1).toNatClampNeg), .ref oa]) (rest := []) ⟨hx, hb, hml, hown, hts⟩ (kJ _) (vx_cwSW 3 hts gL_law_L_why rfl rfl rfl (by decide +kernel) ⟨Nat.le_of_ble_eq_true rfl, Nat.le_of_ble_eq_true rfl⟩) ⟨wPre_blind, wPre_mk hP hD hK hS hA hAB hAm [0, 1, 2, 3, 4, 5, 6, 8] rfl rfl⟩ rfl rfl hl.1 rfl (lv_room (Nat.le_of_ble_eq_true rfl)) dL_law_1066 ⟨hc, hs⟩) hP hD hS hA [0, 1, 2, 3, 4, 5, 6, 8] rfl (by simp only [List.map_cons, List.map_nil, suB_w, plB_w, cuB_w, txB_w, mnC_w, saB_w, ouB_w]) (bs' := [mnC q an ap qs ac au ax (nI SL2), plB Γ an v2, plB Γ ap vsp2, saB Γ qs sa sr2 vs2, cuB Γ ac ck2, suB Γ au so2 sp2, txB Γ ax cs2 (nI L2), moB Γ mo ms mt mc md (nI SL) n1 (nI L) n3 n4 n5, ouB Γ oa ol2]) rfl (fun H locs hP hD hS => ?_)
  refine lv_istore (lv' := [(5, .int r), (4, .int (nI i)), (3, .ref oa), (2, .ref (mo 0)), (1, .ref q), (0, .ref b)]) hx hb dL_law_1069 hl (by decide) rfl (fun ls hl => ?_)
  refine lv_aload_n hx hb dL_law_1071 rfl (lv_at hl 3 rfl) ?_
  refine lv_aload_n hx hb dL_law_1072 rfl (lv_at hl 5 rfl) ?_
  refine lv_iload hx hb dL_law_1073 (lv_at hl 1 rfl) ?_
  refine lv_iconst (v := nI 1) hx hb dL_law_1075 (by decide) ?_
  refine lv_iadd hx hb dL_law_1076 ?_
  refine va_sld hx hb hX hbl hbA hS (show vp_in (nI i + nI 1) N by rw [nI_add]; exact vp_in_nI (by omega) (by omega)) dL_law_1077 ?_
  refine cMI (bc' := [moB Γ mo ms2 mt2 mc2 md2 (nI SL2) m1 (nI L2) m3 m4 m5]) (va_runV (As := [.int (xs (nI i + nI 1).toNatClampNeg)]) (rest := []) ⟨hx, hb, hml, hown, hts⟩ (k5 _) (cwV 1 hts gL_law_X5_why rfl k3 k4 (by decide +kernel) ⟨by show rm.frames + 1 ≤ 12; omega, by show 8 + (_ + 11) + rm.locals ≤ 436; omega⟩) ⟨wPre_blind, va_recv hK hP (ci := 5) (q0 := 57) rfl rfl, wPre_mk hP hD hK hS hA hAB hAm [7] rfl rfl⟩ rfl rfl hl.1 rfl (lv_room (Nat.le_of_ble_eq_true rfl)) dL_law_1078 ⟨hc, hs⟩) hP hD hS hA [7] rfl (by simp only [List.map_cons, List.map_nil, moB_w]) (bs' := [mnC q an ap qs ac au ax (nI SL2), plB Γ an v2, plB Γ ap vsp2, saB Γ qs sa sr2 vs2, cuB Γ ac ck2, suB Γ au so2 sp2, txB Γ ax cs2 (nI L2), moB Γ mo ms2 mt2 mc2 md2 (nI SL2) m1 (nI L2) m3 m4 m5, ouB Γ oa ol2]) rfl (fun H locs hP hD hS => ?_)
  refine lv_istore (lv' := [(6, .int f), (5, .int r), (4, .int (nI i)), (3, .ref oa), (2, .ref (mo 0)), (1, .ref q), (0, .ref b)]) hx hb dL_law_1081 hl (by decide) rfl (fun ls hl => ?_)
  refine lv_aload_n hx hb dL_law_1083 rfl (lv_at hl 4 rfl) ?_
  refine cLI (va_runV (As := []) (rest := []) ⟨hx, hb, hml, hown, hts⟩ ((kX5_thrown l Γ mo ms2 mt2 mc2 md2 (nI SL2) m1 (nI L2) m3 m4 m5) _) (cwV 0 hts gL_law_X5_thrown rfl rfl rfl (by decide +kernel) ⟨Nat.le_of_ble_eq_true rfl, Nat.le_of_ble_eq_true rfl⟩) ⟨wPre_blind, va_recv hK hP (ci := 5) (q0 := 57) rfl rfl, wPre_mk hP hD hK hS hA hAB hAm [7] rfl rfl⟩ rfl rfl hl.1 rfl (lv_room (Nat.le_of_ble_eq_true rfl)) dL_law_1084 ⟨hc, hs⟩) hP hS hA (fun H locs hP hS => ?_)
  refine lv_iload hx hb dL_law_1087 (lv_at hl 1 rfl) ?_
  refine lv_icmp_eq (tgt := 1094) hx hb dL_law_1089 (by decide) (fun _ => ?_) (fun z => absurd k6 z)
  refine lv_iload hx hb dL_law_1094 (lv_at hl 1 rfl) ?_
  have fin : W p l e room_1 s m args below meth c H locs (cells + 1) (slots + 6) Q (F0 m 1111 ls []) := by
    refine lv_goto (tgt := 1404) hx hb dL_law_1111 (by decide) ?_
    exact go SL2 sr2 vs2 v2 vsp2 ck2 so2 sp2 L2 cs2 ol2 ms2 mt2 mc2 md2 m1 m3 m4 m5 H locs ls k8 hP hD hS (lv_sub hl [2, 3, 4, 5, 6] rfl)
  refine lv_if_ne (tgt := 1111) hx hb dL_law_1096 (by decide) (fun _ => fin) (fun c1 => ?_)
  refine lv_aload_n hx hb dL_law_1099 rfl (lv_at hl 3 rfl) ?_
  refine lv_iconst (v := nI 0) hx hb dL_law_1100 (by decide) ?_
  refine lald0 hx hb hK hP 62 rfl dL_law_1101 ?_
  rw [k7 c1]
  refine lv_iload hx hb dL_law_1102 (lv_at hl 0 rfl) ?_
  refine lv_i2l (v := f.toInt64) hx hb dL_law_1104 rfl ?_
  refine lv_lcmp0 hx hb dL_law_1105 ?_
  exact lv_if_eq (tgt := 1111) hx hb dL_law_1106 (by decide) (fun _ => fin) (fun z => absurd rfl z)
set_option maxHeartbeats 4000000 in
set_option maxRecDepth 100000 in
theorem lc_told (hfl : l.stackTraces = false) (hx : p.tables.exec = Jvm.exec) (hb : c.code = cL_law) (hml : c.maxLocals = 9) (hown : s.vm.findClass RL = some m.cls) (hts : ∀ w ∈ wsL_law, w.before args s = true) (hK : va_K Γ.1 vwCl (wtys Γ) s) (hA : ∀ q, s.heap.size ≤ q → A q) (hAm : Amb A s) (hX : va_X b N xs s s.heap) (hbl : b < s.heap.size) (hbA : ¬ A b) (hi : i + 4 ≤ N) (hN : N ≤ 2048) (hc : cells + 1 ≤ 601024) (hs : slots + 6 ≤ 7293034) (go : LGO p l e s m args below meth c A Γ q an ap qs ac au ax sa oa mo b i (cells + 1) (slots + 6) Q) {SL sr : Nat} {vs : Nat → Nat → Nat → Int32} {v vsp : Nat → Nat → Int32} {ck so sp : Nat → Int32} {L : Nat} {cs : Nat → Int32} {ol : Nat → Int64} {ms mt mc md : Nat → Int32} {n1 n3 n4 n5 : Int32} (hR : REL SL sr vs v ck so sp L cs ms mt) (hP : va_P Γ.1 vwCl (wcat [mnC q an ap qs ac au ax (nI SL), plB Γ an v, plB Γ ap vsp, saB Γ qs sa sr vs, cuB Γ ac ck, suB Γ au so sp, txB Γ ax cs (nI L), moB Γ mo ms mt mc md (nI SL) n1 (nI L) n3 n4 n5, ouB Γ oa ol]) H) (hD : va_D A (wcat [mnC q an ap qs ac au ax (nI SL), plB Γ an v, plB Γ ap vsp, saB Γ qs sa sr vs, cuB Γ ac ck, suB Γ au so sp, txB Γ ax cs (nI L), moB Γ mo ms mt mc md (nI SL) n1 (nI L) n3 n4 n5, ouB Γ oa ol])) (hS : va_S A s.heap H locs) (hl : lv_has ls 9 [(4, .int (nI i)), (3, .ref oa), (2, .ref (mo 0)), (1, .ref q), (0, .ref b)]) : W p l e room_1 s m args below meth c H locs cells slots Q (F0 m 1114 ls []) := by
  have hAB : ∀ q : Nat, A q → A q := fun _ h => h
  obtain ⟨SL2, sr2, vs2, v2, vsp2, ck2, so2, sp2, L2, cs2, ol2, ms2, mt2, mc2, md2, m1, m3, m4, m5, r, f, rm, ⟨kJ, k1, k2, k3, k4⟩, k5, k6, k7, k8⟩ := st_told (q := q) (an := an) (ap := ap) (qs := qs) (ac := ac) (au := au) (ax := ax) (sa := sa) (oa := oa) (mo := mo) (Γ := Γ) (vsp := vsp) (ol := ol) (mc := mc) (md := md) (n1 := n1) (n3 := n3) (n4 := n4) (n5 := n5) hfl hR (xs (nI i + nI 1).toNatClampNeg)
  refine lv_aload_n hx hb dL_law_1114 rfl (lv_at hl 3 rfl) ?_
  refine lv_aload_n hx hb dL_law_1115 rfl (lv_at hl 4 rfl) ?_
  refine lv_iload hx hb dL_law_1116 (lv_at hl 0 rfl) ?_
  refine lv_iconst (v := nI 1) hx hb dL_law_1118 (by decide) ?_
  refine lv_iadd hx hb dL_law_1119 ?_
  refine va_sld hx hb hX hbl hbA hS (show vp_in (nI i + nI 1) N by rw [nI_add]; exact vp_in_nI (by omega) (by omega)) dL_law_1120 ?_
  refine lv_aload_n hx hb dL_law_1121 rfl (lv_at hl 1 rfl) ?_
  refine cMJ (bc' := [mnC q an ap qs ac au ax (nI SL2), plB Γ an v2, plB Γ ap vsp2, saB Γ qs sa sr2 vs2, cuB Γ ac ck2, suB Γ au so2 sp2, txB Γ ax cs2 (nI L2), ouB Γ oa ol2]) (vx_runSW (As := [.ref q, .int (xs (nI i + nI 1).toNatClampNeg), .ref oa]) (rest := []) ⟨hx, hb, hml, hown, hts⟩ (kJ _) (vx_cwSW 3 hts gL_law_L_told rfl rfl rfl (by decide +kernel) ⟨Nat.le_of_ble_eq_true rfl, Nat.le_of_ble_eq_true rfl⟩) ⟨wPre_blind, wPre_mk hP hD hK hS hA hAB hAm [0, 1, 2, 3, 4, 5, 6, 8] rfl rfl⟩ rfl rfl hl.1 rfl (lv_room (Nat.le_of_ble_eq_true rfl)) dL_law_1122 ⟨hc, hs⟩) hP hD hS hA [0, 1, 2, 3, 4, 5, 6, 8] rfl (by simp only [List.map_cons, List.map_nil, suB_w, plB_w, cuB_w, txB_w, mnC_w, saB_w, ouB_w]) (bs' := [mnC q an ap qs ac au ax (nI SL2), plB Γ an v2, plB Γ ap vsp2, saB Γ qs sa sr2 vs2, cuB Γ ac ck2, suB Γ au so2 sp2, txB Γ ax cs2 (nI L2), moB Γ mo ms mt mc md (nI SL) n1 (nI L) n3 n4 n5, ouB Γ oa ol2]) rfl (fun H locs hP hD hS => ?_)
  refine lv_istore (lv' := [(5, .int r), (4, .int (nI i)), (3, .ref oa), (2, .ref (mo 0)), (1, .ref q), (0, .ref b)]) hx hb dL_law_1125 hl (by decide) rfl (fun ls hl => ?_)
  refine lv_aload_n hx hb dL_law_1127 rfl (lv_at hl 3 rfl) ?_
  refine lv_aload_n hx hb dL_law_1128 rfl (lv_at hl 5 rfl) ?_
  refine lv_iload hx hb dL_law_1129 (lv_at hl 1 rfl) ?_
  refine lv_iconst (v := nI 1) hx hb dL_law_1131 (by decide) ?_
  refine lv_iadd hx hb dL_law_1132 ?_
  refine va_sld hx hb hX hbl hbA hS (show vp_in (nI i + nI 1) N by rw [nI_add]; exact vp_in_nI (by omega) (by omega)) dL_law_1133 ?_
  refine cMI (bc' := [moB Γ mo ms2 mt2 mc2 md2 (nI SL2) m1 (nI L2) m3 m4 m5]) (va_runV (As := [.int (xs (nI i + nI 1).toNatClampNeg)]) (rest := []) ⟨hx, hb, hml, hown, hts⟩ (k5 _) (cwV 1 hts gL_law_X5_told rfl k3 k4 (by decide +kernel) ⟨by show rm.frames + 1 ≤ 12; omega, by show 8 + (_ + 11) + rm.locals ≤ 436; omega⟩) ⟨wPre_blind, va_recv hK hP (ci := 5) (q0 := 57) rfl rfl, wPre_mk hP hD hK hS hA hAB hAm [7] rfl rfl⟩ rfl rfl hl.1 rfl (lv_room (Nat.le_of_ble_eq_true rfl)) dL_law_1134 ⟨hc, hs⟩) hP hD hS hA [7] rfl (by simp only [List.map_cons, List.map_nil, moB_w]) (bs' := [mnC q an ap qs ac au ax (nI SL2), plB Γ an v2, plB Γ ap vsp2, saB Γ qs sa sr2 vs2, cuB Γ ac ck2, suB Γ au so2 sp2, txB Γ ax cs2 (nI L2), moB Γ mo ms2 mt2 mc2 md2 (nI SL2) m1 (nI L2) m3 m4 m5, ouB Γ oa ol2]) rfl (fun H locs hP hD hS => ?_)
  refine lv_istore (lv' := [(6, .int f), (5, .int r), (4, .int (nI i)), (3, .ref oa), (2, .ref (mo 0)), (1, .ref q), (0, .ref b)]) hx hb dL_law_1137 hl (by decide) rfl (fun ls hl => ?_)
  refine lv_aload_n hx hb dL_law_1139 rfl (lv_at hl 4 rfl) ?_
  refine cLI (va_runV (As := []) (rest := []) ⟨hx, hb, hml, hown, hts⟩ ((kX5_thrown l Γ mo ms2 mt2 mc2 md2 (nI SL2) m1 (nI L2) m3 m4 m5) _) (cwV 0 hts gL_law_X5_thrown rfl rfl rfl (by decide +kernel) ⟨Nat.le_of_ble_eq_true rfl, Nat.le_of_ble_eq_true rfl⟩) ⟨wPre_blind, va_recv hK hP (ci := 5) (q0 := 57) rfl rfl, wPre_mk hP hD hK hS hA hAB hAm [7] rfl rfl⟩ rfl rfl hl.1 rfl (lv_room (Nat.le_of_ble_eq_true rfl)) dL_law_1140 ⟨hc, hs⟩) hP hS hA (fun H locs hP hS => ?_)
  refine lv_iload hx hb dL_law_1143 (lv_at hl 1 rfl) ?_
  refine lv_icmp_eq (tgt := 1150) hx hb dL_law_1145 (by decide) (fun _ => ?_) (fun z => absurd k6 z)
  refine lv_iload hx hb dL_law_1150 (lv_at hl 1 rfl) ?_
  have fin : W p l e room_1 s m args below meth c H locs (cells + 1) (slots + 6) Q (F0 m 1167 ls []) := by
    refine lv_goto (tgt := 1404) hx hb dL_law_1167 (by decide) ?_
    exact go SL2 sr2 vs2 v2 vsp2 ck2 so2 sp2 L2 cs2 ol2 ms2 mt2 mc2 md2 m1 m3 m4 m5 H locs ls k8 hP hD hS (lv_sub hl [2, 3, 4, 5, 6] rfl)
  refine lv_if_ne (tgt := 1167) hx hb dL_law_1152 (by decide) (fun _ => fin) (fun c1 => ?_)
  refine lv_aload_n hx hb dL_law_1155 rfl (lv_at hl 3 rfl) ?_
  refine lv_iconst (v := nI 0) hx hb dL_law_1156 (by decide) ?_
  refine lald0 hx hb hK hP 62 rfl dL_law_1157 ?_
  rw [k7 c1]
  refine lv_iload hx hb dL_law_1158 (lv_at hl 0 rfl) ?_
  refine lv_i2l (v := f.toInt64) hx hb dL_law_1160 rfl ?_
  refine lv_lcmp0 hx hb dL_law_1161 ?_
  exact lv_if_eq (tgt := 1167) hx hb dL_law_1162 (by decide) (fun _ => fin) (fun z => absurd rfl z)
set_option maxHeartbeats 4000000 in
set_option maxRecDepth 100000 in
theorem lc_possible (hfl : l.stackTraces = false) (hx : p.tables.exec = Jvm.exec) (hb : c.code = cL_law) (hml : c.maxLocals = 9) (hown : s.vm.findClass RL = some m.cls) (hts : ∀ w ∈ wsL_law, w.before args s = true) (hK : va_K Γ.1 vwCl (wtys Γ) s) (hA : ∀ q, s.heap.size ≤ q → A q) (hAm : Amb A s) (hX : va_X b N xs s s.heap) (hbl : b < s.heap.size) (hbA : ¬ A b) (hi : i + 4 ≤ N) (hN : N ≤ 2048) (hc : cells + 1 ≤ 601024) (hs : slots + 6 ≤ 7293034) (go : LGO p l e s m args below meth c A Γ q an ap qs ac au ax sa oa mo b i (cells + 1) (slots + 6) Q) {SL sr : Nat} {vs : Nat → Nat → Nat → Int32} {v vsp : Nat → Nat → Int32} {ck so sp : Nat → Int32} {L : Nat} {cs : Nat → Int32} {ol : Nat → Int64} {ms mt mc md : Nat → Int32} {n1 n3 n4 n5 : Int32} (hR : REL SL sr vs v ck so sp L cs ms mt) (hP : va_P Γ.1 vwCl (wcat [mnC q an ap qs ac au ax (nI SL), plB Γ an v, plB Γ ap vsp, saB Γ qs sa sr vs, cuB Γ ac ck, suB Γ au so sp, txB Γ ax cs (nI L), moB Γ mo ms mt mc md (nI SL) n1 (nI L) n3 n4 n5, ouB Γ oa ol]) H) (hD : va_D A (wcat [mnC q an ap qs ac au ax (nI SL), plB Γ an v, plB Γ ap vsp, saB Γ qs sa sr vs, cuB Γ ac ck, suB Γ au so sp, txB Γ ax cs (nI L), moB Γ mo ms mt mc md (nI SL) n1 (nI L) n3 n4 n5, ouB Γ oa ol])) (hS : va_S A s.heap H locs) (hl : lv_has ls 9 [(4, .int (nI i)), (3, .ref oa), (2, .ref (mo 0)), (1, .ref q), (0, .ref b)]) : W p l e room_1 s m args below meth c H locs cells slots Q (F0 m 1170 ls []) := by
  have hAB : ∀ q : Nat, A q → A q := fun _ h => h
  obtain ⟨SL2, sr2, vs2, v2, vsp2, ck2, so2, sp2, L2, cs2, ol2, ms2, mt2, mc2, md2, m1, m3, m4, m5, r, f, rm, ⟨kJ, k1, k2, k3, k4⟩, k5, k6, k7, k8⟩ := st_possible (q := q) (an := an) (ap := ap) (qs := qs) (ac := ac) (au := au) (ax := ax) (sa := sa) (oa := oa) (mo := mo) (Γ := Γ) (vsp := vsp) (ol := ol) (mc := mc) (md := md) (n1 := n1) (n3 := n3) (n4 := n4) (n5 := n5) hfl hR (xs (nI i + nI 1).toNatClampNeg)
  refine lv_aload_n hx hb dL_law_1170 rfl (lv_at hl 3 rfl) ?_
  refine lv_aload_n hx hb dL_law_1171 rfl (lv_at hl 4 rfl) ?_
  refine lv_iload hx hb dL_law_1172 (lv_at hl 0 rfl) ?_
  refine lv_iconst (v := nI 1) hx hb dL_law_1174 (by decide) ?_
  refine lv_iadd hx hb dL_law_1175 ?_
  refine va_sld hx hb hX hbl hbA hS (show vp_in (nI i + nI 1) N by rw [nI_add]; exact vp_in_nI (by omega) (by omega)) dL_law_1176 ?_
  refine lv_aload_n hx hb dL_law_1177 rfl (lv_at hl 1 rfl) ?_
  refine cMJ (bc' := [mnC q an ap qs ac au ax (nI SL2), plB Γ an v2, plB Γ ap vsp2, saB Γ qs sa sr2 vs2, cuB Γ ac ck2, suB Γ au so2 sp2, txB Γ ax cs2 (nI L2), ouB Γ oa ol2]) (vx_runSW (As := [.ref q, .int (xs (nI i + nI 1).toNatClampNeg), .ref oa]) (rest := []) ⟨hx, hb, hml, hown, hts⟩ (kJ _) (vx_cwSW 3 hts gL_law_L_possible rfl rfl rfl (by decide +kernel) ⟨Nat.le_of_ble_eq_true rfl, Nat.le_of_ble_eq_true rfl⟩) ⟨wPre_blind, wPre_mk hP hD hK hS hA hAB hAm [0, 1, 2, 3, 4, 5, 6, 8] rfl rfl⟩ rfl rfl hl.1 rfl (lv_room (Nat.le_of_ble_eq_true rfl)) dL_law_1178 ⟨hc, hs⟩) hP hD hS hA [0, 1, 2, 3, 4, 5, 6, 8] rfl (by simp only [List.map_cons, List.map_nil, suB_w, plB_w, cuB_w, txB_w, mnC_w, saB_w, ouB_w]) (bs' := [mnC q an ap qs ac au ax (nI SL2), plB Γ an v2, plB Γ ap vsp2, saB Γ qs sa sr2 vs2, cuB Γ ac ck2, suB Γ au so2 sp2, txB Γ ax cs2 (nI L2), moB Γ mo ms mt mc md (nI SL) n1 (nI L) n3 n4 n5, ouB Γ oa ol2]) rfl (fun H locs hP hD hS => ?_)
  refine lv_istore (lv' := [(5, .int r), (4, .int (nI i)), (3, .ref oa), (2, .ref (mo 0)), (1, .ref q), (0, .ref b)]) hx hb dL_law_1181 hl (by decide) rfl (fun ls hl => ?_)
  refine lv_aload_n hx hb dL_law_1183 rfl (lv_at hl 3 rfl) ?_
  refine lv_aload_n hx hb dL_law_1184 rfl (lv_at hl 5 rfl) ?_
  refine lv_iload hx hb dL_law_1185 (lv_at hl 1 rfl) ?_
  refine lv_iconst (v := nI 1) hx hb dL_law_1187 (by decide) ?_
  refine lv_iadd hx hb dL_law_1188 ?_
  refine va_sld hx hb hX hbl hbA hS (show vp_in (nI i + nI 1) N by rw [nI_add]; exact vp_in_nI (by omega) (by omega)) dL_law_1189 ?_
  refine cMI (bc' := [moB Γ mo ms2 mt2 mc2 md2 (nI SL2) m1 (nI L2) m3 m4 m5]) (va_runV (As := [.int (xs (nI i + nI 1).toNatClampNeg)]) (rest := []) ⟨hx, hb, hml, hown, hts⟩ (k5 _) (cwV 1 hts gL_law_X5_possible rfl k3 k4 (by decide +kernel) ⟨by show rm.frames + 1 ≤ 12; omega, by show 8 + (_ + 11) + rm.locals ≤ 436; omega⟩) ⟨wPre_blind, va_recv hK hP (ci := 5) (q0 := 57) rfl rfl, wPre_mk hP hD hK hS hA hAB hAm [7] rfl rfl⟩ rfl rfl hl.1 rfl (lv_room (Nat.le_of_ble_eq_true rfl)) dL_law_1190 ⟨hc, hs⟩) hP hD hS hA [7] rfl (by simp only [List.map_cons, List.map_nil, moB_w]) (bs' := [mnC q an ap qs ac au ax (nI SL2), plB Γ an v2, plB Γ ap vsp2, saB Γ qs sa sr2 vs2, cuB Γ ac ck2, suB Γ au so2 sp2, txB Γ ax cs2 (nI L2), moB Γ mo ms2 mt2 mc2 md2 (nI SL2) m1 (nI L2) m3 m4 m5, ouB Γ oa ol2]) rfl (fun H locs hP hD hS => ?_)
  refine lv_istore (lv' := [(6, .int f), (5, .int r), (4, .int (nI i)), (3, .ref oa), (2, .ref (mo 0)), (1, .ref q), (0, .ref b)]) hx hb dL_law_1193 hl (by decide) rfl (fun ls hl => ?_)
  refine lv_aload_n hx hb dL_law_1195 rfl (lv_at hl 4 rfl) ?_
  refine cLI (va_runV (As := []) (rest := []) ⟨hx, hb, hml, hown, hts⟩ ((kX5_thrown l Γ mo ms2 mt2 mc2 md2 (nI SL2) m1 (nI L2) m3 m4 m5) _) (cwV 0 hts gL_law_X5_thrown rfl rfl rfl (by decide +kernel) ⟨Nat.le_of_ble_eq_true rfl, Nat.le_of_ble_eq_true rfl⟩) ⟨wPre_blind, va_recv hK hP (ci := 5) (q0 := 57) rfl rfl, wPre_mk hP hD hK hS hA hAB hAm [7] rfl rfl⟩ rfl rfl hl.1 rfl (lv_room (Nat.le_of_ble_eq_true rfl)) dL_law_1196 ⟨hc, hs⟩) hP hS hA (fun H locs hP hS => ?_)
  refine lv_iload hx hb dL_law_1199 (lv_at hl 1 rfl) ?_
  refine lv_icmp_eq (tgt := 1206) hx hb dL_law_1201 (by decide) (fun _ => ?_) (fun z => absurd k6 z)
  refine lv_iload hx hb dL_law_1206 (lv_at hl 1 rfl) ?_
  have fin : W p l e room_1 s m args below meth c H locs (cells + 1) (slots + 6) Q (F0 m 1223 ls []) := by
    refine lv_goto (tgt := 1404) hx hb dL_law_1223 (by decide) ?_
    exact go SL2 sr2 vs2 v2 vsp2 ck2 so2 sp2 L2 cs2 ol2 ms2 mt2 mc2 md2 m1 m3 m4 m5 H locs ls k8 hP hD hS (lv_sub hl [2, 3, 4, 5, 6] rfl)
  refine lv_if_ne (tgt := 1223) hx hb dL_law_1208 (by decide) (fun _ => fin) (fun c1 => ?_)
  refine lv_aload_n hx hb dL_law_1211 rfl (lv_at hl 3 rfl) ?_
  refine lv_iconst (v := nI 0) hx hb dL_law_1212 (by decide) ?_
  refine lald0 hx hb hK hP 62 rfl dL_law_1213 ?_
  rw [k7 c1]
  refine lv_iload hx hb dL_law_1214 (lv_at hl 0 rfl) ?_
  refine lv_i2l (v := f.toInt64) hx hb dL_law_1216 rfl ?_
  refine lv_lcmp0 hx hb dL_law_1217 ?_
  exact lv_if_eq (tgt := 1223) hx hb dL_law_1218 (by decide) (fun _ => fin) (fun z => absurd rfl z)
set_option maxHeartbeats 4000000 in
set_option maxRecDepth 100000 in
theorem lc_smallest (hfl : l.stackTraces = false) (hx : p.tables.exec = Jvm.exec) (hb : c.code = cL_law) (hml : c.maxLocals = 9) (hown : s.vm.findClass RL = some m.cls) (hts : ∀ w ∈ wsL_law, w.before args s = true) (hK : va_K Γ.1 vwCl (wtys Γ) s) (hA : ∀ q, s.heap.size ≤ q → A q) (hAm : Amb A s) (hX : va_X b N xs s s.heap) (hbl : b < s.heap.size) (hbA : ¬ A b) (hi : i + 4 ≤ N) (hN : N ≤ 2048) (hc : cells + 1 ≤ 601024) (hs : slots + 6 ≤ 7293034) (go : LGO p l e s m args below meth c A Γ q an ap qs ac au ax sa oa mo b i (cells + 1) (slots + 6) Q) {SL sr : Nat} {vs : Nat → Nat → Nat → Int32} {v vsp : Nat → Nat → Int32} {ck so sp : Nat → Int32} {L : Nat} {cs : Nat → Int32} {ol : Nat → Int64} {ms mt mc md : Nat → Int32} {n1 n3 n4 n5 : Int32} (hR : REL SL sr vs v ck so sp L cs ms mt) (hP : va_P Γ.1 vwCl (wcat [mnC q an ap qs ac au ax (nI SL), plB Γ an v, plB Γ ap vsp, saB Γ qs sa sr vs, cuB Γ ac ck, suB Γ au so sp, txB Γ ax cs (nI L), moB Γ mo ms mt mc md (nI SL) n1 (nI L) n3 n4 n5, ouB Γ oa ol]) H) (hD : va_D A (wcat [mnC q an ap qs ac au ax (nI SL), plB Γ an v, plB Γ ap vsp, saB Γ qs sa sr vs, cuB Γ ac ck, suB Γ au so sp, txB Γ ax cs (nI L), moB Γ mo ms mt mc md (nI SL) n1 (nI L) n3 n4 n5, ouB Γ oa ol])) (hS : va_S A s.heap H locs) (hl : lv_has ls 9 [(4, .int (nI i)), (3, .ref oa), (2, .ref (mo 0)), (1, .ref q), (0, .ref b)]) : W p l e room_1 s m args below meth c H locs cells slots Q (F0 m 1226 ls []) := by
  have hAB : ∀ q : Nat, A q → A q := fun _ h => h
  obtain ⟨SL2, sr2, vs2, v2, vsp2, ck2, so2, sp2, L2, cs2, ol2, ms2, mt2, mc2, md2, m1, m3, m4, m5, r, f, rm, ⟨kJ, k1, k2, k3, k4⟩, k5, k6, k7, k8⟩ := st_smallest (q := q) (an := an) (ap := ap) (qs := qs) (ac := ac) (au := au) (ax := ax) (sa := sa) (oa := oa) (mo := mo) (Γ := Γ) (vsp := vsp) (ol := ol) (mc := mc) (md := md) (n1 := n1) (n3 := n3) (n4 := n4) (n5 := n5) hfl hR (xs (nI i + nI 1).toNatClampNeg)
  refine lv_aload_n hx hb dL_law_1226 rfl (lv_at hl 3 rfl) ?_
  refine lv_aload_n hx hb dL_law_1227 rfl (lv_at hl 4 rfl) ?_
  refine lv_iload hx hb dL_law_1228 (lv_at hl 0 rfl) ?_
  refine lv_iconst (v := nI 1) hx hb dL_law_1230 (by decide) ?_
  refine lv_iadd hx hb dL_law_1231 ?_
  refine va_sld hx hb hX hbl hbA hS (show vp_in (nI i + nI 1) N by rw [nI_add]; exact vp_in_nI (by omega) (by omega)) dL_law_1232 ?_
  refine lv_aload_n hx hb dL_law_1233 rfl (lv_at hl 1 rfl) ?_
  refine cMJ (bc' := [mnC q an ap qs ac au ax (nI SL2), plB Γ an v2, plB Γ ap vsp2, saB Γ qs sa sr2 vs2, cuB Γ ac ck2, suB Γ au so2 sp2, txB Γ ax cs2 (nI L2), ouB Γ oa ol2]) (vx_runSW (As := [.ref q, .int (xs (nI i + nI 1).toNatClampNeg), .ref oa]) (rest := []) ⟨hx, hb, hml, hown, hts⟩ (kJ _) (vx_cwSW 3 hts gL_law_L_smallest rfl rfl rfl (by decide +kernel) ⟨Nat.le_of_ble_eq_true rfl, Nat.le_of_ble_eq_true rfl⟩) ⟨wPre_blind, wPre_mk hP hD hK hS hA hAB hAm [0, 1, 2, 3, 4, 5, 6, 8] rfl rfl⟩ rfl rfl hl.1 rfl (lv_room (Nat.le_of_ble_eq_true rfl)) dL_law_1234 ⟨hc, hs⟩) hP hD hS hA [0, 1, 2, 3, 4, 5, 6, 8] rfl (by simp only [List.map_cons, List.map_nil, suB_w, plB_w, cuB_w, txB_w, mnC_w, saB_w, ouB_w]) (bs' := [mnC q an ap qs ac au ax (nI SL2), plB Γ an v2, plB Γ ap vsp2, saB Γ qs sa sr2 vs2, cuB Γ ac ck2, suB Γ au so2 sp2, txB Γ ax cs2 (nI L2), moB Γ mo ms mt mc md (nI SL) n1 (nI L) n3 n4 n5, ouB Γ oa ol2]) rfl (fun H locs hP hD hS => ?_)
  refine lv_istore (lv' := [(5, .int r), (4, .int (nI i)), (3, .ref oa), (2, .ref (mo 0)), (1, .ref q), (0, .ref b)]) hx hb dL_law_1237 hl (by decide) rfl (fun ls hl => ?_)
  refine lv_aload_n hx hb dL_law_1239 rfl (lv_at hl 3 rfl) ?_
  refine lv_aload_n hx hb dL_law_1240 rfl (lv_at hl 5 rfl) ?_
  refine lv_iload hx hb dL_law_1241 (lv_at hl 1 rfl) ?_
  refine lv_iconst (v := nI 1) hx hb dL_law_1243 (by decide) ?_
  refine lv_iadd hx hb dL_law_1244 ?_
  refine va_sld hx hb hX hbl hbA hS (show vp_in (nI i + nI 1) N by rw [nI_add]; exact vp_in_nI (by omega) (by omega)) dL_law_1245 ?_
  refine cMI (bc' := [moB Γ mo ms2 mt2 mc2 md2 (nI SL2) m1 (nI L2) m3 m4 m5]) (va_runV (As := [.int (xs (nI i + nI 1).toNatClampNeg)]) (rest := []) ⟨hx, hb, hml, hown, hts⟩ (k5 _) (cwV 1 hts gL_law_X5_smallest rfl k3 k4 (by decide +kernel) ⟨by show rm.frames + 1 ≤ 12; omega, by show 8 + (_ + 11) + rm.locals ≤ 436; omega⟩) ⟨wPre_blind, va_recv hK hP (ci := 5) (q0 := 57) rfl rfl, wPre_mk hP hD hK hS hA hAB hAm [7] rfl rfl⟩ rfl rfl hl.1 rfl (lv_room (Nat.le_of_ble_eq_true rfl)) dL_law_1246 ⟨hc, hs⟩) hP hD hS hA [7] rfl (by simp only [List.map_cons, List.map_nil, moB_w]) (bs' := [mnC q an ap qs ac au ax (nI SL2), plB Γ an v2, plB Γ ap vsp2, saB Γ qs sa sr2 vs2, cuB Γ ac ck2, suB Γ au so2 sp2, txB Γ ax cs2 (nI L2), moB Γ mo ms2 mt2 mc2 md2 (nI SL2) m1 (nI L2) m3 m4 m5, ouB Γ oa ol2]) rfl (fun H locs hP hD hS => ?_)
  refine lv_istore (lv' := [(6, .int f), (5, .int r), (4, .int (nI i)), (3, .ref oa), (2, .ref (mo 0)), (1, .ref q), (0, .ref b)]) hx hb dL_law_1249 hl (by decide) rfl (fun ls hl => ?_)
  refine lv_aload_n hx hb dL_law_1251 rfl (lv_at hl 4 rfl) ?_
  refine cLI (va_runV (As := []) (rest := []) ⟨hx, hb, hml, hown, hts⟩ ((kX5_thrown l Γ mo ms2 mt2 mc2 md2 (nI SL2) m1 (nI L2) m3 m4 m5) _) (cwV 0 hts gL_law_X5_thrown rfl rfl rfl (by decide +kernel) ⟨Nat.le_of_ble_eq_true rfl, Nat.le_of_ble_eq_true rfl⟩) ⟨wPre_blind, va_recv hK hP (ci := 5) (q0 := 57) rfl rfl, wPre_mk hP hD hK hS hA hAB hAm [7] rfl rfl⟩ rfl rfl hl.1 rfl (lv_room (Nat.le_of_ble_eq_true rfl)) dL_law_1252 ⟨hc, hs⟩) hP hS hA (fun H locs hP hS => ?_)
  refine lv_iload hx hb dL_law_1255 (lv_at hl 1 rfl) ?_
  refine lv_icmp_eq (tgt := 1262) hx hb dL_law_1257 (by decide) (fun _ => ?_) (fun z => absurd k6 z)
  refine lv_iload hx hb dL_law_1262 (lv_at hl 1 rfl) ?_
  have fin : W p l e room_1 s m args below meth c H locs (cells + 1) (slots + 6) Q (F0 m 1279 ls []) := by
    refine lv_goto (tgt := 1404) hx hb dL_law_1279 (by decide) ?_
    exact go SL2 sr2 vs2 v2 vsp2 ck2 so2 sp2 L2 cs2 ol2 ms2 mt2 mc2 md2 m1 m3 m4 m5 H locs ls k8 hP hD hS (lv_sub hl [2, 3, 4, 5, 6] rfl)
  refine lv_if_ne (tgt := 1279) hx hb dL_law_1264 (by decide) (fun _ => fin) (fun c1 => ?_)
  refine lv_aload_n hx hb dL_law_1267 rfl (lv_at hl 3 rfl) ?_
  refine lv_iconst (v := nI 0) hx hb dL_law_1268 (by decide) ?_
  refine lald0 hx hb hK hP 62 rfl dL_law_1269 ?_
  rw [k7 c1]
  refine lv_iload hx hb dL_law_1270 (lv_at hl 0 rfl) ?_
  refine lv_i2l (v := f.toInt64) hx hb dL_law_1272 rfl ?_
  refine lv_lcmp0 hx hb dL_law_1273 ?_
  exact lv_if_eq (tgt := 1279) hx hb dL_law_1274 (by decide) (fun _ => fin) (fun z => absurd rfl z)
end LWB
