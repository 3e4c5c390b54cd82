/-! ===== the law: combinators ===== -/
section LWA
variable {p : Program} {l : Launch} {e : Env} {R : Room} {s : State} {m : MethodId} {args : Array Value} {below : List Frame} {meth : Method} {c : Code} {H : Heap} {locs : List Loc} {cells slots : Nat} {Q : State → Prop}
variable {pc : Nat} {ls : Array Slot} {rest st0 : List Value} {cc : ByteArray} {a : Array Value} {A : Nat → Prop} {Γ : wG} {bs bs' bc bc' : List va_W}
theorem cMJ {f : Int32} (hr : va_Run p l e R s m args below meth c H locs cells slots 1 6 (F0 m pc ls st0) rest (va_Qi (fun r (_ : Unit) => r = f) (fun _ t => va_P Γ.1 vwCl (wcat bc') t.heap) (va_A (wcat bc) H.size) a) (va_A (wcat bc) H.size)) (hP : va_P Γ.1 vwCl (wcat bs) H) (hD : va_D A (wcat bs)) (hS : va_S A s.heap H locs) (hA : ∀ q, s.heap.size ≤ q → A q) (is : List Nat) (his : is.map (fun i => bs[i]?) = bc.map some) (had : bc'.map wad = bc.map wad) (hset : wset bs is bc' = bs')
    (kk : ∀ (H1 : Heap) (locs1 : List Loc), va_P Γ.1 vwCl (wcat bs') H1 → va_D A (wcat bs') → va_S A s.heap H1 locs1 → W p l e R s m args below meth c H1 locs1 (cells + 1) (slots + 6) Q (F0 m (pc + 3) ls (.int f :: rest))) : W p l e R s m args below meth c H locs cells slots Q (F0 m pc ls st0) := by
  have hF := wfree hD hS hA his
  refine va_calli hr hS (fun q _ h => hF q h) hF (fun r u t H1 locs1 ht hvm hw hB hz1 hk1 hS1 => ?_)
  subst hw
  rw [ht] at hB
  obtain ⟨h1, h2⟩ := wjoin hP hD his had hset hk1 hB
  exact kk H1 locs1 h1 h2 hS1
theorem lv_lcmp0 (hexec : p.tables.exec = Jvm.exec) (hb : c.code = cc) {x : Int64} (hdg : decode cc pc = .ok (.lcmp, 1))
    (k : W p l e R s m args below meth c H locs cells slots Q (F0 m (pc + 1) ls (.int 0 :: rest))) : W p l e R s m args below meth c H locs cells slots Q (F0 m pc ls (.long x :: .long x :: rest)) := by
  intro T hT X
  obtain ⟨t, a, b⟩ := k T hT X
  refine ⟨t, ?_, b⟩
  have h1 : ¬ x > x := fun z => by rw [gt_iff_lt, Int64.lt_iff_toInt_lt] at z; omega
  jvm_step X.here [X.here.top, hexec, hb, hdg, h1]
  first | exact a | (simp [h1]; exact a) | (simp; exact a)
end LWA
def LGO (p : Program) (l : Launch) (e : Env) (s : State) (m : MethodId) (args : Array Value) (below : List Frame) (meth : Method) (c : Code) (A : Nat → Prop) (Γ : wG) (q : Nat) (an ap : Nat → Nat) (qs : Nat) (ac au ax : Nat → Nat) (sa : Nat → Nat → Nat) (oa : Nat) (mo : Nat → Nat) (b i cells slots : Nat) (Q : State → Prop) : Prop :=
  ∀ (SL sr : Nat) (vs : Nat → Nat → Nat → Int32) (v vsp : Nat → Nat → Int32) (ck so sp : Nat → Int32) (L : Nat) (cs : Nat → Int32) (ol : Nat → Int64) (ms mt mc md : Nat → Int32) (n1 n3 n4 n5 : Int32) (H : Heap) (locs : List Loc) (ls : Array Slot), REL SL sr vs v ck so sp L cs ms mt → va_P Γ.1 vwCl (wcat [mnC q an ap qs ac au ax (nI SL), plB Γ an v, plB Γ ap vsp, saB Γ qs sa sr vs, cuB Γ ac ck, suB Γ au so sp, txB Γ ax cs (nI L), moB Γ mo ms mt mc md (nI SL) n1 (nI L) n3 n4 n5, ouB Γ oa ol]) H → va_D A (wcat [mnC q an ap qs ac au ax (nI SL), plB Γ an v, plB Γ ap vsp, saB Γ qs sa sr vs, cuB Γ ac ck, suB Γ au so sp, txB Γ ax cs (nI L), moB Γ mo ms mt mc md (nI SL) n1 (nI L) n3 n4 n5, ouB Γ oa ol]) → va_S A s.heap H locs → lv_has ls 9 [(4, .int (nI i)), (3, .ref oa), (2, .ref (mo 0)), (1, .ref q), (0, .ref b)] → W p l e room_1 s m args below meth c H locs cells slots Q (F0 m 1404 ls [])
section LWB
variable {p : Program} {l : Launch} {e : Env} {s : State} {m : MethodId} {args : Array Value} {below : List Frame} {meth : Method} {c : Code} {H : Heap} {locs : List Loc} {cells slots : Nat} {Q : State → Prop} {ls : Array Slot} {A : Nat → Prop} {Γ : wG}
variable {q : Nat} {an ap : Nat → Nat} {qs : Nat} {ac au ax : Nat → Nat} {sa : Nat → Nat → Nat} {oa : Nat} {mo : Nat → Nat} {b N : Nat} {xs : Nat → Int32} {i : Nat}
set_option maxHeartbeats 4000000 in
set_option maxRecDepth 100000 in
theorem lc_keeper (hfl : l.stackTraces = false) (hx : p.tables.exec = Jvm.exec) (hb : c.code = cL_law) (hml : c.maxLocals = 9) (hown : s.vm.findClass RL = some m.cls) (hts : ∀ w ∈ wsL_law, w.before args s = true) (hK : va_K Γ.1 vwCl (wtys Γ) s) (hA : ∀ q, s.heap.size ≤ q → A q) (hAm : Amb A s) (hX : va_X b N xs s s.heap) (hbl : b < s.heap.size) (hbA : ¬ A b) (hi : i + 4 ≤ N) (hN : N ≤ 2048) (hc : cells + 1 ≤ 601024) (hs : slots + 6 ≤ 7293034) (go : LGO p l e s m args below meth c A Γ q an ap qs ac au ax sa oa mo b i (cells + 1) (slots + 6) Q) {SL sr : Nat} {vs : Nat → Nat → Nat → Int32} {v vsp : Nat → Nat → Int32} {ck so sp : Nat → Int32} {L : Nat} {cs : Nat → Int32} {ol : Nat → Int64} {ms mt mc md : Nat → Int32} {n1 n3 n4 n5 : Int32} (hR : REL SL sr vs v ck so sp L cs ms mt) (hP : va_P Γ.1 vwCl (wcat [mnC q an ap qs ac au ax (nI SL), plB Γ an v, plB Γ ap vsp, saB Γ qs sa sr vs, cuB Γ ac ck, suB Γ au so sp, txB Γ ax cs (nI L), moB Γ mo ms mt mc md (nI SL) n1 (nI L) n3 n4 n5, ouB Γ oa ol]) H) (hD : va_D A (wcat [mnC q an ap qs ac au ax (nI SL), plB Γ an v, plB Γ ap vsp, saB Γ qs sa sr vs, cuB Γ ac ck, suB Γ au so sp, txB Γ ax cs (nI L), moB Γ mo ms mt mc md (nI SL) n1 (nI L) n3 n4 n5, ouB Γ oa ol])) (hS : va_S A s.heap H locs) (hl : lv_has ls 9 [(4, .int (nI i)), (3, .ref oa), (2, .ref (mo 0)), (1, .ref q), (0, .ref b)]) : W p l e room_1 s m args below meth c H locs cells slots Q (F0 m 156 ls []) := by
  have hAB : ∀ q : Nat, A q → A q := fun _ h => h
  obtain ⟨SL2, sr2, vs2, v2, vsp2, ck2, so2, sp2, L2, cs2, ol2, ms2, mt2, mc2, md2, m1, m3, m4, m5, r, f, rm, ⟨kJ, k1, k2, k3, k4⟩, k5, k6, k7, k8⟩ := st_keeper (q := q) (an := an) (ap := ap) (qs := qs) (ac := ac) (au := au) (ax := ax) (sa := sa) (oa := oa) (mo := mo) (Γ := Γ) (vsp := vsp) (ol := ol) (mc := mc) (md := md) (n1 := n1) (n3 := n3) (n4 := n4) (n5 := n5) hfl hR 
  refine lv_aload_n hx hb dL_law_156 rfl (lv_at hl 3 rfl) ?_
  refine lv_aload_n hx hb dL_law_157 rfl (lv_at hl 1 rfl) ?_
  refine cMJ (bc' := [mnC q an ap qs ac au ax (nI SL2), plB Γ an v2, plB Γ ap vsp2, saB Γ qs sa sr2 vs2, cuB Γ ac ck2, suB Γ au so2 sp2, txB Γ ax cs2 (nI L2), ouB Γ oa ol2]) (vx_runSW (As := [.ref q, .ref oa]) (rest := []) ⟨hx, hb, hml, hown, hts⟩ (kJ _) (vx_cwSW 2 hts gL_law_L_keeper rfl rfl rfl (by decide +kernel) ⟨Nat.le_of_ble_eq_true rfl, Nat.le_of_ble_eq_true rfl⟩) ⟨wPre_blind, wPre_mk hP hD hK hS hA hAB hAm [0, 1, 2, 3, 4, 5, 6, 8] rfl rfl⟩ rfl rfl hl.1 rfl (lv_room (Nat.le_of_ble_eq_true rfl)) dL_law_158 ⟨hc, hs⟩) hP hD hS hA [0, 1, 2, 3, 4, 5, 6, 8] rfl (by simp only [List.map_cons, List.map_nil, suB_w, plB_w, cuB_w, txB_w, mnC_w, saB_w, ouB_w]) (bs' := [mnC q an ap qs ac au ax (nI SL2), plB Γ an v2, plB Γ ap vsp2, saB Γ qs sa sr2 vs2, cuB Γ ac ck2, suB Γ au so2 sp2, txB Γ ax cs2 (nI L2), moB Γ mo ms mt mc md (nI SL) n1 (nI L) n3 n4 n5, ouB Γ oa ol2]) rfl (fun H locs hP hD hS => ?_)
  refine lv_istore (lv' := [(5, .int r), (4, .int (nI i)), (3, .ref oa), (2, .ref (mo 0)), (1, .ref q), (0, .ref b)]) hx hb dL_law_161 hl (by decide) rfl (fun ls hl => ?_)
  refine lv_aload_n hx hb dL_law_163 rfl (lv_at hl 3 rfl) ?_
  refine cMI (bc' := [moB Γ mo ms2 mt2 mc2 md2 (nI SL2) m1 (nI L2) m3 m4 m5]) (va_runV (As := []) (rest := []) ⟨hx, hb, hml, hown, hts⟩ (k5 _) (cwV 0 hts gL_law_X5_keeper rfl k3 k4 (by decide +kernel) ⟨by show rm.frames + 1 ≤ 12; omega, by show 8 + (_ + 11) + rm.locals ≤ 436; omega⟩) ⟨wPre_blind, va_recv hK hP (ci := 5) (q0 := 57) rfl rfl, wPre_mk hP hD hK hS hA hAB hAm [7] rfl rfl⟩ rfl rfl hl.1 rfl (lv_room (Nat.le_of_ble_eq_true rfl)) dL_law_164 ⟨hc, hs⟩) hP hD hS hA [7] rfl (by simp only [List.map_cons, List.map_nil, moB_w]) (bs' := [mnC q an ap qs ac au ax (nI SL2), plB Γ an v2, plB Γ ap vsp2, saB Γ qs sa sr2 vs2, cuB Γ ac ck2, suB Γ au so2 sp2, txB Γ ax cs2 (nI L2), moB Γ mo ms2 mt2 mc2 md2 (nI SL2) m1 (nI L2) m3 m4 m5, ouB Γ oa ol2]) rfl (fun H locs hP hD hS => ?_)
  refine lv_istore (lv' := [(6, .int f), (5, .int r), (4, .int (nI i)), (3, .ref oa), (2, .ref (mo 0)), (1, .ref q), (0, .ref b)]) hx hb dL_law_167 hl (by decide) rfl (fun ls hl => ?_)
  refine lv_aload_n hx hb dL_law_169 rfl (lv_at hl 4 rfl) ?_
  refine cLI (va_runV (As := []) (rest := []) ⟨hx, hb, hml, hown, hts⟩ ((kX5_thrown l Γ mo ms2 mt2 mc2 md2 (nI SL2) m1 (nI L2) m3 m4 m5) _) (cwV 0 hts gL_law_X5_thrown rfl rfl rfl (by decide +kernel) ⟨Nat.le_of_ble_eq_true rfl, Nat.le_of_ble_eq_true rfl⟩) ⟨wPre_blind, va_recv hK hP (ci := 5) (q0 := 57) rfl rfl, wPre_mk hP hD hK hS hA hAB hAm [7] rfl rfl⟩ rfl rfl hl.1 rfl (lv_room (Nat.le_of_ble_eq_true rfl)) dL_law_170 ⟨hc, hs⟩) hP hS hA (fun H locs hP hS => ?_)
  refine lv_iload hx hb dL_law_173 (lv_at hl 1 rfl) ?_
  refine lv_icmp_eq (tgt := 180) hx hb dL_law_175 (by decide) (fun _ => ?_) (fun z => absurd k6 z)
  refine lv_iload hx hb dL_law_180 (lv_at hl 1 rfl) ?_
  have fin : W p l e room_1 s m args below meth c H locs (cells + 1) (slots + 6) Q (F0 m 197 ls []) := by
    refine lv_goto (tgt := 1404) hx hb dL_law_197 (by decide) ?_
    exact go SL2 sr2 vs2 v2 vsp2 ck2 so2 sp2 L2 cs2 ol2 ms2 mt2 mc2 md2 m1 m3 m4 m5 H locs ls k8 hP hD hS (lv_sub hl [2, 3, 4, 5, 6] rfl)
  refine lv_if_ne (tgt := 197) hx hb dL_law_182 (by decide) (fun _ => fin) (fun c1 => ?_)
  refine lv_aload_n hx hb dL_law_185 rfl (lv_at hl 3 rfl) ?_
  refine lv_iconst (v := nI 0) hx hb dL_law_186 (by decide) ?_
  refine lald0 hx hb hK hP 62 rfl dL_law_187 ?_
  rw [k7 c1]
  refine lv_iload hx hb dL_law_188 (lv_at hl 0 rfl) ?_
  refine lv_i2l (v := f.toInt64) hx hb dL_law_190 rfl ?_
  refine lv_lcmp0 hx hb dL_law_191 ?_
  exact lv_if_eq (tgt := 197) hx hb dL_law_192 (by decide) (fun _ => fin) (fun z => absurd rfl z)
set_option maxHeartbeats 4000000 in
set_option maxRecDepth 100000 in
theorem lc_die (hfl : l.stackTraces = false) (hx : p.tables.exec = Jvm.exec) (hb : c.code = cL_law) (hml : c.maxLocals = 9) (hown : s.vm.findClass RL = some m.cls) (hts : ∀ w ∈ wsL_law, w.before args s = true) (hK : va_K Γ.1 vwCl (wtys Γ) s) (hA : ∀ q, s.heap.size ≤ q → A q) (hAm : Amb A s) (hX : va_X b N xs s s.heap) (hbl : b < s.heap.size) (hbA : ¬ A b) (hi : i + 4 ≤ N) (hN : N ≤ 2048) (hc : cells + 1 ≤ 601024) (hs : slots + 6 ≤ 7293034) (go : LGO p l e s m args below meth c A Γ q an ap qs ac au ax sa oa mo b i (cells + 1) (slots + 6) Q) {SL sr : Nat} {vs : Nat → Nat → Nat → Int32} {v vsp : Nat → Nat → Int32} {ck so sp : Nat → Int32} {L : Nat} {cs : Nat → Int32} {ol : Nat → Int64} {ms mt mc md : Nat → Int32} {n1 n3 n4 n5 : Int32} (hR : REL SL sr vs v ck so sp L cs ms mt) (hP : va_P Γ.1 vwCl (wcat [mnC q an ap qs ac au ax (nI SL), plB Γ an v, plB Γ ap vsp, saB Γ qs sa sr vs, cuB Γ ac ck, suB Γ au so sp, txB Γ ax cs (nI L), moB Γ mo ms mt mc md (nI SL) n1 (nI L) n3 n4 n5, ouB Γ oa ol]) H) (hD : va_D A (wcat [mnC q an ap qs ac au ax (nI SL), plB Γ an v, plB Γ ap vsp, saB Γ qs sa sr vs, cuB Γ ac ck, suB Γ au so sp, txB Γ ax cs (nI L), moB Γ mo ms mt mc md (nI SL) n1 (nI L) n3 n4 n5, ouB Γ oa ol])) (hS : va_S A s.heap H locs) (hl : lv_has ls 9 [(4, .int (nI i)), (3, .ref oa), (2, .ref (mo 0)), (1, .ref q), (0, .ref b)]) : W p l e room_1 s m args below meth c H locs cells slots Q (F0 m 200 ls []) := by
  have hAB : ∀ q : Nat, A q → A q := fun _ h => h
  obtain ⟨SL2, sr2, vs2, v2, vsp2, ck2, so2, sp2, L2, cs2, ol2, ms2, mt2, mc2, md2, m1, m3, m4, m5, r, f, rm, ⟨kJ, k1, k2, k3, k4⟩, k5, k6, k7, k8⟩ := st_die (q := q) (an := an) (ap := ap) (qs := qs) (ac := ac) (au := au) (ax := ax) (sa := sa) (oa := oa) (mo := mo) (Γ := Γ) (vsp := vsp) (ol := ol) (mc := mc) (md := md) (n1 := n1) (n3 := n3) (n4 := n4) (n5 := n5) hfl hR (xs (nI i + nI 1).toNatClampNeg)
  refine lv_aload_n hx hb dL_law_200 rfl (lv_at hl 3 rfl) ?_
  refine lv_aload_n hx hb dL_law_201 rfl (lv_at hl 4 rfl) ?_
  refine lv_iload hx hb dL_law_202 (lv_at hl 0 rfl) ?_
  refine lv_iconst (v := nI 1) hx hb dL_law_204 (by decide) ?_
  refine lv_iadd hx hb dL_law_205 ?_
  refine va_sld hx hb hX hbl hbA hS (show vp_in (nI i + nI 1) N by rw [nI_add]; exact vp_in_nI (by omega) (by omega)) dL_law_206 ?_
  refine lv_aload_n hx hb dL_law_207 rfl (lv_at hl 1 rfl) ?_
  refine cMJ (bc' := [mnC q an ap qs ac au ax (nI SL2), plB Γ an v2, plB Γ ap vsp2, saB Γ qs sa sr2 vs2, cuB Γ ac ck2, suB Γ au so2 sp2, txB Γ ax cs2 (nI L2), ouB Γ oa ol2]) (vx_runSW (As := [.ref q, .int (xs (nI i + nI 1).toNatClampNeg), .ref oa]) (rest := []) ⟨hx, hb, hml, hown, hts⟩ (kJ _) (vx_cwSW 3 hts gL_law_L_die rfl rfl rfl (by decide +kernel) ⟨Nat.le_of_ble_eq_true rfl, Nat.le_of_ble_eq_true rfl⟩) ⟨wPre_blind, wPre_mk hP hD hK hS hA hAB hAm [0, 1, 2, 3, 4, 5, 6, 8] rfl rfl⟩ rfl rfl hl.1 rfl (lv_room (Nat.le_of_ble_eq_true rfl)) dL_law_208 ⟨hc, hs⟩) hP hD hS hA [0, 1, 2, 3, 4, 5, 6, 8] rfl (by simp only [List.map_cons, List.map_nil, suB_w, plB_w, cuB_w, txB_w, mnC_w, saB_w, ouB_w]) (bs' := [mnC q an ap qs ac au ax (nI SL2), plB Γ an v2, plB Γ ap vsp2, saB Γ qs sa sr2 vs2, cuB Γ ac ck2, suB Γ au so2 sp2, txB Γ ax cs2 (nI L2), moB Γ mo ms mt mc md (nI SL) n1 (nI L) n3 n4 n5, ouB Γ oa ol2]) rfl (fun H locs hP hD hS => ?_)
  refine lv_istore (lv' := [(5, .int r), (4, .int (nI i)), (3, .ref oa), (2, .ref (mo 0)), (1, .ref q), (0, .ref b)]) hx hb dL_law_211 hl (by decide) rfl (fun ls hl => ?_)
  refine lv_aload_n hx hb dL_law_213 rfl (lv_at hl 3 rfl) ?_
  refine lv_aload_n hx hb dL_law_214 rfl (lv_at hl 5 rfl) ?_
  refine lv_iload hx hb dL_law_215 (lv_at hl 1 rfl) ?_
  refine lv_iconst (v := nI 1) hx hb dL_law_217 (by decide) ?_
  refine lv_iadd hx hb dL_law_218 ?_
  refine va_sld hx hb hX hbl hbA hS (show vp_in (nI i + nI 1) N by rw [nI_add]; exact vp_in_nI (by omega) (by omega)) dL_law_219 ?_
  refine cMI (bc' := [moB Γ mo ms2 mt2 mc2 md2 (nI SL2) m1 (nI L2) m3 m4 m5]) (va_runV (As := [.int (xs (nI i + nI 1).toNatClampNeg)]) (rest := []) ⟨hx, hb, hml, hown, hts⟩ (k5 _) (cwV 1 hts gL_law_X5_die rfl k3 k4 (by decide +kernel) ⟨by show rm.frames + 1 ≤ 12; omega, by show 8 + (_ + 11) + rm.locals ≤ 436; omega⟩) ⟨wPre_blind, va_recv hK hP (ci := 5) (q0 := 57) rfl rfl, wPre_mk hP hD hK hS hA hAB hAm [7] rfl rfl⟩ rfl rfl hl.1 rfl (lv_room (Nat.le_of_ble_eq_true rfl)) dL_law_220 ⟨hc, hs⟩) hP hD hS hA [7] rfl (by simp only [List.map_cons, List.map_nil, moB_w]) (bs' := [mnC q an ap qs ac au ax (nI SL2), plB Γ an v2, plB Γ ap vsp2, saB Γ qs sa sr2 vs2, cuB Γ ac ck2, suB Γ au so2 sp2, txB Γ ax cs2 (nI L2), moB Γ mo ms2 mt2 mc2 md2 (nI SL2) m1 (nI L2) m3 m4 m5, ouB Γ oa ol2]) rfl (fun H locs hP hD hS => ?_)
  refine lv_istore (lv' := [(6, .int f), (5, .int r), (4, .int (nI i)), (3, .ref oa), (2, .ref (mo 0)), (1, .ref q), (0, .ref b)]) hx hb dL_law_223 hl (by decide) rfl (fun ls hl => ?_)
  refine lv_aload_n hx hb dL_law_225 rfl (lv_at hl 4 rfl) ?_
  refine cLI (va_runV (As := []) (rest := []) ⟨hx, hb, hml, hown, hts⟩ ((kX5_thrown l Γ mo ms2 mt2 mc2 md2 (nI SL2) m1 (nI L2) m3 m4 m5) _) (cwV 0 hts gL_law_X5_thrown rfl rfl rfl (by decide +kernel) ⟨Nat.le_of_ble_eq_true rfl, Nat.le_of_ble_eq_true rfl⟩) ⟨wPre_blind, va_recv hK hP (ci := 5) (q0 := 57) rfl rfl, wPre_mk hP hD hK hS hA hAB hAm [7] rfl rfl⟩ rfl rfl hl.1 rfl (lv_room (Nat.le_of_ble_eq_true rfl)) dL_law_226 ⟨hc, hs⟩) hP hS hA (fun H locs hP hS => ?_)
  refine lv_iload hx hb dL_law_229 (lv_at hl 1 rfl) ?_
  refine lv_icmp_eq (tgt := 236) hx hb dL_law_231 (by decide) (fun _ => ?_) (fun z => absurd k6 z)
  refine lv_iload hx hb dL_law_236 (lv_at hl 1 rfl) ?_
  have fin : W p l e room_1 s m args below meth c H locs (cells + 1) (slots + 6) Q (F0 m 253 ls []) := by
    refine lv_goto (tgt := 1404) hx hb dL_law_253 (by decide) ?_
    exact go SL2 sr2 vs2 v2 vsp2 ck2 so2 sp2 L2 cs2 ol2 ms2 mt2 mc2 md2 m1 m3 m4 m5 H locs ls k8 hP hD hS (lv_sub hl [2, 3, 4, 5, 6] rfl)
  refine lv_if_ne (tgt := 253) hx hb dL_law_238 (by decide) (fun _ => fin) (fun c1 => ?_)
  refine lv_aload_n hx hb dL_law_241 rfl (lv_at hl 3 rfl) ?_
  refine lv_iconst (v := nI 0) hx hb dL_law_242 (by decide) ?_
  refine lald0 hx hb hK hP 62 rfl dL_law_243 ?_
  rw [k7 c1]
  refine lv_iload hx hb dL_law_244 (lv_at hl 0 rfl) ?_
  refine lv_i2l (v := f.toInt64) hx hb dL_law_246 rfl ?_
  refine lv_lcmp0 hx hb dL_law_247 ?_
  exact lv_if_eq (tgt := 253) hx hb dL_law_248 (by decide) (fun _ => fin) (fun z => absurd rfl z)
end LWB
