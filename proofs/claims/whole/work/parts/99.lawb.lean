section LWC
variable {p : Program} {l : Launch} {e : Env} {s : State} {m : MethodId} {args : Array Value} {below : List Frame} {meth : Method} {c : Code} {H : Heap} {locs : List Loc} {cells slots : Nat} {Q : State → Prop} {ls : Array Slot} {A : Nat → Prop} {Γ : wG}
variable {q : Nat} {an ap : Nat → Nat} {qs : Nat} {ac au ax : Nat → Nat} {sa : Nat → Nat → Nat} {oa : Nat} {mo : Nat → Nat} {b N : Nat} {xs : Nat → Int32} {i : Nat}
set_option maxHeartbeats 4000000 in
set_option maxRecDepth 100000 in
theorem lc_clearBuffer (hfl : l.stackTraces = false) (hx : p.tables.exec = Jvm.exec) (hb : c.code = cL_law) (hml : c.maxLocals = 9) (hown : s.vm.findClass RL = some m.cls) (hts : ∀ w ∈ wsL_law, w.before args s = true) (hK : va_K Γ.1 vwCl (wtys Γ) s) (hA : ∀ q, s.heap.size ≤ q → A q) (hAm : Amb A s) (hX : va_X b N xs s s.heap) (hbl : b < s.heap.size) (hbA : ¬ A b) (hi : i + 4 ≤ N) (hN : N ≤ 2048) (hc : cells + 1 ≤ 601024) (hs : slots + 6 ≤ 7293034) (go : LGO p l e s m args below meth c A Γ q an ap qs ac au ax sa oa mo b i (cells + 1) (slots + 6) Q) {SL sr : Nat} {vs : Nat → Nat → Nat → Int32} {v vsp : Nat → Nat → Int32} {ck so sp : Nat → Int32} {L : Nat} {cs : Nat → Int32} {ol : Nat → Int64} {ms mt mc md : Nat → Int32} {n1 n3 n4 n5 : Int32} (hR : REL SL sr vs v ck so sp L cs ms mt) (hP : va_P Γ.1 vwCl (wcat [mnC q an ap qs ac au ax (nI SL), plB Γ an v, plB Γ ap vsp, saB Γ qs sa sr vs, cuB Γ ac ck, suB Γ au so sp, txB Γ ax cs (nI L), moB Γ mo ms mt mc md (nI SL) n1 (nI L) n3 n4 n5, ouB Γ oa ol]) H) (hD : va_D A (wcat [mnC q an ap qs ac au ax (nI SL), plB Γ an v, plB Γ ap vsp, saB Γ qs sa sr vs, cuB Γ ac ck, suB Γ au so sp, txB Γ ax cs (nI L), moB Γ mo ms mt mc md (nI SL) n1 (nI L) n3 n4 n5, ouB Γ oa ol])) (hS : va_S A s.heap H locs) (hl : lv_has ls 9 [(4, .int (nI i)), (3, .ref oa), (2, .ref (mo 0)), (1, .ref q), (0, .ref b)]) : W p l e room_1 s m args below meth c H locs cells slots Q (F0 m 752 ls []) := by
  have hAB : ∀ q : Nat, A q → A q := fun _ h => h
  have hS6 := hR.1.1
  have hsr := hR.1.2.1
  have ho := hR.1.2.2.1
  have hp := hR.1.2.2.2
  have hL := hR.2.2.2.1
  obtain ⟨K, hK8, hMK, hvK⟩ := hR.2.1.num
  have hc0 : cells + 0 ≤ 601024 := by omega
  have hs0 : slots + 0 ≤ 7293034 := by omega
  have hk4 := kX4_clearBuffer l Γ q an ap qs ac au ax L (nI SL) cs hL
  have hk5 := kX5_clearBuffer l Γ mo ms mt mc md (nI SL) n1 (nI L) n3 n4 n5
  refine lv_aload_n hx hb dL_law_752 rfl (lv_at hl 3 rfl) ?_
  refine cMI (bc' := [mnC q an ap qs ac au ax (nI SL), txB Γ ax cs (nI 0)]) (va_runV (As := []) (rest := []) ⟨hx, hb, hml, hown, hts⟩ (hk4 _) (cwV 0 hts gL_law_X4_clearBuffer rfl rfl rfl (by decide +kernel) ⟨Nat.le_of_ble_eq_true rfl, Nat.le_of_ble_eq_true rfl⟩) ⟨wPre_blind, va_recv hK hP (ci := 4) (q0 := 0) rfl rfl, wPre_mk hP hD hK hS hA hAB hAm [0, 6] rfl rfl⟩ rfl rfl hl.1 rfl (lv_room (Nat.le_of_ble_eq_true rfl)) dL_law_753 ⟨hc0, hs0⟩) hP hD hS hA [0, 6] rfl (by simp only [List.map_cons, List.map_nil, suB_w, plB_w, cuB_w, txB_w, mnC_w, saB_w, ouB_w]) (bs' := [mnC q an ap qs ac au ax (nI SL), plB Γ an v, plB Γ ap vsp, saB Γ qs sa sr vs, cuB Γ ac ck, suB Γ au so sp, txB Γ ax cs (nI 0), moB Γ mo ms mt mc md (nI SL) n1 (nI L) n3 n4 n5, ouB Γ oa ol]) rfl (fun H locs hP hD hS => ?_)
  refine lv_aload_n hx hb dL_law_756 rfl (lv_at hl 2 rfl) ?_
  refine cMI (bc' := [moB Γ mo ms mt mc md (nI SL) (nI 0) (nI 0) n3 n4 n5]) (va_runV (As := []) (rest := [.int (nI L)]) ⟨hx, hb, hml, hown, hts⟩ (hk5 _) (cwV 0 hts gL_law_X5_clearBuffer rfl rfl rfl (by decide +kernel) ⟨Nat.le_of_ble_eq_true rfl, Nat.le_of_ble_eq_true rfl⟩) ⟨wPre_blind, va_recv hK hP (ci := 5) (q0 := 57) rfl rfl, wPre_mk hP hD hK hS hA hAB hAm [7] rfl rfl⟩ rfl rfl hl.1 rfl (lv_room (Nat.le_of_ble_eq_true rfl)) dL_law_757 ⟨hc0, hs0⟩) hP hD hS hA [7] rfl (by simp only [List.map_cons, List.map_nil, moB_w]) (bs' := [mnC q an ap qs ac au ax (nI SL), plB Γ an v, plB Γ ap vsp, saB Γ qs sa sr vs, cuB Γ ac ck, suB Γ au so sp, txB Γ ax cs (nI 0), moB Γ mo ms mt mc md (nI SL) (nI 0) (nI 0) n3 n4 n5, ouB Γ oa ol]) rfl (fun H locs hP hD hS => ?_)
  exact lv_icmp_eq (tgt := 1404) hx hb dL_law_760 (by decide) (fun _ => W.widen (k := cells + 1) (n := slots + 6) (by omega) (by omega) (go SL sr vs v vsp ck so sp 0 cs ol ms mt mc md ((nI 0)) n3 n4 n5 H locs ls (⟨hR.1, hR.2.1, hR.2.2.1, Nat.zero_le _, fun i hi => absurd hi (Nat.not_lt_zero _)⟩) hP hD hS hl)) (fun z => absurd rfl z)
set_option maxHeartbeats 4000000 in
set_option maxRecDepth 100000 in
theorem lc_firstError (hfl : l.stackTraces = false) (hx : p.tables.exec = Jvm.exec) (hb : c.code = cL_law) (hml : c.maxLocals = 9) (hown : s.vm.findClass RL = some m.cls) (hts : ∀ w ∈ wsL_law, w.before args s = true) (hK : va_K Γ.1 vwCl (wtys Γ) s) (hA : ∀ q, s.heap.size ≤ q → A q) (hAm : Amb A s) (hX : va_X b N xs s s.heap) (hbl : b < s.heap.size) (hbA : ¬ A b) (hi : i + 4 ≤ N) (hN : N ≤ 2048) (hc : cells + 1 ≤ 601024) (hs : slots + 6 ≤ 7293034) (go : LGO p l e s m args below meth c A Γ q an ap qs ac au ax sa oa mo b i (cells + 1) (slots + 6) Q) {SL sr : Nat} {vs : Nat → Nat → Nat → Int32} {v vsp : Nat → Nat → Int32} {ck so sp : Nat → Int32} {L : Nat} {cs : Nat → Int32} {ol : Nat → Int64} {ms mt mc md : Nat → Int32} {n1 n3 n4 n5 : Int32} (hR : REL SL sr vs v ck so sp L cs ms mt) (hP : va_P Γ.1 vwCl (wcat [mnC q an ap qs ac au ax (nI SL), plB Γ an v, plB Γ ap vsp, saB Γ qs sa sr vs, cuB Γ ac ck, suB Γ au so sp, txB Γ ax cs (nI L), moB Γ mo ms mt mc md (nI SL) n1 (nI L) n3 n4 n5, ouB Γ oa ol]) H) (hD : va_D A (wcat [mnC q an ap qs ac au ax (nI SL), plB Γ an v, plB Γ ap vsp, saB Γ qs sa sr vs, cuB Γ ac ck, suB Γ au so sp, txB Γ ax cs (nI L), moB Γ mo ms mt mc md (nI SL) n1 (nI L) n3 n4 n5, ouB Γ oa ol])) (hS : va_S A s.heap H locs) (hl : lv_has ls 9 [(4, .int (nI i)), (3, .ref oa), (2, .ref (mo 0)), (1, .ref q), (0, .ref b)]) : W p l e room_1 s m args below meth c H locs cells slots Q (F0 m 765 ls []) := by
  have hAB : ∀ q : Nat, A q → A q := fun _ h => h
  have hS6 := hR.1.1
  have hsr := hR.1.2.1
  have ho := hR.1.2.2.1
  have hp := hR.1.2.2.2
  have hL := hR.2.2.2.1
  obtain ⟨K, hK8, hMK, hvK⟩ := hR.2.1.num
  have hc0 : cells + 0 ≤ 601024 := by omega
  have hs0 : slots + 0 ≤ 7293034 := by omega
  have hq := (q_first (md := md) hR.2.2.2).1
  have hk4 := kX4_firstError l Γ q an ap qs ac au ax L (nI SL) cs hL
  have hk5 := kX5_firstError l Γ mo L ms mt mc md (nI SL) n1 n3 n4 n5 hL
  generalize fX5_firstError L mt md = Z at hk5 hq
  refine lv_aload_n hx hb dL_law_765 rfl (lv_at hl 3 rfl) ?_
  refine cLI (va_runV (As := []) (rest := []) ⟨hx, hb, hml, hown, hts⟩ (hk4 _) (cwV 0 hts gL_law_X4_firstError rfl rfl rfl (by decide +kernel) ⟨Nat.le_of_ble_eq_true rfl, Nat.le_of_ble_eq_true rfl⟩) ⟨wPre_blind, va_recv hK hP (ci := 4) (q0 := 0) rfl rfl, wPre_mk hP hD hK hS hA hAB hAm [0, 6] rfl rfl⟩ rfl rfl hl.1 rfl (lv_room (Nat.le_of_ble_eq_true rfl)) dL_law_766 ⟨hc0, hs0⟩) hP hS hA (fun H locs hP hS => ?_)
  refine lv_aload_n hx hb dL_law_769 rfl (lv_at hl 2 rfl) ?_
  refine cMI (bc' := [moB Γ mo ms mt mc Z.2.1 (nI SL) Z.2.2.1 (nI L) (nI Z.2.2.2.1) (nI Z.2.2.2.2.1) Z.2.2.2.2.2]) (va_runV (As := []) (rest := [.int (fX4_firstError L cs)]) ⟨hx, hb, hml, hown, hts⟩ (hk5 _) (cwV 0 hts gL_law_X5_firstError rfl rfl rfl (by decide +kernel) ⟨Nat.le_of_ble_eq_true rfl, Nat.le_of_ble_eq_true rfl⟩) ⟨wPre_blind, va_recv hK hP (ci := 5) (q0 := 57) rfl rfl, wPre_mk hP hD hK hS hA hAB hAm [7] rfl rfl⟩ rfl rfl hl.1 rfl (lv_room (Nat.le_of_ble_eq_true rfl)) dL_law_770 ⟨hc0, hs0⟩) hP hD hS hA [7] rfl (by simp only [List.map_cons, List.map_nil, moB_w]) (bs' := [mnC q an ap qs ac au ax (nI SL), plB Γ an v, plB Γ ap vsp, saB Γ qs sa sr vs, cuB Γ ac ck, suB Γ au so sp, txB Γ ax cs (nI L), moB Γ mo ms mt mc Z.2.1 (nI SL) Z.2.2.1 (nI L) (nI Z.2.2.2.1) (nI Z.2.2.2.2.1) Z.2.2.2.2.2, ouB Γ oa ol]) rfl (fun H locs hP hD hS => ?_)
  exact lv_icmp_eq (tgt := 1404) hx hb dL_law_773 (by decide) (fun _ => W.widen (k := cells + 1) (n := slots + 6) (by omega) (by omega) (go SL sr vs v vsp ck so sp L cs ol ms mt mc Z.2.1 Z.2.2.1 ((nI Z.2.2.2.1)) ((nI Z.2.2.2.2.1)) Z.2.2.2.2.2 H locs ls (hR) hP hD hS hl)) (fun z => absurd hq.symm z)
set_option maxHeartbeats 4000000 in
set_option maxRecDepth 100000 in
theorem lc_groups (hfl : l.stackTraces = false) (hx : p.tables.exec = Jvm.exec) (hb : c.code = cL_law) (hml : c.maxLocals = 9) (hown : s.vm.findClass RL = some m.cls) (hts : ∀ w ∈ wsL_law, w.before args s = true) (hK : va_K Γ.1 vwCl (wtys Γ) s) (hA : ∀ q, s.heap.size ≤ q → A q) (hAm : Amb A s) (hX : va_X b N xs s s.heap) (hbl : b < s.heap.size) (hbA : ¬ A b) (hi : i + 4 ≤ N) (hN : N ≤ 2048) (hc : cells + 1 ≤ 601024) (hs : slots + 6 ≤ 7293034) (go : LGO p l e s m args below meth c A Γ q an ap qs ac au ax sa oa mo b i (cells + 1) (slots + 6) Q) {SL sr : Nat} {vs : Nat → Nat → Nat → Int32} {v vsp : Nat → Nat → Int32} {ck so sp : Nat → Int32} {L : Nat} {cs : Nat → Int32} {ol : Nat → Int64} {ms mt mc md : Nat → Int32} {n1 n3 n4 n5 : Int32} (hR : REL SL sr vs v ck so sp L cs ms mt) (hP : va_P Γ.1 vwCl (wcat [mnC q an ap qs ac au ax (nI SL), plB Γ an v, plB Γ ap vsp, saB Γ qs sa sr vs, cuB Γ ac ck, suB Γ au so sp, txB Γ ax cs (nI L), moB Γ mo ms mt mc md (nI SL) n1 (nI L) n3 n4 n5, ouB Γ oa ol]) H) (hD : va_D A (wcat [mnC q an ap qs ac au ax (nI SL), plB Γ an v, plB Γ ap vsp, saB Γ qs sa sr vs, cuB Γ ac ck, suB Γ au so sp, txB Γ ax cs (nI L), moB Γ mo ms mt mc md (nI SL) n1 (nI L) n3 n4 n5, ouB Γ oa ol])) (hS : va_S A s.heap H locs) (hl : lv_has ls 9 [(4, .int (nI i)), (3, .ref oa), (2, .ref (mo 0)), (1, .ref q), (0, .ref b)]) : W p l e room_1 s m args below meth c H locs cells slots Q (F0 m 1282 ls []) := by
  have hAB : ∀ q : Nat, A q → A q := fun _ h => h
  have hS6 := hR.1.1
  have hsr := hR.1.2.1
  have ho := hR.1.2.2.1
  have hp := hR.1.2.2.2
  have hL := hR.2.2.2.1
  obtain ⟨K, hK8, hMK, hvK⟩ := hR.2.1.num
  have hc0 : cells + 0 ≤ 601024 := by omega
  have hs0 : slots + 0 ≤ 7293034 := by omega
  obtain ⟨ee, o1, o2⟩ := q_groups hR.2.1 ho hp
  have hk4 := kX4_groups l Γ q an ap qs ac au ax (nI SL) v ck so sp
  have hk5 := kX5_groups l Γ mo ms mt mc md (nI SL) n1 (nI L) n3 n4 n5
  rw [ee] at hk5
  clear ee
  generalize fX4_groups v ck so sp = Z at hk4 hk5 o1 o2
  refine lv_aload_n hx hb dL_law_1282 rfl (lv_at hl 3 rfl) ?_
  refine cMI (bc' := [mnC q an ap qs ac au ax (nI SL), plB Γ an v, cuB Γ ac ck, suB Γ au Z.2.1 Z.2.2]) (va_runV (As := []) (rest := []) ⟨hx, hb, hml, hown, hts⟩ (hk4 _) (cwV 0 hts gL_law_X4_groups rfl rfl rfl (by decide +kernel) ⟨Nat.le_of_ble_eq_true rfl, Nat.le_of_ble_eq_true rfl⟩) ⟨wPre_blind, va_recv hK hP (ci := 4) (q0 := 0) rfl rfl, wPre_mk hP hD hK hS hA hAB hAm [0, 1, 4, 5] rfl rfl⟩ rfl rfl hl.1 rfl (lv_room (Nat.le_of_ble_eq_true rfl)) dL_law_1283 ⟨hc0, hs0⟩) hP hD hS hA [0, 1, 4, 5] rfl (by simp only [List.map_cons, List.map_nil, suB_w, plB_w, cuB_w, txB_w, mnC_w, saB_w, ouB_w]) (bs' := [mnC q an ap qs ac au ax (nI SL), plB Γ an v, plB Γ ap vsp, saB Γ qs sa sr vs, cuB Γ ac ck, suB Γ au Z.2.1 Z.2.2, txB Γ ax cs (nI L), moB Γ mo ms mt mc md (nI SL) n1 (nI L) n3 n4 n5, ouB Γ oa ol]) rfl (fun H locs hP hD hS => ?_)
  refine lv_aload_n hx hb dL_law_1286 rfl (lv_at hl 2 rfl) ?_
  refine cMI (bc' := [moB Γ mo ms mt mc md (nI SL) (nI 0) (nI L) n3 n4 n5]) (va_runV (As := []) (rest := [.int Z.1]) ⟨hx, hb, hml, hown, hts⟩ (hk5 _) (cwV 0 hts gL_law_X5_groups rfl rfl rfl (by decide +kernel) ⟨Nat.le_of_ble_eq_true rfl, Nat.le_of_ble_eq_true rfl⟩) ⟨wPre_blind, va_recv hK hP (ci := 5) (q0 := 57) rfl rfl, wPre_mk hP hD hK hS hA hAB hAm [7] rfl rfl⟩ rfl rfl hl.1 rfl (lv_room (Nat.le_of_ble_eq_true rfl)) dL_law_1287 ⟨hc0, hs0⟩) hP hD hS hA [7] rfl (by simp only [List.map_cons, List.map_nil, moB_w]) (bs' := [mnC q an ap qs ac au ax (nI SL), plB Γ an v, plB Γ ap vsp, saB Γ qs sa sr vs, cuB Γ ac ck, suB Γ au Z.2.1 Z.2.2, txB Γ ax cs (nI L), moB Γ mo ms mt mc md (nI SL) (nI 0) (nI L) n3 n4 n5, ouB Γ oa ol]) rfl (fun H locs hP hD hS => ?_)
  exact lv_icmp_eq (tgt := 1404) hx hb dL_law_1290 (by decide) (fun _ => W.widen (k := cells + 1) (n := slots + 6) (by omega) (by omega) (go SL sr vs v vsp ck Z.2.1 Z.2.2 L cs ol ms mt mc md ((nI 0)) n3 n4 n5 H locs ls (⟨⟨hS6, hsr, o1, o2⟩, hR.2⟩) hP hD hS hl)) (fun z => absurd rfl z)
set_option maxHeartbeats 4000000 in
set_option maxRecDepth 100000 in
theorem lc_needed (hfl : l.stackTraces = false) (hx : p.tables.exec = Jvm.exec) (hb : c.code = cL_law) (hml : c.maxLocals = 9) (hown : s.vm.findClass RL = some m.cls) (hts : ∀ w ∈ wsL_law, w.before args s = true) (hK : va_K Γ.1 vwCl (wtys Γ) s) (hA : ∀ q, s.heap.size ≤ q → A q) (hAm : Amb A s) (hX : va_X b N xs s s.heap) (hbl : b < s.heap.size) (hbA : ¬ A b) (hi : i + 4 ≤ N) (hN : N ≤ 2048) (hc : cells + 1 ≤ 601024) (hs : slots + 6 ≤ 7293034) (go : LGO p l e s m args below meth c A Γ q an ap qs ac au ax sa oa mo b i (cells + 1) (slots + 6) Q) {SL sr : Nat} {vs : Nat → Nat → Nat → Int32} {v vsp : Nat → Nat → Int32} {ck so sp : Nat → Int32} {L : Nat} {cs : Nat → Int32} {ol : Nat → Int64} {ms mt mc md : Nat → Int32} {n1 n3 n4 n5 : Int32} (hR : REL SL sr vs v ck so sp L cs ms mt) (hP : va_P Γ.1 vwCl (wcat [mnC q an ap qs ac au ax (nI SL), plB Γ an v, plB Γ ap vsp, saB Γ qs sa sr vs, cuB Γ ac ck, suB Γ au so sp, txB Γ ax cs (nI L), moB Γ mo ms mt mc md (nI SL) n1 (nI L) n3 n4 n5, ouB Γ oa ol]) H) (hD : va_D A (wcat [mnC q an ap qs ac au ax (nI SL), plB Γ an v, plB Γ ap vsp, saB Γ qs sa sr vs, cuB Γ ac ck, suB Γ au so sp, txB Γ ax cs (nI L), moB Γ mo ms mt mc md (nI SL) n1 (nI L) n3 n4 n5, ouB Γ oa ol])) (hS : va_S A s.heap H locs) (hl : lv_has ls 9 [(4, .int (nI i)), (3, .ref oa), (2, .ref (mo 0)), (1, .ref q), (0, .ref b)]) : W p l e room_1 s m args below meth c H locs cells slots Q (F0 m 1295 ls []) := by
  have hAB : ∀ q : Nat, A q → A q := fun _ h => h
  have hS6 := hR.1.1
  have hsr := hR.1.2.1
  have ho := hR.1.2.2.1
  have hp := hR.1.2.2.2
  have hL := hR.2.2.2.1
  obtain ⟨K, hK8, hMK, hvK⟩ := hR.2.1.num
  have hc0 : cells + 0 ≤ 601024 := by omega
  have hs0 : slots + 0 ≤ 7293034 := by omega
  obtain ⟨K2, d1, d2, d3, ee, e2, e3, e4, o1, o2⟩ := q_needed (vsp := vsp) hR.2.1 ho hp
  have hk4 := kX4_needed l Γ q an ap qs ac au ax (nI SL) v vsp ck so sp
  have hk5 := kX5_needed l Γ mo K2 ms mt mc md (nI SL) n1 (nI L) n3 n4 n5 d2 d1
  generalize fX4_needed v vsp ck so sp = Z at hk4 ee o1 o2
  generalize fX5_needed K2 ms = Y at hk5 ee e2 e3 e4
  refine lv_aload_n hx hb dL_law_1295 rfl (lv_at hl 3 rfl) ?_
  refine cMI (bc' := [mnC q an ap qs ac au ax (nI SL), plB Γ an v, plB Γ ap Z.2.1, cuB Γ ac ck, suB Γ au Z.2.2.1 Z.2.2.2]) (va_runV (As := []) (rest := []) ⟨hx, hb, hml, hown, hts⟩ (hk4 _) (cwV 0 hts gL_law_X4_needed rfl rfl rfl (by decide +kernel) ⟨Nat.le_of_ble_eq_true rfl, Nat.le_of_ble_eq_true rfl⟩) ⟨wPre_blind, va_recv hK hP (ci := 4) (q0 := 0) rfl rfl, wPre_mk hP hD hK hS hA hAB hAm [0, 1, 2, 4, 5] rfl rfl⟩ rfl rfl hl.1 rfl (lv_room (Nat.le_of_ble_eq_true rfl)) dL_law_1296 ⟨hc0, hs0⟩) hP hD hS hA [0, 1, 2, 4, 5] rfl (by simp only [List.map_cons, List.map_nil, suB_w, plB_w, cuB_w, txB_w, mnC_w, saB_w, ouB_w]) (bs' := [mnC q an ap qs ac au ax (nI SL), plB Γ an v, plB Γ ap Z.2.1, saB Γ qs sa sr vs, cuB Γ ac ck, suB Γ au Z.2.2.1 Z.2.2.2, txB Γ ax cs (nI L), moB Γ mo ms mt mc md (nI SL) n1 (nI L) n3 n4 n5, ouB Γ oa ol]) rfl (fun H locs hP hD hS => ?_)
  refine lv_aload_n hx hb dL_law_1299 rfl (lv_at hl 2 rfl) ?_
  refine cMI (bc' := [moB Γ mo Y.2.1 mt mc md (nI SL) Y.2.2 (nI L) n3 n4 n5]) (va_runV (As := []) (rest := [.int Z.1]) ⟨hx, hb, hml, hown, hts⟩ (hk5 _) (cwV 0 hts gL_law_X5_needed rfl rfl rfl (by decide +kernel) ⟨Nat.le_of_ble_eq_true rfl, Nat.le_of_ble_eq_true rfl⟩) ⟨wPre_blind, va_recv hK hP (ci := 5) (q0 := 57) rfl rfl, wPre_mk hP hD hK hS hA hAB hAm [7] rfl rfl⟩ rfl rfl hl.1 rfl (lv_room (Nat.le_of_ble_eq_true rfl)) dL_law_1300 ⟨hc0, hs0⟩) hP hD hS hA [7] rfl (by simp only [List.map_cons, List.map_nil, moB_w]) (bs' := [mnC q an ap qs ac au ax (nI SL), plB Γ an v, plB Γ ap Z.2.1, saB Γ qs sa sr vs, cuB Γ ac ck, suB Γ au Z.2.2.1 Z.2.2.2, txB Γ ax cs (nI L), moB Γ mo Y.2.1 mt mc md (nI SL) Y.2.2 (nI L) n3 n4 n5, ouB Γ oa ol]) rfl (fun H locs hP hD hS => ?_)
  exact lv_icmp_eq (tgt := 1404) hx hb dL_law_1303 (by decide) (fun _ => W.widen (k := cells + 1) (n := slots + 6) (by omega) (by omega) (go SL sr vs v Z.2.1 ck Z.2.2.1 Z.2.2.2 L cs ol Y.2.1 mt mc md Y.2.2 n3 n4 n5 H locs ls (⟨⟨hS6, hsr, o1, o2⟩, e3, hR.2.2.1.keep hS6 (fun j _ j2 => e4 j j2), hR.2.2.2⟩) hP hD hS hl)) (fun z => absurd ee.symm z)
set_option maxHeartbeats 4000000 in
set_option maxRecDepth 100000 in
theorem lc_firstShare (hfl : l.stackTraces = false) (hx : p.tables.exec = Jvm.exec) (hb : c.code = cL_law) (hml : c.maxLocals = 9) (hown : s.vm.findClass RL = some m.cls) (hts : ∀ w ∈ wsL_law, w.before args s = true) (hK : va_K Γ.1 vwCl (wtys Γ) s) (hA : ∀ q, s.heap.size ≤ q → A q) (hAm : Amb A s) (hX : va_X b N xs s s.heap) (hbl : b < s.heap.size) (hbA : ¬ A b) (hi : i + 4 ≤ N) (hN : N ≤ 2048) (hc : cells + 1 ≤ 601024) (hs : slots + 6 ≤ 7293034) (go : LGO p l e s m args below meth c A Γ q an ap qs ac au ax sa oa mo b i (cells + 1) (slots + 6) Q) {SL sr : Nat} {vs : Nat → Nat → Nat → Int32} {v vsp : Nat → Nat → Int32} {ck so sp : Nat → Int32} {L : Nat} {cs : Nat → Int32} {ol : Nat → Int64} {ms mt mc md : Nat → Int32} {n1 n3 n4 n5 : Int32} (hR : REL SL sr vs v ck so sp L cs ms mt) (hP : va_P Γ.1 vwCl (wcat [mnC q an ap qs ac au ax (nI SL), plB Γ an v, plB Γ ap vsp, saB Γ qs sa sr vs, cuB Γ ac ck, suB Γ au so sp, txB Γ ax cs (nI L), moB Γ mo ms mt mc md (nI SL) n1 (nI L) n3 n4 n5, ouB Γ oa ol]) H) (hD : va_D A (wcat [mnC q an ap qs ac au ax (nI SL), plB Γ an v, plB Γ ap vsp, saB Γ qs sa sr vs, cuB Γ ac ck, suB Γ au so sp, txB Γ ax cs (nI L), moB Γ mo ms mt mc md (nI SL) n1 (nI L) n3 n4 n5, ouB Γ oa ol])) (hS : va_S A s.heap H locs) (hl : lv_has ls 9 [(4, .int (nI i)), (3, .ref oa), (2, .ref (mo 0)), (1, .ref q), (0, .ref b)]) : W p l e room_1 s m args below meth c H locs cells slots Q (F0 m 1349 ls []) := by
  have hAB : ∀ q : Nat, A q → A q := fun _ h => h
  have hS6 := hR.1.1
  have hsr := hR.1.2.1
  have ho := hR.1.2.2.1
  have hp := hR.1.2.2.2
  have hL := hR.2.2.2.1
  obtain ⟨K, hK8, hMK, hvK⟩ := hR.2.1.num
  have hc0 : cells + 0 ≤ 601024 := by omega
  have hs0 : slots + 0 ≤ 7293034 := by omega
  have hq : fX5_firsts ms = fX4_firstShare v := by obtain ⟨P, hW, hC, hRV, -⟩ := hR.2.1; exact r_first hW hC hRV
  have hn := dS_nan _ (rfs_dS ms)
  have hk4 := kX4_firstShare l Γ q an ap qs ac au ax (nI SL) v
  have hk5 := kX5_firstShare l Γ mo ms mt mc md (nI SL) n1 (nI L) n3 n4 n5
  rw [hq] at hn
  rw [show fX5_firstShare ms = (fX4_firstShare v, nI 0) by unfold fX5_firstShare; rw [hq]] at hk5
  generalize fX4_firstShare v = dd at hk4 hk5 hn
  refine lv_aload_n hx hb dL_law_1349 rfl (lv_at hl 3 rfl) ?_
  refine cLD (va_runV (As := []) (rest := []) ⟨hx, hb, hml, hown, hts⟩ (hk4 _) (cwV 0 hts gL_law_X4_firstShare rfl rfl rfl (by decide +kernel) ⟨Nat.le_of_ble_eq_true rfl, Nat.le_of_ble_eq_true rfl⟩) ⟨wPre_blind, va_recv hK hP (ci := 4) (q0 := 0) rfl rfl, wPre_mk hP hD hK hS hA hAB hAm [0, 1] rfl rfl⟩ rfl rfl hl.1 rfl (lv_room (Nat.le_of_ble_eq_true rfl)) dL_law_1350 ⟨hc0, hs0⟩) hP hS hA (fun H locs hP hS => ?_)
  refine lv_dstore (lv' := [(5, .double dd), (4, .int (nI i)), (3, .ref oa), (2, .ref (mo 0)), (1, .ref q), (0, .ref b)]) hx hb dL_law_1353 hl (by decide) rfl (fun ls hl => ?_)
  refine lv_aload_n hx hb dL_law_1355 rfl (lv_at hl 3 rfl) ?_
  refine cMD (bc' := [moB Γ mo ms mt mc md (nI SL) (nI 0) (nI L) n3 n4 n5]) (va_runV (As := []) (rest := []) ⟨hx, hb, hml, hown, hts⟩ (hk5 _) (cwV 0 hts gL_law_X5_firstShare rfl rfl rfl (by decide +kernel) ⟨Nat.le_of_ble_eq_true rfl, Nat.le_of_ble_eq_true rfl⟩) ⟨wPre_blind, va_recv hK hP (ci := 5) (q0 := 57) rfl rfl, wPre_mk hP hD hK hS hA hAB hAm [7] rfl rfl⟩ rfl rfl hl.1 rfl (lv_room (Nat.le_of_ble_eq_true rfl)) dL_law_1356 ⟨hc0, hs0⟩) hP hD hS hA [7] rfl (by simp only [List.map_cons, List.map_nil, moB_w]) (bs' := [mnC q an ap qs ac au ax (nI SL), plB Γ an v, plB Γ ap vsp, saB Γ qs sa sr vs, cuB Γ ac ck, suB Γ au so sp, txB Γ ax cs (nI L), moB Γ mo ms mt mc md (nI SL) (nI 0) (nI L) n3 n4 n5, ouB Γ oa ol]) rfl (fun H locs hP hD hS => ?_)
  refine lv_dstore (lv' := [(7, .double dd), (5, .double dd), (4, .int (nI i)), (3, .ref oa), (2, .ref (mo 0)), (1, .ref q), (0, .ref b)]) hx hb dL_law_1359 hl (by decide) rfl (fun ls hl => ?_)
  refine lv_dload hx hb dL_law_1361 (lv_at hl 1 rfl) ?_
  refine lv_dload hx hb dL_law_1363 (lv_at hl 0 rfl) ?_
  refine lv_dcmp hx hb dL_law_1365 ?_
  refine lv_if_eq (tgt := 1387) hx hb dL_law_1366 (by decide) (fun _ => ?_) (fun z => absurd hn z)
  refine lv_goto (tgt := 1404) hx hb dL_law_1387 (by decide) ?_
  exact W.widen (k := cells + 1) (n := slots + 6) (by omega) (by omega) (go SL sr vs v vsp ck so sp L cs ol ms mt mc md ((nI 0)) n3 n4 n5 H locs ls (hR) hP hD hS (lv_sub hl [2, 3, 4, 5, 6] rfl))
set_option maxHeartbeats 4000000 in
set_option maxRecDepth 100000 in
theorem lc_digest (hfl : l.stackTraces = false) (hx : p.tables.exec = Jvm.exec) (hb : c.code = cL_law) (hml : c.maxLocals = 9) (hown : s.vm.findClass RL = some m.cls) (hts : ∀ w ∈ wsL_law, w.before args s = true) (hK : va_K Γ.1 vwCl (wtys Γ) s) (hA : ∀ q, s.heap.size ≤ q → A q) (hAm : Amb A s) (hX : va_X b N xs s s.heap) (hbl : b < s.heap.size) (hbA : ¬ A b) (hi : i + 4 ≤ N) (hN : N ≤ 2048) (hc : cells + 1 ≤ 601024) (hs : slots + 6 ≤ 7293034) (go : LGO p l e s m args below meth c A Γ q an ap qs ac au ax sa oa mo b i (cells + 1) (slots + 6) Q) {SL sr : Nat} {vs : Nat → Nat → Nat → Int32} {v vsp : Nat → Nat → Int32} {ck so sp : Nat → Int32} {L : Nat} {cs : Nat → Int32} {ol : Nat → Int64} {ms mt mc md : Nat → Int32} {n1 n3 n4 n5 : Int32} (hR : REL SL sr vs v ck so sp L cs ms mt) (hP : va_P Γ.1 vwCl (wcat [mnC q an ap qs ac au ax (nI SL), plB Γ an v, plB Γ ap vsp, saB Γ qs sa sr vs, cuB Γ ac ck, suB Γ au so sp, txB Γ ax cs (nI L), moB Γ mo ms mt mc md (nI SL) n1 (nI L) n3 n4 n5, ouB Γ oa ol]) H) (hD : va_D A (wcat [mnC q an ap qs ac au ax (nI SL), plB Γ an v, plB Γ ap vsp, saB Γ qs sa sr vs, cuB Γ ac ck, suB Γ au so sp, txB Γ ax cs (nI L), moB Γ mo ms mt mc md (nI SL) n1 (nI L) n3 n4 n5, ouB Γ oa ol])) (hS : va_S A s.heap H locs) (hl : lv_has ls 9 [(4, .int (nI i)), (3, .ref oa), (2, .ref (mo 0)), (1, .ref q), (0, .ref b)]) : W p l e room_1 s m args below meth c H locs cells slots Q (F0 m 1390 ls []) := by
  have hAB : ∀ q : Nat, A q → A q := fun _ h => h
  have hS6 := hR.1.1
  have hsr := hR.1.2.1
  have ho := hR.1.2.2.1
  have hp := hR.1.2.2.2
  have hL := hR.2.2.2.1
  obtain ⟨K, hK8, hMK, hvK⟩ := hR.2.1.num
  have hc0 : cells + 0 ≤ 601024 := by omega
  have hs0 : slots + 0 ≤ 7293034 := by omega
  obtain ⟨K2, d1, d2, d3, ee, o1, o2, e2, e3, e4⟩ := q_digest (vsp := vsp) SL hR.2.1 ho hp hR.2.2.2
  have hk4 := kX4_digest l Γ q an ap qs ac au ax K2 L (nI SL) v vsp ck so sp cs hL d3 d1
  have hk5 := kX5_digest l Γ mo SL L K2 ms mt mc md n1 n3 n4 n5 hL d2 d1
  generalize fX4_digest K2 L (nI SL) v vsp ck so sp cs = Z at hk4 ee o1 o2
  generalize fX5_digest SL L K2 ms mt = Y at hk5 ee e2 e3 e4
  refine lv_aload_n hx hb dL_law_1390 rfl (lv_at hl 3 rfl) ?_
  refine cML (bc' := [mnC q an ap qs ac au ax (nI SL), plB Γ an v, plB Γ ap Z.2.1, cuB Γ ac ck, suB Γ au Z.2.2.1 Z.2.2.2, txB Γ ax cs (nI L)]) (va_runV (As := []) (rest := []) ⟨hx, hb, hml, hown, hts⟩ (hk4 _) (cwV 0 hts gL_law_X4_digest rfl rfl rfl (by decide +kernel) ⟨Nat.le_of_ble_eq_true rfl, Nat.le_of_ble_eq_true rfl⟩) ⟨wPre_blind, va_recv hK hP (ci := 4) (q0 := 0) rfl rfl, wPre_mk hP hD hK hS hA hAB hAm [0, 1, 2, 4, 5, 6] rfl rfl⟩ rfl rfl hl.1 rfl (lv_room (Nat.le_of_ble_eq_true rfl)) dL_law_1391 ⟨hc0, hs0⟩) hP hD hS hA [0, 1, 2, 4, 5, 6] rfl (by simp only [List.map_cons, List.map_nil, suB_w, plB_w, cuB_w, txB_w, mnC_w, saB_w, ouB_w]) (bs' := [mnC q an ap qs ac au ax (nI SL), plB Γ an v, plB Γ ap Z.2.1, saB Γ qs sa sr vs, cuB Γ ac ck, suB Γ au Z.2.2.1 Z.2.2.2, txB Γ ax cs (nI L), moB Γ mo ms mt mc md (nI SL) n1 (nI L) n3 n4 n5, ouB Γ oa ol]) rfl (fun H locs hP hD hS => ?_)
  refine lv_aload_n hx hb dL_law_1394 rfl (lv_at hl 2 rfl) ?_
  refine cML (bc' := [moB Γ mo Y.2.1 mt mc md (nI SL) Y.2.2 (nI L) n3 n4 n5]) (va_runV (As := []) (rest := [.long Z.1]) ⟨hx, hb, hml, hown, hts⟩ (hk5 _) (cwV 0 hts gL_law_X5_digest rfl rfl rfl (by decide +kernel) ⟨Nat.le_of_ble_eq_true rfl, Nat.le_of_ble_eq_true rfl⟩) ⟨wPre_blind, va_recv hK hP (ci := 5) (q0 := 57) rfl rfl, wPre_mk hP hD hK hS hA hAB hAm [7] rfl rfl⟩ rfl rfl hl.1 rfl (lv_room (Nat.le_of_ble_eq_true rfl)) dL_law_1395 ⟨hc0, hs0⟩) hP hD hS hA [7] rfl (by simp only [List.map_cons, List.map_nil, moB_w]) (bs' := [mnC q an ap qs ac au ax (nI SL), plB Γ an v, plB Γ ap Z.2.1, saB Γ qs sa sr vs, cuB Γ ac ck, suB Γ au Z.2.2.1 Z.2.2.2, txB Γ ax cs (nI L), moB Γ mo Y.2.1 mt mc md (nI SL) Y.2.2 (nI L) n3 n4 n5, ouB Γ oa ol]) rfl (fun H locs hP hD hS => ?_)
  rw [ee]
  refine lv_lcmp0 hx hb dL_law_1398 ?_
  exact lv_if_eq (tgt := 1404) hx hb dL_law_1399 (by decide) (fun _ => W.widen (k := cells + 1) (n := slots + 6) (by omega) (by omega) (go SL sr vs v Z.2.1 ck Z.2.2.1 Z.2.2.2 L cs ol Y.2.1 mt mc md Y.2.2 n3 n4 n5 H locs ls (⟨⟨hS6, hsr, o1, o2⟩, e3, hR.2.2.1.keep hS6 (fun j _ j2 => e4 j j2), hR.2.2.2⟩) hP hD hS hl)) (fun z => absurd rfl z)
set_option maxHeartbeats 4000000 in
set_option maxRecDepth 100000 in
theorem lc_peace2 (hfl : l.stackTraces = false) (hx : p.tables.exec = Jvm.exec) (hb : c.code = cL_law) (hml : c.maxLocals = 9) (hown : s.vm.findClass RL = some m.cls) (hts : ∀ w ∈ wsL_law, w.before args s = true) (hK : va_K Γ.1 vwCl (wtys Γ) s) (hA : ∀ q, s.heap.size ≤ q → A q) (hAm : Amb A s) (hX : va_X b N xs s s.heap) (hbl : b < s.heap.size) (hbA : ¬ A b) (hi : i + 4 ≤ N) (hN : N ≤ 2048) (hc : cells + 1 ≤ 601024) (hs : slots + 6 ≤ 7293034) (go : LGO p l e s m args below meth c A Γ q an ap qs ac au ax sa oa mo b i (cells + 1) (slots + 6) Q) {SL sr : Nat} {vs : Nat → Nat → Nat → Int32} {v vsp : Nat → Nat → Int32} {ck so sp : Nat → Int32} {L : Nat} {cs : Nat → Int32} {ol : Nat → Int64} {ms mt mc md : Nat → Int32} {n1 n3 n4 n5 : Int32} (hR : REL SL sr vs v ck so sp L cs ms mt) (hP : va_P Γ.1 vwCl (wcat [mnC q an ap qs ac au ax (nI SL), plB Γ an v, plB Γ ap vsp, saB Γ qs sa sr vs, cuB Γ ac ck, suB Γ au so sp, txB Γ ax cs (nI L), moB Γ mo ms mt mc md (nI SL) n1 (nI L) n3 n4 n5, ouB Γ oa ol]) H) (hD : va_D A (wcat [mnC q an ap qs ac au ax (nI SL), plB Γ an v, plB Γ ap vsp, saB Γ qs sa sr vs, cuB Γ ac ck, suB Γ au so sp, txB Γ ax cs (nI L), moB Γ mo ms mt mc md (nI SL) n1 (nI L) n3 n4 n5, ouB Γ oa ol])) (hS : va_S A s.heap H locs) (hl : lv_has ls 9 [(4, .int (nI i)), (3, .ref oa), (2, .ref (mo 0)), (1, .ref q), (0, .ref b)]) {la : Int32} (h0 : (xs (nI i + nI 1).toNatClampNeg) = 0 → la = nI 0) (h1 : ¬ (xs (nI i + nI 1).toNatClampNeg) = 0 → la = nI 1) : W p l e room_1 s m args below meth c H locs cells slots Q (F0 m 1323 ls [.int la, .ref q]) := by
  have hAB : ∀ q : Nat, A q → A q := fun _ h => h
  have hS6 := hR.1.1
  have hsr := hR.1.2.1
  have ho := hR.1.2.2.1
  have hp := hR.1.2.2.2
  have hL := hR.2.2.2.1
  obtain ⟨K, hK8, hMK, hvK⟩ := hR.2.1.num
  have hc0 : cells + 0 ≤ 601024 := by omega
  have hs0 : slots + 0 ≤ 7293034 := by omega
  obtain ⟨K2, d1, d2, d3, ee, e2, e3, e4, o1, o2⟩ := q_peace hR.2.1 ho hp la
  have hk4 := kX4_peace l Γ q an ap qs ac au ax (nI SL) v ck so sp la
  have hk5 := kX5_peace l Γ mo K2 ms mt mc md (nI SL) n1 (nI L) n3 n4 n5 la d2 d1
  generalize fX4_peace v ck so sp la = Z at hk4 ee o1 o2
  generalize fX5_peace K2 ms la = Y at hk5 ee e2 e3 e4
  refine cMI (bc' := [mnC q an ap qs ac au ax (nI SL), plB Γ an v, cuB Γ ac ck, suB Γ au Z.2.1 Z.2.2]) (va_runV (As := [.int la]) (rest := []) ⟨hx, hb, hml, hown, hts⟩ (hk4 _) (cwV 1 hts gL_law_X4_peace rfl rfl rfl (by decide +kernel) ⟨Nat.le_of_ble_eq_true rfl, Nat.le_of_ble_eq_true rfl⟩) ⟨wPre_blind, va_recv hK hP (ci := 4) (q0 := 0) rfl rfl, wPre_mk hP hD hK hS hA hAB hAm [0, 1, 4, 5] rfl rfl⟩ rfl rfl hl.1 rfl (lv_room (Nat.le_of_ble_eq_true rfl)) dL_law_1323 ⟨hc0, hs0⟩) hP hD hS hA [0, 1, 4, 5] rfl (by simp only [List.map_cons, List.map_nil, suB_w, plB_w, cuB_w, txB_w, mnC_w, saB_w, ouB_w]) (bs' := [mnC q an ap qs ac au ax (nI SL), plB Γ an v, plB Γ ap vsp, saB Γ qs sa sr vs, cuB Γ ac ck, suB Γ au Z.2.1 Z.2.2, txB Γ ax cs (nI L), moB Γ mo ms mt mc md (nI SL) n1 (nI L) n3 n4 n5, ouB Γ oa ol]) rfl (fun H locs hP hD hS => ?_)
  refine lv_aload_n hx hb dL_law_1326 rfl (lv_at hl 2 rfl) ?_
  refine lv_aload_n hx hb dL_law_1327 rfl (lv_at hl 4 rfl) ?_
  refine lv_iload hx hb dL_law_1328 (lv_at hl 0 rfl) ?_
  refine lv_iconst (v := nI 1) hx hb dL_law_1330 (by decide) ?_
  refine lv_iadd hx hb dL_law_1331 ?_
  refine va_sld hx hb hX hbl hbA hS (show vp_in (nI i + nI 1) N by rw [nI_add]; exact vp_in_nI (by omega) (by omega)) dL_law_1332 ?_
  have last : W p l e room_1 s m args below meth c H locs cells slots Q (F0 m 1341 ls [.int la, .ref (mo 0), .int Z.1]) := by
    refine cMI (bc' := [moB Γ mo Y.2.1 mt mc md (nI SL) Y.2.2 (nI L) n3 n4 n5]) (va_runV (As := [.int la]) (rest := [.int Z.1]) ⟨hx, hb, hml, hown, hts⟩ (hk5 _) (cwV 1 hts gL_law_X5_peace rfl rfl rfl (by decide +kernel) ⟨Nat.le_of_ble_eq_true rfl, Nat.le_of_ble_eq_true rfl⟩) ⟨wPre_blind, va_recv hK hP (ci := 5) (q0 := 57) rfl rfl, wPre_mk hP hD hK hS hA hAB hAm [7] rfl rfl⟩ rfl rfl hl.1 rfl (lv_room (Nat.le_of_ble_eq_true rfl)) dL_law_1341 ⟨hc0, hs0⟩) hP hD hS hA [7] rfl (by simp only [List.map_cons, List.map_nil, moB_w]) (bs' := [mnC q an ap qs ac au ax (nI SL), plB Γ an v, plB Γ ap vsp, saB Γ qs sa sr vs, cuB Γ ac ck, suB Γ au Z.2.1 Z.2.2, txB Γ ax cs (nI L), moB Γ mo Y.2.1 mt mc md (nI SL) Y.2.2 (nI L) n3 n4 n5, ouB Γ oa ol]) rfl (fun H locs hP hD hS => ?_)
    exact lv_icmp_eq (tgt := 1404) hx hb dL_law_1344 (by decide) (fun _ => W.widen (k := cells + 1) (n := slots + 6) (by omega) (by omega) (go SL sr vs v vsp ck Z.2.1 Z.2.2 L cs ol Y.2.1 mt mc md Y.2.2 n3 n4 n5 H locs ls (⟨⟨hS6, hsr, o1, o2⟩, e3, hR.2.2.1.keep hS6 (fun j _ j2 => e4 j j2), hR.2.2.2⟩) hP hD hS hl)) (fun z => absurd ee.symm z)
  refine lv_if_eq (tgt := 1340) hx hb dL_law_1333 (by decide) (fun c => ?_) (fun c => ?_)
  · exact lv_iconst (v := la) hx hb dL_law_1340 (by rw [h0 c]; decide) last
  · refine lv_iconst (v := la) hx hb dL_law_1336 (by rw [h1 c]; decide) ?_
    exact lv_goto (tgt := 1341) hx hb dL_law_1337 (by decide) last
set_option maxHeartbeats 4000000 in
set_option maxRecDepth 100000 in
theorem lc_peace (hfl : l.stackTraces = false) (hx : p.tables.exec = Jvm.exec) (hb : c.code = cL_law) (hml : c.maxLocals = 9) (hown : s.vm.findClass RL = some m.cls) (hts : ∀ w ∈ wsL_law, w.before args s = true) (hK : va_K Γ.1 vwCl (wtys Γ) s) (hA : ∀ q, s.heap.size ≤ q → A q) (hAm : Amb A s) (hX : va_X b N xs s s.heap) (hbl : b < s.heap.size) (hbA : ¬ A b) (hi : i + 4 ≤ N) (hN : N ≤ 2048) (hc : cells + 1 ≤ 601024) (hs : slots + 6 ≤ 7293034) (go : LGO p l e s m args below meth c A Γ q an ap qs ac au ax sa oa mo b i (cells + 1) (slots + 6) Q) {SL sr : Nat} {vs : Nat → Nat → Nat → Int32} {v vsp : Nat → Nat → Int32} {ck so sp : Nat → Int32} {L : Nat} {cs : Nat → Int32} {ol : Nat → Int64} {ms mt mc md : Nat → Int32} {n1 n3 n4 n5 : Int32} (hR : REL SL sr vs v ck so sp L cs ms mt) (hP : va_P Γ.1 vwCl (wcat [mnC q an ap qs ac au ax (nI SL), plB Γ an v, plB Γ ap vsp, saB Γ qs sa sr vs, cuB Γ ac ck, suB Γ au so sp, txB Γ ax cs (nI L), moB Γ mo ms mt mc md (nI SL) n1 (nI L) n3 n4 n5, ouB Γ oa ol]) H) (hD : va_D A (wcat [mnC q an ap qs ac au ax (nI SL), plB Γ an v, plB Γ ap vsp, saB Γ qs sa sr vs, cuB Γ ac ck, suB Γ au so sp, txB Γ ax cs (nI L), moB Γ mo ms mt mc md (nI SL) n1 (nI L) n3 n4 n5, ouB Γ oa ol])) (hS : va_S A s.heap H locs) (hl : lv_has ls 9 [(4, .int (nI i)), (3, .ref oa), (2, .ref (mo 0)), (1, .ref q), (0, .ref b)]) : W p l e room_1 s m args below meth c H locs cells slots Q (F0 m 1308 ls []) := by
  refine lv_aload_n hx hb dL_law_1308 rfl (lv_at hl 3 rfl) ?_
  refine lv_aload_n hx hb dL_law_1309 rfl (lv_at hl 4 rfl) ?_
  refine lv_iload hx hb dL_law_1310 (lv_at hl 0 rfl) ?_
  refine lv_iconst (v := nI 1) hx hb dL_law_1312 (by decide) ?_
  refine lv_iadd hx hb dL_law_1313 ?_
  refine va_sld hx hb hX hbl hbA hS (show vp_in (nI i + nI 1) N by rw [nI_add]; exact vp_in_nI (by omega) (by omega)) dL_law_1314 ?_
  refine lv_if_eq (tgt := 1322) hx hb dL_law_1315 (by decide) (fun c => ?_) (fun c => ?_)
  · exact lv_iconst (v := nI 0) hx hb dL_law_1322 (by decide) (lc_peace2 hfl hx hb hml hown hts hK hA hAm hX hbl hbA hi hN hc hs go hR hP hD hS hl (fun _ => rfl) (fun z => absurd c z))
  · refine lv_iconst (v := nI 1) hx hb dL_law_1318 (by decide) ?_
    exact lv_goto (tgt := 1323) hx hb dL_law_1319 (by decide) (lc_peace2 hfl hx hb hml hown hts hK hA hAm hX hbl hbA hi hN hc hs go hR hP hD hS hl (fun z => absurd z c) (fun _ => rfl))
end LWC
