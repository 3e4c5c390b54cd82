/-! ===== the law's entry ===== -/
theorem ao_blind {Γ : wG} {bs : List va_W} {sz : Nat} {av : List Value} : FrameBlind (va_Pc av (fun U => wPre Γ bs sz U ∧ va_AO RX2 U)) := fun a U g mk q => by
  obtain ⟨q0, q1, q2⟩ := q
  obtain ⟨h1, h2⟩ := wPre_blind (av := av) (Γ := Γ) (bs := bs) (sz := sz) a U g mk ⟨q0, q1⟩
  exact ⟨h1, h2, va_AO.moved (u := U) (U := U.calling g mk a) (Vm.Alike.refl U.vm) q2⟩
theorem ao_mk {Γ : wG} {bc : List va_W} {s : State} {H : Heap} {av : List Value} (hO : va_AO RX2 s) (h : ∀ U : State, U.heap = H → s.WarmedH U.vm → va_Pc av (wPre Γ bc H.size) av.toArray U) : ∀ U : State, U.heap = H → s.WarmedH U.vm → va_Pc av (fun U => wPre Γ bc H.size U ∧ va_AO RX2 U) av.toArray U := fun U h1 h2 => ⟨(h U h1 h2).1, (h U h1 h2).2, va_AO.moved h2.alike hO⟩
section LWE
variable {p : Program} {l : Launch} {e : Env} {s : State} {m : MethodId} {args : Array Value} {below : List Frame} {meth : Method} {c : Code} {H : Heap} {locs : List Loc} {cells slots : Nat} {Q : State → Prop} {ls : Array Slot} {Γ : wG}
variable {q : Nat} {an ap : Nat → Nat} {qs : Nat} {ac au ax : Nat → Nat} {sa : Nat → Nat → Nat} {oa : Nat} {mo : Nat → Nat} {b N : Nat} {xs : Nat → Int32} {i : Nat}
set_option maxHeartbeats 4000000 in
set_option maxRecDepth 100000 in
theorem lc_entry (hfl : l.stackTraces = false) (hx : p.tables.exec = Jvm.exec) (hb : c.code = cL_law) (hml : c.maxLocals = 9) (hown : s.vm.findClass RL = some m.cls) (hts : ∀ w ∈ wsL_law, w.before args s = true) (hK : va_K Γ.1 vwCl (wtys Γ) s) (hAm : Amb (fun q : Nat => s.heap.size ≤ q) s) (hAO : va_AO RX2 s) (hX : va_X b N xs s s.heap) (hbl : b < s.heap.size) (hN : N ≤ 2048) (ex : ∀ (H : Heap) (locs : List Loc) (ls : Array Slot) (cells slots : Nat), cells ≤ 601024 → slots ≤ 7293034 → va_S (fun q : Nat => s.heap.size ≤ q) s.heap H locs → W p l e room_1 s m args below meth c H locs cells slots Q (F0 m 1410 ls [])) (hl : lv_has ls 9 [(0, .ref b)]) : W p l e room_1 s m args below meth c s.heap [] 0 0 Q (F0 m 0 ls []) := by
  have hA : ∀ q : Nat, s.heap.size ≤ q → (fun q : Nat => s.heap.size ≤ q) q := fun _ h => h
  have hAB : ∀ q : Nat, (fun q : Nat => s.heap.size ≤ q) q → (fun q : Nat => s.heap.size ≤ q) q := fun _ h => h
  have hbA : ¬ (fun q : Nat => s.heap.size ≤ q) b := Nat.not_le.mpr hbl
  have hS : va_S (fun q : Nat => s.heap.size ≤ q) s.heap s.heap [] := va_S.rf
  have hP : va_P Γ.1 vwCl [] s.heap := fun k q h => by simp at h
  have hD : va_D (fun q : Nat => s.heap.size ≤ q) [] := ⟨fun i j p q h => by simp at h, fun k q h => by simp at h⟩
  have hi4 : ∀ w ∈ wsX40, w ∈ wsL_law := inlX4
  have hi5 : ∀ w ∈ wsX50, w ∈ wsL_law := inlX5
  refine va_new (D := Γ.1) (ci := 4) (fs := [.null, .null, .null, .int 0, .null, .null, .null]) (C := RX4) (T := TX4) (N := 7) hx hb hts hi4 tyX4 tyX4_ok hown (hts (.classLink RL 8 RX4) (by decide +kernel)) (hts (.instantiable RX4 7) (by decide +kernel)) (hts (.initialized RX4) (by decide +kernel)) hK hP hD hS hA rfl (fun j hj => by rcases (show j = 0 ∨ j = 1 ∨ j = 2 ∨ j = 3 ∨ j = 4 ∨ j = 5 ∨ j = 6 by omega) with rfl | rfl | rfl | rfl | rfl | rfl | rfl <;> rfl) (Nat.le_of_ble_eq_true rfl) (Nat.le_of_ble_eq_true rfl) dL_law_0 (fun q_4 H hP hD hS => ?_)
  refine W.widen (k := 1) (n := 7) (Nat.le_of_ble_eq_true rfl) (Nat.le_of_ble_eq_true rfl) ?_
  have hP : va_P Γ.1 vwCl (wcat [[(q_4, .inr (4, [.null, .null, .null, .int 0, .null, .null, .null]))]]) H := hP
  have hD : va_D (fun q : Nat => s.heap.size ≤ q) (wcat [[(q_4, .inr (4, [.null, .null, .null, .int 0, .null, .null, .null]))]]) := hD
  refine lv_dup hx hb dL_law_3 rfl ?_
  refine cCT (bs := []) (b0 := [(q_4, .inr (4, [.null, .null, .null, .int 0, .null, .null, .null]))]) (va_runI (As := []) (rest := [.ref q_4]) ⟨hx, hb, hml, hown, hts⟩ ((kX4_init l Γ q_4) _) (cwI 0 hts gL_law_X4_init rfl rfl rfl (hts (.initialized RX4) (by decide +kernel)) (hts (.methodLink RL 76 yX4_init) (by decide +kernel)) (hts (.instanceMethod yX4_init) (by decide +kernel)) rfl (by decide +kernel) ⟨Nat.le_of_ble_eq_true rfl, Nat.le_of_ble_eq_true rfl⟩) ⟨ao_blind, ao_mk hAO (wPre_mk hP hD hK hS hA hAB hAm [0] rfl rfl)⟩ rfl rfl hl.1 rfl (lv_room (Nat.le_of_ble_eq_true rfl)) dL_law_4 ⟨Nat.le_of_ble_eq_true rfl, Nat.le_of_ble_eq_true rfl⟩) hP hD hS hA (fun ⟨⟨an, ap, qs, sa, ac, au, ax⟩, v, vsp, vs, ck, so, sp, cs⟩ H locs hu hP2 hD2 hS => ?_)
  obtain ⟨hCV, ho, hp⟩ := hu
  try dsimp only at hCV ho hp hP2 hD2
  have hP := hP2
  have hD := hD2
  have hP : va_P Γ.1 vwCl (wcat [mnC q_4 an ap qs ac au ax (nI 0), plB Γ an v, plB Γ ap vsp, saB Γ qs sa 0 vs, cuB Γ ac ck, suB Γ au so sp, txB Γ ax cs (nI 0)]) H := hP
  have hD : va_D (fun q : Nat => s.heap.size ≤ q) (wcat [mnC q_4 an ap qs ac au ax (nI 0), plB Γ an v, plB Γ ap vsp, saB Γ qs sa 0 vs, cuB Γ ac ck, suB Γ au so sp, txB Γ ax cs (nI 0)]) := hD
  refine W.widen (k := 57) (n := 1294) (Nat.le_of_ble_eq_true rfl) (Nat.le_of_ble_eq_true rfl) ?_
  refine lv_astore_n (lv' := [(1, .ref q_4), (0, .ref b)]) hx hb dL_law_7 rfl hl (by decide) rfl (fun ls hl => ?_)
  refine va_new (D := Γ.1) (ci := 5) (fs := [.null, .int 0, .int 0, .null, .int 0, .null, .null, .int 0, .int 0, .int 0]) (C := RX5) (T := TX5) (N := 10) hx hb hts hi5 tyX5 tyX5_ok hown (hts (.classLink RL 77 RX5) (by decide +kernel)) (hts (.instantiable RX5 10) (by decide +kernel)) (hts (.initialized RX5) (by decide +kernel)) hK hP hD hS hA rfl (fun j hj => by rcases (show j = 0 ∨ j = 1 ∨ j = 2 ∨ j = 3 ∨ j = 4 ∨ j = 5 ∨ j = 6 ∨ j = 7 ∨ j = 8 ∨ j = 9 by omega) with rfl | rfl | rfl | rfl | rfl | rfl | rfl | rfl | rfl | rfl <;> rfl) (Nat.le_of_ble_eq_true rfl) (Nat.le_of_ble_eq_true rfl) dL_law_8 (fun q_5 H hP hD hS => ?_)
  refine W.widen (k := 58) (n := 1304) (Nat.le_of_ble_eq_true rfl) (Nat.le_of_ble_eq_true rfl) ?_
  have hP : va_P Γ.1 vwCl (wcat [mnC q_4 an ap qs ac au ax (nI 0), plB Γ an v, plB Γ ap vsp, saB Γ qs sa 0 vs, cuB Γ ac ck, suB Γ au so sp, txB Γ ax cs (nI 0), [(q_5, .inr (5, [.null, .int 0, .int 0, .null, .int 0, .null, .null, .int 0, .int 0, .int 0]))]]) H := hP
  have hD : va_D (fun q : Nat => s.heap.size ≤ q) (wcat [mnC q_4 an ap qs ac au ax (nI 0), plB Γ an v, plB Γ ap vsp, saB Γ qs sa 0 vs, cuB Γ ac ck, suB Γ au so sp, txB Γ ax cs (nI 0), [(q_5, .inr (5, [.null, .int 0, .int 0, .null, .int 0, .null, .null, .int 0, .int 0, .int 0]))]]) := hD
  refine lv_dup hx hb dL_law_11 rfl ?_
  refine cCT (bs := [mnC q_4 an ap qs ac au ax (nI 0), plB Γ an v, plB Γ ap vsp, saB Γ qs sa 0 vs, cuB Γ ac ck, suB Γ au so sp, txB Γ ax cs (nI 0)]) (b0 := [(q_5, .inr (5, [.null, .int 0, .int 0, .null, .int 0, .null, .null, .int 0, .int 0, .int 0]))]) (va_runI (As := []) (rest := [.ref q_5]) ⟨hx, hb, hml, hown, hts⟩ ((kX5_init l Γ q_5) _) (cwI 0 hts gL_law_X5_init rfl rfl rfl (hts (.initialized RX5) (by decide +kernel)) (hts (.methodLink RL 79 yX5_init) (by decide +kernel)) (hts (.instanceMethod yX5_init) (by decide +kernel)) rfl (by decide +kernel) ⟨Nat.le_of_ble_eq_true rfl, Nat.le_of_ble_eq_true rfl⟩) ⟨ct_blind, ct_mk (wPre_mk hP hD hK hS hA hAB hAm [7] rfl rfl)⟩ rfl rfl hl.1 rfl (lv_room (Nat.le_of_ble_eq_true rfl)) dL_law_12 ⟨Nat.le_of_ble_eq_true rfl, Nat.le_of_ble_eq_true rfl⟩) hP hD hS hA (fun ⟨mo, ms, mt, mc, md⟩ H locs hu hP2 hD2 hS => ?_)
  obtain ⟨hq5, hRV⟩ := hu
  try dsimp only at hq5 hRV hP2 hD2
  have hq5 : q_5 = mo 0 := hq5.symm
  subst hq5
  have hP := hP2
  have hD := hD2
  have hP : va_P Γ.1 vwCl (wcat [mnC q_4 an ap qs ac au ax (nI 0), plB Γ an v, plB Γ ap vsp, saB Γ qs sa 0 vs, cuB Γ ac ck, suB Γ au so sp, txB Γ ax cs (nI 0), moB Γ mo ms mt mc md (nI 0) (nI 0) (nI 0) (nI 0) (nI 0) (nI 0)]) H := hP
  have hD : va_D (fun q : Nat => s.heap.size ≤ q) (wcat [mnC q_4 an ap qs ac au ax (nI 0), plB Γ an v, plB Γ ap vsp, saB Γ qs sa 0 vs, cuB Γ ac ck, suB Γ au so sp, txB Γ ax cs (nI 0), moB Γ mo ms mt mc md (nI 0) (nI 0) (nI 0) (nI 0) (nI 0) (nI 0)]) := hD
  refine W.widen (k := 62) (n := 2016) (Nat.le_of_ble_eq_true rfl) (Nat.le_of_ble_eq_true rfl) ?_
  refine lv_astore_n (lv' := [(2, .ref (mo 0)), (1, .ref q_4), (0, .ref b)]) hx hb dL_law_15 rfl hl (by decide) rfl (fun ls hl => ?_)
  refine lv_iconst (v := nI 1) hx hb dL_law_16 (by decide) ?_
  refine newL hx hb (hts (.arrayClass .long) (by decide +kernel)) hK hP hD hS hA (by decide) (by decide) (Nat.le_of_ble_eq_true rfl) (Nat.le_of_ble_eq_true rfl) dL_law_17 (fun oa H hP hD hS => ?_)
  have hP : va_P Γ.1 vwCl (wcat [mnC q_4 an ap qs ac au ax (nI 0), plB Γ an v, plB Γ ap vsp, saB Γ qs sa 0 vs, cuB Γ ac ck, suB Γ au so sp, txB Γ ax cs (nI 0), moB Γ mo ms mt mc md (nI 0) (nI 0) (nI 0) (nI 0) (nI 0) (nI 0), ouB Γ oa (fun _ => 0)]) H := hP
  have hD : va_D (fun q : Nat => s.heap.size ≤ q) (wcat [mnC q_4 an ap qs ac au ax (nI 0), plB Γ an v, plB Γ ap vsp, saB Γ qs sa 0 vs, cuB Γ ac ck, suB Γ au so sp, txB Γ ax cs (nI 0), moB Γ mo ms mt mc md (nI 0) (nI 0) (nI 0) (nI 0) (nI 0) (nI 0), ouB Γ oa (fun _ => 0)]) := hD
  refine lv_astore_n (lv' := [(3, .ref oa), (2, .ref (mo 0)), (1, .ref q_4), (0, .ref b)]) hx hb dL_law_19 rfl hl (by decide) rfl (fun ls hl => ?_)
  refine lv_iconst (v := nI 0) hx hb dL_law_20 (by decide) ?_
  refine lv_istore (lv' := [(4, .int (nI 0)), (3, .ref oa), (2, .ref (mo 0)), (1, .ref q_4), (0, .ref b)]) hx hb dL_law_21 hl (by decide) rfl (fun ls hl => ?_)
  have hR : REL 0 0 vs v ck so sp 0 cs ms mt := ⟨⟨by decide, by decide, ho, hp⟩, ⟨P0, P0_w, hCV, hRV, fun z => absurd rfl z⟩, fun j hj => absurd hj (Nat.not_lt_zero _), Nat.zero_le _, fun j hj => absurd hj (Nat.not_lt_zero _)⟩
  exact lc_loop hfl hx hb hml hown hts hK hA hAm hX hbl hbA hN ex 513 0 63 2017 H locs ls (by decide) (by omega) (by decide) (by decide) hR hP hD hS hl
end LWE
