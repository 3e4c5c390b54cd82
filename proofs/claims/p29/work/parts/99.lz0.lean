/-! ===== the law's entry ===== -/
theorem ao_blind {Γ : wG} {bs : List va_W} {sz : Nat} {av : List Value} : FrameBlind (va_Pc av (fun U => wPre Γ bs sz U ∧ va_AO RX2 U)) := fun a U g mk q => by
  obtain ⟨q0, q1, q2⟩ := q
  obtain ⟨h1, h2⟩ := wPre_blind (av := av) (Γ := Γ) (bs := bs) (sz := sz) a U g mk ⟨q0, q1⟩
  exact ⟨h1, h2, va_AO.moved (u := U) (U := U.calling g mk a) (Vm.Alike.refl U.vm) q2⟩
theorem ao_mk {Γ : wG} {bc : List va_W} {s : State} {H : Heap} {av : List Value} (hO : va_AO RX2 s) (h : ∀ U : State, U.heap = H → s.WarmedH U.vm → va_Pc av (wPre Γ bc H.size) av.toArray U) : ∀ U : State, U.heap = H → s.WarmedH U.vm → va_Pc av (fun U => wPre Γ bc H.size U ∧ va_AO RX2 U) av.toArray U := fun U h1 h2 => ⟨(h U h1 h2).1, (h U h1 h2).2, va_AO.moved h2.alike hO⟩
section LWE
variable {p : Program} {l : Launch} {e : Env} {s : State} {m : MethodId} {args : Array Value} {below : List Frame} {meth : Method} {c : Code} {H : Heap} {locs : List Loc} {cells slots : Nat} {Q : State → Prop} {ls : Array Slot} {Γ : wG}
variable {b N : Nat} {xs : Nat → Int32}
set_option maxHeartbeats 4000000 in
set_option maxRecDepth 100000 in
theorem lc_entry (hfl : l.stackTraces = false) (hx : p.tables.exec = Jvm.exec) (hb : c.code = cL_law) (hml : c.maxLocals = 19) (hown : s.vm.findClass RL = some m.cls) (hts : ∀ w ∈ wsL_law, w.before args s = true) (hK : va_K Γ.1 vwCl (wtys Γ) s) (hAm : Amb (fun q : Nat => s.heap.size ≤ q) s) (hAO : va_AO RX2 s) (hX : va_X b N xs s s.heap) (hbl : b < s.heap.size) (hN : N ≤ 260) (ex : ∀ (H : Heap) (locs : List Loc) (ls : Array Slot), va_S (fun q : Nat => s.heap.size ≤ q) s.heap H locs → W p l e room_1 s m args below meth c H locs 600130 7301080 Q (F0 m 878 ls [.int (nI 1)])) (hl : lv_has ls 19 [(0, .ref b)]) : W p l e room_1 s m args below meth c s.heap [] 0 0 Q (F0 m 0 ls []) := by
  have hA : ∀ q : Nat, s.heap.size ≤ q → (fun q : Nat => s.heap.size ≤ q) q := fun _ h => h
  have hAB : ∀ q : Nat, (fun q : Nat => s.heap.size ≤ q) q → (fun q : Nat => s.heap.size ≤ q) q := fun _ h => h
  have hbA : ¬ (fun q : Nat => s.heap.size ≤ q) b := Nat.not_le.mpr hbl
  have hS : va_S (fun q : Nat => s.heap.size ≤ q) s.heap s.heap [] := va_S.rf
  have hP : va_P Γ.1 vwCl [] s.heap := fun k q h => by simp at h
  have hD : va_D (fun q : Nat => s.heap.size ≤ q) [] := ⟨fun i j p q h => by simp at h, fun k q h => by simp at h⟩
  have hi4 : ∀ w ∈ wsX40, w ∈ wsL_law := inlX4
  refine va_new (D := Γ.1) (ci := 4) (fs := [.null, .null, .null, .int 0, .null, .null, .null]) (C := RX4) (T := TX4) (N := 7) hx hb hts hi4 tyX4 tyX4_ok hown (hts (.classLink RL 10 RX4) (by decide +kernel)) (hts (.instantiable RX4 7) (by decide +kernel)) (hts (.initialized RX4) (by decide +kernel)) hK hP hD hS hA rfl (fun j hj => by rcases (show j = 0 ∨ j = 1 ∨ j = 2 ∨ j = 3 ∨ j = 4 ∨ j = 5 ∨ j = 6 by omega) with rfl | rfl | rfl | rfl | rfl | rfl | rfl <;> rfl) (Nat.le_of_ble_eq_true rfl) (Nat.le_of_ble_eq_true rfl) dL_law_0 (fun q_4 H hP hD hS => ?_)
  refine W.widen (k := 1) (n := 7) (Nat.le_of_ble_eq_true rfl) (Nat.le_of_ble_eq_true rfl) ?_
  have hP : va_P Γ.1 vwCl (wcat [[(q_4, .inr (4, [.null, .null, .null, .int 0, .null, .null, .null]))]]) H := hP
  have hD : va_D (fun q : Nat => s.heap.size ≤ q) (wcat [[(q_4, .inr (4, [.null, .null, .null, .int 0, .null, .null, .null]))]]) := hD
  refine lv_dup hx hb dL_law_3 rfl ?_
  refine cCT (bs := []) (b0 := [(q_4, .inr (4, [.null, .null, .null, .int 0, .null, .null, .null]))]) (va_runI (As := []) (rest := [.ref q_4]) ⟨hx, hb, hml, hown, hts⟩ ((kX4_init l Γ q_4) _) (cwI 0 hts gL_law_X4_init rfl rfl rfl (hts (.initialized RX4) (by decide +kernel)) (hts (.methodLink RL 127 yX4_init) (by decide +kernel)) (hts (.instanceMethod yX4_init) (by decide +kernel)) rfl (by decide +kernel) ⟨Nat.le_of_ble_eq_true rfl, Nat.le_of_ble_eq_true rfl⟩) ⟨ao_blind, ao_mk hAO (wPre_mk hP hD hK hS hA hAB hAm [0] rfl rfl)⟩ rfl rfl hl.1 rfl (lv_room (Nat.le_of_ble_eq_true rfl)) dL_law_4 ⟨Nat.le_of_ble_eq_true rfl, Nat.le_of_ble_eq_true rfl⟩) hP hD hS hA (fun ⟨⟨an, ap, qs, sa, ac, au, ax⟩, v, vsp, vs, ck, so, sp, cs⟩ H locs hu hP2 hD2 hS => ?_)
  obtain ⟨hCV, ho, hp⟩ := hu
  try dsimp only at hCV ho hp hP2 hD2
  have hP : va_P Γ.1 vwCl (wcat (W7 Γ (q_4, an, ap, qs, ac, au, ax, sa) (0, 0, vs, v, vsp, ck, so, sp, cs))) H := hP2
  have hD : va_D (fun q : Nat => s.heap.size ≤ q) (wcat (W7 Γ (q_4, an, ap, qs, ac, au, ax, sa) (0, 0, vs, v, vsp, ck, so, sp, cs))) := hD2
  refine W.widen (k := 57) (n := 1294) (Nat.le_of_ble_eq_true rfl) (Nat.le_of_ble_eq_true rfl) ?_
  refine lv_astore_n (lv' := [(1, .ref q_4), (0, .ref b)]) hx hb dL_law_7 rfl hl (by decide) rfl (fun ls hl => ?_)
  exact l_start (D := (q_4, an, ap, qs, ac, au, ax, sa)) hfl ⟨hx, hb, hml, hown, hts, hK, hAm, hA, Nat.le_of_ble_eq_true rfl, Nat.le_of_ble_eq_true rfl⟩ hX hbl hbA (by omega) (fun H locs ls P S w => by
    obtain ⟨x, h1, h2, h3, h4⟩ := w
    exact ex H locs ls h3) ⟨by decide, by decide⟩ ⟨(0, 0, vs, v, vsp, ck, so, sp, cs), hP, hD, hS, ⟨rfl, Nat.zero_le _, Nat.le_of_ble_eq_true rfl, ho, hp⟩, P0_w, hCV, fun z => absurd rfl z⟩ hl
end LWE
