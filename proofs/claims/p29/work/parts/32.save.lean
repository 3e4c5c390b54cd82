def gR (g : List Nat) (j : Nat) : Nat := g.getD j 0
/-- the saved states: six places, of which the row's j-th names the (j + r)-th -/
def saB (Γ : wG) (q : Nat) (sa : Nat → Nat → Nat) (r : Nat) (vs : Nat → Nat → Nat → Int32) : va_W := svB Γ q (gR [sa (r % 6) 0, sa ((1 + r) % 6) 0, sa ((2 + r) % 6) 0, sa ((3 + r) % 6) 0, sa ((4 + r) % 6) 0, sa ((5 + r) % 6) 0]) ++ (plB Γ (sa 0) (vs 0) ++ (plB Γ (sa 1) (vs 1) ++ (plB Γ (sa 2) (vs 2) ++ (plB Γ (sa 3) (vs 3) ++ (plB Γ (sa 4) (vs 4) ++ plB Γ (sa 5) (vs 5))))))
theorem gR_up (g : List Nat) (i v : Nat) (hi : i < g.length) : va_up (fun j => some (gR g j)) i (some v) = fun j => some (gR (g.set i v) j) := by
  funext j
  unfold va_up gR
  by_cases h : j = i
  · subst h
    rw [if_pos rfl, List.getD_eq_getElem?_getD, List.getElem?_set_self hi]
    rfl
  · rw [if_neg h]
    show some (g.getD j 0) = _
    rw [List.getD_eq_getElem?_getD, List.getD_eq_getElem?_getD, List.getElem?_set_ne (Ne.symm h)]
section WQ
variable {p : Program} {l : Launch} {e : Env} {R : Room} {s : State} {m : MethodId} {args : Array Value} {below : List Frame} {meth : Method} {c : Code} {H : Heap} {locs : List Loc} {cells slots : Nat} {Q : State → Prop}
variable {pc : Nat} {ls : Array Slot} {rest : List Value} {cc : ByteArray} {D : va_G} {cl : List vw_C} {ws : va_W} {tys : List (ClassId × FieldType)} {A : Nat → Prop} {H0 : Heap} {a : Nat}
theorem ald (hexec : p.tables.exec = Jvm.exec) (hb : c.code = cc) {Γ : wG} (hK : va_K Γ.1 vwCl (wtys Γ) s) (hP : va_P Γ.1 vwCl ws H) (q0 : Nat) {g : List Nat} {i x : Nat} (ha : ws[q0]? = some (a, .inl (Γ.2 2, 6, .inr (.inr (.inr (.inr (fun j => some (gR g j)))))))) (ht : (wtys Γ)[2]? = some (Γ.2 2, .object RX2)) (hi : i < 6) (hx : gR g i = x) (hdg : decode cc pc = .ok (.aaload, 1))
    (kk : W p l e R s m args below meth c H locs cells slots Q (F0 m (pc + 1) ls (.ref x :: rest))) : W p l e R s m args below meth c H locs cells slots Q (F0 m pc ls (.int (nI i) :: .ref a :: rest)) := by
  refine va_aldq hexec hb hK hP q0 2 ha ht (vp_in_nI hi (by decide)) hdg ?_
  rw [nI_clamp (by omega)]
  show W p l e R s m args below meth c H locs cells slots Q (F0 m (pc + 1) ls (.ref (gR g i) :: rest))
  rw [hx]
  exact kk
theorem ast_ (hexec : p.tables.exec = Jvm.exec) (hb : c.code = cc) {Γ : wG} (hK : va_K Γ.1 vwCl (wtys Γ) s) (hP : va_P Γ.1 vwCl ws H) (hD : va_D A ws) (hS : va_S A H0 H locs) (q0 qk : Nat) {g l2 : List Nat} {i v : Nat} {vs : List Value} (ha : ws[q0]? = some (a, .inl (Γ.2 2, 6, .inr (.inr (.inr (.inr (fun j => some (gR g j)))))))) (ht : (wtys Γ)[2]? = some (Γ.2 2, .object RX2)) (hv : ws[qk]? = some (v, .inr (2, vs))) (hi : i < 6) (hil : i < g.length) (hg : g.set i v = l2) (hdg : decode cc pc = .ok (.aastore, 1))
    (kk : ∀ (H1 : Heap) (locs1 : List Loc), va_P Γ.1 vwCl (ws.set q0 (a, .inl (Γ.2 2, 6, .inr (.inr (.inr (.inr (fun j => some (gR l2 j)))))))) H1 → va_D A (ws.set q0 (a, .inl (Γ.2 2, 6, .inr (.inr (.inr (.inr (fun j => some (gR l2 j)))))))) → va_S A H0 H1 locs1 → W p l e R s m args below meth c H1 locs1 cells slots Q (F0 m (pc + 1) ls rest)) : W p l e R s m args below meth c H locs cells slots Q (F0 m pc ls (.ref v :: .int (nI i) :: .ref a :: rest)) := by
  refine va_astq hexec hb hK hP hD hS q0 2 qk 2 (r := (RX2, TX2, 16)) ha ht hv rfl (vp_in_nI hi (by decide)) hdg ?_
  rw [nI_clamp (by omega), gR_up g i v hil, hg]
  exact kk
end WQ
theorem wPre_sel {Γ : wG} {bs bc : List va_W} {sz : Nat} {U : State} (is : List Nat) (hn : va_nd is = true) (his : is.map (fun i => bs[i]?) = bc.map some) (h : wPre Γ bs sz U) : wPre Γ bc sz U := by
  obtain ⟨h1, hP, hK, hD, hAm⟩ := h
  refine ⟨h1, wP_sel hP his, hK, wD_sel hD hn his, hAm.narrow fun q hq => ?_⟩
  rcases hq with ⟨k, e, h⟩ | h
  · obtain ⟨b2, hb2, hq2⟩ := wcat_mem.mp (List.mem_of_getElem? h)
    obtain ⟨i, hi, hbi⟩ := wsel_mem his hb2
    obtain ⟨j, hj⟩ := List.getElem?_of_mem (wcat_mem.mpr ⟨b2, List.mem_of_getElem? hbi, hq2⟩)
    exact Or.inl ⟨j, e, hj⟩
  · exact Or.inr h
theorem wA_sel {bs bc : List va_W} {sz : Nat} {is : List Nat} (his : is.map (fun i => bs[i]?) = bc.map some) : ∀ q, va_A (wcat bc) sz q → va_A (wcat bs) sz q := by
  intro q hq
  rcases hq with ⟨k, e, h⟩ | h
  · obtain ⟨b2, hb2, hq2⟩ := wcat_mem.mp (List.mem_of_getElem? h)
    obtain ⟨i, hi, hbi⟩ := wsel_mem his hb2
    obtain ⟨j, hj⟩ := List.getElem?_of_mem (wcat_mem.mpr ⟨b2, List.mem_of_getElem? hbi, hq2⟩)
    exact Or.inl ⟨j, e, hj⟩
  · exact Or.inr h
theorem MV.frame {l : Launch} {Γ : wG} {y : MethodName} {ws : List Cond} {rm : Room} {av : List Value} {bs bs' bc bc' : List va_W} (h : MV l Γ y ws rm av bc bc') (is : List Nat) (hn : va_nd is = true) (his : is.map (fun i => bs[i]?) = bc.map some) (had : bc'.map wad = bc.map wad) (hset : wset bs is bc' = bs') : MV l Γ y ws rm av bs bs' := fun sz => by
  refine MetFree.mono (h sz) (fun a s hp => ⟨hp.1, wPre_sel is hn his hp.2⟩) (fun _ _ _ _ _ h => h) fun a s o t hp hq => ?_
  obtain ⟨⟨⟨u, h1, h2, h3⟩, hF⟩, L, hL, hfree⟩ := hq
  obtain ⟨-, hsz, hP, hK, hD, hAm⟩ := hp
  subst hsz
  have hj := wjoin hP (hD.self (sz := s.heap.size)) his had hset (fun q hq hn => hF.2 q hq hn) h3
  exact ⟨⟨⟨u, h1, h2, hj.1⟩, hF.1, fun q hq hn => hF.2 q hq fun z => hn (wA_sel his q z)⟩, L, hL, fun q hq => wA_sel his _ (hfree q hq)⟩
theorem MI.frame {l : Launch} {Γ : wG} {y : MethodName} {ws : List Cond} {rm : Room} {av : List Value} {bs bs' bc bc' : List va_W} {f : Int32} (h : MI l Γ y ws rm av bc bc' f) (is : List Nat) (hn : va_nd is = true) (his : is.map (fun i => bs[i]?) = bc.map some) (had : bc'.map wad = bc.map wad) (hset : wset bs is bc' = bs') : MI l Γ y ws rm av bs bs' f := fun sz => by
  refine MetFree.mono (h sz) (fun a s hp => ⟨hp.1, wPre_sel is hn his hp.2⟩) (fun _ _ _ _ _ h => h) fun a s o t hp hq => ?_
  obtain ⟨⟨⟨r, u, h1, h2, h3⟩, hF⟩, L, hL, hfree⟩ := hq
  obtain ⟨-, hsz, hP, hK, hD, hAm⟩ := hp
  subst hsz
  have hj := wjoin hP (hD.self (sz := s.heap.size)) his had hset (fun q hq hn => hF.2 q hq hn) h3
  exact ⟨⟨⟨r, u, h1, h2, hj.1⟩, hF.1, fun q hq hn => hF.2 q hq fun z => hn (wA_sel his q z)⟩, L, hL, fun q hq => wA_sel his _ (hfree q hq)⟩
theorem MV.cat {l : Launch} {Γ : wG} {y : MethodName} {ws : List Cond} {rm : Room} {av : List Value} {bs bs' bt bt' : List va_W} (h1 : wcat bs = wcat bt) (h2 : wcat bs' = wcat bt') (h : MV l Γ y ws rm av bs bs') : MV l Γ y ws rm av bt bt' := by
  unfold MV wPre at *
  rw [← h1, ← h2]; exact h
theorem MI.cat {l : Launch} {Γ : wG} {y : MethodName} {ws : List Cond} {rm : Room} {av : List Value} {bs bs' bt bt' : List va_W} {f : Int32} (h1 : wcat bs = wcat bt) (h2 : wcat bs' = wcat bt') (h : MI l Γ y ws rm av bs bs' f) : MI l Γ y ws rm av bt bt' f := by
  unfold MI wPre at *
  rw [← h1, ← h2]; exact h
set_option maxHeartbeats 4000000 in
set_option maxRecDepth 100000 in
theorem kX4_save_0 (l : Launch) (Γ : wG) (q : Nat) (an : Nat → Nat) (ap : Nat → Nat) (qs : Nat) (ac : Nat → Nat) (au : Nat → Nat) (ax : Nat → Nat) (g0 : Nat → Nat) (g1 : Nat → Nat) (g2 : Nat → Nat) (g3 : Nat → Nat) (g4 : Nat → Nat) (g5 : Nat → Nat) (w0 : (Nat → Nat → Int32)) (w1 : (Nat → Nat → Int32)) (w2 : (Nat → Nat → Int32)) (w3 : (Nat → Nat → Int32)) (w4 : (Nat → Nat → Int32)) (w5 : (Nat → Nat → Int32)) (v : (Nat → Nat → Int32)) : MV l Γ yX4_save wsX4_save ({ frames := 1, cells := 0, slots := 0, locals := 22 }) [.ref q] [mnC q an ap qs ac au ax (nI 0), svB Γ qs (gR [(g0 0), (g1 0), (g2 0), (g3 0), (g4 0), (g5 0)]), plB Γ g0 w0, plB Γ g1 w1, plB Γ g2 w2, plB Γ g3 w3, plB Γ g4 w4, plB Γ g5 w5, plB Γ an v] [mnC q an ap qs ac au ax (nI 1), svB Γ qs (gR [(g0 0), (g1 0), (g2 0), (g3 0), (g4 0), (g5 0)]), plB Γ g0 v, plB Γ g1 w1, plB Γ g2 w2, plB Γ g3 w3, plB Γ g4 w4, plB Γ g5 w5, plB Γ an v] := by
  intro sz
  refine Met.ofW (cc := cX4_save) (maxL := 3) (ret := none) (by decide) rfl ?_
  intro p e s m args below meth c s₁ B hml hv
  obtain ⟨rfl, hsz, hP, hK, hD0, hAm⟩ := hv
  have hx := B.exec
  have hb := B.bytes
  have hr := B.returns
  have hts := atoms_spec (ws := wsX4_save) B.pre
  have hown : s.vm.findClass RX4 = some m.cls := findClass_of_methodNamed B.named
  have hlocks := B.notSynchronized
  subst hsz
  have hD := hD0.self (sz := s.heap.size)
  generalize hAe : va_A (wcat [mnC q an ap qs ac au ax (nI 0), svB Γ qs (gR [(g0 0), (g1 0), (g2 0), (g3 0), (g4 0), (g5 0)]), plB Γ g0 w0, plB Γ g1 w1, plB Γ g2 w2, plB Γ g3 w3, plB Γ g4 w4, plB Γ g5 w5, plB Γ an v]) s.heap.size = A at hD hAm ⊢
  have hA : ∀ q : Nat, s.heap.size ≤ q → A q := fun q h => by rw [← hAe]; exact Or.inr h
  have hAB : ∀ q : Nat, A q → A q := fun _ h => h
  have hS : va_S A s.heap s.heap [] := va_S.rf
  have hl := lv_entry ([.ref q]) (n := 3) (Nat.le_of_ble_eq_true rfl)
  rw [lg_entry_eq]
  generalize (lg_sl ([.ref q]) ++ List.replicate (3 - (lg_sl ([.ref q])).length) Slot.unset).toArray = ls at hl ⊢
  have hl : lv_has ls 3 [(0, .ref q)] := hl
  have hi4 : ∀ w ∈ wsX40, w ∈ wsX4_save := by decide +kernel
  have kf10 := hts (.fieldLink RX4 10 "CapsuleKeepers" "now" "LCapsuleKeepers$Place;") (by decide +kernel)
  have kf19 := hts (.fieldLink RX4 19 "CapsuleKeepers" "saved" "[LCapsuleKeepers$Place;") (by decide +kernel)
  have kf23 := hts (.fieldLink RX4 23 "CapsuleKeepers" "savedCount" "I") (by decide +kernel)
  refine lv_aload_n hx hb dX4_save_0 rfl (lv_at hl 0 rfl) ?_
  refine va_get (D := Γ.1) (ci := 4) (v := .int (nI 0)) (C := RX4) (T := TX4) (N := 7) hx hb hts hi4 hown hK hP 0 rfl rfl 3 (by decide) kf23 (fun _ h9 => h9) rfl dX4_save_1 ?_
  refine lv_bipush (v := (nI 6)) hx hb dX4_save_4 (by decide) ?_
  refine lv_icmp_lt (tgt := 56) hx hb dX4_save_6 (by decide) (fun c_6 => ?_) (fun c_6 => absurd c_6 (by decide))
  refine lv_aload_n hx hb dX4_save_56 rfl (lv_at hl 0 rfl) ?_
  refine va_get (D := Γ.1) (ci := 4) (v := .ref qs) (C := RX4) (T := TX4) (N := 7) hx hb hts hi4 hown hK hP 0 rfl rfl 2 (by decide) kf19 (fun _ h9 => h9) rfl dX4_save_57 ?_
  refine lv_aload_n hx hb dX4_save_60 rfl (lv_at hl 0 rfl) ?_
  refine va_get (D := Γ.1) (ci := 4) (v := .int (nI 0)) (C := RX4) (T := TX4) (N := 7) hx hb hts hi4 hown hK hP 0 rfl rfl 3 (by decide) kf23 (fun _ h9 => h9) rfl dX4_save_61 ?_
  refine ald (x := (g0 0)) hx hb hK hP 1 rfl rfl (by decide) rfl dX4_save_64 ?_
  refine lv_aload_n hx hb dX4_save_65 rfl (lv_at hl 0 rfl) ?_
  refine va_get (D := Γ.1) (ci := 4) (v := .ref (an 0)) (C := RX4) (T := TX4) (N := 7) hx hb hts hi4 hown hK hP 0 rfl rfl 0 (by decide) kf10 (fun _ h9 => h9) rfl dX4_save_66 ?_
  refine cMV (bc' := [plB Γ g0 v, plB Γ an v]) (va_runV (As := [.ref (an 0)]) (rest := []) ⟨hx, hb, hml, hown, hts⟩ ((ncpF l Γ g0 an w0 v) _) (cwV 1 hts gX4_save_X2_copyFrom rfl rfl rfl (by decide +kernel) ⟨Nat.le_of_ble_eq_true rfl, Nat.le_of_ble_eq_true rfl⟩) ⟨wPre_blind, va_recv hK hP (ci := 2) (q0 := 2) rfl rfl, wPre_mk hP hD hK hS hA hAB hAm [2, 8] rfl rfl⟩ rfl rfl hl.1 rfl (lv_room (Nat.le_of_ble_eq_true rfl)) dX4_save_69 ⟨Nat.zero_le _, Nat.zero_le _⟩) hP hD hS hA [2, 8] rfl rfl (bs' := [mnC q an ap qs ac au ax (nI 0), svB Γ qs (gR [(g0 0), (g1 0), (g2 0), (g3 0), (g4 0), (g5 0)]), plB Γ g0 v, plB Γ g1 w1, plB Γ g2 w2, plB Γ g3 w3, plB Γ g4 w4, plB Γ g5 w5, plB Γ an v]) rfl (fun H locs hP hD hS => ?_)
  refine lv_aload_n hx hb dX4_save_72 rfl (lv_at hl 0 rfl) ?_
  refine lv_dup hx hb dX4_save_73 rfl ?_
  refine va_get (D := Γ.1) (ci := 4) (v := .int (nI 0)) (C := RX4) (T := TX4) (N := 7) hx hb hts hi4 hown hK hP 0 rfl rfl 3 (by decide) kf23 (fun _ h9 => h9) rfl dX4_save_74 ?_
  refine lv_iconst (v := (nI 1)) hx hb dX4_save_77 (by decide) ?_
  refine lv_iadd hx hb dX4_save_78 ?_
  refine lv_eqi (y := (nI 1)) (by decide) ?_
  refine va_put (D := Γ.1) (ci := 4) (v := .int (nI 1)) (ty := .int) (C := RX4) (T := TX4) (N := 7) hx hb hts hi4 tyX4 tyX4_ok nmX4 hown hK hP hD hS 0 rfl rfl 3 (by decide) kf23 (fun _ h9 => h9) rfl (by decide +kernel) rfl rfl (Nat.le_of_ble_eq_true rfl) dX4_save_79 (fun H locs hP hD hS => ?_)
  have hP : va_P Γ.1 vwCl (wcat [mnC q an ap qs ac au ax (nI 1), svB Γ qs (gR [(g0 0), (g1 0), (g2 0), (g3 0), (g4 0), (g5 0)]), plB Γ g0 v, plB Γ g1 w1, plB Γ g2 w2, plB Γ g3 w3, plB Γ g4 w4, plB Γ g5 w5, plB Γ an v]) H := hP
  have hD : va_D A (wcat [mnC q an ap qs ac au ax (nI 1), svB Γ qs (gR [(g0 0), (g1 0), (g2 0), (g3 0), (g4 0), (g5 0)]), plB Γ g0 v, plB Γ g1 w1, plB Γ g2 w2, plB Γ g3 w3, plB Γ g4 w4, plB Γ g5 w5, plB Γ an v]) := hD
  exact W.vret hx hb hr (fun t ht hW => eMV hP hS ht) hS.2.2 dX4_save_82
set_option maxHeartbeats 4000000 in
set_option maxRecDepth 100000 in
theorem kX4_save_1 (l : Launch) (Γ : wG) (q : Nat) (an : Nat → Nat) (ap : Nat → Nat) (qs : Nat) (ac : Nat → Nat) (au : Nat → Nat) (ax : Nat → Nat) (g0 : Nat → Nat) (g1 : Nat → Nat) (g2 : Nat → Nat) (g3 : Nat → Nat) (g4 : Nat → Nat) (g5 : Nat → Nat) (w0 : (Nat → Nat → Int32)) (w1 : (Nat → Nat → Int32)) (w2 : (Nat → Nat → Int32)) (w3 : (Nat → Nat → Int32)) (w4 : (Nat → Nat → Int32)) (w5 : (Nat → Nat → Int32)) (v : (Nat → Nat → Int32)) : MV l Γ yX4_save wsX4_save ({ frames := 1, cells := 0, slots := 0, locals := 22 }) [.ref q] [mnC q an ap qs ac au ax (nI 1), svB Γ qs (gR [(g0 0), (g1 0), (g2 0), (g3 0), (g4 0), (g5 0)]), plB Γ g0 w0, plB Γ g1 w1, plB Γ g2 w2, plB Γ g3 w3, plB Γ g4 w4, plB Γ g5 w5, plB Γ an v] [mnC q an ap qs ac au ax (nI 2), svB Γ qs (gR [(g0 0), (g1 0), (g2 0), (g3 0), (g4 0), (g5 0)]), plB Γ g0 w0, plB Γ g1 v, plB Γ g2 w2, plB Γ g3 w3, plB Γ g4 w4, plB Γ g5 w5, plB Γ an v] := by
  intro sz
  refine Met.ofW (cc := cX4_save) (maxL := 3) (ret := none) (by decide) rfl ?_
  intro p e s m args below meth c s₁ B hml hv
  obtain ⟨rfl, hsz, hP, hK, hD0, hAm⟩ := hv
  have hx := B.exec
  have hb := B.bytes
  have hr := B.returns
  have hts := atoms_spec (ws := wsX4_save) B.pre
  have hown : s.vm.findClass RX4 = some m.cls := findClass_of_methodNamed B.named
  have hlocks := B.notSynchronized
  subst hsz
  have hD := hD0.self (sz := s.heap.size)
  generalize hAe : va_A (wcat [mnC q an ap qs ac au ax (nI 1), svB Γ qs (gR [(g0 0), (g1 0), (g2 0), (g3 0), (g4 0), (g5 0)]), plB Γ g0 w0, plB Γ g1 w1, plB Γ g2 w2, plB Γ g3 w3, plB Γ g4 w4, plB Γ g5 w5, plB Γ an v]) s.heap.size = A at hD hAm ⊢
  have hA : ∀ q : Nat, s.heap.size ≤ q → A q := fun q h => by rw [← hAe]; exact Or.inr h
  have hAB : ∀ q : Nat, A q → A q := fun _ h => h
  have hS : va_S A s.heap s.heap [] := va_S.rf
  have hl := lv_entry ([.ref q]) (n := 3) (Nat.le_of_ble_eq_true rfl)
  rw [lg_entry_eq]
  generalize (lg_sl ([.ref q]) ++ List.replicate (3 - (lg_sl ([.ref q])).length) Slot.unset).toArray = ls at hl ⊢
  have hl : lv_has ls 3 [(0, .ref q)] := hl
  have hi4 : ∀ w ∈ wsX40, w ∈ wsX4_save := by decide +kernel
  have kf10 := hts (.fieldLink RX4 10 "CapsuleKeepers" "now" "LCapsuleKeepers$Place;") (by decide +kernel)
  have kf19 := hts (.fieldLink RX4 19 "CapsuleKeepers" "saved" "[LCapsuleKeepers$Place;") (by decide +kernel)
  have kf23 := hts (.fieldLink RX4 23 "CapsuleKeepers" "savedCount" "I") (by decide +kernel)
  refine lv_aload_n hx hb dX4_save_0 rfl (lv_at hl 0 rfl) ?_
  refine va_get (D := Γ.1) (ci := 4) (v := .int (nI 1)) (C := RX4) (T := TX4) (N := 7) hx hb hts hi4 hown hK hP 0 rfl rfl 3 (by decide) kf23 (fun _ h9 => h9) rfl dX4_save_1 ?_
  refine lv_bipush (v := (nI 6)) hx hb dX4_save_4 (by decide) ?_
  refine lv_icmp_lt (tgt := 56) hx hb dX4_save_6 (by decide) (fun c_6 => ?_) (fun c_6 => absurd c_6 (by decide))
  refine lv_aload_n hx hb dX4_save_56 rfl (lv_at hl 0 rfl) ?_
  refine va_get (D := Γ.1) (ci := 4) (v := .ref qs) (C := RX4) (T := TX4) (N := 7) hx hb hts hi4 hown hK hP 0 rfl rfl 2 (by decide) kf19 (fun _ h9 => h9) rfl dX4_save_57 ?_
  refine lv_aload_n hx hb dX4_save_60 rfl (lv_at hl 0 rfl) ?_
  refine va_get (D := Γ.1) (ci := 4) (v := .int (nI 1)) (C := RX4) (T := TX4) (N := 7) hx hb hts hi4 hown hK hP 0 rfl rfl 3 (by decide) kf23 (fun _ h9 => h9) rfl dX4_save_61 ?_
  refine ald (x := (g1 0)) hx hb hK hP 1 rfl rfl (by decide) rfl dX4_save_64 ?_
  refine lv_aload_n hx hb dX4_save_65 rfl (lv_at hl 0 rfl) ?_
  refine va_get (D := Γ.1) (ci := 4) (v := .ref (an 0)) (C := RX4) (T := TX4) (N := 7) hx hb hts hi4 hown hK hP 0 rfl rfl 0 (by decide) kf10 (fun _ h9 => h9) rfl dX4_save_66 ?_
  refine cMV (bc' := [plB Γ g1 v, plB Γ an v]) (va_runV (As := [.ref (an 0)]) (rest := []) ⟨hx, hb, hml, hown, hts⟩ ((ncpF l Γ g1 an w1 v) _) (cwV 1 hts gX4_save_X2_copyFrom rfl rfl rfl (by decide +kernel) ⟨Nat.le_of_ble_eq_true rfl, Nat.le_of_ble_eq_true rfl⟩) ⟨wPre_blind, va_recv hK hP (ci := 2) (q0 := 8) rfl rfl, wPre_mk hP hD hK hS hA hAB hAm [3, 8] rfl rfl⟩ rfl rfl hl.1 rfl (lv_room (Nat.le_of_ble_eq_true rfl)) dX4_save_69 ⟨Nat.zero_le _, Nat.zero_le _⟩) hP hD hS hA [3, 8] rfl rfl (bs' := [mnC q an ap qs ac au ax (nI 1), svB Γ qs (gR [(g0 0), (g1 0), (g2 0), (g3 0), (g4 0), (g5 0)]), plB Γ g0 w0, plB Γ g1 v, plB Γ g2 w2, plB Γ g3 w3, plB Γ g4 w4, plB Γ g5 w5, plB Γ an v]) rfl (fun H locs hP hD hS => ?_)
  refine lv_aload_n hx hb dX4_save_72 rfl (lv_at hl 0 rfl) ?_
  refine lv_dup hx hb dX4_save_73 rfl ?_
  refine va_get (D := Γ.1) (ci := 4) (v := .int (nI 1)) (C := RX4) (T := TX4) (N := 7) hx hb hts hi4 hown hK hP 0 rfl rfl 3 (by decide) kf23 (fun _ h9 => h9) rfl dX4_save_74 ?_
  refine lv_iconst (v := (nI 1)) hx hb dX4_save_77 (by decide) ?_
  refine lv_iadd hx hb dX4_save_78 ?_
  refine lv_eqi (y := (nI 2)) (by decide) ?_
  refine va_put (D := Γ.1) (ci := 4) (v := .int (nI 2)) (ty := .int) (C := RX4) (T := TX4) (N := 7) hx hb hts hi4 tyX4 tyX4_ok nmX4 hown hK hP hD hS 0 rfl rfl 3 (by decide) kf23 (fun _ h9 => h9) rfl (by decide +kernel) rfl rfl (Nat.le_of_ble_eq_true rfl) dX4_save_79 (fun H locs hP hD hS => ?_)
  have hP : va_P Γ.1 vwCl (wcat [mnC q an ap qs ac au ax (nI 2), svB Γ qs (gR [(g0 0), (g1 0), (g2 0), (g3 0), (g4 0), (g5 0)]), plB Γ g0 w0, plB Γ g1 v, plB Γ g2 w2, plB Γ g3 w3, plB Γ g4 w4, plB Γ g5 w5, plB Γ an v]) H := hP
  have hD : va_D A (wcat [mnC q an ap qs ac au ax (nI 2), svB Γ qs (gR [(g0 0), (g1 0), (g2 0), (g3 0), (g4 0), (g5 0)]), plB Γ g0 w0, plB Γ g1 v, plB Γ g2 w2, plB Γ g3 w3, plB Γ g4 w4, plB Γ g5 w5, plB Γ an v]) := hD
  exact W.vret hx hb hr (fun t ht hW => eMV hP hS ht) hS.2.2 dX4_save_82
set_option maxHeartbeats 4000000 in
set_option maxRecDepth 100000 in
theorem kX4_save_2 (l : Launch) (Γ : wG) (q : Nat) (an : Nat → Nat) (ap : Nat → Nat) (qs : Nat) (ac : Nat → Nat) (au : Nat → Nat) (ax : Nat → Nat) (g0 : Nat → Nat) (g1 : Nat → Nat) (g2 : Nat → Nat) (g3 : Nat → Nat) (g4 : Nat → Nat) (g5 : Nat → Nat) (w0 : (Nat → Nat → Int32)) (w1 : (Nat → Nat → Int32)) (w2 : (Nat → Nat → Int32)) (w3 : (Nat → Nat → Int32)) (w4 : (Nat → Nat → Int32)) (w5 : (Nat → Nat → Int32)) (v : (Nat → Nat → Int32)) : MV l Γ yX4_save wsX4_save ({ frames := 1, cells := 0, slots := 0, locals := 22 }) [.ref q] [mnC q an ap qs ac au ax (nI 2), svB Γ qs (gR [(g0 0), (g1 0), (g2 0), (g3 0), (g4 0), (g5 0)]), plB Γ g0 w0, plB Γ g1 w1, plB Γ g2 w2, plB Γ g3 w3, plB Γ g4 w4, plB Γ g5 w5, plB Γ an v] [mnC q an ap qs ac au ax (nI 3), svB Γ qs (gR [(g0 0), (g1 0), (g2 0), (g3 0), (g4 0), (g5 0)]), plB Γ g0 w0, plB Γ g1 w1, plB Γ g2 v, plB Γ g3 w3, plB Γ g4 w4, plB Γ g5 w5, plB Γ an v] := by
  intro sz
  refine Met.ofW (cc := cX4_save) (maxL := 3) (ret := none) (by decide) rfl ?_
  intro p e s m args below meth c s₁ B hml hv
  obtain ⟨rfl, hsz, hP, hK, hD0, hAm⟩ := hv
  have hx := B.exec
  have hb := B.bytes
  have hr := B.returns
  have hts := atoms_spec (ws := wsX4_save) B.pre
  have hown : s.vm.findClass RX4 = some m.cls := findClass_of_methodNamed B.named
  have hlocks := B.notSynchronized
  subst hsz
  have hD := hD0.self (sz := s.heap.size)
  generalize hAe : va_A (wcat [mnC q an ap qs ac au ax (nI 2), svB Γ qs (gR [(g0 0), (g1 0), (g2 0), (g3 0), (g4 0), (g5 0)]), plB Γ g0 w0, plB Γ g1 w1, plB Γ g2 w2, plB Γ g3 w3, plB Γ g4 w4, plB Γ g5 w5, plB Γ an v]) s.heap.size = A at hD hAm ⊢
  have hA : ∀ q : Nat, s.heap.size ≤ q → A q := fun q h => by rw [← hAe]; exact Or.inr h
  have hAB : ∀ q : Nat, A q → A q := fun _ h => h
  have hS : va_S A s.heap s.heap [] := va_S.rf
  have hl := lv_entry ([.ref q]) (n := 3) (Nat.le_of_ble_eq_true rfl)
  rw [lg_entry_eq]
  generalize (lg_sl ([.ref q]) ++ List.replicate (3 - (lg_sl ([.ref q])).length) Slot.unset).toArray = ls at hl ⊢
  have hl : lv_has ls 3 [(0, .ref q)] := hl
  have hi4 : ∀ w ∈ wsX40, w ∈ wsX4_save := by decide +kernel
  have kf10 := hts (.fieldLink RX4 10 "CapsuleKeepers" "now" "LCapsuleKeepers$Place;") (by decide +kernel)
  have kf19 := hts (.fieldLink RX4 19 "CapsuleKeepers" "saved" "[LCapsuleKeepers$Place;") (by decide +kernel)
  have kf23 := hts (.fieldLink RX4 23 "CapsuleKeepers" "savedCount" "I") (by decide +kernel)
  refine lv_aload_n hx hb dX4_save_0 rfl (lv_at hl 0 rfl) ?_
  refine va_get (D := Γ.1) (ci := 4) (v := .int (nI 2)) (C := RX4) (T := TX4) (N := 7) hx hb hts hi4 hown hK hP 0 rfl rfl 3 (by decide) kf23 (fun _ h9 => h9) rfl dX4_save_1 ?_
  refine lv_bipush (v := (nI 6)) hx hb dX4_save_4 (by decide) ?_
  refine lv_icmp_lt (tgt := 56) hx hb dX4_save_6 (by decide) (fun c_6 => ?_) (fun c_6 => absurd c_6 (by decide))
  refine lv_aload_n hx hb dX4_save_56 rfl (lv_at hl 0 rfl) ?_
  refine va_get (D := Γ.1) (ci := 4) (v := .ref qs) (C := RX4) (T := TX4) (N := 7) hx hb hts hi4 hown hK hP 0 rfl rfl 2 (by decide) kf19 (fun _ h9 => h9) rfl dX4_save_57 ?_
  refine lv_aload_n hx hb dX4_save_60 rfl (lv_at hl 0 rfl) ?_
  refine va_get (D := Γ.1) (ci := 4) (v := .int (nI 2)) (C := RX4) (T := TX4) (N := 7) hx hb hts hi4 hown hK hP 0 rfl rfl 3 (by decide) kf23 (fun _ h9 => h9) rfl dX4_save_61 ?_
  refine ald (x := (g2 0)) hx hb hK hP 1 rfl rfl (by decide) rfl dX4_save_64 ?_
  refine lv_aload_n hx hb dX4_save_65 rfl (lv_at hl 0 rfl) ?_
  refine va_get (D := Γ.1) (ci := 4) (v := .ref (an 0)) (C := RX4) (T := TX4) (N := 7) hx hb hts hi4 hown hK hP 0 rfl rfl 0 (by decide) kf10 (fun _ h9 => h9) rfl dX4_save_66 ?_
  refine cMV (bc' := [plB Γ g2 v, plB Γ an v]) (va_runV (As := [.ref (an 0)]) (rest := []) ⟨hx, hb, hml, hown, hts⟩ ((ncpF l Γ g2 an w2 v) _) (cwV 1 hts gX4_save_X2_copyFrom rfl rfl rfl (by decide +kernel) ⟨Nat.le_of_ble_eq_true rfl, Nat.le_of_ble_eq_true rfl⟩) ⟨wPre_blind, va_recv hK hP (ci := 2) (q0 := 14) rfl rfl, wPre_mk hP hD hK hS hA hAB hAm [4, 8] rfl rfl⟩ rfl rfl hl.1 rfl (lv_room (Nat.le_of_ble_eq_true rfl)) dX4_save_69 ⟨Nat.zero_le _, Nat.zero_le _⟩) hP hD hS hA [4, 8] rfl rfl (bs' := [mnC q an ap qs ac au ax (nI 2), svB Γ qs (gR [(g0 0), (g1 0), (g2 0), (g3 0), (g4 0), (g5 0)]), plB Γ g0 w0, plB Γ g1 w1, plB Γ g2 v, plB Γ g3 w3, plB Γ g4 w4, plB Γ g5 w5, plB Γ an v]) rfl (fun H locs hP hD hS => ?_)
  refine lv_aload_n hx hb dX4_save_72 rfl (lv_at hl 0 rfl) ?_
  refine lv_dup hx hb dX4_save_73 rfl ?_
  refine va_get (D := Γ.1) (ci := 4) (v := .int (nI 2)) (C := RX4) (T := TX4) (N := 7) hx hb hts hi4 hown hK hP 0 rfl rfl 3 (by decide) kf23 (fun _ h9 => h9) rfl dX4_save_74 ?_
  refine lv_iconst (v := (nI 1)) hx hb dX4_save_77 (by decide) ?_
  refine lv_iadd hx hb dX4_save_78 ?_
  refine lv_eqi (y := (nI 3)) (by decide) ?_
  refine va_put (D := Γ.1) (ci := 4) (v := .int (nI 3)) (ty := .int) (C := RX4) (T := TX4) (N := 7) hx hb hts hi4 tyX4 tyX4_ok nmX4 hown hK hP hD hS 0 rfl rfl 3 (by decide) kf23 (fun _ h9 => h9) rfl (by decide +kernel) rfl rfl (Nat.le_of_ble_eq_true rfl) dX4_save_79 (fun H locs hP hD hS => ?_)
  have hP : va_P Γ.1 vwCl (wcat [mnC q an ap qs ac au ax (nI 3), svB Γ qs (gR [(g0 0), (g1 0), (g2 0), (g3 0), (g4 0), (g5 0)]), plB Γ g0 w0, plB Γ g1 w1, plB Γ g2 v, plB Γ g3 w3, plB Γ g4 w4, plB Γ g5 w5, plB Γ an v]) H := hP
  have hD : va_D A (wcat [mnC q an ap qs ac au ax (nI 3), svB Γ qs (gR [(g0 0), (g1 0), (g2 0), (g3 0), (g4 0), (g5 0)]), plB Γ g0 w0, plB Γ g1 w1, plB Γ g2 v, plB Γ g3 w3, plB Γ g4 w4, plB Γ g5 w5, plB Γ an v]) := hD
  exact W.vret hx hb hr (fun t ht hW => eMV hP hS ht) hS.2.2 dX4_save_82
set_option maxHeartbeats 4000000 in
set_option maxRecDepth 100000 in
theorem kX4_save_3 (l : Launch) (Γ : wG) (q : Nat) (an : Nat → Nat) (ap : Nat → Nat) (qs : Nat) (ac : Nat → Nat) (au : Nat → Nat) (ax : Nat → Nat) (g0 : Nat → Nat) (g1 : Nat → Nat) (g2 : Nat → Nat) (g3 : Nat → Nat) (g4 : Nat → Nat) (g5 : Nat → Nat) (w0 : (Nat → Nat → Int32)) (w1 : (Nat → Nat → Int32)) (w2 : (Nat → Nat → Int32)) (w3 : (Nat → Nat → Int32)) (w4 : (Nat → Nat → Int32)) (w5 : (Nat → Nat → Int32)) (v : (Nat → Nat → Int32)) : MV l Γ yX4_save wsX4_save ({ frames := 1, cells := 0, slots := 0, locals := 22 }) [.ref q] [mnC q an ap qs ac au ax (nI 3), svB Γ qs (gR [(g0 0), (g1 0), (g2 0), (g3 0), (g4 0), (g5 0)]), plB Γ g0 w0, plB Γ g1 w1, plB Γ g2 w2, plB Γ g3 w3, plB Γ g4 w4, plB Γ g5 w5, plB Γ an v] [mnC q an ap qs ac au ax (nI 4), svB Γ qs (gR [(g0 0), (g1 0), (g2 0), (g3 0), (g4 0), (g5 0)]), plB Γ g0 w0, plB Γ g1 w1, plB Γ g2 w2, plB Γ g3 v, plB Γ g4 w4, plB Γ g5 w5, plB Γ an v] := by
  intro sz
  refine Met.ofW (cc := cX4_save) (maxL := 3) (ret := none) (by decide) rfl ?_
  intro p e s m args below meth c s₁ B hml hv
  obtain ⟨rfl, hsz, hP, hK, hD0, hAm⟩ := hv
  have hx := B.exec
  have hb := B.bytes
  have hr := B.returns
  have hts := atoms_spec (ws := wsX4_save) B.pre
  have hown : s.vm.findClass RX4 = some m.cls := findClass_of_methodNamed B.named
  have hlocks := B.notSynchronized
  subst hsz
  have hD := hD0.self (sz := s.heap.size)
  generalize hAe : va_A (wcat [mnC q an ap qs ac au ax (nI 3), svB Γ qs (gR [(g0 0), (g1 0), (g2 0), (g3 0), (g4 0), (g5 0)]), plB Γ g0 w0, plB Γ g1 w1, plB Γ g2 w2, plB Γ g3 w3, plB Γ g4 w4, plB Γ g5 w5, plB Γ an v]) s.heap.size = A at hD hAm ⊢
  have hA : ∀ q : Nat, s.heap.size ≤ q → A q := fun q h => by rw [← hAe]; exact Or.inr h
  have hAB : ∀ q : Nat, A q → A q := fun _ h => h
  have hS : va_S A s.heap s.heap [] := va_S.rf
  have hl := lv_entry ([.ref q]) (n := 3) (Nat.le_of_ble_eq_true rfl)
  rw [lg_entry_eq]
  generalize (lg_sl ([.ref q]) ++ List.replicate (3 - (lg_sl ([.ref q])).length) Slot.unset).toArray = ls at hl ⊢
  have hl : lv_has ls 3 [(0, .ref q)] := hl
  have hi4 : ∀ w ∈ wsX40, w ∈ wsX4_save := by decide +kernel
  have kf10 := hts (.fieldLink RX4 10 "CapsuleKeepers" "now" "LCapsuleKeepers$Place;") (by decide +kernel)
  have kf19 := hts (.fieldLink RX4 19 "CapsuleKeepers" "saved" "[LCapsuleKeepers$Place;") (by decide +kernel)
  have kf23 := hts (.fieldLink RX4 23 "CapsuleKeepers" "savedCount" "I") (by decide +kernel)
  refine lv_aload_n hx hb dX4_save_0 rfl (lv_at hl 0 rfl) ?_
  refine va_get (D := Γ.1) (ci := 4) (v := .int (nI 3)) (C := RX4) (T := TX4) (N := 7) hx hb hts hi4 hown hK hP 0 rfl rfl 3 (by decide) kf23 (fun _ h9 => h9) rfl dX4_save_1 ?_
  refine lv_bipush (v := (nI 6)) hx hb dX4_save_4 (by decide) ?_
  refine lv_icmp_lt (tgt := 56) hx hb dX4_save_6 (by decide) (fun c_6 => ?_) (fun c_6 => absurd c_6 (by decide))
  refine lv_aload_n hx hb dX4_save_56 rfl (lv_at hl 0 rfl) ?_
  refine va_get (D := Γ.1) (ci := 4) (v := .ref qs) (C := RX4) (T := TX4) (N := 7) hx hb hts hi4 hown hK hP 0 rfl rfl 2 (by decide) kf19 (fun _ h9 => h9) rfl dX4_save_57 ?_
  refine lv_aload_n hx hb dX4_save_60 rfl (lv_at hl 0 rfl) ?_
  refine va_get (D := Γ.1) (ci := 4) (v := .int (nI 3)) (C := RX4) (T := TX4) (N := 7) hx hb hts hi4 hown hK hP 0 rfl rfl 3 (by decide) kf23 (fun _ h9 => h9) rfl dX4_save_61 ?_
  refine ald (x := (g3 0)) hx hb hK hP 1 rfl rfl (by decide) rfl dX4_save_64 ?_
  refine lv_aload_n hx hb dX4_save_65 rfl (lv_at hl 0 rfl) ?_
  refine va_get (D := Γ.1) (ci := 4) (v := .ref (an 0)) (C := RX4) (T := TX4) (N := 7) hx hb hts hi4 hown hK hP 0 rfl rfl 0 (by decide) kf10 (fun _ h9 => h9) rfl dX4_save_66 ?_
  refine cMV (bc' := [plB Γ g3 v, plB Γ an v]) (va_runV (As := [.ref (an 0)]) (rest := []) ⟨hx, hb, hml, hown, hts⟩ ((ncpF l Γ g3 an w3 v) _) (cwV 1 hts gX4_save_X2_copyFrom rfl rfl rfl (by decide +kernel) ⟨Nat.le_of_ble_eq_true rfl, Nat.le_of_ble_eq_true rfl⟩) ⟨wPre_blind, va_recv hK hP (ci := 2) (q0 := 20) rfl rfl, wPre_mk hP hD hK hS hA hAB hAm [5, 8] rfl rfl⟩ rfl rfl hl.1 rfl (lv_room (Nat.le_of_ble_eq_true rfl)) dX4_save_69 ⟨Nat.zero_le _, Nat.zero_le _⟩) hP hD hS hA [5, 8] rfl rfl (bs' := [mnC q an ap qs ac au ax (nI 3), svB Γ qs (gR [(g0 0), (g1 0), (g2 0), (g3 0), (g4 0), (g5 0)]), plB Γ g0 w0, plB Γ g1 w1, plB Γ g2 w2, plB Γ g3 v, plB Γ g4 w4, plB Γ g5 w5, plB Γ an v]) rfl (fun H locs hP hD hS => ?_)
  refine lv_aload_n hx hb dX4_save_72 rfl (lv_at hl 0 rfl) ?_
  refine lv_dup hx hb dX4_save_73 rfl ?_
  refine va_get (D := Γ.1) (ci := 4) (v := .int (nI 3)) (C := RX4) (T := TX4) (N := 7) hx hb hts hi4 hown hK hP 0 rfl rfl 3 (by decide) kf23 (fun _ h9 => h9) rfl dX4_save_74 ?_
  refine lv_iconst (v := (nI 1)) hx hb dX4_save_77 (by decide) ?_
  refine lv_iadd hx hb dX4_save_78 ?_
  refine lv_eqi (y := (nI 4)) (by decide) ?_
  refine va_put (D := Γ.1) (ci := 4) (v := .int (nI 4)) (ty := .int) (C := RX4) (T := TX4) (N := 7) hx hb hts hi4 tyX4 tyX4_ok nmX4 hown hK hP hD hS 0 rfl rfl 3 (by decide) kf23 (fun _ h9 => h9) rfl (by decide +kernel) rfl rfl (Nat.le_of_ble_eq_true rfl) dX4_save_79 (fun H locs hP hD hS => ?_)
  have hP : va_P Γ.1 vwCl (wcat [mnC q an ap qs ac au ax (nI 4), svB Γ qs (gR [(g0 0), (g1 0), (g2 0), (g3 0), (g4 0), (g5 0)]), plB Γ g0 w0, plB Γ g1 w1, plB Γ g2 w2, plB Γ g3 v, plB Γ g4 w4, plB Γ g5 w5, plB Γ an v]) H := hP
  have hD : va_D A (wcat [mnC q an ap qs ac au ax (nI 4), svB Γ qs (gR [(g0 0), (g1 0), (g2 0), (g3 0), (g4 0), (g5 0)]), plB Γ g0 w0, plB Γ g1 w1, plB Γ g2 w2, plB Γ g3 v, plB Γ g4 w4, plB Γ g5 w5, plB Γ an v]) := hD
  exact W.vret hx hb hr (fun t ht hW => eMV hP hS ht) hS.2.2 dX4_save_82
set_option maxHeartbeats 4000000 in
set_option maxRecDepth 100000 in
theorem kX4_save_4 (l : Launch) (Γ : wG) (q : Nat) (an : Nat → Nat) (ap : Nat → Nat) (qs : Nat) (ac : Nat → Nat) (au : Nat → Nat) (ax : Nat → Nat) (g0 : Nat → Nat) (g1 : Nat → Nat) (g2 : Nat → Nat) (g3 : Nat → Nat) (g4 : Nat → Nat) (g5 : Nat → Nat) (w0 : (Nat → Nat → Int32)) (w1 : (Nat → Nat → Int32)) (w2 : (Nat → Nat → Int32)) (w3 : (Nat → Nat → Int32)) (w4 : (Nat → Nat → Int32)) (w5 : (Nat → Nat → Int32)) (v : (Nat → Nat → Int32)) : MV l Γ yX4_save wsX4_save ({ frames := 1, cells := 0, slots := 0, locals := 22 }) [.ref q] [mnC q an ap qs ac au ax (nI 4), svB Γ qs (gR [(g0 0), (g1 0), (g2 0), (g3 0), (g4 0), (g5 0)]), plB Γ g0 w0, plB Γ g1 w1, plB Γ g2 w2, plB Γ g3 w3, plB Γ g4 w4, plB Γ g5 w5, plB Γ an v] [mnC q an ap qs ac au ax (nI 5), svB Γ qs (gR [(g0 0), (g1 0), (g2 0), (g3 0), (g4 0), (g5 0)]), plB Γ g0 w0, plB Γ g1 w1, plB Γ g2 w2, plB Γ g3 w3, plB Γ g4 v, plB Γ g5 w5, plB Γ an v] := by
  intro sz
  refine Met.ofW (cc := cX4_save) (maxL := 3) (ret := none) (by decide) rfl ?_
  intro p e s m args below meth c s₁ B hml hv
  obtain ⟨rfl, hsz, hP, hK, hD0, hAm⟩ := hv
  have hx := B.exec
  have hb := B.bytes
  have hr := B.returns
  have hts := atoms_spec (ws := wsX4_save) B.pre
  have hown : s.vm.findClass RX4 = some m.cls := findClass_of_methodNamed B.named
  have hlocks := B.notSynchronized
  subst hsz
  have hD := hD0.self (sz := s.heap.size)
  generalize hAe : va_A (wcat [mnC q an ap qs ac au ax (nI 4), svB Γ qs (gR [(g0 0), (g1 0), (g2 0), (g3 0), (g4 0), (g5 0)]), plB Γ g0 w0, plB Γ g1 w1, plB Γ g2 w2, plB Γ g3 w3, plB Γ g4 w4, plB Γ g5 w5, plB Γ an v]) s.heap.size = A at hD hAm ⊢
  have hA : ∀ q : Nat, s.heap.size ≤ q → A q := fun q h => by rw [← hAe]; exact Or.inr h
  have hAB : ∀ q : Nat, A q → A q := fun _ h => h
  have hS : va_S A s.heap s.heap [] := va_S.rf
  have hl := lv_entry ([.ref q]) (n := 3) (Nat.le_of_ble_eq_true rfl)
  rw [lg_entry_eq]
  generalize (lg_sl ([.ref q]) ++ List.replicate (3 - (lg_sl ([.ref q])).length) Slot.unset).toArray = ls at hl ⊢
  have hl : lv_has ls 3 [(0, .ref q)] := hl
  have hi4 : ∀ w ∈ wsX40, w ∈ wsX4_save := by decide +kernel
  have kf10 := hts (.fieldLink RX4 10 "CapsuleKeepers" "now" "LCapsuleKeepers$Place;") (by decide +kernel)
  have kf19 := hts (.fieldLink RX4 19 "CapsuleKeepers" "saved" "[LCapsuleKeepers$Place;") (by decide +kernel)
  have kf23 := hts (.fieldLink RX4 23 "CapsuleKeepers" "savedCount" "I") (by decide +kernel)
  refine lv_aload_n hx hb dX4_save_0 rfl (lv_at hl 0 rfl) ?_
  refine va_get (D := Γ.1) (ci := 4) (v := .int (nI 4)) (C := RX4) (T := TX4) (N := 7) hx hb hts hi4 hown hK hP 0 rfl rfl 3 (by decide) kf23 (fun _ h9 => h9) rfl dX4_save_1 ?_
  refine lv_bipush (v := (nI 6)) hx hb dX4_save_4 (by decide) ?_
  refine lv_icmp_lt (tgt := 56) hx hb dX4_save_6 (by decide) (fun c_6 => ?_) (fun c_6 => absurd c_6 (by decide))
  refine lv_aload_n hx hb dX4_save_56 rfl (lv_at hl 0 rfl) ?_
  refine va_get (D := Γ.1) (ci := 4) (v := .ref qs) (C := RX4) (T := TX4) (N := 7) hx hb hts hi4 hown hK hP 0 rfl rfl 2 (by decide) kf19 (fun _ h9 => h9) rfl dX4_save_57 ?_
  refine lv_aload_n hx hb dX4_save_60 rfl (lv_at hl 0 rfl) ?_
  refine va_get (D := Γ.1) (ci := 4) (v := .int (nI 4)) (C := RX4) (T := TX4) (N := 7) hx hb hts hi4 hown hK hP 0 rfl rfl 3 (by decide) kf23 (fun _ h9 => h9) rfl dX4_save_61 ?_
  refine ald (x := (g4 0)) hx hb hK hP 1 rfl rfl (by decide) rfl dX4_save_64 ?_
  refine lv_aload_n hx hb dX4_save_65 rfl (lv_at hl 0 rfl) ?_
  refine va_get (D := Γ.1) (ci := 4) (v := .ref (an 0)) (C := RX4) (T := TX4) (N := 7) hx hb hts hi4 hown hK hP 0 rfl rfl 0 (by decide) kf10 (fun _ h9 => h9) rfl dX4_save_66 ?_
  refine cMV (bc' := [plB Γ g4 v, plB Γ an v]) (va_runV (As := [.ref (an 0)]) (rest := []) ⟨hx, hb, hml, hown, hts⟩ ((ncpF l Γ g4 an w4 v) _) (cwV 1 hts gX4_save_X2_copyFrom rfl rfl rfl (by decide +kernel) ⟨Nat.le_of_ble_eq_true rfl, Nat.le_of_ble_eq_true rfl⟩) ⟨wPre_blind, va_recv hK hP (ci := 2) (q0 := 26) rfl rfl, wPre_mk hP hD hK hS hA hAB hAm [6, 8] rfl rfl⟩ rfl rfl hl.1 rfl (lv_room (Nat.le_of_ble_eq_true rfl)) dX4_save_69 ⟨Nat.zero_le _, Nat.zero_le _⟩) hP hD hS hA [6, 8] rfl rfl (bs' := [mnC q an ap qs ac au ax (nI 4), svB Γ qs (gR [(g0 0), (g1 0), (g2 0), (g3 0), (g4 0), (g5 0)]), plB Γ g0 w0, plB Γ g1 w1, plB Γ g2 w2, plB Γ g3 w3, plB Γ g4 v, plB Γ g5 w5, plB Γ an v]) rfl (fun H locs hP hD hS => ?_)
  refine lv_aload_n hx hb dX4_save_72 rfl (lv_at hl 0 rfl) ?_
  refine lv_dup hx hb dX4_save_73 rfl ?_
  refine va_get (D := Γ.1) (ci := 4) (v := .int (nI 4)) (C := RX4) (T := TX4) (N := 7) hx hb hts hi4 hown hK hP 0 rfl rfl 3 (by decide) kf23 (fun _ h9 => h9) rfl dX4_save_74 ?_
  refine lv_iconst (v := (nI 1)) hx hb dX4_save_77 (by decide) ?_
  refine lv_iadd hx hb dX4_save_78 ?_
  refine lv_eqi (y := (nI 5)) (by decide) ?_
  refine va_put (D := Γ.1) (ci := 4) (v := .int (nI 5)) (ty := .int) (C := RX4) (T := TX4) (N := 7) hx hb hts hi4 tyX4 tyX4_ok nmX4 hown hK hP hD hS 0 rfl rfl 3 (by decide) kf23 (fun _ h9 => h9) rfl (by decide +kernel) rfl rfl (Nat.le_of_ble_eq_true rfl) dX4_save_79 (fun H locs hP hD hS => ?_)
  have hP : va_P Γ.1 vwCl (wcat [mnC q an ap qs ac au ax (nI 5), svB Γ qs (gR [(g0 0), (g1 0), (g2 0), (g3 0), (g4 0), (g5 0)]), plB Γ g0 w0, plB Γ g1 w1, plB Γ g2 w2, plB Γ g3 w3, plB Γ g4 v, plB Γ g5 w5, plB Γ an v]) H := hP
  have hD : va_D A (wcat [mnC q an ap qs ac au ax (nI 5), svB Γ qs (gR [(g0 0), (g1 0), (g2 0), (g3 0), (g4 0), (g5 0)]), plB Γ g0 w0, plB Γ g1 w1, plB Γ g2 w2, plB Γ g3 w3, plB Γ g4 v, plB Γ g5 w5, plB Γ an v]) := hD
  exact W.vret hx hb hr (fun t ht hW => eMV hP hS ht) hS.2.2 dX4_save_82
set_option maxHeartbeats 4000000 in
set_option maxRecDepth 100000 in
theorem kX4_save_5 (l : Launch) (Γ : wG) (q : Nat) (an : Nat → Nat) (ap : Nat → Nat) (qs : Nat) (ac : Nat → Nat) (au : Nat → Nat) (ax : Nat → Nat) (g0 : Nat → Nat) (g1 : Nat → Nat) (g2 : Nat → Nat) (g3 : Nat → Nat) (g4 : Nat → Nat) (g5 : Nat → Nat) (w0 : (Nat → Nat → Int32)) (w1 : (Nat → Nat → Int32)) (w2 : (Nat → Nat → Int32)) (w3 : (Nat → Nat → Int32)) (w4 : (Nat → Nat → Int32)) (w5 : (Nat → Nat → Int32)) (v : (Nat → Nat → Int32)) : MV l Γ yX4_save wsX4_save ({ frames := 1, cells := 0, slots := 0, locals := 22 }) [.ref q] [mnC q an ap qs ac au ax (nI 5), svB Γ qs (gR [(g0 0), (g1 0), (g2 0), (g3 0), (g4 0), (g5 0)]), plB Γ g0 w0, plB Γ g1 w1, plB Γ g2 w2, plB Γ g3 w3, plB Γ g4 w4, plB Γ g5 w5, plB Γ an v] [mnC q an ap qs ac au ax (nI 6), svB Γ qs (gR [(g0 0), (g1 0), (g2 0), (g3 0), (g4 0), (g5 0)]), plB Γ g0 w0, plB Γ g1 w1, plB Γ g2 w2, plB Γ g3 w3, plB Γ g4 w4, plB Γ g5 v, plB Γ an v] := by
  intro sz
  refine Met.ofW (cc := cX4_save) (maxL := 3) (ret := none) (by decide) rfl ?_
  intro p e s m args below meth c s₁ B hml hv
  obtain ⟨rfl, hsz, hP, hK, hD0, hAm⟩ := hv
  have hx := B.exec
  have hb := B.bytes
  have hr := B.returns
  have hts := atoms_spec (ws := wsX4_save) B.pre
  have hown : s.vm.findClass RX4 = some m.cls := findClass_of_methodNamed B.named
  have hlocks := B.notSynchronized
  subst hsz
  have hD := hD0.self (sz := s.heap.size)
  generalize hAe : va_A (wcat [mnC q an ap qs ac au ax (nI 5), svB Γ qs (gR [(g0 0), (g1 0), (g2 0), (g3 0), (g4 0), (g5 0)]), plB Γ g0 w0, plB Γ g1 w1, plB Γ g2 w2, plB Γ g3 w3, plB Γ g4 w4, plB Γ g5 w5, plB Γ an v]) s.heap.size = A at hD hAm ⊢
  have hA : ∀ q : Nat, s.heap.size ≤ q → A q := fun q h => by rw [← hAe]; exact Or.inr h
  have hAB : ∀ q : Nat, A q → A q := fun _ h => h
  have hS : va_S A s.heap s.heap [] := va_S.rf
  have hl := lv_entry ([.ref q]) (n := 3) (Nat.le_of_ble_eq_true rfl)
  rw [lg_entry_eq]
  generalize (lg_sl ([.ref q]) ++ List.replicate (3 - (lg_sl ([.ref q])).length) Slot.unset).toArray = ls at hl ⊢
  have hl : lv_has ls 3 [(0, .ref q)] := hl
  have hi4 : ∀ w ∈ wsX40, w ∈ wsX4_save := by decide +kernel
  have kf10 := hts (.fieldLink RX4 10 "CapsuleKeepers" "now" "LCapsuleKeepers$Place;") (by decide +kernel)
  have kf19 := hts (.fieldLink RX4 19 "CapsuleKeepers" "saved" "[LCapsuleKeepers$Place;") (by decide +kernel)
  have kf23 := hts (.fieldLink RX4 23 "CapsuleKeepers" "savedCount" "I") (by decide +kernel)
  refine lv_aload_n hx hb dX4_save_0 rfl (lv_at hl 0 rfl) ?_
  refine va_get (D := Γ.1) (ci := 4) (v := .int (nI 5)) (C := RX4) (T := TX4) (N := 7) hx hb hts hi4 hown hK hP 0 rfl rfl 3 (by decide) kf23 (fun _ h9 => h9) rfl dX4_save_1 ?_
  refine lv_bipush (v := (nI 6)) hx hb dX4_save_4 (by decide) ?_
  refine lv_icmp_lt (tgt := 56) hx hb dX4_save_6 (by decide) (fun c_6 => ?_) (fun c_6 => absurd c_6 (by decide))
  refine lv_aload_n hx hb dX4_save_56 rfl (lv_at hl 0 rfl) ?_
  refine va_get (D := Γ.1) (ci := 4) (v := .ref qs) (C := RX4) (T := TX4) (N := 7) hx hb hts hi4 hown hK hP 0 rfl rfl 2 (by decide) kf19 (fun _ h9 => h9) rfl dX4_save_57 ?_
  refine lv_aload_n hx hb dX4_save_60 rfl (lv_at hl 0 rfl) ?_
  refine va_get (D := Γ.1) (ci := 4) (v := .int (nI 5)) (C := RX4) (T := TX4) (N := 7) hx hb hts hi4 hown hK hP 0 rfl rfl 3 (by decide) kf23 (fun _ h9 => h9) rfl dX4_save_61 ?_
  refine ald (x := (g5 0)) hx hb hK hP 1 rfl rfl (by decide) rfl dX4_save_64 ?_
  refine lv_aload_n hx hb dX4_save_65 rfl (lv_at hl 0 rfl) ?_
  refine va_get (D := Γ.1) (ci := 4) (v := .ref (an 0)) (C := RX4) (T := TX4) (N := 7) hx hb hts hi4 hown hK hP 0 rfl rfl 0 (by decide) kf10 (fun _ h9 => h9) rfl dX4_save_66 ?_
  refine cMV (bc' := [plB Γ g5 v, plB Γ an v]) (va_runV (As := [.ref (an 0)]) (rest := []) ⟨hx, hb, hml, hown, hts⟩ ((ncpF l Γ g5 an w5 v) _) (cwV 1 hts gX4_save_X2_copyFrom rfl rfl rfl (by decide +kernel) ⟨Nat.le_of_ble_eq_true rfl, Nat.le_of_ble_eq_true rfl⟩) ⟨wPre_blind, va_recv hK hP (ci := 2) (q0 := 32) rfl rfl, wPre_mk hP hD hK hS hA hAB hAm [7, 8] rfl rfl⟩ rfl rfl hl.1 rfl (lv_room (Nat.le_of_ble_eq_true rfl)) dX4_save_69 ⟨Nat.zero_le _, Nat.zero_le _⟩) hP hD hS hA [7, 8] rfl rfl (bs' := [mnC q an ap qs ac au ax (nI 5), svB Γ qs (gR [(g0 0), (g1 0), (g2 0), (g3 0), (g4 0), (g5 0)]), plB Γ g0 w0, plB Γ g1 w1, plB Γ g2 w2, plB Γ g3 w3, plB Γ g4 w4, plB Γ g5 v, plB Γ an v]) rfl (fun H locs hP hD hS => ?_)
  refine lv_aload_n hx hb dX4_save_72 rfl (lv_at hl 0 rfl) ?_
  refine lv_dup hx hb dX4_save_73 rfl ?_
  refine va_get (D := Γ.1) (ci := 4) (v := .int (nI 5)) (C := RX4) (T := TX4) (N := 7) hx hb hts hi4 hown hK hP 0 rfl rfl 3 (by decide) kf23 (fun _ h9 => h9) rfl dX4_save_74 ?_
  refine lv_iconst (v := (nI 1)) hx hb dX4_save_77 (by decide) ?_
  refine lv_iadd hx hb dX4_save_78 ?_
  refine lv_eqi (y := (nI 6)) (by decide) ?_
  refine va_put (D := Γ.1) (ci := 4) (v := .int (nI 6)) (ty := .int) (C := RX4) (T := TX4) (N := 7) hx hb hts hi4 tyX4 tyX4_ok nmX4 hown hK hP hD hS 0 rfl rfl 3 (by decide) kf23 (fun _ h9 => h9) rfl (by decide +kernel) rfl rfl (Nat.le_of_ble_eq_true rfl) dX4_save_79 (fun H locs hP hD hS => ?_)
  have hP : va_P Γ.1 vwCl (wcat [mnC q an ap qs ac au ax (nI 6), svB Γ qs (gR [(g0 0), (g1 0), (g2 0), (g3 0), (g4 0), (g5 0)]), plB Γ g0 w0, plB Γ g1 w1, plB Γ g2 w2, plB Γ g3 w3, plB Γ g4 w4, plB Γ g5 v, plB Γ an v]) H := hP
  have hD : va_D A (wcat [mnC q an ap qs ac au ax (nI 6), svB Γ qs (gR [(g0 0), (g1 0), (g2 0), (g3 0), (g4 0), (g5 0)]), plB Γ g0 w0, plB Γ g1 w1, plB Γ g2 w2, plB Γ g3 w3, plB Γ g4 w4, plB Γ g5 v, plB Γ an v]) := hD
  exact W.vret hx hb hr (fun t ht hW => eMV hP hS ht) hS.2.2 dX4_save_82
set_option maxHeartbeats 4000000 in
set_option maxRecDepth 100000 in
theorem kX4_save_6 (l : Launch) (Γ : wG) (q : Nat) (an : Nat → Nat) (ap : Nat → Nat) (qs : Nat) (ac : Nat → Nat) (au : Nat → Nat) (ax : Nat → Nat) (g0 : Nat → Nat) (g1 : Nat → Nat) (g2 : Nat → Nat) (g3 : Nat → Nat) (g4 : Nat → Nat) (g5 : Nat → Nat) (w0 : (Nat → Nat → Int32)) (w1 : (Nat → Nat → Int32)) (w2 : (Nat → Nat → Int32)) (w3 : (Nat → Nat → Int32)) (w4 : (Nat → Nat → Int32)) (w5 : (Nat → Nat → Int32)) (v : (Nat → Nat → Int32)) : MV l Γ yX4_save wsX4_save ({ frames := 1, cells := 0, slots := 0, locals := 22 }) [.ref q] [mnC q an ap qs ac au ax (nI 6), svB Γ qs (gR [(g0 0), (g1 0), (g2 0), (g3 0), (g4 0), (g5 0)]), plB Γ g0 w0, plB Γ g1 w1, plB Γ g2 w2, plB Γ g3 w3, plB Γ g4 w4, plB Γ g5 w5, plB Γ an v] [mnC q an ap qs ac au ax (nI 6), svB Γ qs (gR [(g1 0), (g2 0), (g3 0), (g4 0), (g5 0), (g0 0)]), plB Γ g0 v, plB Γ g1 w1, plB Γ g2 w2, plB Γ g3 w3, plB Γ g4 w4, plB Γ g5 w5, plB Γ an v] := by
  intro sz
  refine Met.ofW (cc := cX4_save) (maxL := 3) (ret := none) (by decide) rfl ?_
  intro p e s m args below meth c s₁ B hml hv
  obtain ⟨rfl, hsz, hP, hK, hD0, hAm⟩ := hv
  have hx := B.exec
  have hb := B.bytes
  have hr := B.returns
  have hts := atoms_spec (ws := wsX4_save) B.pre
  have hown : s.vm.findClass RX4 = some m.cls := findClass_of_methodNamed B.named
  have hlocks := B.notSynchronized
  subst hsz
  have hD := hD0.self (sz := s.heap.size)
  generalize hAe : va_A (wcat [mnC q an ap qs ac au ax (nI 6), svB Γ qs (gR [(g0 0), (g1 0), (g2 0), (g3 0), (g4 0), (g5 0)]), plB Γ g0 w0, plB Γ g1 w1, plB Γ g2 w2, plB Γ g3 w3, plB Γ g4 w4, plB Γ g5 w5, plB Γ an v]) s.heap.size = A at hD hAm ⊢
  have hA : ∀ q : Nat, s.heap.size ≤ q → A q := fun q h => by rw [← hAe]; exact Or.inr h
  have hAB : ∀ q : Nat, A q → A q := fun _ h => h
  have hS : va_S A s.heap s.heap [] := va_S.rf
  have hl := lv_entry ([.ref q]) (n := 3) (Nat.le_of_ble_eq_true rfl)
  rw [lg_entry_eq]
  generalize (lg_sl ([.ref q]) ++ List.replicate (3 - (lg_sl ([.ref q])).length) Slot.unset).toArray = ls at hl ⊢
  have hl : lv_has ls 3 [(0, .ref q)] := hl
  have hi4 : ∀ w ∈ wsX40, w ∈ wsX4_save := by decide +kernel
  have kf10 := hts (.fieldLink RX4 10 "CapsuleKeepers" "now" "LCapsuleKeepers$Place;") (by decide +kernel)
  have kf19 := hts (.fieldLink RX4 19 "CapsuleKeepers" "saved" "[LCapsuleKeepers$Place;") (by decide +kernel)
  have kf23 := hts (.fieldLink RX4 23 "CapsuleKeepers" "savedCount" "I") (by decide +kernel)
  refine lv_aload_n hx hb dX4_save_0 rfl (lv_at hl 0 rfl) ?_
  refine va_get (D := Γ.1) (ci := 4) (v := .int (nI 6)) (C := RX4) (T := TX4) (N := 7) hx hb hts hi4 hown hK hP 0 rfl rfl 3 (by decide) kf23 (fun _ h9 => h9) rfl dX4_save_1 ?_
  refine lv_bipush (v := (nI 6)) hx hb dX4_save_4 (by decide) ?_
  refine lv_icmp_lt (tgt := 56) hx hb dX4_save_6 (by decide) (fun c_6 => absurd c_6 (by decide)) (fun c_6 => ?_)
  refine lv_aload_n hx hb dX4_save_9 rfl (lv_at hl 0 rfl) ?_
  refine va_get (D := Γ.1) (ci := 4) (v := .ref qs) (C := RX4) (T := TX4) (N := 7) hx hb hts hi4 hown hK hP 0 rfl rfl 2 (by decide) kf19 (fun _ h9 => h9) rfl dX4_save_10 ?_
  refine lv_iconst (v := (nI 0)) hx hb dX4_save_13 (by decide) ?_
  refine ald (x := (g0 0)) hx hb hK hP 1 rfl rfl (by decide) rfl dX4_save_14 ?_
  refine lv_astore_n (lv' := [(1, .ref (g0 0)), (0, .ref q)]) hx hb dX4_save_15 rfl hl (by decide) rfl (fun ls hl => ?_)
  refine lv_iconst (v := (nI 1)) hx hb dX4_save_16 (by decide) ?_
  refine lv_istore_n (lv' := [(2, .int (nI 1)), (1, .ref (g0 0)), (0, .ref q)]) hx hb dX4_save_17 rfl hl (by decide) rfl (fun ls hl => ?_)
  refine lv_iload_n hx hb dX4_save_18 rfl (lv_at hl 0 rfl) ?_
  refine lv_bipush (v := (nI 6)) hx hb dX4_save_19 (by decide) ?_
  refine lv_icmp_ge (tgt := 44) hx hb dX4_save_21 (by decide) (fun c_21 => absurd c_21 (by decide)) (fun c_21 => ?_)
  refine lv_aload_n hx hb dX4_save_24 rfl (lv_at hl 2 rfl) ?_
  refine va_get (D := Γ.1) (ci := 4) (v := .ref qs) (C := RX4) (T := TX4) (N := 7) hx hb hts hi4 hown hK hP 0 rfl rfl 2 (by decide) kf19 (fun _ h9 => h9) rfl dX4_save_25 ?_
  refine lv_iload_n hx hb dX4_save_28 rfl (lv_at hl 0 rfl) ?_
  refine lv_iconst (v := (nI 1)) hx hb dX4_save_29 (by decide) ?_
  refine lv_isub hx hb dX4_save_30 ?_
  refine lv_eqi (y := (nI 0)) (by decide) ?_
  refine lv_aload_n hx hb dX4_save_31 rfl (lv_at hl 2 rfl) ?_
  refine va_get (D := Γ.1) (ci := 4) (v := .ref qs) (C := RX4) (T := TX4) (N := 7) hx hb hts hi4 hown hK hP 0 rfl rfl 2 (by decide) kf19 (fun _ h9 => h9) rfl dX4_save_32 ?_
  refine lv_iload_n hx hb dX4_save_35 rfl (lv_at hl 0 rfl) ?_
  refine ald (x := (g1 0)) hx hb hK hP 1 rfl rfl (by decide) rfl dX4_save_36 ?_
  refine ast_ (l2 := [(g1 0), (g1 0), (g2 0), (g3 0), (g4 0), (g5 0)]) hx hb hK hP hD hS 1 8 rfl rfl rfl (by decide) (Nat.le_of_ble_eq_true rfl) rfl dX4_save_37 (fun H locs hP hD hS => ?_)
  have hP : va_P Γ.1 vwCl (wcat [mnC q an ap qs ac au ax (nI 6), svB Γ qs (gR [(g1 0), (g1 0), (g2 0), (g3 0), (g4 0), (g5 0)]), plB Γ g0 w0, plB Γ g1 w1, plB Γ g2 w2, plB Γ g3 w3, plB Γ g4 w4, plB Γ g5 w5, plB Γ an v]) H := hP
  have hD : va_D A (wcat [mnC q an ap qs ac au ax (nI 6), svB Γ qs (gR [(g1 0), (g1 0), (g2 0), (g3 0), (g4 0), (g5 0)]), plB Γ g0 w0, plB Γ g1 w1, plB Γ g2 w2, plB Γ g3 w3, plB Γ g4 w4, plB Γ g5 w5, plB Γ an v]) := hD
  refine lv_iinc (v := (nI 2)) (lv' := [(2, .int (nI 2)), (1, .ref (g0 0)), (0, .ref q)]) hx hb dX4_save_38 hl (k := 0) rfl (by decide) (by decide) rfl (fun ls hl => ?_)
  refine lv_goto (tgt := 18) hx hb dX4_save_41 (by decide) ?_
  refine lv_iload_n hx hb dX4_save_18 rfl (lv_at hl 0 rfl) ?_
  refine lv_bipush (v := (nI 6)) hx hb dX4_save_19 (by decide) ?_
  refine lv_icmp_ge (tgt := 44) hx hb dX4_save_21 (by decide) (fun c_21 => absurd c_21 (by decide)) (fun c_21 => ?_)
  refine lv_aload_n hx hb dX4_save_24 rfl (lv_at hl 2 rfl) ?_
  refine va_get (D := Γ.1) (ci := 4) (v := .ref qs) (C := RX4) (T := TX4) (N := 7) hx hb hts hi4 hown hK hP 0 rfl rfl 2 (by decide) kf19 (fun _ h9 => h9) rfl dX4_save_25 ?_
  refine lv_iload_n hx hb dX4_save_28 rfl (lv_at hl 0 rfl) ?_
  refine lv_iconst (v := (nI 1)) hx hb dX4_save_29 (by decide) ?_
  refine lv_isub hx hb dX4_save_30 ?_
  refine lv_eqi (y := (nI 1)) (by decide) ?_
  refine lv_aload_n hx hb dX4_save_31 rfl (lv_at hl 2 rfl) ?_
  refine va_get (D := Γ.1) (ci := 4) (v := .ref qs) (C := RX4) (T := TX4) (N := 7) hx hb hts hi4 hown hK hP 0 rfl rfl 2 (by decide) kf19 (fun _ h9 => h9) rfl dX4_save_32 ?_
  refine lv_iload_n hx hb dX4_save_35 rfl (lv_at hl 0 rfl) ?_
  refine ald (x := (g2 0)) hx hb hK hP 1 rfl rfl (by decide) rfl dX4_save_36 ?_
  refine ast_ (l2 := [(g1 0), (g2 0), (g2 0), (g3 0), (g4 0), (g5 0)]) hx hb hK hP hD hS 1 14 rfl rfl rfl (by decide) (Nat.le_of_ble_eq_true rfl) rfl dX4_save_37 (fun H locs hP hD hS => ?_)
  have hP : va_P Γ.1 vwCl (wcat [mnC q an ap qs ac au ax (nI 6), svB Γ qs (gR [(g1 0), (g2 0), (g2 0), (g3 0), (g4 0), (g5 0)]), plB Γ g0 w0, plB Γ g1 w1, plB Γ g2 w2, plB Γ g3 w3, plB Γ g4 w4, plB Γ g5 w5, plB Γ an v]) H := hP
  have hD : va_D A (wcat [mnC q an ap qs ac au ax (nI 6), svB Γ qs (gR [(g1 0), (g2 0), (g2 0), (g3 0), (g4 0), (g5 0)]), plB Γ g0 w0, plB Γ g1 w1, plB Γ g2 w2, plB Γ g3 w3, plB Γ g4 w4, plB Γ g5 w5, plB Γ an v]) := hD
  refine lv_iinc (v := (nI 3)) (lv' := [(2, .int (nI 3)), (1, .ref (g0 0)), (0, .ref q)]) hx hb dX4_save_38 hl (k := 0) rfl (by decide) (by decide) rfl (fun ls hl => ?_)
  refine lv_goto (tgt := 18) hx hb dX4_save_41 (by decide) ?_
  refine lv_iload_n hx hb dX4_save_18 rfl (lv_at hl 0 rfl) ?_
  refine lv_bipush (v := (nI 6)) hx hb dX4_save_19 (by decide) ?_
  refine lv_icmp_ge (tgt := 44) hx hb dX4_save_21 (by decide) (fun c_21 => absurd c_21 (by decide)) (fun c_21 => ?_)
  refine lv_aload_n hx hb dX4_save_24 rfl (lv_at hl 2 rfl) ?_
  refine va_get (D := Γ.1) (ci := 4) (v := .ref qs) (C := RX4) (T := TX4) (N := 7) hx hb hts hi4 hown hK hP 0 rfl rfl 2 (by decide) kf19 (fun _ h9 => h9) rfl dX4_save_25 ?_
  refine lv_iload_n hx hb dX4_save_28 rfl (lv_at hl 0 rfl) ?_
  refine lv_iconst (v := (nI 1)) hx hb dX4_save_29 (by decide) ?_
  refine lv_isub hx hb dX4_save_30 ?_
  refine lv_eqi (y := (nI 2)) (by decide) ?_
  refine lv_aload_n hx hb dX4_save_31 rfl (lv_at hl 2 rfl) ?_
  refine va_get (D := Γ.1) (ci := 4) (v := .ref qs) (C := RX4) (T := TX4) (N := 7) hx hb hts hi4 hown hK hP 0 rfl rfl 2 (by decide) kf19 (fun _ h9 => h9) rfl dX4_save_32 ?_
  refine lv_iload_n hx hb dX4_save_35 rfl (lv_at hl 0 rfl) ?_
  refine ald (x := (g3 0)) hx hb hK hP 1 rfl rfl (by decide) rfl dX4_save_36 ?_
  refine ast_ (l2 := [(g1 0), (g2 0), (g3 0), (g3 0), (g4 0), (g5 0)]) hx hb hK hP hD hS 1 20 rfl rfl rfl (by decide) (Nat.le_of_ble_eq_true rfl) rfl dX4_save_37 (fun H locs hP hD hS => ?_)
  have hP : va_P Γ.1 vwCl (wcat [mnC q an ap qs ac au ax (nI 6), svB Γ qs (gR [(g1 0), (g2 0), (g3 0), (g3 0), (g4 0), (g5 0)]), plB Γ g0 w0, plB Γ g1 w1, plB Γ g2 w2, plB Γ g3 w3, plB Γ g4 w4, plB Γ g5 w5, plB Γ an v]) H := hP
  have hD : va_D A (wcat [mnC q an ap qs ac au ax (nI 6), svB Γ qs (gR [(g1 0), (g2 0), (g3 0), (g3 0), (g4 0), (g5 0)]), plB Γ g0 w0, plB Γ g1 w1, plB Γ g2 w2, plB Γ g3 w3, plB Γ g4 w4, plB Γ g5 w5, plB Γ an v]) := hD
  refine lv_iinc (v := (nI 4)) (lv' := [(2, .int (nI 4)), (1, .ref (g0 0)), (0, .ref q)]) hx hb dX4_save_38 hl (k := 0) rfl (by decide) (by decide) rfl (fun ls hl => ?_)
  refine lv_goto (tgt := 18) hx hb dX4_save_41 (by decide) ?_
  refine lv_iload_n hx hb dX4_save_18 rfl (lv_at hl 0 rfl) ?_
  refine lv_bipush (v := (nI 6)) hx hb dX4_save_19 (by decide) ?_
  refine lv_icmp_ge (tgt := 44) hx hb dX4_save_21 (by decide) (fun c_21 => absurd c_21 (by decide)) (fun c_21 => ?_)
  refine lv_aload_n hx hb dX4_save_24 rfl (lv_at hl 2 rfl) ?_
  refine va_get (D := Γ.1) (ci := 4) (v := .ref qs) (C := RX4) (T := TX4) (N := 7) hx hb hts hi4 hown hK hP 0 rfl rfl 2 (by decide) kf19 (fun _ h9 => h9) rfl dX4_save_25 ?_
  refine lv_iload_n hx hb dX4_save_28 rfl (lv_at hl 0 rfl) ?_
  refine lv_iconst (v := (nI 1)) hx hb dX4_save_29 (by decide) ?_
  refine lv_isub hx hb dX4_save_30 ?_
  refine lv_eqi (y := (nI 3)) (by decide) ?_
  refine lv_aload_n hx hb dX4_save_31 rfl (lv_at hl 2 rfl) ?_
  refine va_get (D := Γ.1) (ci := 4) (v := .ref qs) (C := RX4) (T := TX4) (N := 7) hx hb hts hi4 hown hK hP 0 rfl rfl 2 (by decide) kf19 (fun _ h9 => h9) rfl dX4_save_32 ?_
  refine lv_iload_n hx hb dX4_save_35 rfl (lv_at hl 0 rfl) ?_
  refine ald (x := (g4 0)) hx hb hK hP 1 rfl rfl (by decide) rfl dX4_save_36 ?_
  refine ast_ (l2 := [(g1 0), (g2 0), (g3 0), (g4 0), (g4 0), (g5 0)]) hx hb hK hP hD hS 1 26 rfl rfl rfl (by decide) (Nat.le_of_ble_eq_true rfl) rfl dX4_save_37 (fun H locs hP hD hS => ?_)
  have hP : va_P Γ.1 vwCl (wcat [mnC q an ap qs ac au ax (nI 6), svB Γ qs (gR [(g1 0), (g2 0), (g3 0), (g4 0), (g4 0), (g5 0)]), plB Γ g0 w0, plB Γ g1 w1, plB Γ g2 w2, plB Γ g3 w3, plB Γ g4 w4, plB Γ g5 w5, plB Γ an v]) H := hP
  have hD : va_D A (wcat [mnC q an ap qs ac au ax (nI 6), svB Γ qs (gR [(g1 0), (g2 0), (g3 0), (g4 0), (g4 0), (g5 0)]), plB Γ g0 w0, plB Γ g1 w1, plB Γ g2 w2, plB Γ g3 w3, plB Γ g4 w4, plB Γ g5 w5, plB Γ an v]) := hD
  refine lv_iinc (v := (nI 5)) (lv' := [(2, .int (nI 5)), (1, .ref (g0 0)), (0, .ref q)]) hx hb dX4_save_38 hl (k := 0) rfl (by decide) (by decide) rfl (fun ls hl => ?_)
  refine lv_goto (tgt := 18) hx hb dX4_save_41 (by decide) ?_
  refine lv_iload_n hx hb dX4_save_18 rfl (lv_at hl 0 rfl) ?_
  refine lv_bipush (v := (nI 6)) hx hb dX4_save_19 (by decide) ?_
  refine lv_icmp_ge (tgt := 44) hx hb dX4_save_21 (by decide) (fun c_21 => absurd c_21 (by decide)) (fun c_21 => ?_)
  refine lv_aload_n hx hb dX4_save_24 rfl (lv_at hl 2 rfl) ?_
  refine va_get (D := Γ.1) (ci := 4) (v := .ref qs) (C := RX4) (T := TX4) (N := 7) hx hb hts hi4 hown hK hP 0 rfl rfl 2 (by decide) kf19 (fun _ h9 => h9) rfl dX4_save_25 ?_
  refine lv_iload_n hx hb dX4_save_28 rfl (lv_at hl 0 rfl) ?_
  refine lv_iconst (v := (nI 1)) hx hb dX4_save_29 (by decide) ?_
  refine lv_isub hx hb dX4_save_30 ?_
  refine lv_eqi (y := (nI 4)) (by decide) ?_
  refine lv_aload_n hx hb dX4_save_31 rfl (lv_at hl 2 rfl) ?_
  refine va_get (D := Γ.1) (ci := 4) (v := .ref qs) (C := RX4) (T := TX4) (N := 7) hx hb hts hi4 hown hK hP 0 rfl rfl 2 (by decide) kf19 (fun _ h9 => h9) rfl dX4_save_32 ?_
  refine lv_iload_n hx hb dX4_save_35 rfl (lv_at hl 0 rfl) ?_
  refine ald (x := (g5 0)) hx hb hK hP 1 rfl rfl (by decide) rfl dX4_save_36 ?_
  refine ast_ (l2 := [(g1 0), (g2 0), (g3 0), (g4 0), (g5 0), (g5 0)]) hx hb hK hP hD hS 1 32 rfl rfl rfl (by decide) (Nat.le_of_ble_eq_true rfl) rfl dX4_save_37 (fun H locs hP hD hS => ?_)
  have hP : va_P Γ.1 vwCl (wcat [mnC q an ap qs ac au ax (nI 6), svB Γ qs (gR [(g1 0), (g2 0), (g3 0), (g4 0), (g5 0), (g5 0)]), plB Γ g0 w0, plB Γ g1 w1, plB Γ g2 w2, plB Γ g3 w3, plB Γ g4 w4, plB Γ g5 w5, plB Γ an v]) H := hP
  have hD : va_D A (wcat [mnC q an ap qs ac au ax (nI 6), svB Γ qs (gR [(g1 0), (g2 0), (g3 0), (g4 0), (g5 0), (g5 0)]), plB Γ g0 w0, plB Γ g1 w1, plB Γ g2 w2, plB Γ g3 w3, plB Γ g4 w4, plB Γ g5 w5, plB Γ an v]) := hD
  refine lv_iinc (v := (nI 6)) (lv' := [(2, .int (nI 6)), (1, .ref (g0 0)), (0, .ref q)]) hx hb dX4_save_38 hl (k := 0) rfl (by decide) (by decide) rfl (fun ls hl => ?_)
  refine lv_goto (tgt := 18) hx hb dX4_save_41 (by decide) ?_
  refine lv_iload_n hx hb dX4_save_18 rfl (lv_at hl 0 rfl) ?_
  refine lv_bipush (v := (nI 6)) hx hb dX4_save_19 (by decide) ?_
  refine lv_icmp_ge (tgt := 44) hx hb dX4_save_21 (by decide) (fun c_21 => ?_) (fun c_21 => absurd c_21 (by decide))
  refine lv_aload_n hx hb dX4_save_44 rfl (lv_at hl 2 rfl) ?_
  refine va_get (D := Γ.1) (ci := 4) (v := .ref qs) (C := RX4) (T := TX4) (N := 7) hx hb hts hi4 hown hK hP 0 rfl rfl 2 (by decide) kf19 (fun _ h9 => h9) rfl dX4_save_45 ?_
  refine lv_iconst (v := (nI 5)) hx hb dX4_save_48 (by decide) ?_
  refine lv_aload_n hx hb dX4_save_49 rfl (lv_at hl 1 rfl) ?_
  refine ast_ (l2 := [(g1 0), (g2 0), (g3 0), (g4 0), (g5 0), (g0 0)]) hx hb hK hP hD hS 1 2 rfl rfl rfl (by decide) (Nat.le_of_ble_eq_true rfl) rfl dX4_save_50 (fun H locs hP hD hS => ?_)
  have hP : va_P Γ.1 vwCl (wcat [mnC q an ap qs ac au ax (nI 6), svB Γ qs (gR [(g1 0), (g2 0), (g3 0), (g4 0), (g5 0), (g0 0)]), plB Γ g0 w0, plB Γ g1 w1, plB Γ g2 w2, plB Γ g3 w3, plB Γ g4 w4, plB Γ g5 w5, plB Γ an v]) H := hP
  have hD : va_D A (wcat [mnC q an ap qs ac au ax (nI 6), svB Γ qs (gR [(g1 0), (g2 0), (g3 0), (g4 0), (g5 0), (g0 0)]), plB Γ g0 w0, plB Γ g1 w1, plB Γ g2 w2, plB Γ g3 w3, plB Γ g4 w4, plB Γ g5 w5, plB Γ an v]) := hD
  refine lv_aload_n hx hb dX4_save_51 rfl (lv_at hl 2 rfl) ?_
  refine lv_iconst (v := (nI 5)) hx hb dX4_save_52 (by decide) ?_
  refine va_put (D := Γ.1) (ci := 4) (v := .int (nI 5)) (ty := .int) (C := RX4) (T := TX4) (N := 7) hx hb hts hi4 tyX4 tyX4_ok nmX4 hown hK hP hD hS 0 rfl rfl 3 (by decide) kf23 (fun _ h9 => h9) rfl (by decide +kernel) rfl rfl (Nat.le_of_ble_eq_true rfl) dX4_save_53 (fun H locs hP hD hS => ?_)
  have hP : va_P Γ.1 vwCl (wcat [mnC q an ap qs ac au ax (nI 5), svB Γ qs (gR [(g1 0), (g2 0), (g3 0), (g4 0), (g5 0), (g0 0)]), plB Γ g0 w0, plB Γ g1 w1, plB Γ g2 w2, plB Γ g3 w3, plB Γ g4 w4, plB Γ g5 w5, plB Γ an v]) H := hP
  have hD : va_D A (wcat [mnC q an ap qs ac au ax (nI 5), svB Γ qs (gR [(g1 0), (g2 0), (g3 0), (g4 0), (g5 0), (g0 0)]), plB Γ g0 w0, plB Γ g1 w1, plB Γ g2 w2, plB Γ g3 w3, plB Γ g4 w4, plB Γ g5 w5, plB Γ an v]) := hD
  refine lv_aload_n hx hb dX4_save_56 rfl (lv_at hl 2 rfl) ?_
  refine va_get (D := Γ.1) (ci := 4) (v := .ref qs) (C := RX4) (T := TX4) (N := 7) hx hb hts hi4 hown hK hP 0 rfl rfl 2 (by decide) kf19 (fun _ h9 => h9) rfl dX4_save_57 ?_
  refine lv_aload_n hx hb dX4_save_60 rfl (lv_at hl 2 rfl) ?_
  refine va_get (D := Γ.1) (ci := 4) (v := .int (nI 5)) (C := RX4) (T := TX4) (N := 7) hx hb hts hi4 hown hK hP 0 rfl rfl 3 (by decide) kf23 (fun _ h9 => h9) rfl dX4_save_61 ?_
  refine ald (x := (g0 0)) hx hb hK hP 1 rfl rfl (by decide) rfl dX4_save_64 ?_
  refine lv_aload_n hx hb dX4_save_65 rfl (lv_at hl 2 rfl) ?_
  refine va_get (D := Γ.1) (ci := 4) (v := .ref (an 0)) (C := RX4) (T := TX4) (N := 7) hx hb hts hi4 hown hK hP 0 rfl rfl 0 (by decide) kf10 (fun _ h9 => h9) rfl dX4_save_66 ?_
  refine cMV (bc' := [plB Γ g0 v, plB Γ an v]) (va_runV (As := [.ref (an 0)]) (rest := []) ⟨hx, hb, hml, hown, hts⟩ ((ncpF l Γ g0 an w0 v) _) (cwV 1 hts gX4_save_X2_copyFrom rfl rfl rfl (by decide +kernel) ⟨Nat.le_of_ble_eq_true rfl, Nat.le_of_ble_eq_true rfl⟩) ⟨wPre_blind, va_recv hK hP (ci := 2) (q0 := 2) rfl rfl, wPre_mk hP hD hK hS hA hAB hAm [2, 8] rfl rfl⟩ rfl rfl hl.1 rfl (lv_room (Nat.le_of_ble_eq_true rfl)) dX4_save_69 ⟨Nat.zero_le _, Nat.zero_le _⟩) hP hD hS hA [2, 8] rfl rfl (bs' := [mnC q an ap qs ac au ax (nI 5), svB Γ qs (gR [(g1 0), (g2 0), (g3 0), (g4 0), (g5 0), (g0 0)]), plB Γ g0 v, plB Γ g1 w1, plB Γ g2 w2, plB Γ g3 w3, plB Γ g4 w4, plB Γ g5 w5, plB Γ an v]) rfl (fun H locs hP hD hS => ?_)
  refine lv_aload_n hx hb dX4_save_72 rfl (lv_at hl 2 rfl) ?_
  refine lv_dup hx hb dX4_save_73 rfl ?_
  refine va_get (D := Γ.1) (ci := 4) (v := .int (nI 5)) (C := RX4) (T := TX4) (N := 7) hx hb hts hi4 hown hK hP 0 rfl rfl 3 (by decide) kf23 (fun _ h9 => h9) rfl dX4_save_74 ?_
  refine lv_iconst (v := (nI 1)) hx hb dX4_save_77 (by decide) ?_
  refine lv_iadd hx hb dX4_save_78 ?_
  refine lv_eqi (y := (nI 6)) (by decide) ?_
  refine va_put (D := Γ.1) (ci := 4) (v := .int (nI 6)) (ty := .int) (C := RX4) (T := TX4) (N := 7) hx hb hts hi4 tyX4 tyX4_ok nmX4 hown hK hP hD hS 0 rfl rfl 3 (by decide) kf23 (fun _ h9 => h9) rfl (by decide +kernel) rfl rfl (Nat.le_of_ble_eq_true rfl) dX4_save_79 (fun H locs hP hD hS => ?_)
  have hP : va_P Γ.1 vwCl (wcat [mnC q an ap qs ac au ax (nI 6), svB Γ qs (gR [(g1 0), (g2 0), (g3 0), (g4 0), (g5 0), (g0 0)]), plB Γ g0 v, plB Γ g1 w1, plB Γ g2 w2, plB Γ g3 w3, plB Γ g4 w4, plB Γ g5 w5, plB Γ an v]) H := hP
  have hD : va_D A (wcat [mnC q an ap qs ac au ax (nI 6), svB Γ qs (gR [(g1 0), (g2 0), (g3 0), (g4 0), (g5 0), (g0 0)]), plB Γ g0 v, plB Γ g1 w1, plB Γ g2 w2, plB Γ g3 w3, plB Γ g4 w4, plB Γ g5 w5, plB Γ an v]) := hD
  exact W.vret hx hb hr (fun t ht hW => eMV hP hS ht) hS.2.2 dX4_save_82
set_option maxHeartbeats 4000000 in
set_option maxRecDepth 100000 in
theorem kX4_undo_1 (l : Launch) (Γ : wG) (q : Nat) (an : Nat → Nat) (ap : Nat → Nat) (qs : Nat) (ac : Nat → Nat) (au : Nat → Nat) (ax : Nat → Nat) (g0 : Nat → Nat) (g1 : Nat → Nat) (g2 : Nat → Nat) (g3 : Nat → Nat) (g4 : Nat → Nat) (g5 : Nat → Nat) (w0 : (Nat → Nat → Int32)) (w1 : (Nat → Nat → Int32)) (w2 : (Nat → Nat → Int32)) (w3 : (Nat → Nat → Int32)) (w4 : (Nat → Nat → Int32)) (w5 : (Nat → Nat → Int32)) (v : (Nat → Nat → Int32)) (ck : (Nat → Int32)) : MI l Γ yX4_undo wsX4_undo ({ frames := 2, cells := 0, slots := 0, locals := 50 }) [.ref q] [mnC q an ap qs ac au ax (nI 1), svB Γ qs (gR [(g0 0), (g1 0), (g2 0), (g3 0), (g4 0), (g5 0)]), plB Γ g0 w0, plB Γ g1 w1, plB Γ g2 w2, plB Γ g3 w3, plB Γ g4 w4, plB Γ g5 w5, plB Γ an v, cuB Γ ac ck] [mnC q an ap qs ac au ax (nI 0), svB Γ qs (gR [(g0 0), (g1 0), (g2 0), (g3 0), (g4 0), (g5 0)]), plB Γ g0 w0, plB Γ g1 w1, plB Γ g2 w2, plB Γ g3 w3, plB Γ g4 w4, plB Γ g5 w5, plB Γ an w0, cuB Γ ac (fX0_reckon ck w0)] (nI 0) := by
  intro sz
  refine Met.ofW (cc := cX4_undo) (maxL := 1) (ret := (some .int)) (by decide) rfl ?_
  intro p e s m args below meth c s₁ B hml hv
  obtain ⟨rfl, hsz, hP, hK, hD0, hAm⟩ := hv
  have hx := B.exec
  have hb := B.bytes
  have hr := B.returns
  have hts := atoms_spec (ws := wsX4_undo) B.pre
  have hown : s.vm.findClass RX4 = some m.cls := findClass_of_methodNamed B.named
  have hlocks := B.notSynchronized
  subst hsz
  have hD := hD0.self (sz := s.heap.size)
  generalize hAe : va_A (wcat [mnC q an ap qs ac au ax (nI 1), svB Γ qs (gR [(g0 0), (g1 0), (g2 0), (g3 0), (g4 0), (g5 0)]), plB Γ g0 w0, plB Γ g1 w1, plB Γ g2 w2, plB Γ g3 w3, plB Γ g4 w4, plB Γ g5 w5, plB Γ an v, cuB Γ ac ck]) s.heap.size = A at hD hAm ⊢
  have hA : ∀ q : Nat, s.heap.size ≤ q → A q := fun q h => by rw [← hAe]; exact Or.inr h
  have hAB : ∀ q : Nat, A q → A q := fun _ h => h
  have hS : va_S A s.heap s.heap [] := va_S.rf
  have hl := lv_entry ([.ref q]) (n := 1) (Nat.le_of_ble_eq_true rfl)
  rw [lg_entry_eq]
  generalize (lg_sl ([.ref q]) ++ List.replicate (1 - (lg_sl ([.ref q])).length) Slot.unset).toArray = ls at hl ⊢
  have hl : lv_has ls 1 [(0, .ref q)] := hl
  have hi4 : ∀ w ∈ wsX40, w ∈ wsX4_undo := by decide +kernel
  have kf10 := hts (.fieldLink RX4 10 "CapsuleKeepers" "now" "LCapsuleKeepers$Place;") (by decide +kernel)
  have kf19 := hts (.fieldLink RX4 19 "CapsuleKeepers" "saved" "[LCapsuleKeepers$Place;") (by decide +kernel)
  have kf23 := hts (.fieldLink RX4 23 "CapsuleKeepers" "savedCount" "I") (by decide +kernel)
  have kf30 := hts (.fieldLink RX4 30 "CapsuleKeepers" "curves" "LCapsuleKeepers$Curves;") (by decide +kernel)
  refine lv_aload_n hx hb dX4_undo_0 rfl (lv_at hl 0 rfl) ?_
  refine va_get (D := Γ.1) (ci := 4) (v := .int (nI 1)) (C := RX4) (T := TX4) (N := 7) hx hb hts hi4 hown hK hP 0 rfl rfl 3 (by decide) kf23 (fun _ h9 => h9) rfl dX4_undo_1 ?_
  refine lv_iconst (v := (nI 1)) hx hb dX4_undo_4 (by decide) ?_
  refine lv_icmp_lt (tgt := 17) hx hb dX4_undo_5 (by decide) (fun c_5 => absurd c_5 (by decide)) (fun c_5 => ?_)
  refine lv_aload_n hx hb dX4_undo_8 rfl (lv_at hl 0 rfl) ?_
  refine va_get (D := Γ.1) (ci := 4) (v := .int (nI 1)) (C := RX4) (T := TX4) (N := 7) hx hb hts hi4 hown hK hP 0 rfl rfl 3 (by decide) kf23 (fun _ h9 => h9) rfl dX4_undo_9 ?_
  refine lv_bipush (v := (nI 6)) hx hb dX4_undo_12 (by decide) ?_
  refine lv_icmp_le (tgt := 27) hx hb dX4_undo_14 (by decide) (fun c_14 => ?_) (fun c_14 => absurd c_14 (by decide))
  refine lv_aload_n hx hb dX4_undo_27 rfl (lv_at hl 0 rfl) ?_
  refine lv_dup hx hb dX4_undo_28 rfl ?_
  refine va_get (D := Γ.1) (ci := 4) (v := .int (nI 1)) (C := RX4) (T := TX4) (N := 7) hx hb hts hi4 hown hK hP 0 rfl rfl 3 (by decide) kf23 (fun _ h9 => h9) rfl dX4_undo_29 ?_
  refine lv_iconst (v := (nI 1)) hx hb dX4_undo_32 (by decide) ?_
  refine lv_isub hx hb dX4_undo_33 ?_
  refine lv_eqi (y := (nI 0)) (by decide) ?_
  refine va_put (D := Γ.1) (ci := 4) (v := .int (nI 0)) (ty := .int) (C := RX4) (T := TX4) (N := 7) hx hb hts hi4 tyX4 tyX4_ok nmX4 hown hK hP hD hS 0 rfl rfl 3 (by decide) kf23 (fun _ h9 => h9) rfl (by decide +kernel) rfl rfl (Nat.le_of_ble_eq_true rfl) dX4_undo_34 (fun H locs hP hD hS => ?_)
  have hP : va_P Γ.1 vwCl (wcat [mnC q an ap qs ac au ax (nI 0), svB Γ qs (gR [(g0 0), (g1 0), (g2 0), (g3 0), (g4 0), (g5 0)]), plB Γ g0 w0, plB Γ g1 w1, plB Γ g2 w2, plB Γ g3 w3, plB Γ g4 w4, plB Γ g5 w5, plB Γ an v, cuB Γ ac ck]) H := hP
  have hD : va_D A (wcat [mnC q an ap qs ac au ax (nI 0), svB Γ qs (gR [(g0 0), (g1 0), (g2 0), (g3 0), (g4 0), (g5 0)]), plB Γ g0 w0, plB Γ g1 w1, plB Γ g2 w2, plB Γ g3 w3, plB Γ g4 w4, plB Γ g5 w5, plB Γ an v, cuB Γ ac ck]) := hD
  refine lv_aload_n hx hb dX4_undo_37 rfl (lv_at hl 0 rfl) ?_
  refine va_get (D := Γ.1) (ci := 4) (v := .ref (an 0)) (C := RX4) (T := TX4) (N := 7) hx hb hts hi4 hown hK hP 0 rfl rfl 0 (by decide) kf10 (fun _ h9 => h9) rfl dX4_undo_38 ?_
  refine lv_aload_n hx hb dX4_undo_41 rfl (lv_at hl 0 rfl) ?_
  refine va_get (D := Γ.1) (ci := 4) (v := .ref qs) (C := RX4) (T := TX4) (N := 7) hx hb hts hi4 hown hK hP 0 rfl rfl 2 (by decide) kf19 (fun _ h9 => h9) rfl dX4_undo_42 ?_
  refine lv_aload_n hx hb dX4_undo_45 rfl (lv_at hl 0 rfl) ?_
  refine va_get (D := Γ.1) (ci := 4) (v := .int (nI 0)) (C := RX4) (T := TX4) (N := 7) hx hb hts hi4 hown hK hP 0 rfl rfl 3 (by decide) kf23 (fun _ h9 => h9) rfl dX4_undo_46 ?_
  refine ald (x := (g0 0)) hx hb hK hP 1 rfl rfl (by decide) rfl dX4_undo_49 ?_
  refine cMV (bc' := [plB Γ an w0, plB Γ g0 w0]) (va_runV (As := [.ref (g0 0)]) (rest := []) ⟨hx, hb, hml, hown, hts⟩ ((ncpF l Γ an g0 v w0) _) (cwV 1 hts gX4_undo_X2_copyFrom rfl rfl rfl (by decide +kernel) ⟨Nat.le_of_ble_eq_true rfl, Nat.le_of_ble_eq_true rfl⟩) ⟨wPre_blind, va_recv hK hP (ci := 2) (q0 := 38) rfl rfl, wPre_mk hP hD hK hS hA hAB hAm [8, 2] rfl rfl⟩ rfl rfl hl.1 rfl (lv_room (Nat.le_of_ble_eq_true rfl)) dX4_undo_50 ⟨Nat.zero_le _, Nat.zero_le _⟩) hP hD hS hA [8, 2] rfl rfl (bs' := [mnC q an ap qs ac au ax (nI 0), svB Γ qs (gR [(g0 0), (g1 0), (g2 0), (g3 0), (g4 0), (g5 0)]), plB Γ g0 w0, plB Γ g1 w1, plB Γ g2 w2, plB Γ g3 w3, plB Γ g4 w4, plB Γ g5 w5, plB Γ an w0, cuB Γ ac ck]) rfl (fun H locs hP hD hS => ?_)
  refine lv_aload_n hx hb dX4_undo_53 rfl (lv_at hl 0 rfl) ?_
  refine va_get (D := Γ.1) (ci := 4) (v := .ref (ac 0)) (C := RX4) (T := TX4) (N := 7) hx hb hts hi4 hown hK hP 0 rfl rfl 4 (by decide) kf30 (fun _ h9 => h9) rfl dX4_undo_54 ?_
  refine lv_aload_n hx hb dX4_undo_57 rfl (lv_at hl 0 rfl) ?_
  refine va_get (D := Γ.1) (ci := 4) (v := .ref (an 0)) (C := RX4) (T := TX4) (N := 7) hx hb hts hi4 hown hK hP 0 rfl rfl 0 (by decide) kf10 (fun _ h9 => h9) rfl dX4_undo_58 ?_
  refine cMV (bc' := [cuB Γ ac (fX0_reckon ck w0), plB Γ an w0]) (va_runV (As := [.ref (an 0)]) (rest := []) ⟨hx, hb, hml, hown, hts⟩ ((kX0_reckon l Γ ac an ck w0) _) (cwV 1 hts gX4_undo_X0_reckon rfl rfl rfl (by decide +kernel) ⟨Nat.le_of_ble_eq_true rfl, Nat.le_of_ble_eq_true rfl⟩) ⟨wPre_blind, va_recv hK hP (ci := 0) (q0 := 44) rfl rfl, wPre_mk hP hD hK hS hA hAB hAm [9, 8] rfl rfl⟩ rfl rfl hl.1 rfl (lv_room (Nat.le_of_ble_eq_true rfl)) dX4_undo_61 ⟨Nat.zero_le _, Nat.zero_le _⟩) hP hD hS hA [9, 8] rfl rfl (bs' := [mnC q an ap qs ac au ax (nI 0), svB Γ qs (gR [(g0 0), (g1 0), (g2 0), (g3 0), (g4 0), (g5 0)]), plB Γ g0 w0, plB Γ g1 w1, plB Γ g2 w2, plB Γ g3 w3, plB Γ g4 w4, plB Γ g5 w5, plB Γ an w0, cuB Γ ac (fX0_reckon ck w0)]) rfl (fun H locs hP hD hS => ?_)
  refine lv_aload_n hx hb dX4_undo_64 rfl (lv_at hl 0 rfl) ?_
  refine va_get (D := Γ.1) (ci := 4) (v := .int (nI 0)) (C := RX4) (T := TX4) (N := 7) hx hb hts hi4 hown hK hP 0 rfl rfl 3 (by decide) kf23 (fun _ h9 => h9) rfl dX4_undo_65 ?_
  exact W.iret (v := (nI 0)) hx hb hr (fun t ht hW => eMI hP hS ht rfl) hS.2.2 dX4_undo_68
set_option maxHeartbeats 4000000 in
set_option maxRecDepth 100000 in
theorem kX4_undo_2 (l : Launch) (Γ : wG) (q : Nat) (an : Nat → Nat) (ap : Nat → Nat) (qs : Nat) (ac : Nat → Nat) (au : Nat → Nat) (ax : Nat → Nat) (g0 : Nat → Nat) (g1 : Nat → Nat) (g2 : Nat → Nat) (g3 : Nat → Nat) (g4 : Nat → Nat) (g5 : Nat → Nat) (w0 : (Nat → Nat → Int32)) (w1 : (Nat → Nat → Int32)) (w2 : (Nat → Nat → Int32)) (w3 : (Nat → Nat → Int32)) (w4 : (Nat → Nat → Int32)) (w5 : (Nat → Nat → Int32)) (v : (Nat → Nat → Int32)) (ck : (Nat → Int32)) : MI l Γ yX4_undo wsX4_undo ({ frames := 2, cells := 0, slots := 0, locals := 50 }) [.ref q] [mnC q an ap qs ac au ax (nI 2), svB Γ qs (gR [(g0 0), (g1 0), (g2 0), (g3 0), (g4 0), (g5 0)]), plB Γ g0 w0, plB Γ g1 w1, plB Γ g2 w2, plB Γ g3 w3, plB Γ g4 w4, plB Γ g5 w5, plB Γ an v, cuB Γ ac ck] [mnC q an ap qs ac au ax (nI 1), svB Γ qs (gR [(g0 0), (g1 0), (g2 0), (g3 0), (g4 0), (g5 0)]), plB Γ g0 w0, plB Γ g1 w1, plB Γ g2 w2, plB Γ g3 w3, plB Γ g4 w4, plB Γ g5 w5, plB Γ an w1, cuB Γ ac (fX0_reckon ck w1)] (nI 1) := by
  intro sz
  refine Met.ofW (cc := cX4_undo) (maxL := 1) (ret := (some .int)) (by decide) rfl ?_
  intro p e s m args below meth c s₁ B hml hv
  obtain ⟨rfl, hsz, hP, hK, hD0, hAm⟩ := hv
  have hx := B.exec
  have hb := B.bytes
  have hr := B.returns
  have hts := atoms_spec (ws := wsX4_undo) B.pre
  have hown : s.vm.findClass RX4 = some m.cls := findClass_of_methodNamed B.named
  have hlocks := B.notSynchronized
  subst hsz
  have hD := hD0.self (sz := s.heap.size)
  generalize hAe : va_A (wcat [mnC q an ap qs ac au ax (nI 2), svB Γ qs (gR [(g0 0), (g1 0), (g2 0), (g3 0), (g4 0), (g5 0)]), plB Γ g0 w0, plB Γ g1 w1, plB Γ g2 w2, plB Γ g3 w3, plB Γ g4 w4, plB Γ g5 w5, plB Γ an v, cuB Γ ac ck]) s.heap.size = A at hD hAm ⊢
  have hA : ∀ q : Nat, s.heap.size ≤ q → A q := fun q h => by rw [← hAe]; exact Or.inr h
  have hAB : ∀ q : Nat, A q → A q := fun _ h => h
  have hS : va_S A s.heap s.heap [] := va_S.rf
  have hl := lv_entry ([.ref q]) (n := 1) (Nat.le_of_ble_eq_true rfl)
  rw [lg_entry_eq]
  generalize (lg_sl ([.ref q]) ++ List.replicate (1 - (lg_sl ([.ref q])).length) Slot.unset).toArray = ls at hl ⊢
  have hl : lv_has ls 1 [(0, .ref q)] := hl
  have hi4 : ∀ w ∈ wsX40, w ∈ wsX4_undo := by decide +kernel
  have kf10 := hts (.fieldLink RX4 10 "CapsuleKeepers" "now" "LCapsuleKeepers$Place;") (by decide +kernel)
  have kf19 := hts (.fieldLink RX4 19 "CapsuleKeepers" "saved" "[LCapsuleKeepers$Place;") (by decide +kernel)
  have kf23 := hts (.fieldLink RX4 23 "CapsuleKeepers" "savedCount" "I") (by decide +kernel)
  have kf30 := hts (.fieldLink RX4 30 "CapsuleKeepers" "curves" "LCapsuleKeepers$Curves;") (by decide +kernel)
  refine lv_aload_n hx hb dX4_undo_0 rfl (lv_at hl 0 rfl) ?_
  refine va_get (D := Γ.1) (ci := 4) (v := .int (nI 2)) (C := RX4) (T := TX4) (N := 7) hx hb hts hi4 hown hK hP 0 rfl rfl 3 (by decide) kf23 (fun _ h9 => h9) rfl dX4_undo_1 ?_
  refine lv_iconst (v := (nI 1)) hx hb dX4_undo_4 (by decide) ?_
  refine lv_icmp_lt (tgt := 17) hx hb dX4_undo_5 (by decide) (fun c_5 => absurd c_5 (by decide)) (fun c_5 => ?_)
  refine lv_aload_n hx hb dX4_undo_8 rfl (lv_at hl 0 rfl) ?_
  refine va_get (D := Γ.1) (ci := 4) (v := .int (nI 2)) (C := RX4) (T := TX4) (N := 7) hx hb hts hi4 hown hK hP 0 rfl rfl 3 (by decide) kf23 (fun _ h9 => h9) rfl dX4_undo_9 ?_
  refine lv_bipush (v := (nI 6)) hx hb dX4_undo_12 (by decide) ?_
  refine lv_icmp_le (tgt := 27) hx hb dX4_undo_14 (by decide) (fun c_14 => ?_) (fun c_14 => absurd c_14 (by decide))
  refine lv_aload_n hx hb dX4_undo_27 rfl (lv_at hl 0 rfl) ?_
  refine lv_dup hx hb dX4_undo_28 rfl ?_
  refine va_get (D := Γ.1) (ci := 4) (v := .int (nI 2)) (C := RX4) (T := TX4) (N := 7) hx hb hts hi4 hown hK hP 0 rfl rfl 3 (by decide) kf23 (fun _ h9 => h9) rfl dX4_undo_29 ?_
  refine lv_iconst (v := (nI 1)) hx hb dX4_undo_32 (by decide) ?_
  refine lv_isub hx hb dX4_undo_33 ?_
  refine lv_eqi (y := (nI 1)) (by decide) ?_
  refine va_put (D := Γ.1) (ci := 4) (v := .int (nI 1)) (ty := .int) (C := RX4) (T := TX4) (N := 7) hx hb hts hi4 tyX4 tyX4_ok nmX4 hown hK hP hD hS 0 rfl rfl 3 (by decide) kf23 (fun _ h9 => h9) rfl (by decide +kernel) rfl rfl (Nat.le_of_ble_eq_true rfl) dX4_undo_34 (fun H locs hP hD hS => ?_)
  have hP : va_P Γ.1 vwCl (wcat [mnC q an ap qs ac au ax (nI 1), svB Γ qs (gR [(g0 0), (g1 0), (g2 0), (g3 0), (g4 0), (g5 0)]), plB Γ g0 w0, plB Γ g1 w1, plB Γ g2 w2, plB Γ g3 w3, plB Γ g4 w4, plB Γ g5 w5, plB Γ an v, cuB Γ ac ck]) H := hP
  have hD : va_D A (wcat [mnC q an ap qs ac au ax (nI 1), svB Γ qs (gR [(g0 0), (g1 0), (g2 0), (g3 0), (g4 0), (g5 0)]), plB Γ g0 w0, plB Γ g1 w1, plB Γ g2 w2, plB Γ g3 w3, plB Γ g4 w4, plB Γ g5 w5, plB Γ an v, cuB Γ ac ck]) := hD
  refine lv_aload_n hx hb dX4_undo_37 rfl (lv_at hl 0 rfl) ?_
  refine va_get (D := Γ.1) (ci := 4) (v := .ref (an 0)) (C := RX4) (T := TX4) (N := 7) hx hb hts hi4 hown hK hP 0 rfl rfl 0 (by decide) kf10 (fun _ h9 => h9) rfl dX4_undo_38 ?_
  refine lv_aload_n hx hb dX4_undo_41 rfl (lv_at hl 0 rfl) ?_
  refine va_get (D := Γ.1) (ci := 4) (v := .ref qs) (C := RX4) (T := TX4) (N := 7) hx hb hts hi4 hown hK hP 0 rfl rfl 2 (by decide) kf19 (fun _ h9 => h9) rfl dX4_undo_42 ?_
  refine lv_aload_n hx hb dX4_undo_45 rfl (lv_at hl 0 rfl) ?_
  refine va_get (D := Γ.1) (ci := 4) (v := .int (nI 1)) (C := RX4) (T := TX4) (N := 7) hx hb hts hi4 hown hK hP 0 rfl rfl 3 (by decide) kf23 (fun _ h9 => h9) rfl dX4_undo_46 ?_
  refine ald (x := (g1 0)) hx hb hK hP 1 rfl rfl (by decide) rfl dX4_undo_49 ?_
  refine cMV (bc' := [plB Γ an w1, plB Γ g1 w1]) (va_runV (As := [.ref (g1 0)]) (rest := []) ⟨hx, hb, hml, hown, hts⟩ ((ncpF l Γ an g1 v w1) _) (cwV 1 hts gX4_undo_X2_copyFrom rfl rfl rfl (by decide +kernel) ⟨Nat.le_of_ble_eq_true rfl, Nat.le_of_ble_eq_true rfl⟩) ⟨wPre_blind, va_recv hK hP (ci := 2) (q0 := 38) rfl rfl, wPre_mk hP hD hK hS hA hAB hAm [8, 3] rfl rfl⟩ rfl rfl hl.1 rfl (lv_room (Nat.le_of_ble_eq_true rfl)) dX4_undo_50 ⟨Nat.zero_le _, Nat.zero_le _⟩) hP hD hS hA [8, 3] rfl rfl (bs' := [mnC q an ap qs ac au ax (nI 1), svB Γ qs (gR [(g0 0), (g1 0), (g2 0), (g3 0), (g4 0), (g5 0)]), plB Γ g0 w0, plB Γ g1 w1, plB Γ g2 w2, plB Γ g3 w3, plB Γ g4 w4, plB Γ g5 w5, plB Γ an w1, cuB Γ ac ck]) rfl (fun H locs hP hD hS => ?_)
  refine lv_aload_n hx hb dX4_undo_53 rfl (lv_at hl 0 rfl) ?_
  refine va_get (D := Γ.1) (ci := 4) (v := .ref (ac 0)) (C := RX4) (T := TX4) (N := 7) hx hb hts hi4 hown hK hP 0 rfl rfl 4 (by decide) kf30 (fun _ h9 => h9) rfl dX4_undo_54 ?_
  refine lv_aload_n hx hb dX4_undo_57 rfl (lv_at hl 0 rfl) ?_
  refine va_get (D := Γ.1) (ci := 4) (v := .ref (an 0)) (C := RX4) (T := TX4) (N := 7) hx hb hts hi4 hown hK hP 0 rfl rfl 0 (by decide) kf10 (fun _ h9 => h9) rfl dX4_undo_58 ?_
  refine cMV (bc' := [cuB Γ ac (fX0_reckon ck w1), plB Γ an w1]) (va_runV (As := [.ref (an 0)]) (rest := []) ⟨hx, hb, hml, hown, hts⟩ ((kX0_reckon l Γ ac an ck w1) _) (cwV 1 hts gX4_undo_X0_reckon rfl rfl rfl (by decide +kernel) ⟨Nat.le_of_ble_eq_true rfl, Nat.le_of_ble_eq_true rfl⟩) ⟨wPre_blind, va_recv hK hP (ci := 0) (q0 := 44) rfl rfl, wPre_mk hP hD hK hS hA hAB hAm [9, 8] rfl rfl⟩ rfl rfl hl.1 rfl (lv_room (Nat.le_of_ble_eq_true rfl)) dX4_undo_61 ⟨Nat.zero_le _, Nat.zero_le _⟩) hP hD hS hA [9, 8] rfl rfl (bs' := [mnC q an ap qs ac au ax (nI 1), svB Γ qs (gR [(g0 0), (g1 0), (g2 0), (g3 0), (g4 0), (g5 0)]), plB Γ g0 w0, plB Γ g1 w1, plB Γ g2 w2, plB Γ g3 w3, plB Γ g4 w4, plB Γ g5 w5, plB Γ an w1, cuB Γ ac (fX0_reckon ck w1)]) rfl (fun H locs hP hD hS => ?_)
  refine lv_aload_n hx hb dX4_undo_64 rfl (lv_at hl 0 rfl) ?_
  refine va_get (D := Γ.1) (ci := 4) (v := .int (nI 1)) (C := RX4) (T := TX4) (N := 7) hx hb hts hi4 hown hK hP 0 rfl rfl 3 (by decide) kf23 (fun _ h9 => h9) rfl dX4_undo_65 ?_
  exact W.iret (v := (nI 1)) hx hb hr (fun t ht hW => eMI hP hS ht rfl) hS.2.2 dX4_undo_68
set_option maxHeartbeats 4000000 in
set_option maxRecDepth 100000 in
theorem kX4_undo_3 (l : Launch) (Γ : wG) (q : Nat) (an : Nat → Nat) (ap : Nat → Nat) (qs : Nat) (ac : Nat → Nat) (au : Nat → Nat) (ax : Nat → Nat) (g0 : Nat → Nat) (g1 : Nat → Nat) (g2 : Nat → Nat) (g3 : Nat → Nat) (g4 : Nat → Nat) (g5 : Nat → Nat) (w0 : (Nat → Nat → Int32)) (w1 : (Nat → Nat → Int32)) (w2 : (Nat → Nat → Int32)) (w3 : (Nat → Nat → Int32)) (w4 : (Nat → Nat → Int32)) (w5 : (Nat → Nat → Int32)) (v : (Nat → Nat → Int32)) (ck : (Nat → Int32)) : MI l Γ yX4_undo wsX4_undo ({ frames := 2, cells := 0, slots := 0, locals := 50 }) [.ref q] [mnC q an ap qs ac au ax (nI 3), svB Γ qs (gR [(g0 0), (g1 0), (g2 0), (g3 0), (g4 0), (g5 0)]), plB Γ g0 w0, plB Γ g1 w1, plB Γ g2 w2, plB Γ g3 w3, plB Γ g4 w4, plB Γ g5 w5, plB Γ an v, cuB Γ ac ck] [mnC q an ap qs ac au ax (nI 2), svB Γ qs (gR [(g0 0), (g1 0), (g2 0), (g3 0), (g4 0), (g5 0)]), plB Γ g0 w0, plB Γ g1 w1, plB Γ g2 w2, plB Γ g3 w3, plB Γ g4 w4, plB Γ g5 w5, plB Γ an w2, cuB Γ ac (fX0_reckon ck w2)] (nI 2) := by
  intro sz
  refine Met.ofW (cc := cX4_undo) (maxL := 1) (ret := (some .int)) (by decide) rfl ?_
  intro p e s m args below meth c s₁ B hml hv
  obtain ⟨rfl, hsz, hP, hK, hD0, hAm⟩ := hv
  have hx := B.exec
  have hb := B.bytes
  have hr := B.returns
  have hts := atoms_spec (ws := wsX4_undo) B.pre
  have hown : s.vm.findClass RX4 = some m.cls := findClass_of_methodNamed B.named
  have hlocks := B.notSynchronized
  subst hsz
  have hD := hD0.self (sz := s.heap.size)
  generalize hAe : va_A (wcat [mnC q an ap qs ac au ax (nI 3), svB Γ qs (gR [(g0 0), (g1 0), (g2 0), (g3 0), (g4 0), (g5 0)]), plB Γ g0 w0, plB Γ g1 w1, plB Γ g2 w2, plB Γ g3 w3, plB Γ g4 w4, plB Γ g5 w5, plB Γ an v, cuB Γ ac ck]) s.heap.size = A at hD hAm ⊢
  have hA : ∀ q : Nat, s.heap.size ≤ q → A q := fun q h => by rw [← hAe]; exact Or.inr h
  have hAB : ∀ q : Nat, A q → A q := fun _ h => h
  have hS : va_S A s.heap s.heap [] := va_S.rf
  have hl := lv_entry ([.ref q]) (n := 1) (Nat.le_of_ble_eq_true rfl)
  rw [lg_entry_eq]
  generalize (lg_sl ([.ref q]) ++ List.replicate (1 - (lg_sl ([.ref q])).length) Slot.unset).toArray = ls at hl ⊢
  have hl : lv_has ls 1 [(0, .ref q)] := hl
  have hi4 : ∀ w ∈ wsX40, w ∈ wsX4_undo := by decide +kernel
  have kf10 := hts (.fieldLink RX4 10 "CapsuleKeepers" "now" "LCapsuleKeepers$Place;") (by decide +kernel)
  have kf19 := hts (.fieldLink RX4 19 "CapsuleKeepers" "saved" "[LCapsuleKeepers$Place;") (by decide +kernel)
  have kf23 := hts (.fieldLink RX4 23 "CapsuleKeepers" "savedCount" "I") (by decide +kernel)
  have kf30 := hts (.fieldLink RX4 30 "CapsuleKeepers" "curves" "LCapsuleKeepers$Curves;") (by decide +kernel)
  refine lv_aload_n hx hb dX4_undo_0 rfl (lv_at hl 0 rfl) ?_
  refine va_get (D := Γ.1) (ci := 4) (v := .int (nI 3)) (C := RX4) (T := TX4) (N := 7) hx hb hts hi4 hown hK hP 0 rfl rfl 3 (by decide) kf23 (fun _ h9 => h9) rfl dX4_undo_1 ?_
  refine lv_iconst (v := (nI 1)) hx hb dX4_undo_4 (by decide) ?_
  refine lv_icmp_lt (tgt := 17) hx hb dX4_undo_5 (by decide) (fun c_5 => absurd c_5 (by decide)) (fun c_5 => ?_)
  refine lv_aload_n hx hb dX4_undo_8 rfl (lv_at hl 0 rfl) ?_
  refine va_get (D := Γ.1) (ci := 4) (v := .int (nI 3)) (C := RX4) (T := TX4) (N := 7) hx hb hts hi4 hown hK hP 0 rfl rfl 3 (by decide) kf23 (fun _ h9 => h9) rfl dX4_undo_9 ?_
  refine lv_bipush (v := (nI 6)) hx hb dX4_undo_12 (by decide) ?_
  refine lv_icmp_le (tgt := 27) hx hb dX4_undo_14 (by decide) (fun c_14 => ?_) (fun c_14 => absurd c_14 (by decide))
  refine lv_aload_n hx hb dX4_undo_27 rfl (lv_at hl 0 rfl) ?_
  refine lv_dup hx hb dX4_undo_28 rfl ?_
  refine va_get (D := Γ.1) (ci := 4) (v := .int (nI 3)) (C := RX4) (T := TX4) (N := 7) hx hb hts hi4 hown hK hP 0 rfl rfl 3 (by decide) kf23 (fun _ h9 => h9) rfl dX4_undo_29 ?_
  refine lv_iconst (v := (nI 1)) hx hb dX4_undo_32 (by decide) ?_
  refine lv_isub hx hb dX4_undo_33 ?_
  refine lv_eqi (y := (nI 2)) (by decide) ?_
  refine va_put (D := Γ.1) (ci := 4) (v := .int (nI 2)) (ty := .int) (C := RX4) (T := TX4) (N := 7) hx hb hts hi4 tyX4 tyX4_ok nmX4 hown hK hP hD hS 0 rfl rfl 3 (by decide) kf23 (fun _ h9 => h9) rfl (by decide +kernel) rfl rfl (Nat.le_of_ble_eq_true rfl) dX4_undo_34 (fun H locs hP hD hS => ?_)
  have hP : va_P Γ.1 vwCl (wcat [mnC q an ap qs ac au ax (nI 2), svB Γ qs (gR [(g0 0), (g1 0), (g2 0), (g3 0), (g4 0), (g5 0)]), plB Γ g0 w0, plB Γ g1 w1, plB Γ g2 w2, plB Γ g3 w3, plB Γ g4 w4, plB Γ g5 w5, plB Γ an v, cuB Γ ac ck]) H := hP
  have hD : va_D A (wcat [mnC q an ap qs ac au ax (nI 2), svB Γ qs (gR [(g0 0), (g1 0), (g2 0), (g3 0), (g4 0), (g5 0)]), plB Γ g0 w0, plB Γ g1 w1, plB Γ g2 w2, plB Γ g3 w3, plB Γ g4 w4, plB Γ g5 w5, plB Γ an v, cuB Γ ac ck]) := hD
  refine lv_aload_n hx hb dX4_undo_37 rfl (lv_at hl 0 rfl) ?_
  refine va_get (D := Γ.1) (ci := 4) (v := .ref (an 0)) (C := RX4) (T := TX4) (N := 7) hx hb hts hi4 hown hK hP 0 rfl rfl 0 (by decide) kf10 (fun _ h9 => h9) rfl dX4_undo_38 ?_
  refine lv_aload_n hx hb dX4_undo_41 rfl (lv_at hl 0 rfl) ?_
  refine va_get (D := Γ.1) (ci := 4) (v := .ref qs) (C := RX4) (T := TX4) (N := 7) hx hb hts hi4 hown hK hP 0 rfl rfl 2 (by decide) kf19 (fun _ h9 => h9) rfl dX4_undo_42 ?_
  refine lv_aload_n hx hb dX4_undo_45 rfl (lv_at hl 0 rfl) ?_
  refine va_get (D := Γ.1) (ci := 4) (v := .int (nI 2)) (C := RX4) (T := TX4) (N := 7) hx hb hts hi4 hown hK hP 0 rfl rfl 3 (by decide) kf23 (fun _ h9 => h9) rfl dX4_undo_46 ?_
  refine ald (x := (g2 0)) hx hb hK hP 1 rfl rfl (by decide) rfl dX4_undo_49 ?_
  refine cMV (bc' := [plB Γ an w2, plB Γ g2 w2]) (va_runV (As := [.ref (g2 0)]) (rest := []) ⟨hx, hb, hml, hown, hts⟩ ((ncpF l Γ an g2 v w2) _) (cwV 1 hts gX4_undo_X2_copyFrom rfl rfl rfl (by decide +kernel) ⟨Nat.le_of_ble_eq_true rfl, Nat.le_of_ble_eq_true rfl⟩) ⟨wPre_blind, va_recv hK hP (ci := 2) (q0 := 38) rfl rfl, wPre_mk hP hD hK hS hA hAB hAm [8, 4] rfl rfl⟩ rfl rfl hl.1 rfl (lv_room (Nat.le_of_ble_eq_true rfl)) dX4_undo_50 ⟨Nat.zero_le _, Nat.zero_le _⟩) hP hD hS hA [8, 4] rfl rfl (bs' := [mnC q an ap qs ac au ax (nI 2), svB Γ qs (gR [(g0 0), (g1 0), (g2 0), (g3 0), (g4 0), (g5 0)]), plB Γ g0 w0, plB Γ g1 w1, plB Γ g2 w2, plB Γ g3 w3, plB Γ g4 w4, plB Γ g5 w5, plB Γ an w2, cuB Γ ac ck]) rfl (fun H locs hP hD hS => ?_)
  refine lv_aload_n hx hb dX4_undo_53 rfl (lv_at hl 0 rfl) ?_
  refine va_get (D := Γ.1) (ci := 4) (v := .ref (ac 0)) (C := RX4) (T := TX4) (N := 7) hx hb hts hi4 hown hK hP 0 rfl rfl 4 (by decide) kf30 (fun _ h9 => h9) rfl dX4_undo_54 ?_
  refine lv_aload_n hx hb dX4_undo_57 rfl (lv_at hl 0 rfl) ?_
  refine va_get (D := Γ.1) (ci := 4) (v := .ref (an 0)) (C := RX4) (T := TX4) (N := 7) hx hb hts hi4 hown hK hP 0 rfl rfl 0 (by decide) kf10 (fun _ h9 => h9) rfl dX4_undo_58 ?_
  refine cMV (bc' := [cuB Γ ac (fX0_reckon ck w2), plB Γ an w2]) (va_runV (As := [.ref (an 0)]) (rest := []) ⟨hx, hb, hml, hown, hts⟩ ((kX0_reckon l Γ ac an ck w2) _) (cwV 1 hts gX4_undo_X0_reckon rfl rfl rfl (by decide +kernel) ⟨Nat.le_of_ble_eq_true rfl, Nat.le_of_ble_eq_true rfl⟩) ⟨wPre_blind, va_recv hK hP (ci := 0) (q0 := 44) rfl rfl, wPre_mk hP hD hK hS hA hAB hAm [9, 8] rfl rfl⟩ rfl rfl hl.1 rfl (lv_room (Nat.le_of_ble_eq_true rfl)) dX4_undo_61 ⟨Nat.zero_le _, Nat.zero_le _⟩) hP hD hS hA [9, 8] rfl rfl (bs' := [mnC q an ap qs ac au ax (nI 2), svB Γ qs (gR [(g0 0), (g1 0), (g2 0), (g3 0), (g4 0), (g5 0)]), plB Γ g0 w0, plB Γ g1 w1, plB Γ g2 w2, plB Γ g3 w3, plB Γ g4 w4, plB Γ g5 w5, plB Γ an w2, cuB Γ ac (fX0_reckon ck w2)]) rfl (fun H locs hP hD hS => ?_)
  refine lv_aload_n hx hb dX4_undo_64 rfl (lv_at hl 0 rfl) ?_
  refine va_get (D := Γ.1) (ci := 4) (v := .int (nI 2)) (C := RX4) (T := TX4) (N := 7) hx hb hts hi4 hown hK hP 0 rfl rfl 3 (by decide) kf23 (fun _ h9 => h9) rfl dX4_undo_65 ?_
  exact W.iret (v := (nI 2)) hx hb hr (fun t ht hW => eMI hP hS ht rfl) hS.2.2 dX4_undo_68
set_option maxHeartbeats 4000000 in
set_option maxRecDepth 100000 in
theorem kX4_undo_4 (l : Launch) (Γ : wG) (q : Nat) (an : Nat → Nat) (ap : Nat → Nat) (qs : Nat) (ac : Nat → Nat) (au : Nat → Nat) (ax : Nat → Nat) (g0 : Nat → Nat) (g1 : Nat → Nat) (g2 : Nat → Nat) (g3 : Nat → Nat) (g4 : Nat → Nat) (g5 : Nat → Nat) (w0 : (Nat → Nat → Int32)) (w1 : (Nat → Nat → Int32)) (w2 : (Nat → Nat → Int32)) (w3 : (Nat → Nat → Int32)) (w4 : (Nat → Nat → Int32)) (w5 : (Nat → Nat → Int32)) (v : (Nat → Nat → Int32)) (ck : (Nat → Int32)) : MI l Γ yX4_undo wsX4_undo ({ frames := 2, cells := 0, slots := 0, locals := 50 }) [.ref q] [mnC q an ap qs ac au ax (nI 4), svB Γ qs (gR [(g0 0), (g1 0), (g2 0), (g3 0), (g4 0), (g5 0)]), plB Γ g0 w0, plB Γ g1 w1, plB Γ g2 w2, plB Γ g3 w3, plB Γ g4 w4, plB Γ g5 w5, plB Γ an v, cuB Γ ac ck] [mnC q an ap qs ac au ax (nI 3), svB Γ qs (gR [(g0 0), (g1 0), (g2 0), (g3 0), (g4 0), (g5 0)]), plB Γ g0 w0, plB Γ g1 w1, plB Γ g2 w2, plB Γ g3 w3, plB Γ g4 w4, plB Γ g5 w5, plB Γ an w3, cuB Γ ac (fX0_reckon ck w3)] (nI 3) := by
  intro sz
  refine Met.ofW (cc := cX4_undo) (maxL := 1) (ret := (some .int)) (by decide) rfl ?_
  intro p e s m args below meth c s₁ B hml hv
  obtain ⟨rfl, hsz, hP, hK, hD0, hAm⟩ := hv
  have hx := B.exec
  have hb := B.bytes
  have hr := B.returns
  have hts := atoms_spec (ws := wsX4_undo) B.pre
  have hown : s.vm.findClass RX4 = some m.cls := findClass_of_methodNamed B.named
  have hlocks := B.notSynchronized
  subst hsz
  have hD := hD0.self (sz := s.heap.size)
  generalize hAe : va_A (wcat [mnC q an ap qs ac au ax (nI 4), svB Γ qs (gR [(g0 0), (g1 0), (g2 0), (g3 0), (g4 0), (g5 0)]), plB Γ g0 w0, plB Γ g1 w1, plB Γ g2 w2, plB Γ g3 w3, plB Γ g4 w4, plB Γ g5 w5, plB Γ an v, cuB Γ ac ck]) s.heap.size = A at hD hAm ⊢
  have hA : ∀ q : Nat, s.heap.size ≤ q → A q := fun q h => by rw [← hAe]; exact Or.inr h
  have hAB : ∀ q : Nat, A q → A q := fun _ h => h
  have hS : va_S A s.heap s.heap [] := va_S.rf
  have hl := lv_entry ([.ref q]) (n := 1) (Nat.le_of_ble_eq_true rfl)
  rw [lg_entry_eq]
  generalize (lg_sl ([.ref q]) ++ List.replicate (1 - (lg_sl ([.ref q])).length) Slot.unset).toArray = ls at hl ⊢
  have hl : lv_has ls 1 [(0, .ref q)] := hl
  have hi4 : ∀ w ∈ wsX40, w ∈ wsX4_undo := by decide +kernel
  have kf10 := hts (.fieldLink RX4 10 "CapsuleKeepers" "now" "LCapsuleKeepers$Place;") (by decide +kernel)
  have kf19 := hts (.fieldLink RX4 19 "CapsuleKeepers" "saved" "[LCapsuleKeepers$Place;") (by decide +kernel)
  have kf23 := hts (.fieldLink RX4 23 "CapsuleKeepers" "savedCount" "I") (by decide +kernel)
  have kf30 := hts (.fieldLink RX4 30 "CapsuleKeepers" "curves" "LCapsuleKeepers$Curves;") (by decide +kernel)
  refine lv_aload_n hx hb dX4_undo_0 rfl (lv_at hl 0 rfl) ?_
  refine va_get (D := Γ.1) (ci := 4) (v := .int (nI 4)) (C := RX4) (T := TX4) (N := 7) hx hb hts hi4 hown hK hP 0 rfl rfl 3 (by decide) kf23 (fun _ h9 => h9) rfl dX4_undo_1 ?_
  refine lv_iconst (v := (nI 1)) hx hb dX4_undo_4 (by decide) ?_
  refine lv_icmp_lt (tgt := 17) hx hb dX4_undo_5 (by decide) (fun c_5 => absurd c_5 (by decide)) (fun c_5 => ?_)
  refine lv_aload_n hx hb dX4_undo_8 rfl (lv_at hl 0 rfl) ?_
  refine va_get (D := Γ.1) (ci := 4) (v := .int (nI 4)) (C := RX4) (T := TX4) (N := 7) hx hb hts hi4 hown hK hP 0 rfl rfl 3 (by decide) kf23 (fun _ h9 => h9) rfl dX4_undo_9 ?_
  refine lv_bipush (v := (nI 6)) hx hb dX4_undo_12 (by decide) ?_
  refine lv_icmp_le (tgt := 27) hx hb dX4_undo_14 (by decide) (fun c_14 => ?_) (fun c_14 => absurd c_14 (by decide))
  refine lv_aload_n hx hb dX4_undo_27 rfl (lv_at hl 0 rfl) ?_
  refine lv_dup hx hb dX4_undo_28 rfl ?_
  refine va_get (D := Γ.1) (ci := 4) (v := .int (nI 4)) (C := RX4) (T := TX4) (N := 7) hx hb hts hi4 hown hK hP 0 rfl rfl 3 (by decide) kf23 (fun _ h9 => h9) rfl dX4_undo_29 ?_
  refine lv_iconst (v := (nI 1)) hx hb dX4_undo_32 (by decide) ?_
  refine lv_isub hx hb dX4_undo_33 ?_
  refine lv_eqi (y := (nI 3)) (by decide) ?_
  refine va_put (D := Γ.1) (ci := 4) (v := .int (nI 3)) (ty := .int) (C := RX4) (T := TX4) (N := 7) hx hb hts hi4 tyX4 tyX4_ok nmX4 hown hK hP hD hS 0 rfl rfl 3 (by decide) kf23 (fun _ h9 => h9) rfl (by decide +kernel) rfl rfl (Nat.le_of_ble_eq_true rfl) dX4_undo_34 (fun H locs hP hD hS => ?_)
  have hP : va_P Γ.1 vwCl (wcat [mnC q an ap qs ac au ax (nI 3), svB Γ qs (gR [(g0 0), (g1 0), (g2 0), (g3 0), (g4 0), (g5 0)]), plB Γ g0 w0, plB Γ g1 w1, plB Γ g2 w2, plB Γ g3 w3, plB Γ g4 w4, plB Γ g5 w5, plB Γ an v, cuB Γ ac ck]) H := hP
  have hD : va_D A (wcat [mnC q an ap qs ac au ax (nI 3), svB Γ qs (gR [(g0 0), (g1 0), (g2 0), (g3 0), (g4 0), (g5 0)]), plB Γ g0 w0, plB Γ g1 w1, plB Γ g2 w2, plB Γ g3 w3, plB Γ g4 w4, plB Γ g5 w5, plB Γ an v, cuB Γ ac ck]) := hD
  refine lv_aload_n hx hb dX4_undo_37 rfl (lv_at hl 0 rfl) ?_
  refine va_get (D := Γ.1) (ci := 4) (v := .ref (an 0)) (C := RX4) (T := TX4) (N := 7) hx hb hts hi4 hown hK hP 0 rfl rfl 0 (by decide) kf10 (fun _ h9 => h9) rfl dX4_undo_38 ?_
  refine lv_aload_n hx hb dX4_undo_41 rfl (lv_at hl 0 rfl) ?_
  refine va_get (D := Γ.1) (ci := 4) (v := .ref qs) (C := RX4) (T := TX4) (N := 7) hx hb hts hi4 hown hK hP 0 rfl rfl 2 (by decide) kf19 (fun _ h9 => h9) rfl dX4_undo_42 ?_
  refine lv_aload_n hx hb dX4_undo_45 rfl (lv_at hl 0 rfl) ?_
  refine va_get (D := Γ.1) (ci := 4) (v := .int (nI 3)) (C := RX4) (T := TX4) (N := 7) hx hb hts hi4 hown hK hP 0 rfl rfl 3 (by decide) kf23 (fun _ h9 => h9) rfl dX4_undo_46 ?_
  refine ald (x := (g3 0)) hx hb hK hP 1 rfl rfl (by decide) rfl dX4_undo_49 ?_
  refine cMV (bc' := [plB Γ an w3, plB Γ g3 w3]) (va_runV (As := [.ref (g3 0)]) (rest := []) ⟨hx, hb, hml, hown, hts⟩ ((ncpF l Γ an g3 v w3) _) (cwV 1 hts gX4_undo_X2_copyFrom rfl rfl rfl (by decide +kernel) ⟨Nat.le_of_ble_eq_true rfl, Nat.le_of_ble_eq_true rfl⟩) ⟨wPre_blind, va_recv hK hP (ci := 2) (q0 := 38) rfl rfl, wPre_mk hP hD hK hS hA hAB hAm [8, 5] rfl rfl⟩ rfl rfl hl.1 rfl (lv_room (Nat.le_of_ble_eq_true rfl)) dX4_undo_50 ⟨Nat.zero_le _, Nat.zero_le _⟩) hP hD hS hA [8, 5] rfl rfl (bs' := [mnC q an ap qs ac au ax (nI 3), svB Γ qs (gR [(g0 0), (g1 0), (g2 0), (g3 0), (g4 0), (g5 0)]), plB Γ g0 w0, plB Γ g1 w1, plB Γ g2 w2, plB Γ g3 w3, plB Γ g4 w4, plB Γ g5 w5, plB Γ an w3, cuB Γ ac ck]) rfl (fun H locs hP hD hS => ?_)
  refine lv_aload_n hx hb dX4_undo_53 rfl (lv_at hl 0 rfl) ?_
  refine va_get (D := Γ.1) (ci := 4) (v := .ref (ac 0)) (C := RX4) (T := TX4) (N := 7) hx hb hts hi4 hown hK hP 0 rfl rfl 4 (by decide) kf30 (fun _ h9 => h9) rfl dX4_undo_54 ?_
  refine lv_aload_n hx hb dX4_undo_57 rfl (lv_at hl 0 rfl) ?_
  refine va_get (D := Γ.1) (ci := 4) (v := .ref (an 0)) (C := RX4) (T := TX4) (N := 7) hx hb hts hi4 hown hK hP 0 rfl rfl 0 (by decide) kf10 (fun _ h9 => h9) rfl dX4_undo_58 ?_
  refine cMV (bc' := [cuB Γ ac (fX0_reckon ck w3), plB Γ an w3]) (va_runV (As := [.ref (an 0)]) (rest := []) ⟨hx, hb, hml, hown, hts⟩ ((kX0_reckon l Γ ac an ck w3) _) (cwV 1 hts gX4_undo_X0_reckon rfl rfl rfl (by decide +kernel) ⟨Nat.le_of_ble_eq_true rfl, Nat.le_of_ble_eq_true rfl⟩) ⟨wPre_blind, va_recv hK hP (ci := 0) (q0 := 44) rfl rfl, wPre_mk hP hD hK hS hA hAB hAm [9, 8] rfl rfl⟩ rfl rfl hl.1 rfl (lv_room (Nat.le_of_ble_eq_true rfl)) dX4_undo_61 ⟨Nat.zero_le _, Nat.zero_le _⟩) hP hD hS hA [9, 8] rfl rfl (bs' := [mnC q an ap qs ac au ax (nI 3), svB Γ qs (gR [(g0 0), (g1 0), (g2 0), (g3 0), (g4 0), (g5 0)]), plB Γ g0 w0, plB Γ g1 w1, plB Γ g2 w2, plB Γ g3 w3, plB Γ g4 w4, plB Γ g5 w5, plB Γ an w3, cuB Γ ac (fX0_reckon ck w3)]) rfl (fun H locs hP hD hS => ?_)
  refine lv_aload_n hx hb dX4_undo_64 rfl (lv_at hl 0 rfl) ?_
  refine va_get (D := Γ.1) (ci := 4) (v := .int (nI 3)) (C := RX4) (T := TX4) (N := 7) hx hb hts hi4 hown hK hP 0 rfl rfl 3 (by decide) kf23 (fun _ h9 => h9) rfl dX4_undo_65 ?_
  exact W.iret (v := (nI 3)) hx hb hr (fun t ht hW => eMI hP hS ht rfl) hS.2.2 dX4_undo_68
set_option maxHeartbeats 4000000 in
set_option maxRecDepth 100000 in
theorem kX4_undo_5 (l : Launch) (Γ : wG) (q : Nat) (an : Nat → Nat) (ap : Nat → Nat) (qs : Nat) (ac : Nat → Nat) (au : Nat → Nat) (ax : Nat → Nat) (g0 : Nat → Nat) (g1 : Nat → Nat) (g2 : Nat → Nat) (g3 : Nat → Nat) (g4 : Nat → Nat) (g5 : Nat → Nat) (w0 : (Nat → Nat → Int32)) (w1 : (Nat → Nat → Int32)) (w2 : (Nat → Nat → Int32)) (w3 : (Nat → Nat → Int32)) (w4 : (Nat → Nat → Int32)) (w5 : (Nat → Nat → Int32)) (v : (Nat → Nat → Int32)) (ck : (Nat → Int32)) : MI l Γ yX4_undo wsX4_undo ({ frames := 2, cells := 0, slots := 0, locals := 50 }) [.ref q] [mnC q an ap qs ac au ax (nI 5), svB Γ qs (gR [(g0 0), (g1 0), (g2 0), (g3 0), (g4 0), (g5 0)]), plB Γ g0 w0, plB Γ g1 w1, plB Γ g2 w2, plB Γ g3 w3, plB Γ g4 w4, plB Γ g5 w5, plB Γ an v, cuB Γ ac ck] [mnC q an ap qs ac au ax (nI 4), svB Γ qs (gR [(g0 0), (g1 0), (g2 0), (g3 0), (g4 0), (g5 0)]), plB Γ g0 w0, plB Γ g1 w1, plB Γ g2 w2, plB Γ g3 w3, plB Γ g4 w4, plB Γ g5 w5, plB Γ an w4, cuB Γ ac (fX0_reckon ck w4)] (nI 4) := by
  intro sz
  refine Met.ofW (cc := cX4_undo) (maxL := 1) (ret := (some .int)) (by decide) rfl ?_
  intro p e s m args below meth c s₁ B hml hv
  obtain ⟨rfl, hsz, hP, hK, hD0, hAm⟩ := hv
  have hx := B.exec
  have hb := B.bytes
  have hr := B.returns
  have hts := atoms_spec (ws := wsX4_undo) B.pre
  have hown : s.vm.findClass RX4 = some m.cls := findClass_of_methodNamed B.named
  have hlocks := B.notSynchronized
  subst hsz
  have hD := hD0.self (sz := s.heap.size)
  generalize hAe : va_A (wcat [mnC q an ap qs ac au ax (nI 5), svB Γ qs (gR [(g0 0), (g1 0), (g2 0), (g3 0), (g4 0), (g5 0)]), plB Γ g0 w0, plB Γ g1 w1, plB Γ g2 w2, plB Γ g3 w3, plB Γ g4 w4, plB Γ g5 w5, plB Γ an v, cuB Γ ac ck]) s.heap.size = A at hD hAm ⊢
  have hA : ∀ q : Nat, s.heap.size ≤ q → A q := fun q h => by rw [← hAe]; exact Or.inr h
  have hAB : ∀ q : Nat, A q → A q := fun _ h => h
  have hS : va_S A s.heap s.heap [] := va_S.rf
  have hl := lv_entry ([.ref q]) (n := 1) (Nat.le_of_ble_eq_true rfl)
  rw [lg_entry_eq]
  generalize (lg_sl ([.ref q]) ++ List.replicate (1 - (lg_sl ([.ref q])).length) Slot.unset).toArray = ls at hl ⊢
  have hl : lv_has ls 1 [(0, .ref q)] := hl
  have hi4 : ∀ w ∈ wsX40, w ∈ wsX4_undo := by decide +kernel
  have kf10 := hts (.fieldLink RX4 10 "CapsuleKeepers" "now" "LCapsuleKeepers$Place;") (by decide +kernel)
  have kf19 := hts (.fieldLink RX4 19 "CapsuleKeepers" "saved" "[LCapsuleKeepers$Place;") (by decide +kernel)
  have kf23 := hts (.fieldLink RX4 23 "CapsuleKeepers" "savedCount" "I") (by decide +kernel)
  have kf30 := hts (.fieldLink RX4 30 "CapsuleKeepers" "curves" "LCapsuleKeepers$Curves;") (by decide +kernel)
  refine lv_aload_n hx hb dX4_undo_0 rfl (lv_at hl 0 rfl) ?_
  refine va_get (D := Γ.1) (ci := 4) (v := .int (nI 5)) (C := RX4) (T := TX4) (N := 7) hx hb hts hi4 hown hK hP 0 rfl rfl 3 (by decide) kf23 (fun _ h9 => h9) rfl dX4_undo_1 ?_
  refine lv_iconst (v := (nI 1)) hx hb dX4_undo_4 (by decide) ?_
  refine lv_icmp_lt (tgt := 17) hx hb dX4_undo_5 (by decide) (fun c_5 => absurd c_5 (by decide)) (fun c_5 => ?_)
  refine lv_aload_n hx hb dX4_undo_8 rfl (lv_at hl 0 rfl) ?_
  refine va_get (D := Γ.1) (ci := 4) (v := .int (nI 5)) (C := RX4) (T := TX4) (N := 7) hx hb hts hi4 hown hK hP 0 rfl rfl 3 (by decide) kf23 (fun _ h9 => h9) rfl dX4_undo_9 ?_
  refine lv_bipush (v := (nI 6)) hx hb dX4_undo_12 (by decide) ?_
  refine lv_icmp_le (tgt := 27) hx hb dX4_undo_14 (by decide) (fun c_14 => ?_) (fun c_14 => absurd c_14 (by decide))
  refine lv_aload_n hx hb dX4_undo_27 rfl (lv_at hl 0 rfl) ?_
  refine lv_dup hx hb dX4_undo_28 rfl ?_
  refine va_get (D := Γ.1) (ci := 4) (v := .int (nI 5)) (C := RX4) (T := TX4) (N := 7) hx hb hts hi4 hown hK hP 0 rfl rfl 3 (by decide) kf23 (fun _ h9 => h9) rfl dX4_undo_29 ?_
  refine lv_iconst (v := (nI 1)) hx hb dX4_undo_32 (by decide) ?_
  refine lv_isub hx hb dX4_undo_33 ?_
  refine lv_eqi (y := (nI 4)) (by decide) ?_
  refine va_put (D := Γ.1) (ci := 4) (v := .int (nI 4)) (ty := .int) (C := RX4) (T := TX4) (N := 7) hx hb hts hi4 tyX4 tyX4_ok nmX4 hown hK hP hD hS 0 rfl rfl 3 (by decide) kf23 (fun _ h9 => h9) rfl (by decide +kernel) rfl rfl (Nat.le_of_ble_eq_true rfl) dX4_undo_34 (fun H locs hP hD hS => ?_)
  have hP : va_P Γ.1 vwCl (wcat [mnC q an ap qs ac au ax (nI 4), svB Γ qs (gR [(g0 0), (g1 0), (g2 0), (g3 0), (g4 0), (g5 0)]), plB Γ g0 w0, plB Γ g1 w1, plB Γ g2 w2, plB Γ g3 w3, plB Γ g4 w4, plB Γ g5 w5, plB Γ an v, cuB Γ ac ck]) H := hP
  have hD : va_D A (wcat [mnC q an ap qs ac au ax (nI 4), svB Γ qs (gR [(g0 0), (g1 0), (g2 0), (g3 0), (g4 0), (g5 0)]), plB Γ g0 w0, plB Γ g1 w1, plB Γ g2 w2, plB Γ g3 w3, plB Γ g4 w4, plB Γ g5 w5, plB Γ an v, cuB Γ ac ck]) := hD
  refine lv_aload_n hx hb dX4_undo_37 rfl (lv_at hl 0 rfl) ?_
  refine va_get (D := Γ.1) (ci := 4) (v := .ref (an 0)) (C := RX4) (T := TX4) (N := 7) hx hb hts hi4 hown hK hP 0 rfl rfl 0 (by decide) kf10 (fun _ h9 => h9) rfl dX4_undo_38 ?_
  refine lv_aload_n hx hb dX4_undo_41 rfl (lv_at hl 0 rfl) ?_
  refine va_get (D := Γ.1) (ci := 4) (v := .ref qs) (C := RX4) (T := TX4) (N := 7) hx hb hts hi4 hown hK hP 0 rfl rfl 2 (by decide) kf19 (fun _ h9 => h9) rfl dX4_undo_42 ?_
  refine lv_aload_n hx hb dX4_undo_45 rfl (lv_at hl 0 rfl) ?_
  refine va_get (D := Γ.1) (ci := 4) (v := .int (nI 4)) (C := RX4) (T := TX4) (N := 7) hx hb hts hi4 hown hK hP 0 rfl rfl 3 (by decide) kf23 (fun _ h9 => h9) rfl dX4_undo_46 ?_
  refine ald (x := (g4 0)) hx hb hK hP 1 rfl rfl (by decide) rfl dX4_undo_49 ?_
  refine cMV (bc' := [plB Γ an w4, plB Γ g4 w4]) (va_runV (As := [.ref (g4 0)]) (rest := []) ⟨hx, hb, hml, hown, hts⟩ ((ncpF l Γ an g4 v w4) _) (cwV 1 hts gX4_undo_X2_copyFrom rfl rfl rfl (by decide +kernel) ⟨Nat.le_of_ble_eq_true rfl, Nat.le_of_ble_eq_true rfl⟩) ⟨wPre_blind, va_recv hK hP (ci := 2) (q0 := 38) rfl rfl, wPre_mk hP hD hK hS hA hAB hAm [8, 6] rfl rfl⟩ rfl rfl hl.1 rfl (lv_room (Nat.le_of_ble_eq_true rfl)) dX4_undo_50 ⟨Nat.zero_le _, Nat.zero_le _⟩) hP hD hS hA [8, 6] rfl rfl (bs' := [mnC q an ap qs ac au ax (nI 4), svB Γ qs (gR [(g0 0), (g1 0), (g2 0), (g3 0), (g4 0), (g5 0)]), plB Γ g0 w0, plB Γ g1 w1, plB Γ g2 w2, plB Γ g3 w3, plB Γ g4 w4, plB Γ g5 w5, plB Γ an w4, cuB Γ ac ck]) rfl (fun H locs hP hD hS => ?_)
  refine lv_aload_n hx hb dX4_undo_53 rfl (lv_at hl 0 rfl) ?_
  refine va_get (D := Γ.1) (ci := 4) (v := .ref (ac 0)) (C := RX4) (T := TX4) (N := 7) hx hb hts hi4 hown hK hP 0 rfl rfl 4 (by decide) kf30 (fun _ h9 => h9) rfl dX4_undo_54 ?_
  refine lv_aload_n hx hb dX4_undo_57 rfl (lv_at hl 0 rfl) ?_
  refine va_get (D := Γ.1) (ci := 4) (v := .ref (an 0)) (C := RX4) (T := TX4) (N := 7) hx hb hts hi4 hown hK hP 0 rfl rfl 0 (by decide) kf10 (fun _ h9 => h9) rfl dX4_undo_58 ?_
  refine cMV (bc' := [cuB Γ ac (fX0_reckon ck w4), plB Γ an w4]) (va_runV (As := [.ref (an 0)]) (rest := []) ⟨hx, hb, hml, hown, hts⟩ ((kX0_reckon l Γ ac an ck w4) _) (cwV 1 hts gX4_undo_X0_reckon rfl rfl rfl (by decide +kernel) ⟨Nat.le_of_ble_eq_true rfl, Nat.le_of_ble_eq_true rfl⟩) ⟨wPre_blind, va_recv hK hP (ci := 0) (q0 := 44) rfl rfl, wPre_mk hP hD hK hS hA hAB hAm [9, 8] rfl rfl⟩ rfl rfl hl.1 rfl (lv_room (Nat.le_of_ble_eq_true rfl)) dX4_undo_61 ⟨Nat.zero_le _, Nat.zero_le _⟩) hP hD hS hA [9, 8] rfl rfl (bs' := [mnC q an ap qs ac au ax (nI 4), svB Γ qs (gR [(g0 0), (g1 0), (g2 0), (g3 0), (g4 0), (g5 0)]), plB Γ g0 w0, plB Γ g1 w1, plB Γ g2 w2, plB Γ g3 w3, plB Γ g4 w4, plB Γ g5 w5, plB Γ an w4, cuB Γ ac (fX0_reckon ck w4)]) rfl (fun H locs hP hD hS => ?_)
  refine lv_aload_n hx hb dX4_undo_64 rfl (lv_at hl 0 rfl) ?_
  refine va_get (D := Γ.1) (ci := 4) (v := .int (nI 4)) (C := RX4) (T := TX4) (N := 7) hx hb hts hi4 hown hK hP 0 rfl rfl 3 (by decide) kf23 (fun _ h9 => h9) rfl dX4_undo_65 ?_
  exact W.iret (v := (nI 4)) hx hb hr (fun t ht hW => eMI hP hS ht rfl) hS.2.2 dX4_undo_68
set_option maxHeartbeats 4000000 in
set_option maxRecDepth 100000 in
theorem kX4_undo_6 (l : Launch) (Γ : wG) (q : Nat) (an : Nat → Nat) (ap : Nat → Nat) (qs : Nat) (ac : Nat → Nat) (au : Nat → Nat) (ax : Nat → Nat) (g0 : Nat → Nat) (g1 : Nat → Nat) (g2 : Nat → Nat) (g3 : Nat → Nat) (g4 : Nat → Nat) (g5 : Nat → Nat) (w0 : (Nat → Nat → Int32)) (w1 : (Nat → Nat → Int32)) (w2 : (Nat → Nat → Int32)) (w3 : (Nat → Nat → Int32)) (w4 : (Nat → Nat → Int32)) (w5 : (Nat → Nat → Int32)) (v : (Nat → Nat → Int32)) (ck : (Nat → Int32)) : MI l Γ yX4_undo wsX4_undo ({ frames := 2, cells := 0, slots := 0, locals := 50 }) [.ref q] [mnC q an ap qs ac au ax (nI 6), svB Γ qs (gR [(g0 0), (g1 0), (g2 0), (g3 0), (g4 0), (g5 0)]), plB Γ g0 w0, plB Γ g1 w1, plB Γ g2 w2, plB Γ g3 w3, plB Γ g4 w4, plB Γ g5 w5, plB Γ an v, cuB Γ ac ck] [mnC q an ap qs ac au ax (nI 5), svB Γ qs (gR [(g0 0), (g1 0), (g2 0), (g3 0), (g4 0), (g5 0)]), plB Γ g0 w0, plB Γ g1 w1, plB Γ g2 w2, plB Γ g3 w3, plB Γ g4 w4, plB Γ g5 w5, plB Γ an w5, cuB Γ ac (fX0_reckon ck w5)] (nI 5) := by
  intro sz
  refine Met.ofW (cc := cX4_undo) (maxL := 1) (ret := (some .int)) (by decide) rfl ?_
  intro p e s m args below meth c s₁ B hml hv
  obtain ⟨rfl, hsz, hP, hK, hD0, hAm⟩ := hv
  have hx := B.exec
  have hb := B.bytes
  have hr := B.returns
  have hts := atoms_spec (ws := wsX4_undo) B.pre
  have hown : s.vm.findClass RX4 = some m.cls := findClass_of_methodNamed B.named
  have hlocks := B.notSynchronized
  subst hsz
  have hD := hD0.self (sz := s.heap.size)
  generalize hAe : va_A (wcat [mnC q an ap qs ac au ax (nI 6), svB Γ qs (gR [(g0 0), (g1 0), (g2 0), (g3 0), (g4 0), (g5 0)]), plB Γ g0 w0, plB Γ g1 w1, plB Γ g2 w2, plB Γ g3 w3, plB Γ g4 w4, plB Γ g5 w5, plB Γ an v, cuB Γ ac ck]) s.heap.size = A at hD hAm ⊢
  have hA : ∀ q : Nat, s.heap.size ≤ q → A q := fun q h => by rw [← hAe]; exact Or.inr h
  have hAB : ∀ q : Nat, A q → A q := fun _ h => h
  have hS : va_S A s.heap s.heap [] := va_S.rf
  have hl := lv_entry ([.ref q]) (n := 1) (Nat.le_of_ble_eq_true rfl)
  rw [lg_entry_eq]
  generalize (lg_sl ([.ref q]) ++ List.replicate (1 - (lg_sl ([.ref q])).length) Slot.unset).toArray = ls at hl ⊢
  have hl : lv_has ls 1 [(0, .ref q)] := hl
  have hi4 : ∀ w ∈ wsX40, w ∈ wsX4_undo := by decide +kernel
  have kf10 := hts (.fieldLink RX4 10 "CapsuleKeepers" "now" "LCapsuleKeepers$Place;") (by decide +kernel)
  have kf19 := hts (.fieldLink RX4 19 "CapsuleKeepers" "saved" "[LCapsuleKeepers$Place;") (by decide +kernel)
  have kf23 := hts (.fieldLink RX4 23 "CapsuleKeepers" "savedCount" "I") (by decide +kernel)
  have kf30 := hts (.fieldLink RX4 30 "CapsuleKeepers" "curves" "LCapsuleKeepers$Curves;") (by decide +kernel)
  refine lv_aload_n hx hb dX4_undo_0 rfl (lv_at hl 0 rfl) ?_
  refine va_get (D := Γ.1) (ci := 4) (v := .int (nI 6)) (C := RX4) (T := TX4) (N := 7) hx hb hts hi4 hown hK hP 0 rfl rfl 3 (by decide) kf23 (fun _ h9 => h9) rfl dX4_undo_1 ?_
  refine lv_iconst (v := (nI 1)) hx hb dX4_undo_4 (by decide) ?_
  refine lv_icmp_lt (tgt := 17) hx hb dX4_undo_5 (by decide) (fun c_5 => absurd c_5 (by decide)) (fun c_5 => ?_)
  refine lv_aload_n hx hb dX4_undo_8 rfl (lv_at hl 0 rfl) ?_
  refine va_get (D := Γ.1) (ci := 4) (v := .int (nI 6)) (C := RX4) (T := TX4) (N := 7) hx hb hts hi4 hown hK hP 0 rfl rfl 3 (by decide) kf23 (fun _ h9 => h9) rfl dX4_undo_9 ?_
  refine lv_bipush (v := (nI 6)) hx hb dX4_undo_12 (by decide) ?_
  refine lv_icmp_le (tgt := 27) hx hb dX4_undo_14 (by decide) (fun c_14 => ?_) (fun c_14 => absurd c_14 (by decide))
  refine lv_aload_n hx hb dX4_undo_27 rfl (lv_at hl 0 rfl) ?_
  refine lv_dup hx hb dX4_undo_28 rfl ?_
  refine va_get (D := Γ.1) (ci := 4) (v := .int (nI 6)) (C := RX4) (T := TX4) (N := 7) hx hb hts hi4 hown hK hP 0 rfl rfl 3 (by decide) kf23 (fun _ h9 => h9) rfl dX4_undo_29 ?_
  refine lv_iconst (v := (nI 1)) hx hb dX4_undo_32 (by decide) ?_
  refine lv_isub hx hb dX4_undo_33 ?_
  refine lv_eqi (y := (nI 5)) (by decide) ?_
  refine va_put (D := Γ.1) (ci := 4) (v := .int (nI 5)) (ty := .int) (C := RX4) (T := TX4) (N := 7) hx hb hts hi4 tyX4 tyX4_ok nmX4 hown hK hP hD hS 0 rfl rfl 3 (by decide) kf23 (fun _ h9 => h9) rfl (by decide +kernel) rfl rfl (Nat.le_of_ble_eq_true rfl) dX4_undo_34 (fun H locs hP hD hS => ?_)
  have hP : va_P Γ.1 vwCl (wcat [mnC q an ap qs ac au ax (nI 5), svB Γ qs (gR [(g0 0), (g1 0), (g2 0), (g3 0), (g4 0), (g5 0)]), plB Γ g0 w0, plB Γ g1 w1, plB Γ g2 w2, plB Γ g3 w3, plB Γ g4 w4, plB Γ g5 w5, plB Γ an v, cuB Γ ac ck]) H := hP
  have hD : va_D A (wcat [mnC q an ap qs ac au ax (nI 5), svB Γ qs (gR [(g0 0), (g1 0), (g2 0), (g3 0), (g4 0), (g5 0)]), plB Γ g0 w0, plB Γ g1 w1, plB Γ g2 w2, plB Γ g3 w3, plB Γ g4 w4, plB Γ g5 w5, plB Γ an v, cuB Γ ac ck]) := hD
  refine lv_aload_n hx hb dX4_undo_37 rfl (lv_at hl 0 rfl) ?_
  refine va_get (D := Γ.1) (ci := 4) (v := .ref (an 0)) (C := RX4) (T := TX4) (N := 7) hx hb hts hi4 hown hK hP 0 rfl rfl 0 (by decide) kf10 (fun _ h9 => h9) rfl dX4_undo_38 ?_
  refine lv_aload_n hx hb dX4_undo_41 rfl (lv_at hl 0 rfl) ?_
  refine va_get (D := Γ.1) (ci := 4) (v := .ref qs) (C := RX4) (T := TX4) (N := 7) hx hb hts hi4 hown hK hP 0 rfl rfl 2 (by decide) kf19 (fun _ h9 => h9) rfl dX4_undo_42 ?_
  refine lv_aload_n hx hb dX4_undo_45 rfl (lv_at hl 0 rfl) ?_
  refine va_get (D := Γ.1) (ci := 4) (v := .int (nI 5)) (C := RX4) (T := TX4) (N := 7) hx hb hts hi4 hown hK hP 0 rfl rfl 3 (by decide) kf23 (fun _ h9 => h9) rfl dX4_undo_46 ?_
  refine ald (x := (g5 0)) hx hb hK hP 1 rfl rfl (by decide) rfl dX4_undo_49 ?_
  refine cMV (bc' := [plB Γ an w5, plB Γ g5 w5]) (va_runV (As := [.ref (g5 0)]) (rest := []) ⟨hx, hb, hml, hown, hts⟩ ((ncpF l Γ an g5 v w5) _) (cwV 1 hts gX4_undo_X2_copyFrom rfl rfl rfl (by decide +kernel) ⟨Nat.le_of_ble_eq_true rfl, Nat.le_of_ble_eq_true rfl⟩) ⟨wPre_blind, va_recv hK hP (ci := 2) (q0 := 38) rfl rfl, wPre_mk hP hD hK hS hA hAB hAm [8, 7] rfl rfl⟩ rfl rfl hl.1 rfl (lv_room (Nat.le_of_ble_eq_true rfl)) dX4_undo_50 ⟨Nat.zero_le _, Nat.zero_le _⟩) hP hD hS hA [8, 7] rfl rfl (bs' := [mnC q an ap qs ac au ax (nI 5), svB Γ qs (gR [(g0 0), (g1 0), (g2 0), (g3 0), (g4 0), (g5 0)]), plB Γ g0 w0, plB Γ g1 w1, plB Γ g2 w2, plB Γ g3 w3, plB Γ g4 w4, plB Γ g5 w5, plB Γ an w5, cuB Γ ac ck]) rfl (fun H locs hP hD hS => ?_)
  refine lv_aload_n hx hb dX4_undo_53 rfl (lv_at hl 0 rfl) ?_
  refine va_get (D := Γ.1) (ci := 4) (v := .ref (ac 0)) (C := RX4) (T := TX4) (N := 7) hx hb hts hi4 hown hK hP 0 rfl rfl 4 (by decide) kf30 (fun _ h9 => h9) rfl dX4_undo_54 ?_
  refine lv_aload_n hx hb dX4_undo_57 rfl (lv_at hl 0 rfl) ?_
  refine va_get (D := Γ.1) (ci := 4) (v := .ref (an 0)) (C := RX4) (T := TX4) (N := 7) hx hb hts hi4 hown hK hP 0 rfl rfl 0 (by decide) kf10 (fun _ h9 => h9) rfl dX4_undo_58 ?_
  refine cMV (bc' := [cuB Γ ac (fX0_reckon ck w5), plB Γ an w5]) (va_runV (As := [.ref (an 0)]) (rest := []) ⟨hx, hb, hml, hown, hts⟩ ((kX0_reckon l Γ ac an ck w5) _) (cwV 1 hts gX4_undo_X0_reckon rfl rfl rfl (by decide +kernel) ⟨Nat.le_of_ble_eq_true rfl, Nat.le_of_ble_eq_true rfl⟩) ⟨wPre_blind, va_recv hK hP (ci := 0) (q0 := 44) rfl rfl, wPre_mk hP hD hK hS hA hAB hAm [9, 8] rfl rfl⟩ rfl rfl hl.1 rfl (lv_room (Nat.le_of_ble_eq_true rfl)) dX4_undo_61 ⟨Nat.zero_le _, Nat.zero_le _⟩) hP hD hS hA [9, 8] rfl rfl (bs' := [mnC q an ap qs ac au ax (nI 5), svB Γ qs (gR [(g0 0), (g1 0), (g2 0), (g3 0), (g4 0), (g5 0)]), plB Γ g0 w0, plB Γ g1 w1, plB Γ g2 w2, plB Γ g3 w3, plB Γ g4 w4, plB Γ g5 w5, plB Γ an w5, cuB Γ ac (fX0_reckon ck w5)]) rfl (fun H locs hP hD hS => ?_)
  refine lv_aload_n hx hb dX4_undo_64 rfl (lv_at hl 0 rfl) ?_
  refine va_get (D := Γ.1) (ci := 4) (v := .int (nI 5)) (C := RX4) (T := TX4) (N := 7) hx hb hts hi4 hown hK hP 0 rfl rfl 3 (by decide) kf23 (fun _ h9 => h9) rfl dX4_undo_65 ?_
  exact W.iret (v := (nI 5)) hx hb hr (fun t ht hW => eMI hP hS ht rfl) hS.2.2 dX4_undo_68
def fX4_undo (SL : Nat) (sr : Nat) (vs : Nat → Nat → Nat → Int32) (ck : Nat → Int32) : Int32 × Nat × (Nat → Nat → Int32) × (Nat → Int32) := (nI (SL - 1), SL - 1, vs ((SL - 1 + sr) % 6), fX0_reckon ck (vs ((SL - 1 + sr) % 6)))
set_option maxHeartbeats 4000000 in
theorem kX4_undo (l : Launch) (Γ : wG) (q : Nat) (an : Nat → Nat) (ap : Nat → Nat) (qs : Nat) (ac : Nat → Nat) (au : Nat → Nat) (ax : Nat → Nat) (SL : Nat) (sa : Nat → Nat → Nat) (sr : Nat) (vs : Nat → Nat → Nat → Int32) (v : Nat → Nat → Int32) (ck : Nat → Int32) (hSL : SL ≤ 6) (hSL1 : 1 ≤ SL) (hsr : sr < 6) : MI l Γ yX4_undo wsX4_undo ({ frames := 2, cells := 0, slots := 0, locals := 50 }) [.ref q] [mnC q an ap qs ac au ax (nI SL), saB Γ qs sa sr vs, plB Γ an v, cuB Γ ac ck] [mnC q an ap qs ac au ax (nI (fX4_undo SL sr vs ck).2.1), saB Γ qs sa sr vs, plB Γ an (fX4_undo SL sr vs ck).2.2.1, cuB Γ ac (fX4_undo SL sr vs ck).2.2.2] (fX4_undo SL sr vs ck).1 := by
  have h1 : SL = 1 ∨ SL = 2 ∨ SL = 3 ∨ SL = 4 ∨ SL = 5 ∨ SL = 6 := by omega
  have h2 : sr = 0 ∨ sr = 1 ∨ sr = 2 ∨ sr = 3 ∨ sr = 4 ∨ sr = 5 := by omega
  rcases h1 with rfl | rfl | rfl | rfl | rfl | rfl <;> rcases h2 with rfl | rfl | rfl | rfl | rfl | rfl
  · refine MI.cat ?_ ?_ ((kX4_undo_1 l Γ q an ap qs ac au ax (sa 0) (sa 1) (sa 2) (sa 3) (sa 4) (sa 5) (vs 0) (vs 1) (vs 2) (vs 3) (vs 4) (vs 5) v ck).frame (bs := [mnC q an ap qs ac au ax (nI 1), svB Γ qs (gR [sa 0 0, sa 1 0, sa 2 0, sa 3 0, sa 4 0, sa 5 0]), plB Γ (sa 0) (vs 0), plB Γ (sa 1) (vs 1), plB Γ (sa 2) (vs 2), plB Γ (sa 3) (vs 3), plB Γ (sa 4) (vs 4), plB Γ (sa 5) (vs 5), plB Γ an v, cuB Γ ac ck]) [0, 1, 2, 3, 4, 5, 6, 7, 8, 9] rfl rfl rfl rfl) <;> rfl
  · refine MI.cat ?_ ?_ ((kX4_undo_1 l Γ q an ap qs ac au ax (sa 1) (sa 2) (sa 3) (sa 4) (sa 5) (sa 0) (vs 1) (vs 2) (vs 3) (vs 4) (vs 5) (vs 0) v ck).frame (bs := [mnC q an ap qs ac au ax (nI 1), svB Γ qs (gR [sa 1 0, sa 2 0, sa 3 0, sa 4 0, sa 5 0, sa 0 0]), plB Γ (sa 0) (vs 0), plB Γ (sa 1) (vs 1), plB Γ (sa 2) (vs 2), plB Γ (sa 3) (vs 3), plB Γ (sa 4) (vs 4), plB Γ (sa 5) (vs 5), plB Γ an v, cuB Γ ac ck]) [0, 1, 3, 4, 5, 6, 7, 2, 8, 9] rfl rfl rfl rfl) <;> rfl
  · refine MI.cat ?_ ?_ ((kX4_undo_1 l Γ q an ap qs ac au ax (sa 2) (sa 3) (sa 4) (sa 5) (sa 0) (sa 1) (vs 2) (vs 3) (vs 4) (vs 5) (vs 0) (vs 1) v ck).frame (bs := [mnC q an ap qs ac au ax (nI 1), svB Γ qs (gR [sa 2 0, sa 3 0, sa 4 0, sa 5 0, sa 0 0, sa 1 0]), plB Γ (sa 0) (vs 0), plB Γ (sa 1) (vs 1), plB Γ (sa 2) (vs 2), plB Γ (sa 3) (vs 3), plB Γ (sa 4) (vs 4), plB Γ (sa 5) (vs 5), plB Γ an v, cuB Γ ac ck]) [0, 1, 4, 5, 6, 7, 2, 3, 8, 9] rfl rfl rfl rfl) <;> rfl
  · refine MI.cat ?_ ?_ ((kX4_undo_1 l Γ q an ap qs ac au ax (sa 3) (sa 4) (sa 5) (sa 0) (sa 1) (sa 2) (vs 3) (vs 4) (vs 5) (vs 0) (vs 1) (vs 2) v ck).frame (bs := [mnC q an ap qs ac au ax (nI 1), svB Γ qs (gR [sa 3 0, sa 4 0, sa 5 0, sa 0 0, sa 1 0, sa 2 0]), plB Γ (sa 0) (vs 0), plB Γ (sa 1) (vs 1), plB Γ (sa 2) (vs 2), plB Γ (sa 3) (vs 3), plB Γ (sa 4) (vs 4), plB Γ (sa 5) (vs 5), plB Γ an v, cuB Γ ac ck]) [0, 1, 5, 6, 7, 2, 3, 4, 8, 9] rfl rfl rfl rfl) <;> rfl
  · refine MI.cat ?_ ?_ ((kX4_undo_1 l Γ q an ap qs ac au ax (sa 4) (sa 5) (sa 0) (sa 1) (sa 2) (sa 3) (vs 4) (vs 5) (vs 0) (vs 1) (vs 2) (vs 3) v ck).frame (bs := [mnC q an ap qs ac au ax (nI 1), svB Γ qs (gR [sa 4 0, sa 5 0, sa 0 0, sa 1 0, sa 2 0, sa 3 0]), plB Γ (sa 0) (vs 0), plB Γ (sa 1) (vs 1), plB Γ (sa 2) (vs 2), plB Γ (sa 3) (vs 3), plB Γ (sa 4) (vs 4), plB Γ (sa 5) (vs 5), plB Γ an v, cuB Γ ac ck]) [0, 1, 6, 7, 2, 3, 4, 5, 8, 9] rfl rfl rfl rfl) <;> rfl
  · refine MI.cat ?_ ?_ ((kX4_undo_1 l Γ q an ap qs ac au ax (sa 5) (sa 0) (sa 1) (sa 2) (sa 3) (sa 4) (vs 5) (vs 0) (vs 1) (vs 2) (vs 3) (vs 4) v ck).frame (bs := [mnC q an ap qs ac au ax (nI 1), svB Γ qs (gR [sa 5 0, sa 0 0, sa 1 0, sa 2 0, sa 3 0, sa 4 0]), plB Γ (sa 0) (vs 0), plB Γ (sa 1) (vs 1), plB Γ (sa 2) (vs 2), plB Γ (sa 3) (vs 3), plB Γ (sa 4) (vs 4), plB Γ (sa 5) (vs 5), plB Γ an v, cuB Γ ac ck]) [0, 1, 7, 2, 3, 4, 5, 6, 8, 9] rfl rfl rfl rfl) <;> rfl
  · refine MI.cat ?_ ?_ ((kX4_undo_2 l Γ q an ap qs ac au ax (sa 0) (sa 1) (sa 2) (sa 3) (sa 4) (sa 5) (vs 0) (vs 1) (vs 2) (vs 3) (vs 4) (vs 5) v ck).frame (bs := [mnC q an ap qs ac au ax (nI 2), svB Γ qs (gR [sa 0 0, sa 1 0, sa 2 0, sa 3 0, sa 4 0, sa 5 0]), plB Γ (sa 0) (vs 0), plB Γ (sa 1) (vs 1), plB Γ (sa 2) (vs 2), plB Γ (sa 3) (vs 3), plB Γ (sa 4) (vs 4), plB Γ (sa 5) (vs 5), plB Γ an v, cuB Γ ac ck]) [0, 1, 2, 3, 4, 5, 6, 7, 8, 9] rfl rfl rfl rfl) <;> rfl
  · refine MI.cat ?_ ?_ ((kX4_undo_2 l Γ q an ap qs ac au ax (sa 1) (sa 2) (sa 3) (sa 4) (sa 5) (sa 0) (vs 1) (vs 2) (vs 3) (vs 4) (vs 5) (vs 0) v ck).frame (bs := [mnC q an ap qs ac au ax (nI 2), svB Γ qs (gR [sa 1 0, sa 2 0, sa 3 0, sa 4 0, sa 5 0, sa 0 0]), plB Γ (sa 0) (vs 0), plB Γ (sa 1) (vs 1), plB Γ (sa 2) (vs 2), plB Γ (sa 3) (vs 3), plB Γ (sa 4) (vs 4), plB Γ (sa 5) (vs 5), plB Γ an v, cuB Γ ac ck]) [0, 1, 3, 4, 5, 6, 7, 2, 8, 9] rfl rfl rfl rfl) <;> rfl
  · refine MI.cat ?_ ?_ ((kX4_undo_2 l Γ q an ap qs ac au ax (sa 2) (sa 3) (sa 4) (sa 5) (sa 0) (sa 1) (vs 2) (vs 3) (vs 4) (vs 5) (vs 0) (vs 1) v ck).frame (bs := [mnC q an ap qs ac au ax (nI 2), svB Γ qs (gR [sa 2 0, sa 3 0, sa 4 0, sa 5 0, sa 0 0, sa 1 0]), plB Γ (sa 0) (vs 0), plB Γ (sa 1) (vs 1), plB Γ (sa 2) (vs 2), plB Γ (sa 3) (vs 3), plB Γ (sa 4) (vs 4), plB Γ (sa 5) (vs 5), plB Γ an v, cuB Γ ac ck]) [0, 1, 4, 5, 6, 7, 2, 3, 8, 9] rfl rfl rfl rfl) <;> rfl
  · refine MI.cat ?_ ?_ ((kX4_undo_2 l Γ q an ap qs ac au ax (sa 3) (sa 4) (sa 5) (sa 0) (sa 1) (sa 2) (vs 3) (vs 4) (vs 5) (vs 0) (vs 1) (vs 2) v ck).frame (bs := [mnC q an ap qs ac au ax (nI 2), svB Γ qs (gR [sa 3 0, sa 4 0, sa 5 0, sa 0 0, sa 1 0, sa 2 0]), plB Γ (sa 0) (vs 0), plB Γ (sa 1) (vs 1), plB Γ (sa 2) (vs 2), plB Γ (sa 3) (vs 3), plB Γ (sa 4) (vs 4), plB Γ (sa 5) (vs 5), plB Γ an v, cuB Γ ac ck]) [0, 1, 5, 6, 7, 2, 3, 4, 8, 9] rfl rfl rfl rfl) <;> rfl
  · refine MI.cat ?_ ?_ ((kX4_undo_2 l Γ q an ap qs ac au ax (sa 4) (sa 5) (sa 0) (sa 1) (sa 2) (sa 3) (vs 4) (vs 5) (vs 0) (vs 1) (vs 2) (vs 3) v ck).frame (bs := [mnC q an ap qs ac au ax (nI 2), svB Γ qs (gR [sa 4 0, sa 5 0, sa 0 0, sa 1 0, sa 2 0, sa 3 0]), plB Γ (sa 0) (vs 0), plB Γ (sa 1) (vs 1), plB Γ (sa 2) (vs 2), plB Γ (sa 3) (vs 3), plB Γ (sa 4) (vs 4), plB Γ (sa 5) (vs 5), plB Γ an v, cuB Γ ac ck]) [0, 1, 6, 7, 2, 3, 4, 5, 8, 9] rfl rfl rfl rfl) <;> rfl
  · refine MI.cat ?_ ?_ ((kX4_undo_2 l Γ q an ap qs ac au ax (sa 5) (sa 0) (sa 1) (sa 2) (sa 3) (sa 4) (vs 5) (vs 0) (vs 1) (vs 2) (vs 3) (vs 4) v ck).frame (bs := [mnC q an ap qs ac au ax (nI 2), svB Γ qs (gR [sa 5 0, sa 0 0, sa 1 0, sa 2 0, sa 3 0, sa 4 0]), plB Γ (sa 0) (vs 0), plB Γ (sa 1) (vs 1), plB Γ (sa 2) (vs 2), plB Γ (sa 3) (vs 3), plB Γ (sa 4) (vs 4), plB Γ (sa 5) (vs 5), plB Γ an v, cuB Γ ac ck]) [0, 1, 7, 2, 3, 4, 5, 6, 8, 9] rfl rfl rfl rfl) <;> rfl
  · refine MI.cat ?_ ?_ ((kX4_undo_3 l Γ q an ap qs ac au ax (sa 0) (sa 1) (sa 2) (sa 3) (sa 4) (sa 5) (vs 0) (vs 1) (vs 2) (vs 3) (vs 4) (vs 5) v ck).frame (bs := [mnC q an ap qs ac au ax (nI 3), svB Γ qs (gR [sa 0 0, sa 1 0, sa 2 0, sa 3 0, sa 4 0, sa 5 0]), plB Γ (sa 0) (vs 0), plB Γ (sa 1) (vs 1), plB Γ (sa 2) (vs 2), plB Γ (sa 3) (vs 3), plB Γ (sa 4) (vs 4), plB Γ (sa 5) (vs 5), plB Γ an v, cuB Γ ac ck]) [0, 1, 2, 3, 4, 5, 6, 7, 8, 9] rfl rfl rfl rfl) <;> rfl
  · refine MI.cat ?_ ?_ ((kX4_undo_3 l Γ q an ap qs ac au ax (sa 1) (sa 2) (sa 3) (sa 4) (sa 5) (sa 0) (vs 1) (vs 2) (vs 3) (vs 4) (vs 5) (vs 0) v ck).frame (bs := [mnC q an ap qs ac au ax (nI 3), svB Γ qs (gR [sa 1 0, sa 2 0, sa 3 0, sa 4 0, sa 5 0, sa 0 0]), plB Γ (sa 0) (vs 0), plB Γ (sa 1) (vs 1), plB Γ (sa 2) (vs 2), plB Γ (sa 3) (vs 3), plB Γ (sa 4) (vs 4), plB Γ (sa 5) (vs 5), plB Γ an v, cuB Γ ac ck]) [0, 1, 3, 4, 5, 6, 7, 2, 8, 9] rfl rfl rfl rfl) <;> rfl
  · refine MI.cat ?_ ?_ ((kX4_undo_3 l Γ q an ap qs ac au ax (sa 2) (sa 3) (sa 4) (sa 5) (sa 0) (sa 1) (vs 2) (vs 3) (vs 4) (vs 5) (vs 0) (vs 1) v ck).frame (bs := [mnC q an ap qs ac au ax (nI 3), svB Γ qs (gR [sa 2 0, sa 3 0, sa 4 0, sa 5 0, sa 0 0, sa 1 0]), plB Γ (sa 0) (vs 0), plB Γ (sa 1) (vs 1), plB Γ (sa 2) (vs 2), plB Γ (sa 3) (vs 3), plB Γ (sa 4) (vs 4), plB Γ (sa 5) (vs 5), plB Γ an v, cuB Γ ac ck]) [0, 1, 4, 5, 6, 7, 2, 3, 8, 9] rfl rfl rfl rfl) <;> rfl
  · refine MI.cat ?_ ?_ ((kX4_undo_3 l Γ q an ap qs ac au ax (sa 3) (sa 4) (sa 5) (sa 0) (sa 1) (sa 2) (vs 3) (vs 4) (vs 5) (vs 0) (vs 1) (vs 2) v ck).frame (bs := [mnC q an ap qs ac au ax (nI 3), svB Γ qs (gR [sa 3 0, sa 4 0, sa 5 0, sa 0 0, sa 1 0, sa 2 0]), plB Γ (sa 0) (vs 0), plB Γ (sa 1) (vs 1), plB Γ (sa 2) (vs 2), plB Γ (sa 3) (vs 3), plB Γ (sa 4) (vs 4), plB Γ (sa 5) (vs 5), plB Γ an v, cuB Γ ac ck]) [0, 1, 5, 6, 7, 2, 3, 4, 8, 9] rfl rfl rfl rfl) <;> rfl
  · refine MI.cat ?_ ?_ ((kX4_undo_3 l Γ q an ap qs ac au ax (sa 4) (sa 5) (sa 0) (sa 1) (sa 2) (sa 3) (vs 4) (vs 5) (vs 0) (vs 1) (vs 2) (vs 3) v ck).frame (bs := [mnC q an ap qs ac au ax (nI 3), svB Γ qs (gR [sa 4 0, sa 5 0, sa 0 0, sa 1 0, sa 2 0, sa 3 0]), plB Γ (sa 0) (vs 0), plB Γ (sa 1) (vs 1), plB Γ (sa 2) (vs 2), plB Γ (sa 3) (vs 3), plB Γ (sa 4) (vs 4), plB Γ (sa 5) (vs 5), plB Γ an v, cuB Γ ac ck]) [0, 1, 6, 7, 2, 3, 4, 5, 8, 9] rfl rfl rfl rfl) <;> rfl
  · refine MI.cat ?_ ?_ ((kX4_undo_3 l Γ q an ap qs ac au ax (sa 5) (sa 0) (sa 1) (sa 2) (sa 3) (sa 4) (vs 5) (vs 0) (vs 1) (vs 2) (vs 3) (vs 4) v ck).frame (bs := [mnC q an ap qs ac au ax (nI 3), svB Γ qs (gR [sa 5 0, sa 0 0, sa 1 0, sa 2 0, sa 3 0, sa 4 0]), plB Γ (sa 0) (vs 0), plB Γ (sa 1) (vs 1), plB Γ (sa 2) (vs 2), plB Γ (sa 3) (vs 3), plB Γ (sa 4) (vs 4), plB Γ (sa 5) (vs 5), plB Γ an v, cuB Γ ac ck]) [0, 1, 7, 2, 3, 4, 5, 6, 8, 9] rfl rfl rfl rfl) <;> rfl
  · refine MI.cat ?_ ?_ ((kX4_undo_4 l Γ q an ap qs ac au ax (sa 0) (sa 1) (sa 2) (sa 3) (sa 4) (sa 5) (vs 0) (vs 1) (vs 2) (vs 3) (vs 4) (vs 5) v ck).frame (bs := [mnC q an ap qs ac au ax (nI 4), svB Γ qs (gR [sa 0 0, sa 1 0, sa 2 0, sa 3 0, sa 4 0, sa 5 0]), plB Γ (sa 0) (vs 0), plB Γ (sa 1) (vs 1), plB Γ (sa 2) (vs 2), plB Γ (sa 3) (vs 3), plB Γ (sa 4) (vs 4), plB Γ (sa 5) (vs 5), plB Γ an v, cuB Γ ac ck]) [0, 1, 2, 3, 4, 5, 6, 7, 8, 9] rfl rfl rfl rfl) <;> rfl
  · refine MI.cat ?_ ?_ ((kX4_undo_4 l Γ q an ap qs ac au ax (sa 1) (sa 2) (sa 3) (sa 4) (sa 5) (sa 0) (vs 1) (vs 2) (vs 3) (vs 4) (vs 5) (vs 0) v ck).frame (bs := [mnC q an ap qs ac au ax (nI 4), svB Γ qs (gR [sa 1 0, sa 2 0, sa 3 0, sa 4 0, sa 5 0, sa 0 0]), plB Γ (sa 0) (vs 0), plB Γ (sa 1) (vs 1), plB Γ (sa 2) (vs 2), plB Γ (sa 3) (vs 3), plB Γ (sa 4) (vs 4), plB Γ (sa 5) (vs 5), plB Γ an v, cuB Γ ac ck]) [0, 1, 3, 4, 5, 6, 7, 2, 8, 9] rfl rfl rfl rfl) <;> rfl
  · refine MI.cat ?_ ?_ ((kX4_undo_4 l Γ q an ap qs ac au ax (sa 2) (sa 3) (sa 4) (sa 5) (sa 0) (sa 1) (vs 2) (vs 3) (vs 4) (vs 5) (vs 0) (vs 1) v ck).frame (bs := [mnC q an ap qs ac au ax (nI 4), svB Γ qs (gR [sa 2 0, sa 3 0, sa 4 0, sa 5 0, sa 0 0, sa 1 0]), plB Γ (sa 0) (vs 0), plB Γ (sa 1) (vs 1), plB Γ (sa 2) (vs 2), plB Γ (sa 3) (vs 3), plB Γ (sa 4) (vs 4), plB Γ (sa 5) (vs 5), plB Γ an v, cuB Γ ac ck]) [0, 1, 4, 5, 6, 7, 2, 3, 8, 9] rfl rfl rfl rfl) <;> rfl
  · refine MI.cat ?_ ?_ ((kX4_undo_4 l Γ q an ap qs ac au ax (sa 3) (sa 4) (sa 5) (sa 0) (sa 1) (sa 2) (vs 3) (vs 4) (vs 5) (vs 0) (vs 1) (vs 2) v ck).frame (bs := [mnC q an ap qs ac au ax (nI 4), svB Γ qs (gR [sa 3 0, sa 4 0, sa 5 0, sa 0 0, sa 1 0, sa 2 0]), plB Γ (sa 0) (vs 0), plB Γ (sa 1) (vs 1), plB Γ (sa 2) (vs 2), plB Γ (sa 3) (vs 3), plB Γ (sa 4) (vs 4), plB Γ (sa 5) (vs 5), plB Γ an v, cuB Γ ac ck]) [0, 1, 5, 6, 7, 2, 3, 4, 8, 9] rfl rfl rfl rfl) <;> rfl
  · refine MI.cat ?_ ?_ ((kX4_undo_4 l Γ q an ap qs ac au ax (sa 4) (sa 5) (sa 0) (sa 1) (sa 2) (sa 3) (vs 4) (vs 5) (vs 0) (vs 1) (vs 2) (vs 3) v ck).frame (bs := [mnC q an ap qs ac au ax (nI 4), svB Γ qs (gR [sa 4 0, sa 5 0, sa 0 0, sa 1 0, sa 2 0, sa 3 0]), plB Γ (sa 0) (vs 0), plB Γ (sa 1) (vs 1), plB Γ (sa 2) (vs 2), plB Γ (sa 3) (vs 3), plB Γ (sa 4) (vs 4), plB Γ (sa 5) (vs 5), plB Γ an v, cuB Γ ac ck]) [0, 1, 6, 7, 2, 3, 4, 5, 8, 9] rfl rfl rfl rfl) <;> rfl
  · refine MI.cat ?_ ?_ ((kX4_undo_4 l Γ q an ap qs ac au ax (sa 5) (sa 0) (sa 1) (sa 2) (sa 3) (sa 4) (vs 5) (vs 0) (vs 1) (vs 2) (vs 3) (vs 4) v ck).frame (bs := [mnC q an ap qs ac au ax (nI 4), svB Γ qs (gR [sa 5 0, sa 0 0, sa 1 0, sa 2 0, sa 3 0, sa 4 0]), plB Γ (sa 0) (vs 0), plB Γ (sa 1) (vs 1), plB Γ (sa 2) (vs 2), plB Γ (sa 3) (vs 3), plB Γ (sa 4) (vs 4), plB Γ (sa 5) (vs 5), plB Γ an v, cuB Γ ac ck]) [0, 1, 7, 2, 3, 4, 5, 6, 8, 9] rfl rfl rfl rfl) <;> rfl
  · refine MI.cat ?_ ?_ ((kX4_undo_5 l Γ q an ap qs ac au ax (sa 0) (sa 1) (sa 2) (sa 3) (sa 4) (sa 5) (vs 0) (vs 1) (vs 2) (vs 3) (vs 4) (vs 5) v ck).frame (bs := [mnC q an ap qs ac au ax (nI 5), svB Γ qs (gR [sa 0 0, sa 1 0, sa 2 0, sa 3 0, sa 4 0, sa 5 0]), plB Γ (sa 0) (vs 0), plB Γ (sa 1) (vs 1), plB Γ (sa 2) (vs 2), plB Γ (sa 3) (vs 3), plB Γ (sa 4) (vs 4), plB Γ (sa 5) (vs 5), plB Γ an v, cuB Γ ac ck]) [0, 1, 2, 3, 4, 5, 6, 7, 8, 9] rfl rfl rfl rfl) <;> rfl
  · refine MI.cat ?_ ?_ ((kX4_undo_5 l Γ q an ap qs ac au ax (sa 1) (sa 2) (sa 3) (sa 4) (sa 5) (sa 0) (vs 1) (vs 2) (vs 3) (vs 4) (vs 5) (vs 0) v ck).frame (bs := [mnC q an ap qs ac au ax (nI 5), svB Γ qs (gR [sa 1 0, sa 2 0, sa 3 0, sa 4 0, sa 5 0, sa 0 0]), plB Γ (sa 0) (vs 0), plB Γ (sa 1) (vs 1), plB Γ (sa 2) (vs 2), plB Γ (sa 3) (vs 3), plB Γ (sa 4) (vs 4), plB Γ (sa 5) (vs 5), plB Γ an v, cuB Γ ac ck]) [0, 1, 3, 4, 5, 6, 7, 2, 8, 9] rfl rfl rfl rfl) <;> rfl
  · refine MI.cat ?_ ?_ ((kX4_undo_5 l Γ q an ap qs ac au ax (sa 2) (sa 3) (sa 4) (sa 5) (sa 0) (sa 1) (vs 2) (vs 3) (vs 4) (vs 5) (vs 0) (vs 1) v ck).frame (bs := [mnC q an ap qs ac au ax (nI 5), svB Γ qs (gR [sa 2 0, sa 3 0, sa 4 0, sa 5 0, sa 0 0, sa 1 0]), plB Γ (sa 0) (vs 0), plB Γ (sa 1) (vs 1), plB Γ (sa 2) (vs 2), plB Γ (sa 3) (vs 3), plB Γ (sa 4) (vs 4), plB Γ (sa 5) (vs 5), plB Γ an v, cuB Γ ac ck]) [0, 1, 4, 5, 6, 7, 2, 3, 8, 9] rfl rfl rfl rfl) <;> rfl
  · refine MI.cat ?_ ?_ ((kX4_undo_5 l Γ q an ap qs ac au ax (sa 3) (sa 4) (sa 5) (sa 0) (sa 1) (sa 2) (vs 3) (vs 4) (vs 5) (vs 0) (vs 1) (vs 2) v ck).frame (bs := [mnC q an ap qs ac au ax (nI 5), svB Γ qs (gR [sa 3 0, sa 4 0, sa 5 0, sa 0 0, sa 1 0, sa 2 0]), plB Γ (sa 0) (vs 0), plB Γ (sa 1) (vs 1), plB Γ (sa 2) (vs 2), plB Γ (sa 3) (vs 3), plB Γ (sa 4) (vs 4), plB Γ (sa 5) (vs 5), plB Γ an v, cuB Γ ac ck]) [0, 1, 5, 6, 7, 2, 3, 4, 8, 9] rfl rfl rfl rfl) <;> rfl
  · refine MI.cat ?_ ?_ ((kX4_undo_5 l Γ q an ap qs ac au ax (sa 4) (sa 5) (sa 0) (sa 1) (sa 2) (sa 3) (vs 4) (vs 5) (vs 0) (vs 1) (vs 2) (vs 3) v ck).frame (bs := [mnC q an ap qs ac au ax (nI 5), svB Γ qs (gR [sa 4 0, sa 5 0, sa 0 0, sa 1 0, sa 2 0, sa 3 0]), plB Γ (sa 0) (vs 0), plB Γ (sa 1) (vs 1), plB Γ (sa 2) (vs 2), plB Γ (sa 3) (vs 3), plB Γ (sa 4) (vs 4), plB Γ (sa 5) (vs 5), plB Γ an v, cuB Γ ac ck]) [0, 1, 6, 7, 2, 3, 4, 5, 8, 9] rfl rfl rfl rfl) <;> rfl
  · refine MI.cat ?_ ?_ ((kX4_undo_5 l Γ q an ap qs ac au ax (sa 5) (sa 0) (sa 1) (sa 2) (sa 3) (sa 4) (vs 5) (vs 0) (vs 1) (vs 2) (vs 3) (vs 4) v ck).frame (bs := [mnC q an ap qs ac au ax (nI 5), svB Γ qs (gR [sa 5 0, sa 0 0, sa 1 0, sa 2 0, sa 3 0, sa 4 0]), plB Γ (sa 0) (vs 0), plB Γ (sa 1) (vs 1), plB Γ (sa 2) (vs 2), plB Γ (sa 3) (vs 3), plB Γ (sa 4) (vs 4), plB Γ (sa 5) (vs 5), plB Γ an v, cuB Γ ac ck]) [0, 1, 7, 2, 3, 4, 5, 6, 8, 9] rfl rfl rfl rfl) <;> rfl
  · refine MI.cat ?_ ?_ ((kX4_undo_6 l Γ q an ap qs ac au ax (sa 0) (sa 1) (sa 2) (sa 3) (sa 4) (sa 5) (vs 0) (vs 1) (vs 2) (vs 3) (vs 4) (vs 5) v ck).frame (bs := [mnC q an ap qs ac au ax (nI 6), svB Γ qs (gR [sa 0 0, sa 1 0, sa 2 0, sa 3 0, sa 4 0, sa 5 0]), plB Γ (sa 0) (vs 0), plB Γ (sa 1) (vs 1), plB Γ (sa 2) (vs 2), plB Γ (sa 3) (vs 3), plB Γ (sa 4) (vs 4), plB Γ (sa 5) (vs 5), plB Γ an v, cuB Γ ac ck]) [0, 1, 2, 3, 4, 5, 6, 7, 8, 9] rfl rfl rfl rfl) <;> rfl
  · refine MI.cat ?_ ?_ ((kX4_undo_6 l Γ q an ap qs ac au ax (sa 1) (sa 2) (sa 3) (sa 4) (sa 5) (sa 0) (vs 1) (vs 2) (vs 3) (vs 4) (vs 5) (vs 0) v ck).frame (bs := [mnC q an ap qs ac au ax (nI 6), svB Γ qs (gR [sa 1 0, sa 2 0, sa 3 0, sa 4 0, sa 5 0, sa 0 0]), plB Γ (sa 0) (vs 0), plB Γ (sa 1) (vs 1), plB Γ (sa 2) (vs 2), plB Γ (sa 3) (vs 3), plB Γ (sa 4) (vs 4), plB Γ (sa 5) (vs 5), plB Γ an v, cuB Γ ac ck]) [0, 1, 3, 4, 5, 6, 7, 2, 8, 9] rfl rfl rfl rfl) <;> rfl
  · refine MI.cat ?_ ?_ ((kX4_undo_6 l Γ q an ap qs ac au ax (sa 2) (sa 3) (sa 4) (sa 5) (sa 0) (sa 1) (vs 2) (vs 3) (vs 4) (vs 5) (vs 0) (vs 1) v ck).frame (bs := [mnC q an ap qs ac au ax (nI 6), svB Γ qs (gR [sa 2 0, sa 3 0, sa 4 0, sa 5 0, sa 0 0, sa 1 0]), plB Γ (sa 0) (vs 0), plB Γ (sa 1) (vs 1), plB Γ (sa 2) (vs 2), plB Γ (sa 3) (vs 3), plB Γ (sa 4) (vs 4), plB Γ (sa 5) (vs 5), plB Γ an v, cuB Γ ac ck]) [0, 1, 4, 5, 6, 7, 2, 3, 8, 9] rfl rfl rfl rfl) <;> rfl
  · refine MI.cat ?_ ?_ ((kX4_undo_6 l Γ q an ap qs ac au ax (sa 3) (sa 4) (sa 5) (sa 0) (sa 1) (sa 2) (vs 3) (vs 4) (vs 5) (vs 0) (vs 1) (vs 2) v ck).frame (bs := [mnC q an ap qs ac au ax (nI 6), svB Γ qs (gR [sa 3 0, sa 4 0, sa 5 0, sa 0 0, sa 1 0, sa 2 0]), plB Γ (sa 0) (vs 0), plB Γ (sa 1) (vs 1), plB Γ (sa 2) (vs 2), plB Γ (sa 3) (vs 3), plB Γ (sa 4) (vs 4), plB Γ (sa 5) (vs 5), plB Γ an v, cuB Γ ac ck]) [0, 1, 5, 6, 7, 2, 3, 4, 8, 9] rfl rfl rfl rfl) <;> rfl
  · refine MI.cat ?_ ?_ ((kX4_undo_6 l Γ q an ap qs ac au ax (sa 4) (sa 5) (sa 0) (sa 1) (sa 2) (sa 3) (vs 4) (vs 5) (vs 0) (vs 1) (vs 2) (vs 3) v ck).frame (bs := [mnC q an ap qs ac au ax (nI 6), svB Γ qs (gR [sa 4 0, sa 5 0, sa 0 0, sa 1 0, sa 2 0, sa 3 0]), plB Γ (sa 0) (vs 0), plB Γ (sa 1) (vs 1), plB Γ (sa 2) (vs 2), plB Γ (sa 3) (vs 3), plB Γ (sa 4) (vs 4), plB Γ (sa 5) (vs 5), plB Γ an v, cuB Γ ac ck]) [0, 1, 6, 7, 2, 3, 4, 5, 8, 9] rfl rfl rfl rfl) <;> rfl
  · refine MI.cat ?_ ?_ ((kX4_undo_6 l Γ q an ap qs ac au ax (sa 5) (sa 0) (sa 1) (sa 2) (sa 3) (sa 4) (vs 5) (vs 0) (vs 1) (vs 2) (vs 3) (vs 4) v ck).frame (bs := [mnC q an ap qs ac au ax (nI 6), svB Γ qs (gR [sa 5 0, sa 0 0, sa 1 0, sa 2 0, sa 3 0, sa 4 0]), plB Γ (sa 0) (vs 0), plB Γ (sa 1) (vs 1), plB Γ (sa 2) (vs 2), plB Γ (sa 3) (vs 3), plB Γ (sa 4) (vs 4), plB Γ (sa 5) (vs 5), plB Γ an v, cuB Γ ac ck]) [0, 1, 7, 2, 3, 4, 5, 6, 8, 9] rfl rfl rfl rfl) <;> rfl
def kN (k : Nat) : Nat := if k < 6 then k + 1 else 6
def kR (k r : Nat) : Nat := if k < 6 then r else (r + 1) % 6
def kV (k r : Nat) (vs : Nat → Nat → Nat → Int32) (v : Nat → Nat → Int32) : Nat → Nat → Nat → Int32 := va_up vs ((if k < 6 then k + r else r) % 6) v
def fX4_save (SL : Nat) (sr : Nat) (vs : Nat → Nat → Nat → Int32) (v : Nat → Nat → Int32) : Nat × Nat × (Nat → Nat → Nat → Int32) := (kN SL, kR SL sr, kV SL sr vs v)
set_option maxHeartbeats 4000000 in
theorem kX4_save (l : Launch) (Γ : wG) (q : Nat) (an : Nat → Nat) (ap : Nat → Nat) (qs : Nat) (ac : Nat → Nat) (au : Nat → Nat) (ax : Nat → Nat) (SL : Nat) (sa : Nat → Nat → Nat) (sr : Nat) (vs : Nat → Nat → Nat → Int32) (v : Nat → Nat → Int32) (hSL : SL ≤ 6) (hsr : sr < 6) : MV l Γ yX4_save wsX4_save ({ frames := 1, cells := 0, slots := 0, locals := 22 }) [.ref q] [mnC q an ap qs ac au ax (nI SL), saB Γ qs sa sr vs, plB Γ an v] [mnC q an ap qs ac au ax (nI (fX4_save SL sr vs v).1), saB Γ qs sa (fX4_save SL sr vs v).2.1 (fX4_save SL sr vs v).2.2, plB Γ an v] := by
  have h1 : SL = 0 ∨ SL = 1 ∨ SL = 2 ∨ SL = 3 ∨ SL = 4 ∨ SL = 5 ∨ SL = 6 := by omega
  have h2 : sr = 0 ∨ sr = 1 ∨ sr = 2 ∨ sr = 3 ∨ sr = 4 ∨ sr = 5 := by omega
  rcases h1 with rfl | rfl | rfl | rfl | rfl | rfl | rfl <;> rcases h2 with rfl | rfl | rfl | rfl | rfl | rfl
  · refine MV.cat ?_ ?_ ((kX4_save_0 l Γ q an ap qs ac au ax (sa 0) (sa 1) (sa 2) (sa 3) (sa 4) (sa 5) (vs 0) (vs 1) (vs 2) (vs 3) (vs 4) (vs 5) v).frame (bs := [mnC q an ap qs ac au ax (nI 0), svB Γ qs (gR [sa 0 0, sa 1 0, sa 2 0, sa 3 0, sa 4 0, sa 5 0]), plB Γ (sa 0) (vs 0), plB Γ (sa 1) (vs 1), plB Γ (sa 2) (vs 2), plB Γ (sa 3) (vs 3), plB Γ (sa 4) (vs 4), plB Γ (sa 5) (vs 5), plB Γ an v]) [0, 1, 2, 3, 4, 5, 6, 7, 8] rfl rfl rfl rfl)
    · rfl
    · show _ = wcat [mnC q an ap qs ac au ax (nI 1), saB Γ qs sa 0 (va_up vs 0 v), plB Γ an v]
      rfl
  · refine MV.cat ?_ ?_ ((kX4_save_0 l Γ q an ap qs ac au ax (sa 1) (sa 2) (sa 3) (sa 4) (sa 5) (sa 0) (vs 1) (vs 2) (vs 3) (vs 4) (vs 5) (vs 0) v).frame (bs := [mnC q an ap qs ac au ax (nI 0), svB Γ qs (gR [sa 1 0, sa 2 0, sa 3 0, sa 4 0, sa 5 0, sa 0 0]), plB Γ (sa 0) (vs 0), plB Γ (sa 1) (vs 1), plB Γ (sa 2) (vs 2), plB Γ (sa 3) (vs 3), plB Γ (sa 4) (vs 4), plB Γ (sa 5) (vs 5), plB Γ an v]) [0, 1, 3, 4, 5, 6, 7, 2, 8] rfl rfl rfl rfl)
    · rfl
    · show _ = wcat [mnC q an ap qs ac au ax (nI 1), saB Γ qs sa 1 (va_up vs 1 v), plB Γ an v]
      rfl
  · refine MV.cat ?_ ?_ ((kX4_save_0 l Γ q an ap qs ac au ax (sa 2) (sa 3) (sa 4) (sa 5) (sa 0) (sa 1) (vs 2) (vs 3) (vs 4) (vs 5) (vs 0) (vs 1) v).frame (bs := [mnC q an ap qs ac au ax (nI 0), svB Γ qs (gR [sa 2 0, sa 3 0, sa 4 0, sa 5 0, sa 0 0, sa 1 0]), plB Γ (sa 0) (vs 0), plB Γ (sa 1) (vs 1), plB Γ (sa 2) (vs 2), plB Γ (sa 3) (vs 3), plB Γ (sa 4) (vs 4), plB Γ (sa 5) (vs 5), plB Γ an v]) [0, 1, 4, 5, 6, 7, 2, 3, 8] rfl rfl rfl rfl)
    · rfl
    · show _ = wcat [mnC q an ap qs ac au ax (nI 1), saB Γ qs sa 2 (va_up vs 2 v), plB Γ an v]
      rfl
  · refine MV.cat ?_ ?_ ((kX4_save_0 l Γ q an ap qs ac au ax (sa 3) (sa 4) (sa 5) (sa 0) (sa 1) (sa 2) (vs 3) (vs 4) (vs 5) (vs 0) (vs 1) (vs 2) v).frame (bs := [mnC q an ap qs ac au ax (nI 0), svB Γ qs (gR [sa 3 0, sa 4 0, sa 5 0, sa 0 0, sa 1 0, sa 2 0]), plB Γ (sa 0) (vs 0), plB Γ (sa 1) (vs 1), plB Γ (sa 2) (vs 2), plB Γ (sa 3) (vs 3), plB Γ (sa 4) (vs 4), plB Γ (sa 5) (vs 5), plB Γ an v]) [0, 1, 5, 6, 7, 2, 3, 4, 8] rfl rfl rfl rfl)
    · rfl
    · show _ = wcat [mnC q an ap qs ac au ax (nI 1), saB Γ qs sa 3 (va_up vs 3 v), plB Γ an v]
      rfl
  · refine MV.cat ?_ ?_ ((kX4_save_0 l Γ q an ap qs ac au ax (sa 4) (sa 5) (sa 0) (sa 1) (sa 2) (sa 3) (vs 4) (vs 5) (vs 0) (vs 1) (vs 2) (vs 3) v).frame (bs := [mnC q an ap qs ac au ax (nI 0), svB Γ qs (gR [sa 4 0, sa 5 0, sa 0 0, sa 1 0, sa 2 0, sa 3 0]), plB Γ (sa 0) (vs 0), plB Γ (sa 1) (vs 1), plB Γ (sa 2) (vs 2), plB Γ (sa 3) (vs 3), plB Γ (sa 4) (vs 4), plB Γ (sa 5) (vs 5), plB Γ an v]) [0, 1, 6, 7, 2, 3, 4, 5, 8] rfl rfl rfl rfl)
    · rfl
    · show _ = wcat [mnC q an ap qs ac au ax (nI 1), saB Γ qs sa 4 (va_up vs 4 v), plB Γ an v]
      rfl
  · refine MV.cat ?_ ?_ ((kX4_save_0 l Γ q an ap qs ac au ax (sa 5) (sa 0) (sa 1) (sa 2) (sa 3) (sa 4) (vs 5) (vs 0) (vs 1) (vs 2) (vs 3) (vs 4) v).frame (bs := [mnC q an ap qs ac au ax (nI 0), svB Γ qs (gR [sa 5 0, sa 0 0, sa 1 0, sa 2 0, sa 3 0, sa 4 0]), plB Γ (sa 0) (vs 0), plB Γ (sa 1) (vs 1), plB Γ (sa 2) (vs 2), plB Γ (sa 3) (vs 3), plB Γ (sa 4) (vs 4), plB Γ (sa 5) (vs 5), plB Γ an v]) [0, 1, 7, 2, 3, 4, 5, 6, 8] rfl rfl rfl rfl)
    · rfl
    · show _ = wcat [mnC q an ap qs ac au ax (nI 1), saB Γ qs sa 5 (va_up vs 5 v), plB Γ an v]
      rfl
  · refine MV.cat ?_ ?_ ((kX4_save_1 l Γ q an ap qs ac au ax (sa 0) (sa 1) (sa 2) (sa 3) (sa 4) (sa 5) (vs 0) (vs 1) (vs 2) (vs 3) (vs 4) (vs 5) v).frame (bs := [mnC q an ap qs ac au ax (nI 1), svB Γ qs (gR [sa 0 0, sa 1 0, sa 2 0, sa 3 0, sa 4 0, sa 5 0]), plB Γ (sa 0) (vs 0), plB Γ (sa 1) (vs 1), plB Γ (sa 2) (vs 2), plB Γ (sa 3) (vs 3), plB Γ (sa 4) (vs 4), plB Γ (sa 5) (vs 5), plB Γ an v]) [0, 1, 2, 3, 4, 5, 6, 7, 8] rfl rfl rfl rfl)
    · rfl
    · show _ = wcat [mnC q an ap qs ac au ax (nI 2), saB Γ qs sa 0 (va_up vs 1 v), plB Γ an v]
      rfl
  · refine MV.cat ?_ ?_ ((kX4_save_1 l Γ q an ap qs ac au ax (sa 1) (sa 2) (sa 3) (sa 4) (sa 5) (sa 0) (vs 1) (vs 2) (vs 3) (vs 4) (vs 5) (vs 0) v).frame (bs := [mnC q an ap qs ac au ax (nI 1), svB Γ qs (gR [sa 1 0, sa 2 0, sa 3 0, sa 4 0, sa 5 0, sa 0 0]), plB Γ (sa 0) (vs 0), plB Γ (sa 1) (vs 1), plB Γ (sa 2) (vs 2), plB Γ (sa 3) (vs 3), plB Γ (sa 4) (vs 4), plB Γ (sa 5) (vs 5), plB Γ an v]) [0, 1, 3, 4, 5, 6, 7, 2, 8] rfl rfl rfl rfl)
    · rfl
    · show _ = wcat [mnC q an ap qs ac au ax (nI 2), saB Γ qs sa 1 (va_up vs 2 v), plB Γ an v]
      rfl
  · refine MV.cat ?_ ?_ ((kX4_save_1 l Γ q an ap qs ac au ax (sa 2) (sa 3) (sa 4) (sa 5) (sa 0) (sa 1) (vs 2) (vs 3) (vs 4) (vs 5) (vs 0) (vs 1) v).frame (bs := [mnC q an ap qs ac au ax (nI 1), svB Γ qs (gR [sa 2 0, sa 3 0, sa 4 0, sa 5 0, sa 0 0, sa 1 0]), plB Γ (sa 0) (vs 0), plB Γ (sa 1) (vs 1), plB Γ (sa 2) (vs 2), plB Γ (sa 3) (vs 3), plB Γ (sa 4) (vs 4), plB Γ (sa 5) (vs 5), plB Γ an v]) [0, 1, 4, 5, 6, 7, 2, 3, 8] rfl rfl rfl rfl)
    · rfl
    · show _ = wcat [mnC q an ap qs ac au ax (nI 2), saB Γ qs sa 2 (va_up vs 3 v), plB Γ an v]
      rfl
  · refine MV.cat ?_ ?_ ((kX4_save_1 l Γ q an ap qs ac au ax (sa 3) (sa 4) (sa 5) (sa 0) (sa 1) (sa 2) (vs 3) (vs 4) (vs 5) (vs 0) (vs 1) (vs 2) v).frame (bs := [mnC q an ap qs ac au ax (nI 1), svB Γ qs (gR [sa 3 0, sa 4 0, sa 5 0, sa 0 0, sa 1 0, sa 2 0]), plB Γ (sa 0) (vs 0), plB Γ (sa 1) (vs 1), plB Γ (sa 2) (vs 2), plB Γ (sa 3) (vs 3), plB Γ (sa 4) (vs 4), plB Γ (sa 5) (vs 5), plB Γ an v]) [0, 1, 5, 6, 7, 2, 3, 4, 8] rfl rfl rfl rfl)
    · rfl
    · show _ = wcat [mnC q an ap qs ac au ax (nI 2), saB Γ qs sa 3 (va_up vs 4 v), plB Γ an v]
      rfl
  · refine MV.cat ?_ ?_ ((kX4_save_1 l Γ q an ap qs ac au ax (sa 4) (sa 5) (sa 0) (sa 1) (sa 2) (sa 3) (vs 4) (vs 5) (vs 0) (vs 1) (vs 2) (vs 3) v).frame (bs := [mnC q an ap qs ac au ax (nI 1), svB Γ qs (gR [sa 4 0, sa 5 0, sa 0 0, sa 1 0, sa 2 0, sa 3 0]), plB Γ (sa 0) (vs 0), plB Γ (sa 1) (vs 1), plB Γ (sa 2) (vs 2), plB Γ (sa 3) (vs 3), plB Γ (sa 4) (vs 4), plB Γ (sa 5) (vs 5), plB Γ an v]) [0, 1, 6, 7, 2, 3, 4, 5, 8] rfl rfl rfl rfl)
    · rfl
    · show _ = wcat [mnC q an ap qs ac au ax (nI 2), saB Γ qs sa 4 (va_up vs 5 v), plB Γ an v]
      rfl
  · refine MV.cat ?_ ?_ ((kX4_save_1 l Γ q an ap qs ac au ax (sa 5) (sa 0) (sa 1) (sa 2) (sa 3) (sa 4) (vs 5) (vs 0) (vs 1) (vs 2) (vs 3) (vs 4) v).frame (bs := [mnC q an ap qs ac au ax (nI 1), svB Γ qs (gR [sa 5 0, sa 0 0, sa 1 0, sa 2 0, sa 3 0, sa 4 0]), plB Γ (sa 0) (vs 0), plB Γ (sa 1) (vs 1), plB Γ (sa 2) (vs 2), plB Γ (sa 3) (vs 3), plB Γ (sa 4) (vs 4), plB Γ (sa 5) (vs 5), plB Γ an v]) [0, 1, 7, 2, 3, 4, 5, 6, 8] rfl rfl rfl rfl)
    · rfl
    · show _ = wcat [mnC q an ap qs ac au ax (nI 2), saB Γ qs sa 5 (va_up vs 0 v), plB Γ an v]
      rfl
  · refine MV.cat ?_ ?_ ((kX4_save_2 l Γ q an ap qs ac au ax (sa 0) (sa 1) (sa 2) (sa 3) (sa 4) (sa 5) (vs 0) (vs 1) (vs 2) (vs 3) (vs 4) (vs 5) v).frame (bs := [mnC q an ap qs ac au ax (nI 2), svB Γ qs (gR [sa 0 0, sa 1 0, sa 2 0, sa 3 0, sa 4 0, sa 5 0]), plB Γ (sa 0) (vs 0), plB Γ (sa 1) (vs 1), plB Γ (sa 2) (vs 2), plB Γ (sa 3) (vs 3), plB Γ (sa 4) (vs 4), plB Γ (sa 5) (vs 5), plB Γ an v]) [0, 1, 2, 3, 4, 5, 6, 7, 8] rfl rfl rfl rfl)
    · rfl
    · show _ = wcat [mnC q an ap qs ac au ax (nI 3), saB Γ qs sa 0 (va_up vs 2 v), plB Γ an v]
      rfl
  · refine MV.cat ?_ ?_ ((kX4_save_2 l Γ q an ap qs ac au ax (sa 1) (sa 2) (sa 3) (sa 4) (sa 5) (sa 0) (vs 1) (vs 2) (vs 3) (vs 4) (vs 5) (vs 0) v).frame (bs := [mnC q an ap qs ac au ax (nI 2), svB Γ qs (gR [sa 1 0, sa 2 0, sa 3 0, sa 4 0, sa 5 0, sa 0 0]), plB Γ (sa 0) (vs 0), plB Γ (sa 1) (vs 1), plB Γ (sa 2) (vs 2), plB Γ (sa 3) (vs 3), plB Γ (sa 4) (vs 4), plB Γ (sa 5) (vs 5), plB Γ an v]) [0, 1, 3, 4, 5, 6, 7, 2, 8] rfl rfl rfl rfl)
    · rfl
    · show _ = wcat [mnC q an ap qs ac au ax (nI 3), saB Γ qs sa 1 (va_up vs 3 v), plB Γ an v]
      rfl
  · refine MV.cat ?_ ?_ ((kX4_save_2 l Γ q an ap qs ac au ax (sa 2) (sa 3) (sa 4) (sa 5) (sa 0) (sa 1) (vs 2) (vs 3) (vs 4) (vs 5) (vs 0) (vs 1) v).frame (bs := [mnC q an ap qs ac au ax (nI 2), svB Γ qs (gR [sa 2 0, sa 3 0, sa 4 0, sa 5 0, sa 0 0, sa 1 0]), plB Γ (sa 0) (vs 0), plB Γ (sa 1) (vs 1), plB Γ (sa 2) (vs 2), plB Γ (sa 3) (vs 3), plB Γ (sa 4) (vs 4), plB Γ (sa 5) (vs 5), plB Γ an v]) [0, 1, 4, 5, 6, 7, 2, 3, 8] rfl rfl rfl rfl)
    · rfl
    · show _ = wcat [mnC q an ap qs ac au ax (nI 3), saB Γ qs sa 2 (va_up vs 4 v), plB Γ an v]
      rfl
  · refine MV.cat ?_ ?_ ((kX4_save_2 l Γ q an ap qs ac au ax (sa 3) (sa 4) (sa 5) (sa 0) (sa 1) (sa 2) (vs 3) (vs 4) (vs 5) (vs 0) (vs 1) (vs 2) v).frame (bs := [mnC q an ap qs ac au ax (nI 2), svB Γ qs (gR [sa 3 0, sa 4 0, sa 5 0, sa 0 0, sa 1 0, sa 2 0]), plB Γ (sa 0) (vs 0), plB Γ (sa 1) (vs 1), plB Γ (sa 2) (vs 2), plB Γ (sa 3) (vs 3), plB Γ (sa 4) (vs 4), plB Γ (sa 5) (vs 5), plB Γ an v]) [0, 1, 5, 6, 7, 2, 3, 4, 8] rfl rfl rfl rfl)
    · rfl
    · show _ = wcat [mnC q an ap qs ac au ax (nI 3), saB Γ qs sa 3 (va_up vs 5 v), plB Γ an v]
      rfl
  · refine MV.cat ?_ ?_ ((kX4_save_2 l Γ q an ap qs ac au ax (sa 4) (sa 5) (sa 0) (sa 1) (sa 2) (sa 3) (vs 4) (vs 5) (vs 0) (vs 1) (vs 2) (vs 3) v).frame (bs := [mnC q an ap qs ac au ax (nI 2), svB Γ qs (gR [sa 4 0, sa 5 0, sa 0 0, sa 1 0, sa 2 0, sa 3 0]), plB Γ (sa 0) (vs 0), plB Γ (sa 1) (vs 1), plB Γ (sa 2) (vs 2), plB Γ (sa 3) (vs 3), plB Γ (sa 4) (vs 4), plB Γ (sa 5) (vs 5), plB Γ an v]) [0, 1, 6, 7, 2, 3, 4, 5, 8] rfl rfl rfl rfl)
    · rfl
    · show _ = wcat [mnC q an ap qs ac au ax (nI 3), saB Γ qs sa 4 (va_up vs 0 v), plB Γ an v]
      rfl
  · refine MV.cat ?_ ?_ ((kX4_save_2 l Γ q an ap qs ac au ax (sa 5) (sa 0) (sa 1) (sa 2) (sa 3) (sa 4) (vs 5) (vs 0) (vs 1) (vs 2) (vs 3) (vs 4) v).frame (bs := [mnC q an ap qs ac au ax (nI 2), svB Γ qs (gR [sa 5 0, sa 0 0, sa 1 0, sa 2 0, sa 3 0, sa 4 0]), plB Γ (sa 0) (vs 0), plB Γ (sa 1) (vs 1), plB Γ (sa 2) (vs 2), plB Γ (sa 3) (vs 3), plB Γ (sa 4) (vs 4), plB Γ (sa 5) (vs 5), plB Γ an v]) [0, 1, 7, 2, 3, 4, 5, 6, 8] rfl rfl rfl rfl)
    · rfl
    · show _ = wcat [mnC q an ap qs ac au ax (nI 3), saB Γ qs sa 5 (va_up vs 1 v), plB Γ an v]
      rfl
  · refine MV.cat ?_ ?_ ((kX4_save_3 l Γ q an ap qs ac au ax (sa 0) (sa 1) (sa 2) (sa 3) (sa 4) (sa 5) (vs 0) (vs 1) (vs 2) (vs 3) (vs 4) (vs 5) v).frame (bs := [mnC q an ap qs ac au ax (nI 3), svB Γ qs (gR [sa 0 0, sa 1 0, sa 2 0, sa 3 0, sa 4 0, sa 5 0]), plB Γ (sa 0) (vs 0), plB Γ (sa 1) (vs 1), plB Γ (sa 2) (vs 2), plB Γ (sa 3) (vs 3), plB Γ (sa 4) (vs 4), plB Γ (sa 5) (vs 5), plB Γ an v]) [0, 1, 2, 3, 4, 5, 6, 7, 8] rfl rfl rfl rfl)
    · rfl
    · show _ = wcat [mnC q an ap qs ac au ax (nI 4), saB Γ qs sa 0 (va_up vs 3 v), plB Γ an v]
      rfl
  · refine MV.cat ?_ ?_ ((kX4_save_3 l Γ q an ap qs ac au ax (sa 1) (sa 2) (sa 3) (sa 4) (sa 5) (sa 0) (vs 1) (vs 2) (vs 3) (vs 4) (vs 5) (vs 0) v).frame (bs := [mnC q an ap qs ac au ax (nI 3), svB Γ qs (gR [sa 1 0, sa 2 0, sa 3 0, sa 4 0, sa 5 0, sa 0 0]), plB Γ (sa 0) (vs 0), plB Γ (sa 1) (vs 1), plB Γ (sa 2) (vs 2), plB Γ (sa 3) (vs 3), plB Γ (sa 4) (vs 4), plB Γ (sa 5) (vs 5), plB Γ an v]) [0, 1, 3, 4, 5, 6, 7, 2, 8] rfl rfl rfl rfl)
    · rfl
    · show _ = wcat [mnC q an ap qs ac au ax (nI 4), saB Γ qs sa 1 (va_up vs 4 v), plB Γ an v]
      rfl
  · refine MV.cat ?_ ?_ ((kX4_save_3 l Γ q an ap qs ac au ax (sa 2) (sa 3) (sa 4) (sa 5) (sa 0) (sa 1) (vs 2) (vs 3) (vs 4) (vs 5) (vs 0) (vs 1) v).frame (bs := [mnC q an ap qs ac au ax (nI 3), svB Γ qs (gR [sa 2 0, sa 3 0, sa 4 0, sa 5 0, sa 0 0, sa 1 0]), plB Γ (sa 0) (vs 0), plB Γ (sa 1) (vs 1), plB Γ (sa 2) (vs 2), plB Γ (sa 3) (vs 3), plB Γ (sa 4) (vs 4), plB Γ (sa 5) (vs 5), plB Γ an v]) [0, 1, 4, 5, 6, 7, 2, 3, 8] rfl rfl rfl rfl)
    · rfl
    · show _ = wcat [mnC q an ap qs ac au ax (nI 4), saB Γ qs sa 2 (va_up vs 5 v), plB Γ an v]
      rfl
  · refine MV.cat ?_ ?_ ((kX4_save_3 l Γ q an ap qs ac au ax (sa 3) (sa 4) (sa 5) (sa 0) (sa 1) (sa 2) (vs 3) (vs 4) (vs 5) (vs 0) (vs 1) (vs 2) v).frame (bs := [mnC q an ap qs ac au ax (nI 3), svB Γ qs (gR [sa 3 0, sa 4 0, sa 5 0, sa 0 0, sa 1 0, sa 2 0]), plB Γ (sa 0) (vs 0), plB Γ (sa 1) (vs 1), plB Γ (sa 2) (vs 2), plB Γ (sa 3) (vs 3), plB Γ (sa 4) (vs 4), plB Γ (sa 5) (vs 5), plB Γ an v]) [0, 1, 5, 6, 7, 2, 3, 4, 8] rfl rfl rfl rfl)
    · rfl
    · show _ = wcat [mnC q an ap qs ac au ax (nI 4), saB Γ qs sa 3 (va_up vs 0 v), plB Γ an v]
      rfl
  · refine MV.cat ?_ ?_ ((kX4_save_3 l Γ q an ap qs ac au ax (sa 4) (sa 5) (sa 0) (sa 1) (sa 2) (sa 3) (vs 4) (vs 5) (vs 0) (vs 1) (vs 2) (vs 3) v).frame (bs := [mnC q an ap qs ac au ax (nI 3), svB Γ qs (gR [sa 4 0, sa 5 0, sa 0 0, sa 1 0, sa 2 0, sa 3 0]), plB Γ (sa 0) (vs 0), plB Γ (sa 1) (vs 1), plB Γ (sa 2) (vs 2), plB Γ (sa 3) (vs 3), plB Γ (sa 4) (vs 4), plB Γ (sa 5) (vs 5), plB Γ an v]) [0, 1, 6, 7, 2, 3, 4, 5, 8] rfl rfl rfl rfl)
    · rfl
    · show _ = wcat [mnC q an ap qs ac au ax (nI 4), saB Γ qs sa 4 (va_up vs 1 v), plB Γ an v]
      rfl
  · refine MV.cat ?_ ?_ ((kX4_save_3 l Γ q an ap qs ac au ax (sa 5) (sa 0) (sa 1) (sa 2) (sa 3) (sa 4) (vs 5) (vs 0) (vs 1) (vs 2) (vs 3) (vs 4) v).frame (bs := [mnC q an ap qs ac au ax (nI 3), svB Γ qs (gR [sa 5 0, sa 0 0, sa 1 0, sa 2 0, sa 3 0, sa 4 0]), plB Γ (sa 0) (vs 0), plB Γ (sa 1) (vs 1), plB Γ (sa 2) (vs 2), plB Γ (sa 3) (vs 3), plB Γ (sa 4) (vs 4), plB Γ (sa 5) (vs 5), plB Γ an v]) [0, 1, 7, 2, 3, 4, 5, 6, 8] rfl rfl rfl rfl)
    · rfl
    · show _ = wcat [mnC q an ap qs ac au ax (nI 4), saB Γ qs sa 5 (va_up vs 2 v), plB Γ an v]
      rfl
  · refine MV.cat ?_ ?_ ((kX4_save_4 l Γ q an ap qs ac au ax (sa 0) (sa 1) (sa 2) (sa 3) (sa 4) (sa 5) (vs 0) (vs 1) (vs 2) (vs 3) (vs 4) (vs 5) v).frame (bs := [mnC q an ap qs ac au ax (nI 4), svB Γ qs (gR [sa 0 0, sa 1 0, sa 2 0, sa 3 0, sa 4 0, sa 5 0]), plB Γ (sa 0) (vs 0), plB Γ (sa 1) (vs 1), plB Γ (sa 2) (vs 2), plB Γ (sa 3) (vs 3), plB Γ (sa 4) (vs 4), plB Γ (sa 5) (vs 5), plB Γ an v]) [0, 1, 2, 3, 4, 5, 6, 7, 8] rfl rfl rfl rfl)
    · rfl
    · show _ = wcat [mnC q an ap qs ac au ax (nI 5), saB Γ qs sa 0 (va_up vs 4 v), plB Γ an v]
      rfl
  · refine MV.cat ?_ ?_ ((kX4_save_4 l Γ q an ap qs ac au ax (sa 1) (sa 2) (sa 3) (sa 4) (sa 5) (sa 0) (vs 1) (vs 2) (vs 3) (vs 4) (vs 5) (vs 0) v).frame (bs := [mnC q an ap qs ac au ax (nI 4), svB Γ qs (gR [sa 1 0, sa 2 0, sa 3 0, sa 4 0, sa 5 0, sa 0 0]), plB Γ (sa 0) (vs 0), plB Γ (sa 1) (vs 1), plB Γ (sa 2) (vs 2), plB Γ (sa 3) (vs 3), plB Γ (sa 4) (vs 4), plB Γ (sa 5) (vs 5), plB Γ an v]) [0, 1, 3, 4, 5, 6, 7, 2, 8] rfl rfl rfl rfl)
    · rfl
    · show _ = wcat [mnC q an ap qs ac au ax (nI 5), saB Γ qs sa 1 (va_up vs 5 v), plB Γ an v]
      rfl
  · refine MV.cat ?_ ?_ ((kX4_save_4 l Γ q an ap qs ac au ax (sa 2) (sa 3) (sa 4) (sa 5) (sa 0) (sa 1) (vs 2) (vs 3) (vs 4) (vs 5) (vs 0) (vs 1) v).frame (bs := [mnC q an ap qs ac au ax (nI 4), svB Γ qs (gR [sa 2 0, sa 3 0, sa 4 0, sa 5 0, sa 0 0, sa 1 0]), plB Γ (sa 0) (vs 0), plB Γ (sa 1) (vs 1), plB Γ (sa 2) (vs 2), plB Γ (sa 3) (vs 3), plB Γ (sa 4) (vs 4), plB Γ (sa 5) (vs 5), plB Γ an v]) [0, 1, 4, 5, 6, 7, 2, 3, 8] rfl rfl rfl rfl)
    · rfl
    · show _ = wcat [mnC q an ap qs ac au ax (nI 5), saB Γ qs sa 2 (va_up vs 0 v), plB Γ an v]
      rfl
  · refine MV.cat ?_ ?_ ((kX4_save_4 l Γ q an ap qs ac au ax (sa 3) (sa 4) (sa 5) (sa 0) (sa 1) (sa 2) (vs 3) (vs 4) (vs 5) (vs 0) (vs 1) (vs 2) v).frame (bs := [mnC q an ap qs ac au ax (nI 4), svB Γ qs (gR [sa 3 0, sa 4 0, sa 5 0, sa 0 0, sa 1 0, sa 2 0]), plB Γ (sa 0) (vs 0), plB Γ (sa 1) (vs 1), plB Γ (sa 2) (vs 2), plB Γ (sa 3) (vs 3), plB Γ (sa 4) (vs 4), plB Γ (sa 5) (vs 5), plB Γ an v]) [0, 1, 5, 6, 7, 2, 3, 4, 8] rfl rfl rfl rfl)
    · rfl
    · show _ = wcat [mnC q an ap qs ac au ax (nI 5), saB Γ qs sa 3 (va_up vs 1 v), plB Γ an v]
      rfl
  · refine MV.cat ?_ ?_ ((kX4_save_4 l Γ q an ap qs ac au ax (sa 4) (sa 5) (sa 0) (sa 1) (sa 2) (sa 3) (vs 4) (vs 5) (vs 0) (vs 1) (vs 2) (vs 3) v).frame (bs := [mnC q an ap qs ac au ax (nI 4), svB Γ qs (gR [sa 4 0, sa 5 0, sa 0 0, sa 1 0, sa 2 0, sa 3 0]), plB Γ (sa 0) (vs 0), plB Γ (sa 1) (vs 1), plB Γ (sa 2) (vs 2), plB Γ (sa 3) (vs 3), plB Γ (sa 4) (vs 4), plB Γ (sa 5) (vs 5), plB Γ an v]) [0, 1, 6, 7, 2, 3, 4, 5, 8] rfl rfl rfl rfl)
    · rfl
    · show _ = wcat [mnC q an ap qs ac au ax (nI 5), saB Γ qs sa 4 (va_up vs 2 v), plB Γ an v]
      rfl
  · refine MV.cat ?_ ?_ ((kX4_save_4 l Γ q an ap qs ac au ax (sa 5) (sa 0) (sa 1) (sa 2) (sa 3) (sa 4) (vs 5) (vs 0) (vs 1) (vs 2) (vs 3) (vs 4) v).frame (bs := [mnC q an ap qs ac au ax (nI 4), svB Γ qs (gR [sa 5 0, sa 0 0, sa 1 0, sa 2 0, sa 3 0, sa 4 0]), plB Γ (sa 0) (vs 0), plB Γ (sa 1) (vs 1), plB Γ (sa 2) (vs 2), plB Γ (sa 3) (vs 3), plB Γ (sa 4) (vs 4), plB Γ (sa 5) (vs 5), plB Γ an v]) [0, 1, 7, 2, 3, 4, 5, 6, 8] rfl rfl rfl rfl)
    · rfl
    · show _ = wcat [mnC q an ap qs ac au ax (nI 5), saB Γ qs sa 5 (va_up vs 3 v), plB Γ an v]
      rfl
  · refine MV.cat ?_ ?_ ((kX4_save_5 l Γ q an ap qs ac au ax (sa 0) (sa 1) (sa 2) (sa 3) (sa 4) (sa 5) (vs 0) (vs 1) (vs 2) (vs 3) (vs 4) (vs 5) v).frame (bs := [mnC q an ap qs ac au ax (nI 5), svB Γ qs (gR [sa 0 0, sa 1 0, sa 2 0, sa 3 0, sa 4 0, sa 5 0]), plB Γ (sa 0) (vs 0), plB Γ (sa 1) (vs 1), plB Γ (sa 2) (vs 2), plB Γ (sa 3) (vs 3), plB Γ (sa 4) (vs 4), plB Γ (sa 5) (vs 5), plB Γ an v]) [0, 1, 2, 3, 4, 5, 6, 7, 8] rfl rfl rfl rfl)
    · rfl
    · show _ = wcat [mnC q an ap qs ac au ax (nI 6), saB Γ qs sa 0 (va_up vs 5 v), plB Γ an v]
      rfl
  · refine MV.cat ?_ ?_ ((kX4_save_5 l Γ q an ap qs ac au ax (sa 1) (sa 2) (sa 3) (sa 4) (sa 5) (sa 0) (vs 1) (vs 2) (vs 3) (vs 4) (vs 5) (vs 0) v).frame (bs := [mnC q an ap qs ac au ax (nI 5), svB Γ qs (gR [sa 1 0, sa 2 0, sa 3 0, sa 4 0, sa 5 0, sa 0 0]), plB Γ (sa 0) (vs 0), plB Γ (sa 1) (vs 1), plB Γ (sa 2) (vs 2), plB Γ (sa 3) (vs 3), plB Γ (sa 4) (vs 4), plB Γ (sa 5) (vs 5), plB Γ an v]) [0, 1, 3, 4, 5, 6, 7, 2, 8] rfl rfl rfl rfl)
    · rfl
    · show _ = wcat [mnC q an ap qs ac au ax (nI 6), saB Γ qs sa 1 (va_up vs 0 v), plB Γ an v]
      rfl
  · refine MV.cat ?_ ?_ ((kX4_save_5 l Γ q an ap qs ac au ax (sa 2) (sa 3) (sa 4) (sa 5) (sa 0) (sa 1) (vs 2) (vs 3) (vs 4) (vs 5) (vs 0) (vs 1) v).frame (bs := [mnC q an ap qs ac au ax (nI 5), svB Γ qs (gR [sa 2 0, sa 3 0, sa 4 0, sa 5 0, sa 0 0, sa 1 0]), plB Γ (sa 0) (vs 0), plB Γ (sa 1) (vs 1), plB Γ (sa 2) (vs 2), plB Γ (sa 3) (vs 3), plB Γ (sa 4) (vs 4), plB Γ (sa 5) (vs 5), plB Γ an v]) [0, 1, 4, 5, 6, 7, 2, 3, 8] rfl rfl rfl rfl)
    · rfl
    · show _ = wcat [mnC q an ap qs ac au ax (nI 6), saB Γ qs sa 2 (va_up vs 1 v), plB Γ an v]
      rfl
  · refine MV.cat ?_ ?_ ((kX4_save_5 l Γ q an ap qs ac au ax (sa 3) (sa 4) (sa 5) (sa 0) (sa 1) (sa 2) (vs 3) (vs 4) (vs 5) (vs 0) (vs 1) (vs 2) v).frame (bs := [mnC q an ap qs ac au ax (nI 5), svB Γ qs (gR [sa 3 0, sa 4 0, sa 5 0, sa 0 0, sa 1 0, sa 2 0]), plB Γ (sa 0) (vs 0), plB Γ (sa 1) (vs 1), plB Γ (sa 2) (vs 2), plB Γ (sa 3) (vs 3), plB Γ (sa 4) (vs 4), plB Γ (sa 5) (vs 5), plB Γ an v]) [0, 1, 5, 6, 7, 2, 3, 4, 8] rfl rfl rfl rfl)
    · rfl
    · show _ = wcat [mnC q an ap qs ac au ax (nI 6), saB Γ qs sa 3 (va_up vs 2 v), plB Γ an v]
      rfl
  · refine MV.cat ?_ ?_ ((kX4_save_5 l Γ q an ap qs ac au ax (sa 4) (sa 5) (sa 0) (sa 1) (sa 2) (sa 3) (vs 4) (vs 5) (vs 0) (vs 1) (vs 2) (vs 3) v).frame (bs := [mnC q an ap qs ac au ax (nI 5), svB Γ qs (gR [sa 4 0, sa 5 0, sa 0 0, sa 1 0, sa 2 0, sa 3 0]), plB Γ (sa 0) (vs 0), plB Γ (sa 1) (vs 1), plB Γ (sa 2) (vs 2), plB Γ (sa 3) (vs 3), plB Γ (sa 4) (vs 4), plB Γ (sa 5) (vs 5), plB Γ an v]) [0, 1, 6, 7, 2, 3, 4, 5, 8] rfl rfl rfl rfl)
    · rfl
    · show _ = wcat [mnC q an ap qs ac au ax (nI 6), saB Γ qs sa 4 (va_up vs 3 v), plB Γ an v]
      rfl
  · refine MV.cat ?_ ?_ ((kX4_save_5 l Γ q an ap qs ac au ax (sa 5) (sa 0) (sa 1) (sa 2) (sa 3) (sa 4) (vs 5) (vs 0) (vs 1) (vs 2) (vs 3) (vs 4) v).frame (bs := [mnC q an ap qs ac au ax (nI 5), svB Γ qs (gR [sa 5 0, sa 0 0, sa 1 0, sa 2 0, sa 3 0, sa 4 0]), plB Γ (sa 0) (vs 0), plB Γ (sa 1) (vs 1), plB Γ (sa 2) (vs 2), plB Γ (sa 3) (vs 3), plB Γ (sa 4) (vs 4), plB Γ (sa 5) (vs 5), plB Γ an v]) [0, 1, 7, 2, 3, 4, 5, 6, 8] rfl rfl rfl rfl)
    · rfl
    · show _ = wcat [mnC q an ap qs ac au ax (nI 6), saB Γ qs sa 5 (va_up vs 4 v), plB Γ an v]
      rfl
  · refine MV.cat ?_ ?_ ((kX4_save_6 l Γ q an ap qs ac au ax (sa 0) (sa 1) (sa 2) (sa 3) (sa 4) (sa 5) (vs 0) (vs 1) (vs 2) (vs 3) (vs 4) (vs 5) v).frame (bs := [mnC q an ap qs ac au ax (nI 6), svB Γ qs (gR [sa 0 0, sa 1 0, sa 2 0, sa 3 0, sa 4 0, sa 5 0]), plB Γ (sa 0) (vs 0), plB Γ (sa 1) (vs 1), plB Γ (sa 2) (vs 2), plB Γ (sa 3) (vs 3), plB Γ (sa 4) (vs 4), plB Γ (sa 5) (vs 5), plB Γ an v]) [0, 1, 2, 3, 4, 5, 6, 7, 8] rfl rfl rfl rfl)
    · rfl
    · show _ = wcat [mnC q an ap qs ac au ax (nI 6), saB Γ qs sa 1 (va_up vs 0 v), plB Γ an v]
      rfl
  · refine MV.cat ?_ ?_ ((kX4_save_6 l Γ q an ap qs ac au ax (sa 1) (sa 2) (sa 3) (sa 4) (sa 5) (sa 0) (vs 1) (vs 2) (vs 3) (vs 4) (vs 5) (vs 0) v).frame (bs := [mnC q an ap qs ac au ax (nI 6), svB Γ qs (gR [sa 1 0, sa 2 0, sa 3 0, sa 4 0, sa 5 0, sa 0 0]), plB Γ (sa 0) (vs 0), plB Γ (sa 1) (vs 1), plB Γ (sa 2) (vs 2), plB Γ (sa 3) (vs 3), plB Γ (sa 4) (vs 4), plB Γ (sa 5) (vs 5), plB Γ an v]) [0, 1, 3, 4, 5, 6, 7, 2, 8] rfl rfl rfl rfl)
    · rfl
    · show _ = wcat [mnC q an ap qs ac au ax (nI 6), saB Γ qs sa 2 (va_up vs 1 v), plB Γ an v]
      rfl
  · refine MV.cat ?_ ?_ ((kX4_save_6 l Γ q an ap qs ac au ax (sa 2) (sa 3) (sa 4) (sa 5) (sa 0) (sa 1) (vs 2) (vs 3) (vs 4) (vs 5) (vs 0) (vs 1) v).frame (bs := [mnC q an ap qs ac au ax (nI 6), svB Γ qs (gR [sa 2 0, sa 3 0, sa 4 0, sa 5 0, sa 0 0, sa 1 0]), plB Γ (sa 0) (vs 0), plB Γ (sa 1) (vs 1), plB Γ (sa 2) (vs 2), plB Γ (sa 3) (vs 3), plB Γ (sa 4) (vs 4), plB Γ (sa 5) (vs 5), plB Γ an v]) [0, 1, 4, 5, 6, 7, 2, 3, 8] rfl rfl rfl rfl)
    · rfl
    · show _ = wcat [mnC q an ap qs ac au ax (nI 6), saB Γ qs sa 3 (va_up vs 2 v), plB Γ an v]
      rfl
  · refine MV.cat ?_ ?_ ((kX4_save_6 l Γ q an ap qs ac au ax (sa 3) (sa 4) (sa 5) (sa 0) (sa 1) (sa 2) (vs 3) (vs 4) (vs 5) (vs 0) (vs 1) (vs 2) v).frame (bs := [mnC q an ap qs ac au ax (nI 6), svB Γ qs (gR [sa 3 0, sa 4 0, sa 5 0, sa 0 0, sa 1 0, sa 2 0]), plB Γ (sa 0) (vs 0), plB Γ (sa 1) (vs 1), plB Γ (sa 2) (vs 2), plB Γ (sa 3) (vs 3), plB Γ (sa 4) (vs 4), plB Γ (sa 5) (vs 5), plB Γ an v]) [0, 1, 5, 6, 7, 2, 3, 4, 8] rfl rfl rfl rfl)
    · rfl
    · show _ = wcat [mnC q an ap qs ac au ax (nI 6), saB Γ qs sa 4 (va_up vs 3 v), plB Γ an v]
      rfl
  · refine MV.cat ?_ ?_ ((kX4_save_6 l Γ q an ap qs ac au ax (sa 4) (sa 5) (sa 0) (sa 1) (sa 2) (sa 3) (vs 4) (vs 5) (vs 0) (vs 1) (vs 2) (vs 3) v).frame (bs := [mnC q an ap qs ac au ax (nI 6), svB Γ qs (gR [sa 4 0, sa 5 0, sa 0 0, sa 1 0, sa 2 0, sa 3 0]), plB Γ (sa 0) (vs 0), plB Γ (sa 1) (vs 1), plB Γ (sa 2) (vs 2), plB Γ (sa 3) (vs 3), plB Γ (sa 4) (vs 4), plB Γ (sa 5) (vs 5), plB Γ an v]) [0, 1, 6, 7, 2, 3, 4, 5, 8] rfl rfl rfl rfl)
    · rfl
    · show _ = wcat [mnC q an ap qs ac au ax (nI 6), saB Γ qs sa 5 (va_up vs 4 v), plB Γ an v]
      rfl
  · refine MV.cat ?_ ?_ ((kX4_save_6 l Γ q an ap qs ac au ax (sa 5) (sa 0) (sa 1) (sa 2) (sa 3) (sa 4) (vs 5) (vs 0) (vs 1) (vs 2) (vs 3) (vs 4) v).frame (bs := [mnC q an ap qs ac au ax (nI 6), svB Γ qs (gR [sa 5 0, sa 0 0, sa 1 0, sa 2 0, sa 3 0, sa 4 0]), plB Γ (sa 0) (vs 0), plB Γ (sa 1) (vs 1), plB Γ (sa 2) (vs 2), plB Γ (sa 3) (vs 3), plB Γ (sa 4) (vs 4), plB Γ (sa 5) (vs 5), plB Γ an v]) [0, 1, 7, 2, 3, 4, 5, 6, 8] rfl rfl rfl rfl)
    · rfl
    · show _ = wcat [mnC q an ap qs ac au ax (nI 6), saB Γ qs sa 0 (va_up vs 5 v), plB Γ an v]
      rfl
