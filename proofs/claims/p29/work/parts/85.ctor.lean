/-! ===== constructors ===== -/
def gI (g : List Int32) (j : Nat) : Int32 := g.getD j 0
def gO (g : List (Option Nat)) (j : Nat) : Option Nat := g.getD j none
def gF (g : List (Nat → Nat)) (j : Nat) : Nat → Nat := g.getD j (fun _ => 0)
def gV (g : List (Nat → Nat → Int32)) (j : Nat) : Nat → Nat → Int32 := g.getD j (fun _ _ => 0)
def vOf (l : List Int32) (f1 f2 f3 f4 f5 : Nat → Int32) : Nat → Nat → Int32 := fun r => match r with | 0 => gI l | 1 => f1 | 2 => f2 | 3 => f3 | 4 => f4 | _ => f5
def P0 : Nat → Nat → Nat := fun r i => if r = 0 ∧ i = 10 then 1 else 0
theorem P0_w : WF P0 := by
  refine ⟨by decide, fun k hk => ⟨Nat.zero_le _, by show 0 ≠ k + 1; omega, by show 0 < 2 ^ 0; decide, by show Nat.testBit 0 k = false; simp, fun j hj => ?_, Nat.zero_le _, by show 0 < 251; decide⟩⟩
  show Nat.testBit 0 j = Nat.testBit 0 k
  simp
def CTR (l : Launch) (Γ : wG) (y : MethodName) (ws : List Cond) (rm : Room) {S : Type} (av : List Value) (bs : List va_W) (pr : State → Prop) (post : S → Prop) (bs' : S → List va_W) (mc ms : Nat) : Prop := ∀ sz : Nat, Met l y ws rm (va_Pc av (fun U => wPre Γ bs sz U ∧ pr U)) (va_Qv post (fun u t => va_P Γ.1 vwCl (wcat (bs' u)) t.heap ∧ va_D (va_A (wcat bs) sz) (wcat (bs' u))) (va_A (wcat bs) sz)) mc ms (va_A (wcat bs) sz)
theorem wcat_app (a b : List va_W) : wcat (a ++ b) = wcat a ++ wcat b := by
  induction a with
  | nil => rfl
  | cons x a ih => show x ++ wcat (a ++ b) = (x ++ wcat a) ++ wcat b; rw [ih, List.append_assoc]
section WN
variable {p : Program} {l : Launch} {e : Env} {R : Room} {s : State} {m : MethodId} {args : Array Value} {below : List Frame} {meth : Method} {c : Code} {H : Heap} {locs : List Loc} {cells slots : Nat} {Q : State → Prop}
variable {pc : Nat} {ls : Array Slot} {rest st0 : List Value} {cc : ByteArray} {ws : va_W} {A : Nat → Prop} {a : Nat} {Γ : wG}
theorem newI (hexec : p.tables.exec = Jvm.exec) (hb : c.code = cc) (harr : (Cond.arrayClass (.int)).before args s = true) (hK : va_K Γ.1 vwCl (wtys Γ) s) (hP : va_P Γ.1 vwCl ws H) (hD : va_D A ws) (hS : va_S A s.heap H locs) (hA : ∀ q, s.heap.size ≤ q → A q) {N : Nat} (hN : N < 2 ^ 31) (hbytes : N * 4 ≤ 536870912) (hcells : cells + 1 ≤ R.cells) (hslots : slots + N ≤ R.slots) (hdg : decode cc pc = .ok (.newarray .int, 2))
    (kk : ∀ (q : Nat) (H1 : Heap), va_P Γ.1 vwCl (ws ++ [(q, .inl (Γ.2 0, N, .inl (fun _ => 0)))]) H1 → va_D A (ws ++ [(q, .inl (Γ.2 0, N, .inl (fun _ => 0)))]) → va_S A s.heap H1 locs → W p l e R s m args below meth c H1 locs (cells + 1) (slots + N) Q (F0 m (pc + 2) ls (.ref q :: rest))) : W p l e R s m args below meth c H locs cells slots Q (F0 m pc ls (.int (nI N) :: rest)) := by
  refine va_newa (atype := .int) (ty := .int) hexec hb harr rfl hK hP hD hS hA (a0 := (N, .inl (fun _ => 0))) (N' := N) (fun cA => rfl) (nI_pos hN) (nI_clamp hN) hbytes hcells hslots hdg (fun q cA H1 hK1 hP1 hD1 hS1 => ?_)
  have e1 : s.vm.findClass ("[" ++ FieldType.int.toString) = some cA := (hK1.2 3 (cA, .int) rfl).2
  have e2 : s.vm.findClass ("[" ++ FieldType.int.toString) = some (Γ.2 0) := (hK.2 0 (Γ.2 0, .int) rfl).2
  rw [e1] at e2
  have e3 : cA = Γ.2 0 := Option.some.inj e2
  subst e3
  exact kk q H1 hP1 hD1 hS1
theorem newR (hexec : p.tables.exec = Jvm.exec) (hb : c.code = cc) {own : String} {index : Nat} (hown : s.vm.findClass own = some m.cls) (hcl : (Cond.classLink own index RX2).before args s = true) (hAO : va_AO RX2 s) (hK : va_K Γ.1 vwCl (wtys Γ) s) (hP : va_P Γ.1 vwCl ws H) (hD : va_D A ws) (hS : va_S A s.heap H locs) (hA : ∀ q, s.heap.size ≤ q → A q) (hcells : cells + 1 ≤ R.cells) (hslots : slots + 6 ≤ R.slots) (hdg : decode cc pc = .ok (.anewarray index, 3))
    (kk : ∀ (q : Nat) (H1 : Heap), va_P Γ.1 vwCl (ws ++ [(q, .inl (Γ.2 2, 6, .inr (.inr (.inr (.inr (gO [none, none, none, none, none, none]))))))]) H1 → va_D A (ws ++ [(q, .inl (Γ.2 2, 6, .inr (.inr (.inr (.inr (gO [none, none, none, none, none, none]))))))]) → va_S A s.heap H1 locs → W p l e R s m args below meth c H1 locs (cells + 1) (slots + 6) Q (F0 m (pc + 3) ls (.ref q :: rest))) : W p l e R s m args below meth c H locs cells slots Q (F0 m pc ls (.int (nI 6) :: rest)) := by
  refine va_newq hexec hb hown hcl hAO hK hP hD hS hA (N' := 6) (nI_pos (by decide)) (nI_clamp (by decide)) (by decide) hcells hslots hdg (fun q cA H1 hK1 hP1 hD1 hS1 => ?_)
  obtain ⟨_, _, _, _, _, e1⟩ := (hK1.2 3 (cA, .object RX2) rfl).2
  obtain ⟨_, _, _, _, _, e2⟩ := (hK.2 2 (Γ.2 2, .object RX2) rfl).2
  rw [e1] at e2
  have e3 : cA = Γ.2 2 := Option.some.inj e2
  subst e3
  have ef : (fun _ : Nat => (none : Option Nat)) = gO [none, none, none, none, none, none] := by
    funext j
    unfold gO
    rw [List.getD_eq_getElem?_getD]
    have : j < 6 ∨ 6 ≤ j := by omega
    rcases this with h | h
    · have : j = 0 ∨ j = 1 ∨ j = 2 ∨ j = 3 ∨ j = 4 ∨ j = 5 := by omega
      rcases this with rfl | rfl | rfl | rfl | rfl | rfl <;> rfl
    · rw [List.getElem?_eq_none (by simpa using h)]; rfl
  rw [ef] at hP1 hD1
  exact kk q H1 hP1 hD1 hS1
theorem gO_up (g : List (Option Nat)) (i v : Nat) (hi : i < g.length) : va_up (gO g) i (some v) = gO (g.set i (some v)) := by
  funext j
  unfold va_up gO
  by_cases h : j = i
  · subst h
    rw [if_pos rfl, List.getD_eq_getElem?_getD, List.getElem?_set_self hi]
    rfl
  · rw [if_neg h, List.getD_eq_getElem?_getD, List.getD_eq_getElem?_getD, List.getElem?_set_ne (Ne.symm h)]
theorem astO (hexec : p.tables.exec = Jvm.exec) (hb : c.code = cc) (hK : va_K Γ.1 vwCl (wtys Γ) s) (hP : va_P Γ.1 vwCl ws H) (hD : va_D A ws) (hS : va_S A s.heap H locs) (q0 qk : Nat) {g l2 : List (Option Nat)} {i v : Nat} {vs : List Value} (ha : ws[q0]? = some (a, .inl (Γ.2 2, 6, .inr (.inr (.inr (.inr (gO g))))))) (ht : (wtys Γ)[2]? = some (Γ.2 2, .object RX2)) (hv : ws[qk]? = some (v, .inr (2, vs))) (hi : i < 6) (hil : i < g.length) (hg : g.set i (some v) = l2) (hdg : decode cc pc = .ok (.aastore, 1))
    (kk : ∀ (H1 : Heap) (locs1 : List Loc), va_P Γ.1 vwCl (ws.set q0 (a, .inl (Γ.2 2, 6, .inr (.inr (.inr (.inr (gO l2))))))) H1 → va_D A (ws.set q0 (a, .inl (Γ.2 2, 6, .inr (.inr (.inr (.inr (gO l2))))))) → va_S A s.heap H1 locs1 → W p l e R s m args below meth c H1 locs1 cells slots Q (F0 m (pc + 1) ls rest)) : W p l e R s m args below meth c H locs cells slots Q (F0 m pc ls (.ref v :: .int (nI i) :: .ref a :: rest)) := by
  refine va_astq hexec hb hK hP hD hS q0 2 qk 2 (r := (RX2, TX2, 16)) ha ht hv rfl (vp_in_nI hi (by decide)) hdg ?_
  rw [nI_clamp (by omega), gO_up g i v hil, hg]
  exact kk
/-- a constructor's call, on the object made last -/
theorem cCT {S : Type} {post : S → Prop} {bc' : S → List va_W} {mc ms : Nat} {ar : Array Value} {bs : List va_W} {b0 : va_W} (hr : va_Run p l e R s m args below meth c H locs cells slots mc ms (F0 m pc ls st0) rest (va_Qv post (fun u t => va_P Γ.1 vwCl (wcat (bc' u)) t.heap ∧ va_D (va_A (wcat [b0]) H.size) (wcat (bc' u))) (va_A (wcat [b0]) H.size) ar) (va_A (wcat [b0]) H.size)) (hP : va_P Γ.1 vwCl (wcat (bs ++ [b0])) H) (hD : va_D A (wcat (bs ++ [b0]))) (hS : va_S A s.heap H locs) (hA : ∀ q, s.heap.size ≤ q → A q)
    (kk : ∀ (u : S) (H1 : Heap) (locs1 : List Loc), post u → va_P Γ.1 vwCl (wcat (bs ++ bc' u)) H1 → va_D A (wcat (bs ++ bc' u)) → va_S A s.heap H1 locs1 → W p l e R s m args below meth c H1 locs1 (cells + mc) (slots + ms) Q (F0 m (pc + 3) ls rest)) : W p l e R s m args below meth c H locs cells slots Q (F0 m pc ls st0) := by
  rw [wcat_app] at hP hD
  obtain ⟨d1, d2, d3⟩ := wD_app hD
  have hF : ∀ q, va_A (wcat [b0]) H.size q → A q := fun q h => by
    rcases h with ⟨k, e, h⟩ | h
    · exact d2.2 k (q, e) h
    · exact hA q (Nat.le_trans hS.1 h)
  refine va_callv hr hS (fun q _ h => hF q h) hF (fun u t H1 locs1 ht hvm hw hB hz1 hk1 hS1 => ?_)
  obtain ⟨b1, b2⟩ := hB
  rw [ht] at b1
  have hlt : ∀ q ∈ wcat bs, q.1 < H.size := fun q hq => (wP_mem hP (List.mem_append_left _ hq)).lt
  have hna : ∀ q ∈ wcat bs, ¬ va_A (wcat [b0]) H.size q.1 := fun q hq h => by
    rcases h with ⟨k, e, h⟩ | h
    · exact d3 q hq (q.1, e) (List.mem_of_getElem? h) rfl
    · exact absurd (hlt q hq) (Nat.not_lt.mpr h)
  refine kk u H1 locs1 hw ?_ ?_ hS1
  · rw [wcat_app]
    refine va_P.app (fun k q hk => ?_) b1
    have hq := List.mem_of_getElem? hk
    exact (wP_mem hP (List.mem_append_left _ hq)).kept (hk1 q.1 (hlt q hq) (hna q hq))
  · rw [wcat_app]
    refine wD_join d1 (b2.weaken fun k q _ h => hF q.1 h) fun x hx y hy e => ?_
    exact hna x hx (by rw [e]; exact wD_mem b2 hy)
end WN
theorem wP_swap {D : va_G} {cl : List vw_C} {H : Heap} {a b : List va_W} {q : Nat} {e e' : va_E} (h : va_P D cl (wcat (a ++ ([(q, e)] :: b))) H) (he : va_at D cl (q, e) H → va_at D cl (q, e') H) : va_P D cl (wcat (a ++ ([(q, e')] :: b))) H := by
  refine wP_of fun z hz => ?_
  obtain ⟨c, hc, hzc⟩ := wcat_mem.mp hz
  rcases List.mem_append.mp hc with hc | hc
  · exact wP_mem h (wcat_mem.mpr ⟨c, List.mem_append_left _ hc, hzc⟩)
  · rcases List.mem_cons.mp hc with hc | hc
    · subst hc
      have : z = (q, e') := by simpa using hzc
      subst this
      exact he (wP_mem h (wcat_mem.mpr ⟨_, List.mem_append_right _ List.mem_cons_self, List.mem_cons_self⟩))
    · exact wP_mem h (wcat_mem.mpr ⟨c, List.mem_append_right _ (List.mem_cons_of_mem _ hc), hzc⟩)
theorem gO_gR {D : va_G} {cl : List vw_C} {H : Heap} {q : Nat} {cA : ClassId} {x0 x1 x2 x3 x4 x5 : Nat} (h : va_at D cl (q, .inl (cA, 6, .inr (.inr (.inr (.inr (gO [some x0, some x1, some x2, some x3, some x4, some x5])))))) H) : va_at D cl (q, .inl (cA, 6, .inr (.inr (.inr (.inr (fun j => some (gR [x0, x1, x2, x3, x4, x5] j))))))) H := by
  have h' : H[q]? = some (vp_cell cA (6, .inr (.inr (.inr (.inr (gO [some x0, some x1, some x2, some x3, some x4, some x5])))))) := h
  show H[q]? = some (vp_cell cA (6, .inr (.inr (.inr (.inr (fun j => some (gR [x0, x1, x2, x3, x4, x5] j)))))))
  rw [h', vp_cell_q, vp_cell_q]
  congr 1
theorem ct_blind {Γ : wG} {bs : List va_W} {sz : Nat} {av : List Value} : FrameBlind (va_Pc av (fun U => wPre Γ bs sz U ∧ (fun _ => True) U)) := fun a U g mk q => by
  obtain ⟨q0, q1, -⟩ := q
  obtain ⟨h1, h2⟩ := wPre_blind (av := av) (Γ := Γ) (bs := bs) (sz := sz) a U g mk ⟨q0, q1⟩
  exact ⟨h1, h2, trivial⟩
theorem ct_mk {Γ : wG} {bc : List va_W} {s : State} {H : Heap} {av : List Value} (h : ∀ U : State, U.heap = H → s.WarmedH U.vm → va_Pc av (wPre Γ bc H.size) av.toArray U) : ∀ U : State, U.heap = H → s.WarmedH U.vm → va_Pc av (fun U => wPre Γ bc H.size U ∧ (fun _ => True) U) av.toArray U := fun U h1 h2 => ⟨(h U h1 h2).1, (h U h1 h2).2, trivial⟩
set_option maxHeartbeats 8000000 in
set_option maxRecDepth 100000 in
theorem kX2_init (l : Launch) (Γ : wG) (h0 : Nat) : CTR l Γ yX2_init wsX2_init ({ frames := 1, cells := 5, slots := 40, locals := 30 }) (S := (Nat → Nat) × (Nat → Nat → Int32)) [.ref h0] [[(h0, .inr (2, [.int 0, .int 0, .null, .null, .null, .null, .null, .int 0, .int 0, .int 0, .int 0, .int 0, .int 0, .int 0, .int 0, .int 0]))]] (fun _ => True) (fun u => u.1 0 = h0 ∧ CV u.2 P0) (fun u => [plB Γ u.1 u.2]) 5 40 := by
  intro sz
  refine Met.ofW (cc := cX2_init) (maxL := 2) (ret := none) (by decide) rfl ?_
  intro p e s m args below meth c s₁ B hml hv
  obtain ⟨rfl, ⟨hsz, hP, hK, hD0, hAm⟩, hAO⟩ := hv
  have hx := B.exec
  have hb := B.bytes
  have hr := B.returns
  have hts := atoms_spec (ws := wsX2_init) B.pre
  have hown : s.vm.findClass RX2 = some m.cls := findClass_of_methodNamed B.named
  have hlocks := B.notSynchronized
  have hin : meth.name = "<init>" := (name_of_methodNamed B.named B.method).1
  subst hsz
  have hD := hD0.self (sz := s.heap.size)
  generalize hAe : va_A (wcat [[(h0, .inr (2, [.int 0, .int 0, .null, .null, .null, .null, .null, .int 0, .int 0, .int 0, .int 0, .int 0, .int 0, .int 0, .int 0, .int 0]))]]) s.heap.size = A at hD hAm ⊢
  have hA : ∀ q : Nat, s.heap.size ≤ q → A q := fun q h => by rw [← hAe]; exact Or.inr h
  have hAB : ∀ q : Nat, A q → A q := fun _ h => h
  have hS : va_S A s.heap s.heap [] := va_S.rf
  have hl := lv_entry ([.ref h0]) (n := 2) (Nat.le_of_ble_eq_true rfl)
  rw [lg_entry_eq]
  generalize (lg_sl ([.ref h0]) ++ List.replicate (2 - (lg_sl ([.ref h0])).length) Slot.unset).toArray = ls at hl ⊢
  have hl : lv_has ls 2 [(0, .ref h0)] := hl
  have hi2 : ∀ w ∈ wsX20, w ∈ wsX2_init := by decide +kernel
  have kf15 := hts (.fieldLink RX2 15 "CapsuleKeepers$Place" "quarrels" "[I") (by decide +kernel)
  have kf18 := hts (.fieldLink RX2 18 "CapsuleKeepers$Place" "tries" "[I") (by decide +kernel)
  have kf21 := hts (.fieldLink RX2 21 "CapsuleKeepers$Place" "owners" "[I") (by decide +kernel)
  have kf24 := hts (.fieldLink RX2 24 "CapsuleKeepers$Place" "values" "[I") (by decide +kernel)
  have kf27 := hts (.fieldLink RX2 27 "CapsuleKeepers$Place" "stage" "I") (by decide +kernel)
  have kf31 := hts (.fieldLink RX2 31 "CapsuleKeepers$Place" "x" "I") (by decide +kernel)
  have kf9 := hts (.fieldLink RX2 9 "CapsuleKeepers$Place" "heirs" "[I") (by decide +kernel)
  refine lv_aload_n hx hb dX2_init_0 rfl (lv_at hl 0 rfl) ?_
  refine W.objInit hx hb hown (hts (.methodLink RX2 3 objectInit) (by decide +kernel)) (hts (.instanceMethod objectInit) (by decide +kernel)) (hts (.code objectInit ⟨#[0xb1]⟩ 1 none) (by decide +kernel)) rfl (by rw [hml]; exact hl.1) rfl dX2_init_1 (Nat.le_of_ble_eq_true rfl) (Nat.le_of_ble_eq_true rfl) ?_
  refine W.eq (g2 := F0 m 4 ls []) rfl ?_
  refine lv_aload_n hx hb dX2_init_4 rfl (lv_at hl 0 rfl) ?_
  refine lv_bipush (v := (nI 8)) hx hb dX2_init_5 (by decide) ?_
  refine newI (N := 8) hx hb (hts (.arrayClass .int) (by decide +kernel)) hK hP hD hS hA (by decide) (Nat.le_of_ble_eq_true rfl) (Nat.le_of_ble_eq_true rfl) (Nat.le_of_ble_eq_true rfl) dX2_init_7 (fun q_1 H hP hD hS => ?_)
  refine W.widen (k := 1) (n := 8) (Nat.le_of_ble_eq_true rfl) (Nat.le_of_ble_eq_true rfl) ?_
  have hP : va_P Γ.1 vwCl (wcat [[(h0, .inr (2, [.int 0, .int 0, .null, .null, .null, .null, .null, .int 0, .int 0, .int 0, .int 0, .int 0, .int 0, .int 0, .int 0, .int 0]))], [(q_1, .inl (Γ.2 0, 8, .inl (fun _ => 0)))]]) H := hP
  have hD : va_D A (wcat [[(h0, .inr (2, [.int 0, .int 0, .null, .null, .null, .null, .null, .int 0, .int 0, .int 0, .int 0, .int 0, .int 0, .int 0, .int 0, .int 0]))], [(q_1, .inl (Γ.2 0, 8, .inl (fun _ => 0)))]]) := hD
  refine va_putF (D := Γ.1) (ci := 2) (v := .ref q_1) (ty := (.array .int)) (C := RX2) (T := TX2) (N := 16) hx hb hts hi2 tyX2 tyX2_ok nmX2 hown hK hP hD hS 0 rfl rfl 2 (by decide) kf9 (fun _ h9 => h9) rfl hin rfl (by decide +kernel) rfl rfl (Nat.le_of_ble_eq_true rfl) dX2_init_9 (fun H locs hP hD hS => ?_)
  have hP : va_P Γ.1 vwCl (wcat [[(h0, .inr (2, [.int 0, .int 0, .ref q_1, .null, .null, .null, .null, .int 0, .int 0, .int 0, .int 0, .int 0, .int 0, .int 0, .int 0, .int 0]))], [(q_1, .inl (Γ.2 0, 8, .inl (fun _ => 0)))]]) H := hP
  have hD : va_D A (wcat [[(h0, .inr (2, [.int 0, .int 0, .ref q_1, .null, .null, .null, .null, .int 0, .int 0, .int 0, .int 0, .int 0, .int 0, .int 0, .int 0, .int 0]))], [(q_1, .inl (Γ.2 0, 8, .inl (fun _ => 0)))]]) := hD
  refine lv_aload_n hx hb dX2_init_12 rfl (lv_at hl 0 rfl) ?_
  refine lv_bipush (v := (nI 8)) hx hb dX2_init_13 (by decide) ?_
  refine newI (N := 8) hx hb (hts (.arrayClass .int) (by decide +kernel)) hK hP hD hS hA (by decide) (Nat.le_of_ble_eq_true rfl) (Nat.le_of_ble_eq_true rfl) (Nat.le_of_ble_eq_true rfl) dX2_init_15 (fun q_2 H hP hD hS => ?_)
  refine W.widen (k := 2) (n := 16) (Nat.le_of_ble_eq_true rfl) (Nat.le_of_ble_eq_true rfl) ?_
  have hP : va_P Γ.1 vwCl (wcat [[(h0, .inr (2, [.int 0, .int 0, .ref q_1, .null, .null, .null, .null, .int 0, .int 0, .int 0, .int 0, .int 0, .int 0, .int 0, .int 0, .int 0]))], [(q_1, .inl (Γ.2 0, 8, .inl (fun _ => 0)))], [(q_2, .inl (Γ.2 0, 8, .inl (fun _ => 0)))]]) H := hP
  have hD : va_D A (wcat [[(h0, .inr (2, [.int 0, .int 0, .ref q_1, .null, .null, .null, .null, .int 0, .int 0, .int 0, .int 0, .int 0, .int 0, .int 0, .int 0, .int 0]))], [(q_1, .inl (Γ.2 0, 8, .inl (fun _ => 0)))], [(q_2, .inl (Γ.2 0, 8, .inl (fun _ => 0)))]]) := hD
  refine va_putF (D := Γ.1) (ci := 2) (v := .ref q_2) (ty := (.array .int)) (C := RX2) (T := TX2) (N := 16) hx hb hts hi2 tyX2 tyX2_ok nmX2 hown hK hP hD hS 0 rfl rfl 3 (by decide) kf15 (fun _ h9 => h9) rfl hin rfl (by decide +kernel) rfl rfl (Nat.le_of_ble_eq_true rfl) dX2_init_17 (fun H locs hP hD hS => ?_)
  have hP : va_P Γ.1 vwCl (wcat [[(h0, .inr (2, [.int 0, .int 0, .ref q_1, .ref q_2, .null, .null, .null, .int 0, .int 0, .int 0, .int 0, .int 0, .int 0, .int 0, .int 0, .int 0]))], [(q_1, .inl (Γ.2 0, 8, .inl (fun _ => 0)))], [(q_2, .inl (Γ.2 0, 8, .inl (fun _ => 0)))]]) H := hP
  have hD : va_D A (wcat [[(h0, .inr (2, [.int 0, .int 0, .ref q_1, .ref q_2, .null, .null, .null, .int 0, .int 0, .int 0, .int 0, .int 0, .int 0, .int 0, .int 0, .int 0]))], [(q_1, .inl (Γ.2 0, 8, .inl (fun _ => 0)))], [(q_2, .inl (Γ.2 0, 8, .inl (fun _ => 0)))]]) := hD
  refine lv_aload_n hx hb dX2_init_20 rfl (lv_at hl 0 rfl) ?_
  refine lv_bipush (v := (nI 8)) hx hb dX2_init_21 (by decide) ?_
  refine newI (N := 8) hx hb (hts (.arrayClass .int) (by decide +kernel)) hK hP hD hS hA (by decide) (Nat.le_of_ble_eq_true rfl) (Nat.le_of_ble_eq_true rfl) (Nat.le_of_ble_eq_true rfl) dX2_init_23 (fun q_3 H hP hD hS => ?_)
  refine W.widen (k := 3) (n := 24) (Nat.le_of_ble_eq_true rfl) (Nat.le_of_ble_eq_true rfl) ?_
  have hP : va_P Γ.1 vwCl (wcat [[(h0, .inr (2, [.int 0, .int 0, .ref q_1, .ref q_2, .null, .null, .null, .int 0, .int 0, .int 0, .int 0, .int 0, .int 0, .int 0, .int 0, .int 0]))], [(q_1, .inl (Γ.2 0, 8, .inl (fun _ => 0)))], [(q_2, .inl (Γ.2 0, 8, .inl (fun _ => 0)))], [(q_3, .inl (Γ.2 0, 8, .inl (fun _ => 0)))]]) H := hP
  have hD : va_D A (wcat [[(h0, .inr (2, [.int 0, .int 0, .ref q_1, .ref q_2, .null, .null, .null, .int 0, .int 0, .int 0, .int 0, .int 0, .int 0, .int 0, .int 0, .int 0]))], [(q_1, .inl (Γ.2 0, 8, .inl (fun _ => 0)))], [(q_2, .inl (Γ.2 0, 8, .inl (fun _ => 0)))], [(q_3, .inl (Γ.2 0, 8, .inl (fun _ => 0)))]]) := hD
  refine va_putF (D := Γ.1) (ci := 2) (v := .ref q_3) (ty := (.array .int)) (C := RX2) (T := TX2) (N := 16) hx hb hts hi2 tyX2 tyX2_ok nmX2 hown hK hP hD hS 0 rfl rfl 4 (by decide) kf18 (fun _ h9 => h9) rfl hin rfl (by decide +kernel) rfl rfl (Nat.le_of_ble_eq_true rfl) dX2_init_25 (fun H locs hP hD hS => ?_)
  have hP : va_P Γ.1 vwCl (wcat [[(h0, .inr (2, [.int 0, .int 0, .ref q_1, .ref q_2, .ref q_3, .null, .null, .int 0, .int 0, .int 0, .int 0, .int 0, .int 0, .int 0, .int 0, .int 0]))], [(q_1, .inl (Γ.2 0, 8, .inl (fun _ => 0)))], [(q_2, .inl (Γ.2 0, 8, .inl (fun _ => 0)))], [(q_3, .inl (Γ.2 0, 8, .inl (fun _ => 0)))]]) H := hP
  have hD : va_D A (wcat [[(h0, .inr (2, [.int 0, .int 0, .ref q_1, .ref q_2, .ref q_3, .null, .null, .int 0, .int 0, .int 0, .int 0, .int 0, .int 0, .int 0, .int 0, .int 0]))], [(q_1, .inl (Γ.2 0, 8, .inl (fun _ => 0)))], [(q_2, .inl (Γ.2 0, 8, .inl (fun _ => 0)))], [(q_3, .inl (Γ.2 0, 8, .inl (fun _ => 0)))]]) := hD
  refine lv_aload_n hx hb dX2_init_28 rfl (lv_at hl 0 rfl) ?_
  refine lv_bipush (v := (nI 8)) hx hb dX2_init_29 (by decide) ?_
  refine newI (N := 8) hx hb (hts (.arrayClass .int) (by decide +kernel)) hK hP hD hS hA (by decide) (Nat.le_of_ble_eq_true rfl) (Nat.le_of_ble_eq_true rfl) (Nat.le_of_ble_eq_true rfl) dX2_init_31 (fun q_4 H hP hD hS => ?_)
  refine W.widen (k := 4) (n := 32) (Nat.le_of_ble_eq_true rfl) (Nat.le_of_ble_eq_true rfl) ?_
  have hP : va_P Γ.1 vwCl (wcat [[(h0, .inr (2, [.int 0, .int 0, .ref q_1, .ref q_2, .ref q_3, .null, .null, .int 0, .int 0, .int 0, .int 0, .int 0, .int 0, .int 0, .int 0, .int 0]))], [(q_1, .inl (Γ.2 0, 8, .inl (fun _ => 0)))], [(q_2, .inl (Γ.2 0, 8, .inl (fun _ => 0)))], [(q_3, .inl (Γ.2 0, 8, .inl (fun _ => 0)))], [(q_4, .inl (Γ.2 0, 8, .inl (fun _ => 0)))]]) H := hP
  have hD : va_D A (wcat [[(h0, .inr (2, [.int 0, .int 0, .ref q_1, .ref q_2, .ref q_3, .null, .null, .int 0, .int 0, .int 0, .int 0, .int 0, .int 0, .int 0, .int 0, .int 0]))], [(q_1, .inl (Γ.2 0, 8, .inl (fun _ => 0)))], [(q_2, .inl (Γ.2 0, 8, .inl (fun _ => 0)))], [(q_3, .inl (Γ.2 0, 8, .inl (fun _ => 0)))], [(q_4, .inl (Γ.2 0, 8, .inl (fun _ => 0)))]]) := hD
  refine va_putF (D := Γ.1) (ci := 2) (v := .ref q_4) (ty := (.array .int)) (C := RX2) (T := TX2) (N := 16) hx hb hts hi2 tyX2 tyX2_ok nmX2 hown hK hP hD hS 0 rfl rfl 5 (by decide) kf21 (fun _ h9 => h9) rfl hin rfl (by decide +kernel) rfl rfl (Nat.le_of_ble_eq_true rfl) dX2_init_33 (fun H locs hP hD hS => ?_)
  have hP : va_P Γ.1 vwCl (wcat [[(h0, .inr (2, [.int 0, .int 0, .ref q_1, .ref q_2, .ref q_3, .ref q_4, .null, .int 0, .int 0, .int 0, .int 0, .int 0, .int 0, .int 0, .int 0, .int 0]))], [(q_1, .inl (Γ.2 0, 8, .inl (fun _ => 0)))], [(q_2, .inl (Γ.2 0, 8, .inl (fun _ => 0)))], [(q_3, .inl (Γ.2 0, 8, .inl (fun _ => 0)))], [(q_4, .inl (Γ.2 0, 8, .inl (fun _ => 0)))]]) H := hP
  have hD : va_D A (wcat [[(h0, .inr (2, [.int 0, .int 0, .ref q_1, .ref q_2, .ref q_3, .ref q_4, .null, .int 0, .int 0, .int 0, .int 0, .int 0, .int 0, .int 0, .int 0, .int 0]))], [(q_1, .inl (Γ.2 0, 8, .inl (fun _ => 0)))], [(q_2, .inl (Γ.2 0, 8, .inl (fun _ => 0)))], [(q_3, .inl (Γ.2 0, 8, .inl (fun _ => 0)))], [(q_4, .inl (Γ.2 0, 8, .inl (fun _ => 0)))]]) := hD
  refine lv_aload_n hx hb dX2_init_36 rfl (lv_at hl 0 rfl) ?_
  refine lv_bipush (v := (nI 8)) hx hb dX2_init_37 (by decide) ?_
  refine newI (N := 8) hx hb (hts (.arrayClass .int) (by decide +kernel)) hK hP hD hS hA (by decide) (Nat.le_of_ble_eq_true rfl) (Nat.le_of_ble_eq_true rfl) (Nat.le_of_ble_eq_true rfl) dX2_init_39 (fun q_5 H hP hD hS => ?_)
  refine W.widen (k := 5) (n := 40) (Nat.le_of_ble_eq_true rfl) (Nat.le_of_ble_eq_true rfl) ?_
  have hP : va_P Γ.1 vwCl (wcat [[(h0, .inr (2, [.int 0, .int 0, .ref q_1, .ref q_2, .ref q_3, .ref q_4, .null, .int 0, .int 0, .int 0, .int 0, .int 0, .int 0, .int 0, .int 0, .int 0]))], [(q_1, .inl (Γ.2 0, 8, .inl (fun _ => 0)))], [(q_2, .inl (Γ.2 0, 8, .inl (fun _ => 0)))], [(q_3, .inl (Γ.2 0, 8, .inl (fun _ => 0)))], [(q_4, .inl (Γ.2 0, 8, .inl (fun _ => 0)))], [(q_5, .inl (Γ.2 0, 8, .inl (fun _ => 0)))]]) H := hP
  have hD : va_D A (wcat [[(h0, .inr (2, [.int 0, .int 0, .ref q_1, .ref q_2, .ref q_3, .ref q_4, .null, .int 0, .int 0, .int 0, .int 0, .int 0, .int 0, .int 0, .int 0, .int 0]))], [(q_1, .inl (Γ.2 0, 8, .inl (fun _ => 0)))], [(q_2, .inl (Γ.2 0, 8, .inl (fun _ => 0)))], [(q_3, .inl (Γ.2 0, 8, .inl (fun _ => 0)))], [(q_4, .inl (Γ.2 0, 8, .inl (fun _ => 0)))], [(q_5, .inl (Γ.2 0, 8, .inl (fun _ => 0)))]]) := hD
  refine va_putF (D := Γ.1) (ci := 2) (v := .ref q_5) (ty := (.array .int)) (C := RX2) (T := TX2) (N := 16) hx hb hts hi2 tyX2 tyX2_ok nmX2 hown hK hP hD hS 0 rfl rfl 6 (by decide) kf24 (fun _ h9 => h9) rfl hin rfl (by decide +kernel) rfl rfl (Nat.le_of_ble_eq_true rfl) dX2_init_41 (fun H locs hP hD hS => ?_)
  have hP : va_P Γ.1 vwCl (wcat [[(h0, .inr (2, [.int 0, .int 0, .ref q_1, .ref q_2, .ref q_3, .ref q_4, .ref q_5, .int 0, .int 0, .int 0, .int 0, .int 0, .int 0, .int 0, .int 0, .int 0]))], [(q_1, .inl (Γ.2 0, 8, .inl (fun _ => 0)))], [(q_2, .inl (Γ.2 0, 8, .inl (fun _ => 0)))], [(q_3, .inl (Γ.2 0, 8, .inl (fun _ => 0)))], [(q_4, .inl (Γ.2 0, 8, .inl (fun _ => 0)))], [(q_5, .inl (Γ.2 0, 8, .inl (fun _ => 0)))]]) H := hP
  have hD : va_D A (wcat [[(h0, .inr (2, [.int 0, .int 0, .ref q_1, .ref q_2, .ref q_3, .ref q_4, .ref q_5, .int 0, .int 0, .int 0, .int 0, .int 0, .int 0, .int 0, .int 0, .int 0]))], [(q_1, .inl (Γ.2 0, 8, .inl (fun _ => 0)))], [(q_2, .inl (Γ.2 0, 8, .inl (fun _ => 0)))], [(q_3, .inl (Γ.2 0, 8, .inl (fun _ => 0)))], [(q_4, .inl (Γ.2 0, 8, .inl (fun _ => 0)))], [(q_5, .inl (Γ.2 0, 8, .inl (fun _ => 0)))]]) := hD
  refine lv_iconst (v := (nI 0)) hx hb dX2_init_44 (by decide) ?_
  refine lv_istore_n (lv' := [(1, .int (nI 0)), (0, .ref h0)]) hx hb dX2_init_45 rfl hl (by decide) rfl (fun ls hl => ?_)
  refine lv_iload_n hx hb dX2_init_46 rfl (lv_at hl 0 rfl) ?_
  refine lv_bipush (v := (nI 8)) hx hb dX2_init_47 (by decide) ?_
  refine lv_icmp_ge (tgt := 72) hx hb dX2_init_49 (by decide) (fun c_49 => absurd c_49 (by decide)) (fun c_49 => ?_)
  refine lv_aload_n hx hb dX2_init_52 rfl (lv_at hl 1 rfl) ?_
  refine va_get (D := Γ.1) (ci := 2) (v := .ref q_1) (C := RX2) (T := TX2) (N := 16) hx hb hts hi2 hown hK hP 0 rfl rfl 2 (by decide) kf9 (fun _ h9 => h9) rfl dX2_init_53 ?_
  refine lv_iload_n hx hb dX2_init_56 rfl (lv_at hl 0 rfl) ?_
  refine lv_iconst (v := (-1)) hx hb dX2_init_57 (by decide) ?_
  refine va_iast_n (f := (fun _ => 0)) hx hb hK hP hD hS 1 0 rfl rfl (by omega) (Nat.le_of_ble_eq_true rfl) dX2_init_58 (fun H locs hP hD hS => ?_)
  have hP : va_P Γ.1 vwCl (wcat [[(h0, .inr (2, [.int 0, .int 0, .ref q_1, .ref q_2, .ref q_3, .ref q_4, .ref q_5, .int 0, .int 0, .int 0, .int 0, .int 0, .int 0, .int 0, .int 0, .int 0]))], [(q_1, .inl (Γ.2 0, 8, .inl (upd (fun _ => 0) 0 (-1))))], [(q_2, .inl (Γ.2 0, 8, .inl (fun _ => 0)))], [(q_3, .inl (Γ.2 0, 8, .inl (fun _ => 0)))], [(q_4, .inl (Γ.2 0, 8, .inl (fun _ => 0)))], [(q_5, .inl (Γ.2 0, 8, .inl (fun _ => 0)))]]) H := hP
  have hD : va_D A (wcat [[(h0, .inr (2, [.int 0, .int 0, .ref q_1, .ref q_2, .ref q_3, .ref q_4, .ref q_5, .int 0, .int 0, .int 0, .int 0, .int 0, .int 0, .int 0, .int 0, .int 0]))], [(q_1, .inl (Γ.2 0, 8, .inl (upd (fun _ => 0) 0 (-1))))], [(q_2, .inl (Γ.2 0, 8, .inl (fun _ => 0)))], [(q_3, .inl (Γ.2 0, 8, .inl (fun _ => 0)))], [(q_4, .inl (Γ.2 0, 8, .inl (fun _ => 0)))], [(q_5, .inl (Γ.2 0, 8, .inl (fun _ => 0)))]]) := hD
  refine lv_aload_n hx hb dX2_init_59 rfl (lv_at hl 1 rfl) ?_
  refine va_get (D := Γ.1) (ci := 2) (v := .ref q_4) (C := RX2) (T := TX2) (N := 16) hx hb hts hi2 hown hK hP 0 rfl rfl 5 (by decide) kf21 (fun _ h9 => h9) rfl dX2_init_60 ?_
  refine lv_iload_n hx hb dX2_init_63 rfl (lv_at hl 0 rfl) ?_
  refine lv_iconst (v := (-1)) hx hb dX2_init_64 (by decide) ?_
  refine va_iast_n (f := (fun _ => 0)) hx hb hK hP hD hS 4 0 rfl rfl (by omega) (Nat.le_of_ble_eq_true rfl) dX2_init_65 (fun H locs hP hD hS => ?_)
  have hP : va_P Γ.1 vwCl (wcat [[(h0, .inr (2, [.int 0, .int 0, .ref q_1, .ref q_2, .ref q_3, .ref q_4, .ref q_5, .int 0, .int 0, .int 0, .int 0, .int 0, .int 0, .int 0, .int 0, .int 0]))], [(q_1, .inl (Γ.2 0, 8, .inl (upd (fun _ => 0) 0 (-1))))], [(q_2, .inl (Γ.2 0, 8, .inl (fun _ => 0)))], [(q_3, .inl (Γ.2 0, 8, .inl (fun _ => 0)))], [(q_4, .inl (Γ.2 0, 8, .inl (upd (fun _ => 0) 0 (-1))))], [(q_5, .inl (Γ.2 0, 8, .inl (fun _ => 0)))]]) H := hP
  have hD : va_D A (wcat [[(h0, .inr (2, [.int 0, .int 0, .ref q_1, .ref q_2, .ref q_3, .ref q_4, .ref q_5, .int 0, .int 0, .int 0, .int 0, .int 0, .int 0, .int 0, .int 0, .int 0]))], [(q_1, .inl (Γ.2 0, 8, .inl (upd (fun _ => 0) 0 (-1))))], [(q_2, .inl (Γ.2 0, 8, .inl (fun _ => 0)))], [(q_3, .inl (Γ.2 0, 8, .inl (fun _ => 0)))], [(q_4, .inl (Γ.2 0, 8, .inl (upd (fun _ => 0) 0 (-1))))], [(q_5, .inl (Γ.2 0, 8, .inl (fun _ => 0)))]]) := hD
  refine lv_iinc (v := (nI 1)) (lv' := [(1, .int (nI 1)), (0, .ref h0)]) hx hb dX2_init_66 hl (k := 0) rfl (by decide) (by decide) rfl (fun ls hl => ?_)
  refine lv_goto (tgt := 46) hx hb dX2_init_69 (by decide) ?_
  refine lv_iload_n hx hb dX2_init_46 rfl (lv_at hl 0 rfl) ?_
  refine lv_bipush (v := (nI 8)) hx hb dX2_init_47 (by decide) ?_
  refine lv_icmp_ge (tgt := 72) hx hb dX2_init_49 (by decide) (fun c_49 => absurd c_49 (by decide)) (fun c_49 => ?_)
  refine lv_aload_n hx hb dX2_init_52 rfl (lv_at hl 1 rfl) ?_
  refine va_get (D := Γ.1) (ci := 2) (v := .ref q_1) (C := RX2) (T := TX2) (N := 16) hx hb hts hi2 hown hK hP 0 rfl rfl 2 (by decide) kf9 (fun _ h9 => h9) rfl dX2_init_53 ?_
  refine lv_iload_n hx hb dX2_init_56 rfl (lv_at hl 0 rfl) ?_
  refine lv_iconst (v := (-1)) hx hb dX2_init_57 (by decide) ?_
  refine va_iast_n (f := (upd (fun _ => 0) 0 (-1))) hx hb hK hP hD hS 1 0 rfl rfl (by omega) (Nat.le_of_ble_eq_true rfl) dX2_init_58 (fun H locs hP hD hS => ?_)
  have hP : va_P Γ.1 vwCl (wcat [[(h0, .inr (2, [.int 0, .int 0, .ref q_1, .ref q_2, .ref q_3, .ref q_4, .ref q_5, .int 0, .int 0, .int 0, .int 0, .int 0, .int 0, .int 0, .int 0, .int 0]))], [(q_1, .inl (Γ.2 0, 8, .inl (upd (upd (fun _ => 0) 0 (-1)) 1 (-1))))], [(q_2, .inl (Γ.2 0, 8, .inl (fun _ => 0)))], [(q_3, .inl (Γ.2 0, 8, .inl (fun _ => 0)))], [(q_4, .inl (Γ.2 0, 8, .inl (upd (fun _ => 0) 0 (-1))))], [(q_5, .inl (Γ.2 0, 8, .inl (fun _ => 0)))]]) H := hP
  have hD : va_D A (wcat [[(h0, .inr (2, [.int 0, .int 0, .ref q_1, .ref q_2, .ref q_3, .ref q_4, .ref q_5, .int 0, .int 0, .int 0, .int 0, .int 0, .int 0, .int 0, .int 0, .int 0]))], [(q_1, .inl (Γ.2 0, 8, .inl (upd (upd (fun _ => 0) 0 (-1)) 1 (-1))))], [(q_2, .inl (Γ.2 0, 8, .inl (fun _ => 0)))], [(q_3, .inl (Γ.2 0, 8, .inl (fun _ => 0)))], [(q_4, .inl (Γ.2 0, 8, .inl (upd (fun _ => 0) 0 (-1))))], [(q_5, .inl (Γ.2 0, 8, .inl (fun _ => 0)))]]) := hD
  refine lv_aload_n hx hb dX2_init_59 rfl (lv_at hl 1 rfl) ?_
  refine va_get (D := Γ.1) (ci := 2) (v := .ref q_4) (C := RX2) (T := TX2) (N := 16) hx hb hts hi2 hown hK hP 0 rfl rfl 5 (by decide) kf21 (fun _ h9 => h9) rfl dX2_init_60 ?_
  refine lv_iload_n hx hb dX2_init_63 rfl (lv_at hl 0 rfl) ?_
  refine lv_iconst (v := (-1)) hx hb dX2_init_64 (by decide) ?_
  refine va_iast_n (f := (upd (fun _ => 0) 0 (-1))) hx hb hK hP hD hS 4 0 rfl rfl (by omega) (Nat.le_of_ble_eq_true rfl) dX2_init_65 (fun H locs hP hD hS => ?_)
  have hP : va_P Γ.1 vwCl (wcat [[(h0, .inr (2, [.int 0, .int 0, .ref q_1, .ref q_2, .ref q_3, .ref q_4, .ref q_5, .int 0, .int 0, .int 0, .int 0, .int 0, .int 0, .int 0, .int 0, .int 0]))], [(q_1, .inl (Γ.2 0, 8, .inl (upd (upd (fun _ => 0) 0 (-1)) 1 (-1))))], [(q_2, .inl (Γ.2 0, 8, .inl (fun _ => 0)))], [(q_3, .inl (Γ.2 0, 8, .inl (fun _ => 0)))], [(q_4, .inl (Γ.2 0, 8, .inl (upd (upd (fun _ => 0) 0 (-1)) 1 (-1))))], [(q_5, .inl (Γ.2 0, 8, .inl (fun _ => 0)))]]) H := hP
  have hD : va_D A (wcat [[(h0, .inr (2, [.int 0, .int 0, .ref q_1, .ref q_2, .ref q_3, .ref q_4, .ref q_5, .int 0, .int 0, .int 0, .int 0, .int 0, .int 0, .int 0, .int 0, .int 0]))], [(q_1, .inl (Γ.2 0, 8, .inl (upd (upd (fun _ => 0) 0 (-1)) 1 (-1))))], [(q_2, .inl (Γ.2 0, 8, .inl (fun _ => 0)))], [(q_3, .inl (Γ.2 0, 8, .inl (fun _ => 0)))], [(q_4, .inl (Γ.2 0, 8, .inl (upd (upd (fun _ => 0) 0 (-1)) 1 (-1))))], [(q_5, .inl (Γ.2 0, 8, .inl (fun _ => 0)))]]) := hD
  refine lv_iinc (v := (nI 2)) (lv' := [(1, .int (nI 2)), (0, .ref h0)]) hx hb dX2_init_66 hl (k := 0) rfl (by decide) (by decide) rfl (fun ls hl => ?_)
  refine lv_goto (tgt := 46) hx hb dX2_init_69 (by decide) ?_
  refine lv_iload_n hx hb dX2_init_46 rfl (lv_at hl 0 rfl) ?_
  refine lv_bipush (v := (nI 8)) hx hb dX2_init_47 (by decide) ?_
  refine lv_icmp_ge (tgt := 72) hx hb dX2_init_49 (by decide) (fun c_49 => absurd c_49 (by decide)) (fun c_49 => ?_)
  refine lv_aload_n hx hb dX2_init_52 rfl (lv_at hl 1 rfl) ?_
  refine va_get (D := Γ.1) (ci := 2) (v := .ref q_1) (C := RX2) (T := TX2) (N := 16) hx hb hts hi2 hown hK hP 0 rfl rfl 2 (by decide) kf9 (fun _ h9 => h9) rfl dX2_init_53 ?_
  refine lv_iload_n hx hb dX2_init_56 rfl (lv_at hl 0 rfl) ?_
  refine lv_iconst (v := (-1)) hx hb dX2_init_57 (by decide) ?_
  refine va_iast_n (f := (upd (upd (fun _ => 0) 0 (-1)) 1 (-1))) hx hb hK hP hD hS 1 0 rfl rfl (by omega) (Nat.le_of_ble_eq_true rfl) dX2_init_58 (fun H locs hP hD hS => ?_)
  have hP : va_P Γ.1 vwCl (wcat [[(h0, .inr (2, [.int 0, .int 0, .ref q_1, .ref q_2, .ref q_3, .ref q_4, .ref q_5, .int 0, .int 0, .int 0, .int 0, .int 0, .int 0, .int 0, .int 0, .int 0]))], [(q_1, .inl (Γ.2 0, 8, .inl (upd (upd (upd (fun _ => 0) 0 (-1)) 1 (-1)) 2 (-1))))], [(q_2, .inl (Γ.2 0, 8, .inl (fun _ => 0)))], [(q_3, .inl (Γ.2 0, 8, .inl (fun _ => 0)))], [(q_4, .inl (Γ.2 0, 8, .inl (upd (upd (fun _ => 0) 0 (-1)) 1 (-1))))], [(q_5, .inl (Γ.2 0, 8, .inl (fun _ => 0)))]]) H := hP
  have hD : va_D A (wcat [[(h0, .inr (2, [.int 0, .int 0, .ref q_1, .ref q_2, .ref q_3, .ref q_4, .ref q_5, .int 0, .int 0, .int 0, .int 0, .int 0, .int 0, .int 0, .int 0, .int 0]))], [(q_1, .inl (Γ.2 0, 8, .inl (upd (upd (upd (fun _ => 0) 0 (-1)) 1 (-1)) 2 (-1))))], [(q_2, .inl (Γ.2 0, 8, .inl (fun _ => 0)))], [(q_3, .inl (Γ.2 0, 8, .inl (fun _ => 0)))], [(q_4, .inl (Γ.2 0, 8, .inl (upd (upd (fun _ => 0) 0 (-1)) 1 (-1))))], [(q_5, .inl (Γ.2 0, 8, .inl (fun _ => 0)))]]) := hD
  refine lv_aload_n hx hb dX2_init_59 rfl (lv_at hl 1 rfl) ?_
  refine va_get (D := Γ.1) (ci := 2) (v := .ref q_4) (C := RX2) (T := TX2) (N := 16) hx hb hts hi2 hown hK hP 0 rfl rfl 5 (by decide) kf21 (fun _ h9 => h9) rfl dX2_init_60 ?_
  refine lv_iload_n hx hb dX2_init_63 rfl (lv_at hl 0 rfl) ?_
  refine lv_iconst (v := (-1)) hx hb dX2_init_64 (by decide) ?_
  refine va_iast_n (f := (upd (upd (fun _ => 0) 0 (-1)) 1 (-1))) hx hb hK hP hD hS 4 0 rfl rfl (by omega) (Nat.le_of_ble_eq_true rfl) dX2_init_65 (fun H locs hP hD hS => ?_)
  have hP : va_P Γ.1 vwCl (wcat [[(h0, .inr (2, [.int 0, .int 0, .ref q_1, .ref q_2, .ref q_3, .ref q_4, .ref q_5, .int 0, .int 0, .int 0, .int 0, .int 0, .int 0, .int 0, .int 0, .int 0]))], [(q_1, .inl (Γ.2 0, 8, .inl (upd (upd (upd (fun _ => 0) 0 (-1)) 1 (-1)) 2 (-1))))], [(q_2, .inl (Γ.2 0, 8, .inl (fun _ => 0)))], [(q_3, .inl (Γ.2 0, 8, .inl (fun _ => 0)))], [(q_4, .inl (Γ.2 0, 8, .inl (upd (upd (upd (fun _ => 0) 0 (-1)) 1 (-1)) 2 (-1))))], [(q_5, .inl (Γ.2 0, 8, .inl (fun _ => 0)))]]) H := hP
  have hD : va_D A (wcat [[(h0, .inr (2, [.int 0, .int 0, .ref q_1, .ref q_2, .ref q_3, .ref q_4, .ref q_5, .int 0, .int 0, .int 0, .int 0, .int 0, .int 0, .int 0, .int 0, .int 0]))], [(q_1, .inl (Γ.2 0, 8, .inl (upd (upd (upd (fun _ => 0) 0 (-1)) 1 (-1)) 2 (-1))))], [(q_2, .inl (Γ.2 0, 8, .inl (fun _ => 0)))], [(q_3, .inl (Γ.2 0, 8, .inl (fun _ => 0)))], [(q_4, .inl (Γ.2 0, 8, .inl (upd (upd (upd (fun _ => 0) 0 (-1)) 1 (-1)) 2 (-1))))], [(q_5, .inl (Γ.2 0, 8, .inl (fun _ => 0)))]]) := hD
  refine lv_iinc (v := (nI 3)) (lv' := [(1, .int (nI 3)), (0, .ref h0)]) hx hb dX2_init_66 hl (k := 0) rfl (by decide) (by decide) rfl (fun ls hl => ?_)
  refine lv_goto (tgt := 46) hx hb dX2_init_69 (by decide) ?_
  refine lv_iload_n hx hb dX2_init_46 rfl (lv_at hl 0 rfl) ?_
  refine lv_bipush (v := (nI 8)) hx hb dX2_init_47 (by decide) ?_
  refine lv_icmp_ge (tgt := 72) hx hb dX2_init_49 (by decide) (fun c_49 => absurd c_49 (by decide)) (fun c_49 => ?_)
  refine lv_aload_n hx hb dX2_init_52 rfl (lv_at hl 1 rfl) ?_
  refine va_get (D := Γ.1) (ci := 2) (v := .ref q_1) (C := RX2) (T := TX2) (N := 16) hx hb hts hi2 hown hK hP 0 rfl rfl 2 (by decide) kf9 (fun _ h9 => h9) rfl dX2_init_53 ?_
  refine lv_iload_n hx hb dX2_init_56 rfl (lv_at hl 0 rfl) ?_
  refine lv_iconst (v := (-1)) hx hb dX2_init_57 (by decide) ?_
  refine va_iast_n (f := (upd (upd (upd (fun _ => 0) 0 (-1)) 1 (-1)) 2 (-1))) hx hb hK hP hD hS 1 0 rfl rfl (by omega) (Nat.le_of_ble_eq_true rfl) dX2_init_58 (fun H locs hP hD hS => ?_)
  have hP : va_P Γ.1 vwCl (wcat [[(h0, .inr (2, [.int 0, .int 0, .ref q_1, .ref q_2, .ref q_3, .ref q_4, .ref q_5, .int 0, .int 0, .int 0, .int 0, .int 0, .int 0, .int 0, .int 0, .int 0]))], [(q_1, .inl (Γ.2 0, 8, .inl (upd (upd (upd (upd (fun _ => 0) 0 (-1)) 1 (-1)) 2 (-1)) 3 (-1))))], [(q_2, .inl (Γ.2 0, 8, .inl (fun _ => 0)))], [(q_3, .inl (Γ.2 0, 8, .inl (fun _ => 0)))], [(q_4, .inl (Γ.2 0, 8, .inl (upd (upd (upd (fun _ => 0) 0 (-1)) 1 (-1)) 2 (-1))))], [(q_5, .inl (Γ.2 0, 8, .inl (fun _ => 0)))]]) H := hP
  have hD : va_D A (wcat [[(h0, .inr (2, [.int 0, .int 0, .ref q_1, .ref q_2, .ref q_3, .ref q_4, .ref q_5, .int 0, .int 0, .int 0, .int 0, .int 0, .int 0, .int 0, .int 0, .int 0]))], [(q_1, .inl (Γ.2 0, 8, .inl (upd (upd (upd (upd (fun _ => 0) 0 (-1)) 1 (-1)) 2 (-1)) 3 (-1))))], [(q_2, .inl (Γ.2 0, 8, .inl (fun _ => 0)))], [(q_3, .inl (Γ.2 0, 8, .inl (fun _ => 0)))], [(q_4, .inl (Γ.2 0, 8, .inl (upd (upd (upd (fun _ => 0) 0 (-1)) 1 (-1)) 2 (-1))))], [(q_5, .inl (Γ.2 0, 8, .inl (fun _ => 0)))]]) := hD
  refine lv_aload_n hx hb dX2_init_59 rfl (lv_at hl 1 rfl) ?_
  refine va_get (D := Γ.1) (ci := 2) (v := .ref q_4) (C := RX2) (T := TX2) (N := 16) hx hb hts hi2 hown hK hP 0 rfl rfl 5 (by decide) kf21 (fun _ h9 => h9) rfl dX2_init_60 ?_
  refine lv_iload_n hx hb dX2_init_63 rfl (lv_at hl 0 rfl) ?_
  refine lv_iconst (v := (-1)) hx hb dX2_init_64 (by decide) ?_
  refine va_iast_n (f := (upd (upd (upd (fun _ => 0) 0 (-1)) 1 (-1)) 2 (-1))) hx hb hK hP hD hS 4 0 rfl rfl (by omega) (Nat.le_of_ble_eq_true rfl) dX2_init_65 (fun H locs hP hD hS => ?_)
  have hP : va_P Γ.1 vwCl (wcat [[(h0, .inr (2, [.int 0, .int 0, .ref q_1, .ref q_2, .ref q_3, .ref q_4, .ref q_5, .int 0, .int 0, .int 0, .int 0, .int 0, .int 0, .int 0, .int 0, .int 0]))], [(q_1, .inl (Γ.2 0, 8, .inl (upd (upd (upd (upd (fun _ => 0) 0 (-1)) 1 (-1)) 2 (-1)) 3 (-1))))], [(q_2, .inl (Γ.2 0, 8, .inl (fun _ => 0)))], [(q_3, .inl (Γ.2 0, 8, .inl (fun _ => 0)))], [(q_4, .inl (Γ.2 0, 8, .inl (upd (upd (upd (upd (fun _ => 0) 0 (-1)) 1 (-1)) 2 (-1)) 3 (-1))))], [(q_5, .inl (Γ.2 0, 8, .inl (fun _ => 0)))]]) H := hP
  have hD : va_D A (wcat [[(h0, .inr (2, [.int 0, .int 0, .ref q_1, .ref q_2, .ref q_3, .ref q_4, .ref q_5, .int 0, .int 0, .int 0, .int 0, .int 0, .int 0, .int 0, .int 0, .int 0]))], [(q_1, .inl (Γ.2 0, 8, .inl (upd (upd (upd (upd (fun _ => 0) 0 (-1)) 1 (-1)) 2 (-1)) 3 (-1))))], [(q_2, .inl (Γ.2 0, 8, .inl (fun _ => 0)))], [(q_3, .inl (Γ.2 0, 8, .inl (fun _ => 0)))], [(q_4, .inl (Γ.2 0, 8, .inl (upd (upd (upd (upd (fun _ => 0) 0 (-1)) 1 (-1)) 2 (-1)) 3 (-1))))], [(q_5, .inl (Γ.2 0, 8, .inl (fun _ => 0)))]]) := hD
  refine lv_iinc (v := (nI 4)) (lv' := [(1, .int (nI 4)), (0, .ref h0)]) hx hb dX2_init_66 hl (k := 0) rfl (by decide) (by decide) rfl (fun ls hl => ?_)
  refine lv_goto (tgt := 46) hx hb dX2_init_69 (by decide) ?_
  refine lv_iload_n hx hb dX2_init_46 rfl (lv_at hl 0 rfl) ?_
  refine lv_bipush (v := (nI 8)) hx hb dX2_init_47 (by decide) ?_
  refine lv_icmp_ge (tgt := 72) hx hb dX2_init_49 (by decide) (fun c_49 => absurd c_49 (by decide)) (fun c_49 => ?_)
  refine lv_aload_n hx hb dX2_init_52 rfl (lv_at hl 1 rfl) ?_
  refine va_get (D := Γ.1) (ci := 2) (v := .ref q_1) (C := RX2) (T := TX2) (N := 16) hx hb hts hi2 hown hK hP 0 rfl rfl 2 (by decide) kf9 (fun _ h9 => h9) rfl dX2_init_53 ?_
  refine lv_iload_n hx hb dX2_init_56 rfl (lv_at hl 0 rfl) ?_
  refine lv_iconst (v := (-1)) hx hb dX2_init_57 (by decide) ?_
  refine va_iast_n (f := (upd (upd (upd (upd (fun _ => 0) 0 (-1)) 1 (-1)) 2 (-1)) 3 (-1))) hx hb hK hP hD hS 1 0 rfl rfl (by omega) (Nat.le_of_ble_eq_true rfl) dX2_init_58 (fun H locs hP hD hS => ?_)
  have hP : va_P Γ.1 vwCl (wcat [[(h0, .inr (2, [.int 0, .int 0, .ref q_1, .ref q_2, .ref q_3, .ref q_4, .ref q_5, .int 0, .int 0, .int 0, .int 0, .int 0, .int 0, .int 0, .int 0, .int 0]))], [(q_1, .inl (Γ.2 0, 8, .inl (upd (upd (upd (upd (upd (fun _ => 0) 0 (-1)) 1 (-1)) 2 (-1)) 3 (-1)) 4 (-1))))], [(q_2, .inl (Γ.2 0, 8, .inl (fun _ => 0)))], [(q_3, .inl (Γ.2 0, 8, .inl (fun _ => 0)))], [(q_4, .inl (Γ.2 0, 8, .inl (upd (upd (upd (upd (fun _ => 0) 0 (-1)) 1 (-1)) 2 (-1)) 3 (-1))))], [(q_5, .inl (Γ.2 0, 8, .inl (fun _ => 0)))]]) H := hP
  have hD : va_D A (wcat [[(h0, .inr (2, [.int 0, .int 0, .ref q_1, .ref q_2, .ref q_3, .ref q_4, .ref q_5, .int 0, .int 0, .int 0, .int 0, .int 0, .int 0, .int 0, .int 0, .int 0]))], [(q_1, .inl (Γ.2 0, 8, .inl (upd (upd (upd (upd (upd (fun _ => 0) 0 (-1)) 1 (-1)) 2 (-1)) 3 (-1)) 4 (-1))))], [(q_2, .inl (Γ.2 0, 8, .inl (fun _ => 0)))], [(q_3, .inl (Γ.2 0, 8, .inl (fun _ => 0)))], [(q_4, .inl (Γ.2 0, 8, .inl (upd (upd (upd (upd (fun _ => 0) 0 (-1)) 1 (-1)) 2 (-1)) 3 (-1))))], [(q_5, .inl (Γ.2 0, 8, .inl (fun _ => 0)))]]) := hD
  refine lv_aload_n hx hb dX2_init_59 rfl (lv_at hl 1 rfl) ?_
  refine va_get (D := Γ.1) (ci := 2) (v := .ref q_4) (C := RX2) (T := TX2) (N := 16) hx hb hts hi2 hown hK hP 0 rfl rfl 5 (by decide) kf21 (fun _ h9 => h9) rfl dX2_init_60 ?_
  refine lv_iload_n hx hb dX2_init_63 rfl (lv_at hl 0 rfl) ?_
  refine lv_iconst (v := (-1)) hx hb dX2_init_64 (by decide) ?_
  refine va_iast_n (f := (upd (upd (upd (upd (fun _ => 0) 0 (-1)) 1 (-1)) 2 (-1)) 3 (-1))) hx hb hK hP hD hS 4 0 rfl rfl (by omega) (Nat.le_of_ble_eq_true rfl) dX2_init_65 (fun H locs hP hD hS => ?_)
  have hP : va_P Γ.1 vwCl (wcat [[(h0, .inr (2, [.int 0, .int 0, .ref q_1, .ref q_2, .ref q_3, .ref q_4, .ref q_5, .int 0, .int 0, .int 0, .int 0, .int 0, .int 0, .int 0, .int 0, .int 0]))], [(q_1, .inl (Γ.2 0, 8, .inl (upd (upd (upd (upd (upd (fun _ => 0) 0 (-1)) 1 (-1)) 2 (-1)) 3 (-1)) 4 (-1))))], [(q_2, .inl (Γ.2 0, 8, .inl (fun _ => 0)))], [(q_3, .inl (Γ.2 0, 8, .inl (fun _ => 0)))], [(q_4, .inl (Γ.2 0, 8, .inl (upd (upd (upd (upd (upd (fun _ => 0) 0 (-1)) 1 (-1)) 2 (-1)) 3 (-1)) 4 (-1))))], [(q_5, .inl (Γ.2 0, 8, .inl (fun _ => 0)))]]) H := hP
  have hD : va_D A (wcat [[(h0, .inr (2, [.int 0, .int 0, .ref q_1, .ref q_2, .ref q_3, .ref q_4, .ref q_5, .int 0, .int 0, .int 0, .int 0, .int 0, .int 0, .int 0, .int 0, .int 0]))], [(q_1, .inl (Γ.2 0, 8, .inl (upd (upd (upd (upd (upd (fun _ => 0) 0 (-1)) 1 (-1)) 2 (-1)) 3 (-1)) 4 (-1))))], [(q_2, .inl (Γ.2 0, 8, .inl (fun _ => 0)))], [(q_3, .inl (Γ.2 0, 8, .inl (fun _ => 0)))], [(q_4, .inl (Γ.2 0, 8, .inl (upd (upd (upd (upd (upd (fun _ => 0) 0 (-1)) 1 (-1)) 2 (-1)) 3 (-1)) 4 (-1))))], [(q_5, .inl (Γ.2 0, 8, .inl (fun _ => 0)))]]) := hD
  refine lv_iinc (v := (nI 5)) (lv' := [(1, .int (nI 5)), (0, .ref h0)]) hx hb dX2_init_66 hl (k := 0) rfl (by decide) (by decide) rfl (fun ls hl => ?_)
  refine lv_goto (tgt := 46) hx hb dX2_init_69 (by decide) ?_
  refine lv_iload_n hx hb dX2_init_46 rfl (lv_at hl 0 rfl) ?_
  refine lv_bipush (v := (nI 8)) hx hb dX2_init_47 (by decide) ?_
  refine lv_icmp_ge (tgt := 72) hx hb dX2_init_49 (by decide) (fun c_49 => absurd c_49 (by decide)) (fun c_49 => ?_)
  refine lv_aload_n hx hb dX2_init_52 rfl (lv_at hl 1 rfl) ?_
  refine va_get (D := Γ.1) (ci := 2) (v := .ref q_1) (C := RX2) (T := TX2) (N := 16) hx hb hts hi2 hown hK hP 0 rfl rfl 2 (by decide) kf9 (fun _ h9 => h9) rfl dX2_init_53 ?_
  refine lv_iload_n hx hb dX2_init_56 rfl (lv_at hl 0 rfl) ?_
  refine lv_iconst (v := (-1)) hx hb dX2_init_57 (by decide) ?_
  refine va_iast_n (f := (upd (upd (upd (upd (upd (fun _ => 0) 0 (-1)) 1 (-1)) 2 (-1)) 3 (-1)) 4 (-1))) hx hb hK hP hD hS 1 0 rfl rfl (by omega) (Nat.le_of_ble_eq_true rfl) dX2_init_58 (fun H locs hP hD hS => ?_)
  have hP : va_P Γ.1 vwCl (wcat [[(h0, .inr (2, [.int 0, .int 0, .ref q_1, .ref q_2, .ref q_3, .ref q_4, .ref q_5, .int 0, .int 0, .int 0, .int 0, .int 0, .int 0, .int 0, .int 0, .int 0]))], [(q_1, .inl (Γ.2 0, 8, .inl (upd (upd (upd (upd (upd (upd (fun _ => 0) 0 (-1)) 1 (-1)) 2 (-1)) 3 (-1)) 4 (-1)) 5 (-1))))], [(q_2, .inl (Γ.2 0, 8, .inl (fun _ => 0)))], [(q_3, .inl (Γ.2 0, 8, .inl (fun _ => 0)))], [(q_4, .inl (Γ.2 0, 8, .inl (upd (upd (upd (upd (upd (fun _ => 0) 0 (-1)) 1 (-1)) 2 (-1)) 3 (-1)) 4 (-1))))], [(q_5, .inl (Γ.2 0, 8, .inl (fun _ => 0)))]]) H := hP
  have hD : va_D A (wcat [[(h0, .inr (2, [.int 0, .int 0, .ref q_1, .ref q_2, .ref q_3, .ref q_4, .ref q_5, .int 0, .int 0, .int 0, .int 0, .int 0, .int 0, .int 0, .int 0, .int 0]))], [(q_1, .inl (Γ.2 0, 8, .inl (upd (upd (upd (upd (upd (upd (fun _ => 0) 0 (-1)) 1 (-1)) 2 (-1)) 3 (-1)) 4 (-1)) 5 (-1))))], [(q_2, .inl (Γ.2 0, 8, .inl (fun _ => 0)))], [(q_3, .inl (Γ.2 0, 8, .inl (fun _ => 0)))], [(q_4, .inl (Γ.2 0, 8, .inl (upd (upd (upd (upd (upd (fun _ => 0) 0 (-1)) 1 (-1)) 2 (-1)) 3 (-1)) 4 (-1))))], [(q_5, .inl (Γ.2 0, 8, .inl (fun _ => 0)))]]) := hD
  refine lv_aload_n hx hb dX2_init_59 rfl (lv_at hl 1 rfl) ?_
  refine va_get (D := Γ.1) (ci := 2) (v := .ref q_4) (C := RX2) (T := TX2) (N := 16) hx hb hts hi2 hown hK hP 0 rfl rfl 5 (by decide) kf21 (fun _ h9 => h9) rfl dX2_init_60 ?_
  refine lv_iload_n hx hb dX2_init_63 rfl (lv_at hl 0 rfl) ?_
  refine lv_iconst (v := (-1)) hx hb dX2_init_64 (by decide) ?_
  refine va_iast_n (f := (upd (upd (upd (upd (upd (fun _ => 0) 0 (-1)) 1 (-1)) 2 (-1)) 3 (-1)) 4 (-1))) hx hb hK hP hD hS 4 0 rfl rfl (by omega) (Nat.le_of_ble_eq_true rfl) dX2_init_65 (fun H locs hP hD hS => ?_)
  have hP : va_P Γ.1 vwCl (wcat [[(h0, .inr (2, [.int 0, .int 0, .ref q_1, .ref q_2, .ref q_3, .ref q_4, .ref q_5, .int 0, .int 0, .int 0, .int 0, .int 0, .int 0, .int 0, .int 0, .int 0]))], [(q_1, .inl (Γ.2 0, 8, .inl (upd (upd (upd (upd (upd (upd (fun _ => 0) 0 (-1)) 1 (-1)) 2 (-1)) 3 (-1)) 4 (-1)) 5 (-1))))], [(q_2, .inl (Γ.2 0, 8, .inl (fun _ => 0)))], [(q_3, .inl (Γ.2 0, 8, .inl (fun _ => 0)))], [(q_4, .inl (Γ.2 0, 8, .inl (upd (upd (upd (upd (upd (upd (fun _ => 0) 0 (-1)) 1 (-1)) 2 (-1)) 3 (-1)) 4 (-1)) 5 (-1))))], [(q_5, .inl (Γ.2 0, 8, .inl (fun _ => 0)))]]) H := hP
  have hD : va_D A (wcat [[(h0, .inr (2, [.int 0, .int 0, .ref q_1, .ref q_2, .ref q_3, .ref q_4, .ref q_5, .int 0, .int 0, .int 0, .int 0, .int 0, .int 0, .int 0, .int 0, .int 0]))], [(q_1, .inl (Γ.2 0, 8, .inl (upd (upd (upd (upd (upd (upd (fun _ => 0) 0 (-1)) 1 (-1)) 2 (-1)) 3 (-1)) 4 (-1)) 5 (-1))))], [(q_2, .inl (Γ.2 0, 8, .inl (fun _ => 0)))], [(q_3, .inl (Γ.2 0, 8, .inl (fun _ => 0)))], [(q_4, .inl (Γ.2 0, 8, .inl (upd (upd (upd (upd (upd (upd (fun _ => 0) 0 (-1)) 1 (-1)) 2 (-1)) 3 (-1)) 4 (-1)) 5 (-1))))], [(q_5, .inl (Γ.2 0, 8, .inl (fun _ => 0)))]]) := hD
  refine lv_iinc (v := (nI 6)) (lv' := [(1, .int (nI 6)), (0, .ref h0)]) hx hb dX2_init_66 hl (k := 0) rfl (by decide) (by decide) rfl (fun ls hl => ?_)
  refine lv_goto (tgt := 46) hx hb dX2_init_69 (by decide) ?_
  refine lv_iload_n hx hb dX2_init_46 rfl (lv_at hl 0 rfl) ?_
  refine lv_bipush (v := (nI 8)) hx hb dX2_init_47 (by decide) ?_
  refine lv_icmp_ge (tgt := 72) hx hb dX2_init_49 (by decide) (fun c_49 => absurd c_49 (by decide)) (fun c_49 => ?_)
  refine lv_aload_n hx hb dX2_init_52 rfl (lv_at hl 1 rfl) ?_
  refine va_get (D := Γ.1) (ci := 2) (v := .ref q_1) (C := RX2) (T := TX2) (N := 16) hx hb hts hi2 hown hK hP 0 rfl rfl 2 (by decide) kf9 (fun _ h9 => h9) rfl dX2_init_53 ?_
  refine lv_iload_n hx hb dX2_init_56 rfl (lv_at hl 0 rfl) ?_
  refine lv_iconst (v := (-1)) hx hb dX2_init_57 (by decide) ?_
  refine va_iast_n (f := (upd (upd (upd (upd (upd (upd (fun _ => 0) 0 (-1)) 1 (-1)) 2 (-1)) 3 (-1)) 4 (-1)) 5 (-1))) hx hb hK hP hD hS 1 0 rfl rfl (by omega) (Nat.le_of_ble_eq_true rfl) dX2_init_58 (fun H locs hP hD hS => ?_)
  have hP : va_P Γ.1 vwCl (wcat [[(h0, .inr (2, [.int 0, .int 0, .ref q_1, .ref q_2, .ref q_3, .ref q_4, .ref q_5, .int 0, .int 0, .int 0, .int 0, .int 0, .int 0, .int 0, .int 0, .int 0]))], [(q_1, .inl (Γ.2 0, 8, .inl (upd (upd (upd (upd (upd (upd (upd (fun _ => 0) 0 (-1)) 1 (-1)) 2 (-1)) 3 (-1)) 4 (-1)) 5 (-1)) 6 (-1))))], [(q_2, .inl (Γ.2 0, 8, .inl (fun _ => 0)))], [(q_3, .inl (Γ.2 0, 8, .inl (fun _ => 0)))], [(q_4, .inl (Γ.2 0, 8, .inl (upd (upd (upd (upd (upd (upd (fun _ => 0) 0 (-1)) 1 (-1)) 2 (-1)) 3 (-1)) 4 (-1)) 5 (-1))))], [(q_5, .inl (Γ.2 0, 8, .inl (fun _ => 0)))]]) H := hP
  have hD : va_D A (wcat [[(h0, .inr (2, [.int 0, .int 0, .ref q_1, .ref q_2, .ref q_3, .ref q_4, .ref q_5, .int 0, .int 0, .int 0, .int 0, .int 0, .int 0, .int 0, .int 0, .int 0]))], [(q_1, .inl (Γ.2 0, 8, .inl (upd (upd (upd (upd (upd (upd (upd (fun _ => 0) 0 (-1)) 1 (-1)) 2 (-1)) 3 (-1)) 4 (-1)) 5 (-1)) 6 (-1))))], [(q_2, .inl (Γ.2 0, 8, .inl (fun _ => 0)))], [(q_3, .inl (Γ.2 0, 8, .inl (fun _ => 0)))], [(q_4, .inl (Γ.2 0, 8, .inl (upd (upd (upd (upd (upd (upd (fun _ => 0) 0 (-1)) 1 (-1)) 2 (-1)) 3 (-1)) 4 (-1)) 5 (-1))))], [(q_5, .inl (Γ.2 0, 8, .inl (fun _ => 0)))]]) := hD
  refine lv_aload_n hx hb dX2_init_59 rfl (lv_at hl 1 rfl) ?_
  refine va_get (D := Γ.1) (ci := 2) (v := .ref q_4) (C := RX2) (T := TX2) (N := 16) hx hb hts hi2 hown hK hP 0 rfl rfl 5 (by decide) kf21 (fun _ h9 => h9) rfl dX2_init_60 ?_
  refine lv_iload_n hx hb dX2_init_63 rfl (lv_at hl 0 rfl) ?_
  refine lv_iconst (v := (-1)) hx hb dX2_init_64 (by decide) ?_
  refine va_iast_n (f := (upd (upd (upd (upd (upd (upd (fun _ => 0) 0 (-1)) 1 (-1)) 2 (-1)) 3 (-1)) 4 (-1)) 5 (-1))) hx hb hK hP hD hS 4 0 rfl rfl (by omega) (Nat.le_of_ble_eq_true rfl) dX2_init_65 (fun H locs hP hD hS => ?_)
  have hP : va_P Γ.1 vwCl (wcat [[(h0, .inr (2, [.int 0, .int 0, .ref q_1, .ref q_2, .ref q_3, .ref q_4, .ref q_5, .int 0, .int 0, .int 0, .int 0, .int 0, .int 0, .int 0, .int 0, .int 0]))], [(q_1, .inl (Γ.2 0, 8, .inl (upd (upd (upd (upd (upd (upd (upd (fun _ => 0) 0 (-1)) 1 (-1)) 2 (-1)) 3 (-1)) 4 (-1)) 5 (-1)) 6 (-1))))], [(q_2, .inl (Γ.2 0, 8, .inl (fun _ => 0)))], [(q_3, .inl (Γ.2 0, 8, .inl (fun _ => 0)))], [(q_4, .inl (Γ.2 0, 8, .inl (upd (upd (upd (upd (upd (upd (upd (fun _ => 0) 0 (-1)) 1 (-1)) 2 (-1)) 3 (-1)) 4 (-1)) 5 (-1)) 6 (-1))))], [(q_5, .inl (Γ.2 0, 8, .inl (fun _ => 0)))]]) H := hP
  have hD : va_D A (wcat [[(h0, .inr (2, [.int 0, .int 0, .ref q_1, .ref q_2, .ref q_3, .ref q_4, .ref q_5, .int 0, .int 0, .int 0, .int 0, .int 0, .int 0, .int 0, .int 0, .int 0]))], [(q_1, .inl (Γ.2 0, 8, .inl (upd (upd (upd (upd (upd (upd (upd (fun _ => 0) 0 (-1)) 1 (-1)) 2 (-1)) 3 (-1)) 4 (-1)) 5 (-1)) 6 (-1))))], [(q_2, .inl (Γ.2 0, 8, .inl (fun _ => 0)))], [(q_3, .inl (Γ.2 0, 8, .inl (fun _ => 0)))], [(q_4, .inl (Γ.2 0, 8, .inl (upd (upd (upd (upd (upd (upd (upd (fun _ => 0) 0 (-1)) 1 (-1)) 2 (-1)) 3 (-1)) 4 (-1)) 5 (-1)) 6 (-1))))], [(q_5, .inl (Γ.2 0, 8, .inl (fun _ => 0)))]]) := hD
  refine lv_iinc (v := (nI 7)) (lv' := [(1, .int (nI 7)), (0, .ref h0)]) hx hb dX2_init_66 hl (k := 0) rfl (by decide) (by decide) rfl (fun ls hl => ?_)
  refine lv_goto (tgt := 46) hx hb dX2_init_69 (by decide) ?_
  refine lv_iload_n hx hb dX2_init_46 rfl (lv_at hl 0 rfl) ?_
  refine lv_bipush (v := (nI 8)) hx hb dX2_init_47 (by decide) ?_
  refine lv_icmp_ge (tgt := 72) hx hb dX2_init_49 (by decide) (fun c_49 => absurd c_49 (by decide)) (fun c_49 => ?_)
  refine lv_aload_n hx hb dX2_init_52 rfl (lv_at hl 1 rfl) ?_
  refine va_get (D := Γ.1) (ci := 2) (v := .ref q_1) (C := RX2) (T := TX2) (N := 16) hx hb hts hi2 hown hK hP 0 rfl rfl 2 (by decide) kf9 (fun _ h9 => h9) rfl dX2_init_53 ?_
  refine lv_iload_n hx hb dX2_init_56 rfl (lv_at hl 0 rfl) ?_
  refine lv_iconst (v := (-1)) hx hb dX2_init_57 (by decide) ?_
  refine va_iast_n (f := (upd (upd (upd (upd (upd (upd (upd (fun _ => 0) 0 (-1)) 1 (-1)) 2 (-1)) 3 (-1)) 4 (-1)) 5 (-1)) 6 (-1))) hx hb hK hP hD hS 1 0 rfl rfl (by omega) (Nat.le_of_ble_eq_true rfl) dX2_init_58 (fun H locs hP hD hS => ?_)
  have hP : va_P Γ.1 vwCl (wcat [[(h0, .inr (2, [.int 0, .int 0, .ref q_1, .ref q_2, .ref q_3, .ref q_4, .ref q_5, .int 0, .int 0, .int 0, .int 0, .int 0, .int 0, .int 0, .int 0, .int 0]))], [(q_1, .inl (Γ.2 0, 8, .inl (upd (upd (upd (upd (upd (upd (upd (upd (fun _ => 0) 0 (-1)) 1 (-1)) 2 (-1)) 3 (-1)) 4 (-1)) 5 (-1)) 6 (-1)) 7 (-1))))], [(q_2, .inl (Γ.2 0, 8, .inl (fun _ => 0)))], [(q_3, .inl (Γ.2 0, 8, .inl (fun _ => 0)))], [(q_4, .inl (Γ.2 0, 8, .inl (upd (upd (upd (upd (upd (upd (upd (fun _ => 0) 0 (-1)) 1 (-1)) 2 (-1)) 3 (-1)) 4 (-1)) 5 (-1)) 6 (-1))))], [(q_5, .inl (Γ.2 0, 8, .inl (fun _ => 0)))]]) H := hP
  have hD : va_D A (wcat [[(h0, .inr (2, [.int 0, .int 0, .ref q_1, .ref q_2, .ref q_3, .ref q_4, .ref q_5, .int 0, .int 0, .int 0, .int 0, .int 0, .int 0, .int 0, .int 0, .int 0]))], [(q_1, .inl (Γ.2 0, 8, .inl (upd (upd (upd (upd (upd (upd (upd (upd (fun _ => 0) 0 (-1)) 1 (-1)) 2 (-1)) 3 (-1)) 4 (-1)) 5 (-1)) 6 (-1)) 7 (-1))))], [(q_2, .inl (Γ.2 0, 8, .inl (fun _ => 0)))], [(q_3, .inl (Γ.2 0, 8, .inl (fun _ => 0)))], [(q_4, .inl (Γ.2 0, 8, .inl (upd (upd (upd (upd (upd (upd (upd (fun _ => 0) 0 (-1)) 1 (-1)) 2 (-1)) 3 (-1)) 4 (-1)) 5 (-1)) 6 (-1))))], [(q_5, .inl (Γ.2 0, 8, .inl (fun _ => 0)))]]) := hD
  refine lv_aload_n hx hb dX2_init_59 rfl (lv_at hl 1 rfl) ?_
  refine va_get (D := Γ.1) (ci := 2) (v := .ref q_4) (C := RX2) (T := TX2) (N := 16) hx hb hts hi2 hown hK hP 0 rfl rfl 5 (by decide) kf21 (fun _ h9 => h9) rfl dX2_init_60 ?_
  refine lv_iload_n hx hb dX2_init_63 rfl (lv_at hl 0 rfl) ?_
  refine lv_iconst (v := (-1)) hx hb dX2_init_64 (by decide) ?_
  refine va_iast_n (f := (upd (upd (upd (upd (upd (upd (upd (fun _ => 0) 0 (-1)) 1 (-1)) 2 (-1)) 3 (-1)) 4 (-1)) 5 (-1)) 6 (-1))) hx hb hK hP hD hS 4 0 rfl rfl (by omega) (Nat.le_of_ble_eq_true rfl) dX2_init_65 (fun H locs hP hD hS => ?_)
  have hP : va_P Γ.1 vwCl (wcat [[(h0, .inr (2, [.int 0, .int 0, .ref q_1, .ref q_2, .ref q_3, .ref q_4, .ref q_5, .int 0, .int 0, .int 0, .int 0, .int 0, .int 0, .int 0, .int 0, .int 0]))], [(q_1, .inl (Γ.2 0, 8, .inl (upd (upd (upd (upd (upd (upd (upd (upd (fun _ => 0) 0 (-1)) 1 (-1)) 2 (-1)) 3 (-1)) 4 (-1)) 5 (-1)) 6 (-1)) 7 (-1))))], [(q_2, .inl (Γ.2 0, 8, .inl (fun _ => 0)))], [(q_3, .inl (Γ.2 0, 8, .inl (fun _ => 0)))], [(q_4, .inl (Γ.2 0, 8, .inl (upd (upd (upd (upd (upd (upd (upd (upd (fun _ => 0) 0 (-1)) 1 (-1)) 2 (-1)) 3 (-1)) 4 (-1)) 5 (-1)) 6 (-1)) 7 (-1))))], [(q_5, .inl (Γ.2 0, 8, .inl (fun _ => 0)))]]) H := hP
  have hD : va_D A (wcat [[(h0, .inr (2, [.int 0, .int 0, .ref q_1, .ref q_2, .ref q_3, .ref q_4, .ref q_5, .int 0, .int 0, .int 0, .int 0, .int 0, .int 0, .int 0, .int 0, .int 0]))], [(q_1, .inl (Γ.2 0, 8, .inl (upd (upd (upd (upd (upd (upd (upd (upd (fun _ => 0) 0 (-1)) 1 (-1)) 2 (-1)) 3 (-1)) 4 (-1)) 5 (-1)) 6 (-1)) 7 (-1))))], [(q_2, .inl (Γ.2 0, 8, .inl (fun _ => 0)))], [(q_3, .inl (Γ.2 0, 8, .inl (fun _ => 0)))], [(q_4, .inl (Γ.2 0, 8, .inl (upd (upd (upd (upd (upd (upd (upd (upd (fun _ => 0) 0 (-1)) 1 (-1)) 2 (-1)) 3 (-1)) 4 (-1)) 5 (-1)) 6 (-1)) 7 (-1))))], [(q_5, .inl (Γ.2 0, 8, .inl (fun _ => 0)))]]) := hD
  refine lv_iinc (v := (nI 8)) (lv' := [(1, .int (nI 8)), (0, .ref h0)]) hx hb dX2_init_66 hl (k := 0) rfl (by decide) (by decide) rfl (fun ls hl => ?_)
  refine lv_goto (tgt := 46) hx hb dX2_init_69 (by decide) ?_
  refine lv_iload_n hx hb dX2_init_46 rfl (lv_at hl 0 rfl) ?_
  refine lv_bipush (v := (nI 8)) hx hb dX2_init_47 (by decide) ?_
  refine lv_icmp_ge (tgt := 72) hx hb dX2_init_49 (by decide) (fun c_49 => ?_) (fun c_49 => absurd c_49 (by decide))
  refine lv_aload_n hx hb dX2_init_72 rfl (lv_at hl 1 rfl) ?_
  refine lv_iconst (v := (nI 0)) hx hb dX2_init_73 (by decide) ?_
  refine va_put (D := Γ.1) (ci := 2) (v := .int (nI 0)) (ty := .int) (C := RX2) (T := TX2) (N := 16) hx hb hts hi2 tyX2 tyX2_ok nmX2 hown hK hP hD hS 0 rfl rfl 9 (by decide) kf27 (fun _ h9 => h9) rfl (by decide +kernel) rfl rfl (Nat.le_of_ble_eq_true rfl) dX2_init_74 (fun H locs hP hD hS => ?_)
  have hP : va_P Γ.1 vwCl (wcat [[(h0, .inr (2, [.int 0, .int 0, .ref q_1, .ref q_2, .ref q_3, .ref q_4, .ref q_5, .int 0, .int 0, .int (nI 0), .int 0, .int 0, .int 0, .int 0, .int 0, .int 0]))], [(q_1, .inl (Γ.2 0, 8, .inl (upd (upd (upd (upd (upd (upd (upd (upd (fun _ => 0) 0 (-1)) 1 (-1)) 2 (-1)) 3 (-1)) 4 (-1)) 5 (-1)) 6 (-1)) 7 (-1))))], [(q_2, .inl (Γ.2 0, 8, .inl (fun _ => 0)))], [(q_3, .inl (Γ.2 0, 8, .inl (fun _ => 0)))], [(q_4, .inl (Γ.2 0, 8, .inl (upd (upd (upd (upd (upd (upd (upd (upd (fun _ => 0) 0 (-1)) 1 (-1)) 2 (-1)) 3 (-1)) 4 (-1)) 5 (-1)) 6 (-1)) 7 (-1))))], [(q_5, .inl (Γ.2 0, 8, .inl (fun _ => 0)))]]) H := hP
  have hD : va_D A (wcat [[(h0, .inr (2, [.int 0, .int 0, .ref q_1, .ref q_2, .ref q_3, .ref q_4, .ref q_5, .int 0, .int 0, .int (nI 0), .int 0, .int 0, .int 0, .int 0, .int 0, .int 0]))], [(q_1, .inl (Γ.2 0, 8, .inl (upd (upd (upd (upd (upd (upd (upd (upd (fun _ => 0) 0 (-1)) 1 (-1)) 2 (-1)) 3 (-1)) 4 (-1)) 5 (-1)) 6 (-1)) 7 (-1))))], [(q_2, .inl (Γ.2 0, 8, .inl (fun _ => 0)))], [(q_3, .inl (Γ.2 0, 8, .inl (fun _ => 0)))], [(q_4, .inl (Γ.2 0, 8, .inl (upd (upd (upd (upd (upd (upd (upd (upd (fun _ => 0) 0 (-1)) 1 (-1)) 2 (-1)) 3 (-1)) 4 (-1)) 5 (-1)) 6 (-1)) 7 (-1))))], [(q_5, .inl (Γ.2 0, 8, .inl (fun _ => 0)))]]) := hD
  refine lv_aload_n hx hb dX2_init_77 rfl (lv_at hl 1 rfl) ?_
  refine lv_iconst (v := (nI 1)) hx hb dX2_init_78 (by decide) ?_
  refine va_put (D := Γ.1) (ci := 2) (v := .int (nI 1)) (ty := .int) (C := RX2) (T := TX2) (N := 16) hx hb hts hi2 tyX2 tyX2_ok nmX2 hown hK hP hD hS 0 rfl rfl 15 (by decide) kf31 (fun _ h9 => h9) rfl (by decide +kernel) rfl rfl (Nat.le_of_ble_eq_true rfl) dX2_init_79 (fun H locs hP hD hS => ?_)
  have hP : va_P Γ.1 vwCl (wcat [[(h0, .inr (2, [.int 0, .int 0, .ref q_1, .ref q_2, .ref q_3, .ref q_4, .ref q_5, .int 0, .int 0, .int (nI 0), .int 0, .int 0, .int 0, .int 0, .int 0, .int (nI 1)]))], [(q_1, .inl (Γ.2 0, 8, .inl (upd (upd (upd (upd (upd (upd (upd (upd (fun _ => 0) 0 (-1)) 1 (-1)) 2 (-1)) 3 (-1)) 4 (-1)) 5 (-1)) 6 (-1)) 7 (-1))))], [(q_2, .inl (Γ.2 0, 8, .inl (fun _ => 0)))], [(q_3, .inl (Γ.2 0, 8, .inl (fun _ => 0)))], [(q_4, .inl (Γ.2 0, 8, .inl (upd (upd (upd (upd (upd (upd (upd (upd (fun _ => 0) 0 (-1)) 1 (-1)) 2 (-1)) 3 (-1)) 4 (-1)) 5 (-1)) 6 (-1)) 7 (-1))))], [(q_5, .inl (Γ.2 0, 8, .inl (fun _ => 0)))]]) H := hP
  have hD : va_D A (wcat [[(h0, .inr (2, [.int 0, .int 0, .ref q_1, .ref q_2, .ref q_3, .ref q_4, .ref q_5, .int 0, .int 0, .int (nI 0), .int 0, .int 0, .int 0, .int 0, .int 0, .int (nI 1)]))], [(q_1, .inl (Γ.2 0, 8, .inl (upd (upd (upd (upd (upd (upd (upd (upd (fun _ => 0) 0 (-1)) 1 (-1)) 2 (-1)) 3 (-1)) 4 (-1)) 5 (-1)) 6 (-1)) 7 (-1))))], [(q_2, .inl (Γ.2 0, 8, .inl (fun _ => 0)))], [(q_3, .inl (Γ.2 0, 8, .inl (fun _ => 0)))], [(q_4, .inl (Γ.2 0, 8, .inl (upd (upd (upd (upd (upd (upd (upd (upd (fun _ => 0) 0 (-1)) 1 (-1)) 2 (-1)) 3 (-1)) 4 (-1)) 5 (-1)) 6 (-1)) 7 (-1))))], [(q_5, .inl (Γ.2 0, 8, .inl (fun _ => 0)))]]) := hD
  refine W.widen (k := 5) (n := 40) (Nat.le_of_ble_eq_true rfl) (Nat.le_of_ble_eq_true rfl) ?_
  exact W.vret hx hb hr (fun t ht hW => ⟨⟨(gR [h0, q_1, q_2, q_3, q_4, q_5], vOf [0, 0, 0, 0, (nI 0), 0, 0, 0, 0, 0, (nI 1)] (upd (upd (upd (upd (upd (upd (upd (upd (fun _ => 0) 0 (-1)) 1 (-1)) 2 (-1)) 3 (-1)) 4 (-1)) 5 (-1)) 6 (-1)) 7 (-1)) (fun _ => 0) (fun _ => 0) (upd (upd (upd (upd (upd (upd (upd (upd (fun _ => 0) 0 (-1)) 1 (-1)) 2 (-1)) 3 (-1)) 4 (-1)) 5 (-1)) 6 (-1)) 7 (-1)) (fun _ => 0)), rfl, ⟨rfl, (show CV (vOf [0, 0, 0, 0, (nI 0), 0, 0, 0, 0, 0, (nI 1)] (upd (upd (upd (upd (upd (upd (upd (upd (fun _ => 0) 0 (-1)) 1 (-1)) 2 (-1)) 3 (-1)) 4 (-1)) 5 (-1)) 6 (-1)) 7 (-1)) (fun _ => 0) (fun _ => 0) (upd (upd (upd (upd (upd (upd (upd (upd (fun _ => 0) 0 (-1)) 1 (-1)) 2 (-1)) 3 (-1)) 4 (-1)) 5 (-1)) 6 (-1)) 7 (-1)) (fun _ => 0)) P0 from ⟨by decide +kernel, by decide +kernel⟩)⟩, by rw [ht]; exact hP, hD⟩, hS.F ht⟩) hS.2.2 dX2_init_82
set_option maxHeartbeats 8000000 in
set_option maxRecDepth 100000 in
theorem kX0_init (l : Launch) (Γ : wG) (h0 : Nat) : CTR l Γ yX0_init wsX0_init ({ frames := 1, cells := 1, slots := 256, locals := 30 }) (S := (Nat → Nat) × (Nat → Int32)) [.ref h0] [[(h0, .inr (0, [.null]))]] (fun _ => True) (fun u => u.1 0 = h0) (fun u => [cuB Γ u.1 u.2]) 1 256 := by
  intro sz
  refine Met.ofW (cc := cX0_init) (maxL := 1) (ret := none) (by decide) rfl ?_
  intro p e s m args below meth c s₁ B hml hv
  obtain ⟨rfl, ⟨hsz, hP, hK, hD0, hAm⟩, hAO⟩ := hv
  have hx := B.exec
  have hb := B.bytes
  have hr := B.returns
  have hts := atoms_spec (ws := wsX0_init) B.pre
  have hown : s.vm.findClass RX0 = some m.cls := findClass_of_methodNamed B.named
  have hlocks := B.notSynchronized
  have hin : meth.name = "<init>" := (name_of_methodNamed B.named B.method).1
  subst hsz
  have hD := hD0.self (sz := s.heap.size)
  generalize hAe : va_A (wcat [[(h0, .inr (0, [.null]))]]) s.heap.size = A at hD hAm ⊢
  have hA : ∀ q : Nat, s.heap.size ≤ q → A q := fun q h => by rw [← hAe]; exact Or.inr h
  have hAB : ∀ q : Nat, A q → A q := fun _ h => h
  have hS : va_S A s.heap s.heap [] := va_S.rf
  have hl := lv_entry ([.ref h0]) (n := 1) (Nat.le_of_ble_eq_true rfl)
  rw [lg_entry_eq]
  generalize (lg_sl ([.ref h0]) ++ List.replicate (1 - (lg_sl ([.ref h0])).length) Slot.unset).toArray = ls at hl ⊢
  have hl : lv_has ls 1 [(0, .ref h0)] := hl
  have hi0 : ∀ w ∈ wsX00, w ∈ wsX0_init := by decide +kernel
  have kf9 := hts (.fieldLink RX0 9 "CapsuleKeepers$Curves" "keys" "[I") (by decide +kernel)
  refine lv_aload_n hx hb dX0_init_0 rfl (lv_at hl 0 rfl) ?_
  refine W.objInit hx hb hown (hts (.methodLink RX0 3 objectInit) (by decide +kernel)) (hts (.instanceMethod objectInit) (by decide +kernel)) (hts (.code objectInit ⟨#[0xb1]⟩ 1 none) (by decide +kernel)) rfl (by rw [hml]; exact hl.1) rfl dX0_init_1 (Nat.le_of_ble_eq_true rfl) (Nat.le_of_ble_eq_true rfl) ?_
  refine W.eq (g2 := F0 m 4 ls []) rfl ?_
  refine lv_aload_n hx hb dX0_init_4 rfl (lv_at hl 0 rfl) ?_
  refine lv_sipush (v := (nI 256)) hx hb dX0_init_5 (by decide) ?_
  refine newI (N := 256) hx hb (hts (.arrayClass .int) (by decide +kernel)) hK hP hD hS hA (by decide) (Nat.le_of_ble_eq_true rfl) (Nat.le_of_ble_eq_true rfl) (Nat.le_of_ble_eq_true rfl) dX0_init_8 (fun q_1 H hP hD hS => ?_)
  refine W.widen (k := 1) (n := 256) (Nat.le_of_ble_eq_true rfl) (Nat.le_of_ble_eq_true rfl) ?_
  have hP : va_P Γ.1 vwCl (wcat [[(h0, .inr (0, [.null]))], [(q_1, .inl (Γ.2 0, 256, .inl (fun _ => 0)))]]) H := hP
  have hD : va_D A (wcat [[(h0, .inr (0, [.null]))], [(q_1, .inl (Γ.2 0, 256, .inl (fun _ => 0)))]]) := hD
  refine va_putF (D := Γ.1) (ci := 0) (v := .ref q_1) (ty := (.array .int)) (C := RX0) (T := TX0) (N := 1) hx hb hts hi0 tyX0 tyX0_ok nmX0 hown hK hP hD hS 0 rfl rfl 0 (by decide) kf9 (fun _ h9 => h9) rfl hin rfl (by decide +kernel) rfl rfl (Nat.le_of_ble_eq_true rfl) dX0_init_10 (fun H locs hP hD hS => ?_)
  have hP : va_P Γ.1 vwCl (wcat [[(h0, .inr (0, [.ref q_1]))], [(q_1, .inl (Γ.2 0, 256, .inl (fun _ => 0)))]]) H := hP
  have hD : va_D A (wcat [[(h0, .inr (0, [.ref q_1]))], [(q_1, .inl (Γ.2 0, 256, .inl (fun _ => 0)))]]) := hD
  refine W.widen (k := 1) (n := 256) (Nat.le_of_ble_eq_true rfl) (Nat.le_of_ble_eq_true rfl) ?_
  exact W.vret hx hb hr (fun t ht hW => ⟨⟨(gR [h0, q_1], (fun _ => 0)), rfl, rfl, by rw [ht]; exact hP, hD⟩, hS.F ht⟩) hS.2.2 dX0_init_13
set_option maxHeartbeats 8000000 in
set_option maxRecDepth 100000 in
theorem kX1_init (l : Launch) (Γ : wG) (h0 : Nat) : CTR l Γ yX1_init wsX1_init ({ frames := 1, cells := 1, slots := 60, locals := 30 }) (S := (Nat → Nat) × (Nat → Int32)) [.ref h0] [[(h0, .inr (1, [.null, .int 0]))]] (fun _ => True) (fun u => u.1 0 = h0) (fun u => [txB Γ u.1 u.2 0]) 1 60 := by
  intro sz
  refine Met.ofW (cc := cX1_init) (maxL := 1) (ret := none) (by decide) rfl ?_
  intro p e s m args below meth c s₁ B hml hv
  obtain ⟨rfl, ⟨hsz, hP, hK, hD0, hAm⟩, hAO⟩ := hv
  have hx := B.exec
  have hb := B.bytes
  have hr := B.returns
  have hts := atoms_spec (ws := wsX1_init) B.pre
  have hown : s.vm.findClass RX1 = some m.cls := findClass_of_methodNamed B.named
  have hlocks := B.notSynchronized
  have hin : meth.name = "<init>" := (name_of_methodNamed B.named B.method).1
  subst hsz
  have hD := hD0.self (sz := s.heap.size)
  generalize hAe : va_A (wcat [[(h0, .inr (1, [.null, .int 0]))]]) s.heap.size = A at hD hAm ⊢
  have hA : ∀ q : Nat, s.heap.size ≤ q → A q := fun q h => by rw [← hAe]; exact Or.inr h
  have hAB : ∀ q : Nat, A q → A q := fun _ h => h
  have hS : va_S A s.heap s.heap [] := va_S.rf
  have hl := lv_entry ([.ref h0]) (n := 1) (Nat.le_of_ble_eq_true rfl)
  rw [lg_entry_eq]
  generalize (lg_sl ([.ref h0]) ++ List.replicate (1 - (lg_sl ([.ref h0])).length) Slot.unset).toArray = ls at hl ⊢
  have hl : lv_has ls 1 [(0, .ref h0)] := hl
  have hi1 : ∀ w ∈ wsX10, w ∈ wsX1_init := by decide +kernel
  have kf9 := hts (.fieldLink RX1 9 "CapsuleKeepers$DaysText" "codes" "[I") (by decide +kernel)
  refine lv_aload_n hx hb dX1_init_0 rfl (lv_at hl 0 rfl) ?_
  refine W.objInit hx hb hown (hts (.methodLink RX1 3 objectInit) (by decide +kernel)) (hts (.instanceMethod objectInit) (by decide +kernel)) (hts (.code objectInit ⟨#[0xb1]⟩ 1 none) (by decide +kernel)) rfl (by rw [hml]; exact hl.1) rfl dX1_init_1 (Nat.le_of_ble_eq_true rfl) (Nat.le_of_ble_eq_true rfl) ?_
  refine W.eq (g2 := F0 m 4 ls []) rfl ?_
  refine lv_aload_n hx hb dX1_init_4 rfl (lv_at hl 0 rfl) ?_
  refine lv_bipush (v := (nI 60)) hx hb dX1_init_5 (by decide) ?_
  refine newI (N := 60) hx hb (hts (.arrayClass .int) (by decide +kernel)) hK hP hD hS hA (by decide) (Nat.le_of_ble_eq_true rfl) (Nat.le_of_ble_eq_true rfl) (Nat.le_of_ble_eq_true rfl) dX1_init_7 (fun q_1 H hP hD hS => ?_)
  refine W.widen (k := 1) (n := 60) (Nat.le_of_ble_eq_true rfl) (Nat.le_of_ble_eq_true rfl) ?_
  have hP : va_P Γ.1 vwCl (wcat [[(h0, .inr (1, [.null, .int 0]))], [(q_1, .inl (Γ.2 0, 60, .inl (fun _ => 0)))]]) H := hP
  have hD : va_D A (wcat [[(h0, .inr (1, [.null, .int 0]))], [(q_1, .inl (Γ.2 0, 60, .inl (fun _ => 0)))]]) := hD
  refine va_putF (D := Γ.1) (ci := 1) (v := .ref q_1) (ty := (.array .int)) (C := RX1) (T := TX1) (N := 2) hx hb hts hi1 tyX1 tyX1_ok nmX1 hown hK hP hD hS 0 rfl rfl 0 (by decide) kf9 (fun _ h9 => h9) rfl hin rfl (by decide +kernel) rfl rfl (Nat.le_of_ble_eq_true rfl) dX1_init_9 (fun H locs hP hD hS => ?_)
  have hP : va_P Γ.1 vwCl (wcat [[(h0, .inr (1, [.ref q_1, .int 0]))], [(q_1, .inl (Γ.2 0, 60, .inl (fun _ => 0)))]]) H := hP
  have hD : va_D A (wcat [[(h0, .inr (1, [.ref q_1, .int 0]))], [(q_1, .inl (Γ.2 0, 60, .inl (fun _ => 0)))]]) := hD
  refine W.widen (k := 1) (n := 60) (Nat.le_of_ble_eq_true rfl) (Nat.le_of_ble_eq_true rfl) ?_
  exact W.vret hx hb hr (fun t ht hW => ⟨⟨(gR [h0, q_1], (fun _ => 0)), rfl, rfl, by rw [ht]; exact hP, hD⟩, hS.F ht⟩) hS.2.2 dX1_init_12
set_option maxHeartbeats 8000000 in
set_option maxRecDepth 100000 in
theorem kX3_init (l : Launch) (Γ : wG) (h0 : Nat) : CTR l Γ yX3_init wsX3_init ({ frames := 1, cells := 2, slots := 512, locals := 30 }) (S := (Nat → Nat) × (Nat → Int32) × (Nat → Int32)) [.ref h0] [[(h0, .inr (3, [.null, .null]))]] (fun _ => True) (fun u => u.1 0 = h0 ∧ u.2.1 0 = 0 ∧ u.2.2 0 = 0) (fun u => [suB Γ u.1 u.2.1 u.2.2]) 2 512 := by
  intro sz
  refine Met.ofW (cc := cX3_init) (maxL := 1) (ret := none) (by decide) rfl ?_
  intro p e s m args below meth c s₁ B hml hv
  obtain ⟨rfl, ⟨hsz, hP, hK, hD0, hAm⟩, hAO⟩ := hv
  have hx := B.exec
  have hb := B.bytes
  have hr := B.returns
  have hts := atoms_spec (ws := wsX3_init) B.pre
  have hown : s.vm.findClass RX3 = some m.cls := findClass_of_methodNamed B.named
  have hlocks := B.notSynchronized
  have hin : meth.name = "<init>" := (name_of_methodNamed B.named B.method).1
  subst hsz
  have hD := hD0.self (sz := s.heap.size)
  generalize hAe : va_A (wcat [[(h0, .inr (3, [.null, .null]))]]) s.heap.size = A at hD hAm ⊢
  have hA : ∀ q : Nat, s.heap.size ≤ q → A q := fun q h => by rw [← hAe]; exact Or.inr h
  have hAB : ∀ q : Nat, A q → A q := fun _ h => h
  have hS : va_S A s.heap s.heap [] := va_S.rf
  have hl := lv_entry ([.ref h0]) (n := 1) (Nat.le_of_ble_eq_true rfl)
  rw [lg_entry_eq]
  generalize (lg_sl ([.ref h0]) ++ List.replicate (1 - (lg_sl ([.ref h0])).length) Slot.unset).toArray = ls at hl ⊢
  have hl : lv_has ls 1 [(0, .ref h0)] := hl
  have hi3 : ∀ w ∈ wsX30, w ∈ wsX3_init := by decide +kernel
  have kf15 := hts (.fieldLink RX3 15 "CapsuleKeepers$Survey" "pairs" "[I") (by decide +kernel)
  have kf9 := hts (.fieldLink RX3 9 "CapsuleKeepers$Survey" "owned" "[I") (by decide +kernel)
  refine lv_aload_n hx hb dX3_init_0 rfl (lv_at hl 0 rfl) ?_
  refine W.objInit hx hb hown (hts (.methodLink RX3 3 objectInit) (by decide +kernel)) (hts (.instanceMethod objectInit) (by decide +kernel)) (hts (.code objectInit ⟨#[0xb1]⟩ 1 none) (by decide +kernel)) rfl (by rw [hml]; exact hl.1) rfl dX3_init_1 (Nat.le_of_ble_eq_true rfl) (Nat.le_of_ble_eq_true rfl) ?_
  refine W.eq (g2 := F0 m 4 ls []) rfl ?_
  refine lv_aload_n hx hb dX3_init_4 rfl (lv_at hl 0 rfl) ?_
  refine lv_sipush (v := (nI 256)) hx hb dX3_init_5 (by decide) ?_
  refine newI (N := 256) hx hb (hts (.arrayClass .int) (by decide +kernel)) hK hP hD hS hA (by decide) (Nat.le_of_ble_eq_true rfl) (Nat.le_of_ble_eq_true rfl) (Nat.le_of_ble_eq_true rfl) dX3_init_8 (fun q_1 H hP hD hS => ?_)
  refine W.widen (k := 1) (n := 256) (Nat.le_of_ble_eq_true rfl) (Nat.le_of_ble_eq_true rfl) ?_
  have hP : va_P Γ.1 vwCl (wcat [[(h0, .inr (3, [.null, .null]))], [(q_1, .inl (Γ.2 0, 256, .inl (fun _ => 0)))]]) H := hP
  have hD : va_D A (wcat [[(h0, .inr (3, [.null, .null]))], [(q_1, .inl (Γ.2 0, 256, .inl (fun _ => 0)))]]) := hD
  refine va_putF (D := Γ.1) (ci := 3) (v := .ref q_1) (ty := (.array .int)) (C := RX3) (T := TX3) (N := 2) hx hb hts hi3 tyX3 tyX3_ok nmX3 hown hK hP hD hS 0 rfl rfl 0 (by decide) kf9 (fun _ h9 => h9) rfl hin rfl (by decide +kernel) rfl rfl (Nat.le_of_ble_eq_true rfl) dX3_init_10 (fun H locs hP hD hS => ?_)
  have hP : va_P Γ.1 vwCl (wcat [[(h0, .inr (3, [.ref q_1, .null]))], [(q_1, .inl (Γ.2 0, 256, .inl (fun _ => 0)))]]) H := hP
  have hD : va_D A (wcat [[(h0, .inr (3, [.ref q_1, .null]))], [(q_1, .inl (Γ.2 0, 256, .inl (fun _ => 0)))]]) := hD
  refine lv_aload_n hx hb dX3_init_13 rfl (lv_at hl 0 rfl) ?_
  refine lv_sipush (v := (nI 256)) hx hb dX3_init_14 (by decide) ?_
  refine newI (N := 256) hx hb (hts (.arrayClass .int) (by decide +kernel)) hK hP hD hS hA (by decide) (Nat.le_of_ble_eq_true rfl) (Nat.le_of_ble_eq_true rfl) (Nat.le_of_ble_eq_true rfl) dX3_init_17 (fun q_2 H hP hD hS => ?_)
  refine W.widen (k := 2) (n := 512) (Nat.le_of_ble_eq_true rfl) (Nat.le_of_ble_eq_true rfl) ?_
  have hP : va_P Γ.1 vwCl (wcat [[(h0, .inr (3, [.ref q_1, .null]))], [(q_1, .inl (Γ.2 0, 256, .inl (fun _ => 0)))], [(q_2, .inl (Γ.2 0, 256, .inl (fun _ => 0)))]]) H := hP
  have hD : va_D A (wcat [[(h0, .inr (3, [.ref q_1, .null]))], [(q_1, .inl (Γ.2 0, 256, .inl (fun _ => 0)))], [(q_2, .inl (Γ.2 0, 256, .inl (fun _ => 0)))]]) := hD
  refine va_putF (D := Γ.1) (ci := 3) (v := .ref q_2) (ty := (.array .int)) (C := RX3) (T := TX3) (N := 2) hx hb hts hi3 tyX3 tyX3_ok nmX3 hown hK hP hD hS 0 rfl rfl 1 (by decide) kf15 (fun _ h9 => h9) rfl hin rfl (by decide +kernel) rfl rfl (Nat.le_of_ble_eq_true rfl) dX3_init_19 (fun H locs hP hD hS => ?_)
  have hP : va_P Γ.1 vwCl (wcat [[(h0, .inr (3, [.ref q_1, .ref q_2]))], [(q_1, .inl (Γ.2 0, 256, .inl (fun _ => 0)))], [(q_2, .inl (Γ.2 0, 256, .inl (fun _ => 0)))]]) H := hP
  have hD : va_D A (wcat [[(h0, .inr (3, [.ref q_1, .ref q_2]))], [(q_1, .inl (Γ.2 0, 256, .inl (fun _ => 0)))], [(q_2, .inl (Γ.2 0, 256, .inl (fun _ => 0)))]]) := hD
  refine W.widen (k := 2) (n := 512) (Nat.le_of_ble_eq_true rfl) (Nat.le_of_ble_eq_true rfl) ?_
  exact W.vret hx hb hr (fun t ht hW => ⟨⟨(gR [h0, q_1, q_2], (fun _ => 0), (fun _ => 0)), rfl, ⟨rfl, rfl, rfl⟩, by rw [ht]; exact hP, hD⟩, hS.F ht⟩) hS.2.2 dX3_init_22
set_option maxHeartbeats 8000000 in
set_option maxRecDepth 100000 in
theorem kX4_init (l : Launch) (Γ : wG) (h0 : Nat) : CTR l Γ yX4_init wsX4_init ({ frames := 2, cells := 56, slots := 1287, locals := 51 }) (S := ((Nat → Nat) × (Nat → Nat) × Nat × (Nat → Nat → Nat) × (Nat → Nat) × (Nat → Nat) × (Nat → Nat)) × (Nat → Nat → Int32) × (Nat → Nat → Int32) × (Nat → Nat → Nat → Int32) × (Nat → Int32) × (Nat → Int32) × (Nat → Int32) × (Nat → Int32)) [.ref h0] [[(h0, .inr (4, [.null, .null, .null, .int 0, .null, .null, .null]))]] (va_AO RX2) (fun u => CV u.2.1 P0 ∧ u.2.2.2.2.2.1 0 = 0 ∧ u.2.2.2.2.2.2.1 0 = 0) (fun u => [mnC h0 u.1.1 u.1.2.1 u.1.2.2.1 u.1.2.2.2.2.1 u.1.2.2.2.2.2.1 u.1.2.2.2.2.2.2 (nI 0), plB Γ u.1.1 u.2.1, plB Γ u.1.2.1 u.2.2.1, saB Γ u.1.2.2.1 u.1.2.2.2.1 0 u.2.2.2.1, cuB Γ u.1.2.2.2.2.1 u.2.2.2.2.1, suB Γ u.1.2.2.2.2.2.1 u.2.2.2.2.2.1 u.2.2.2.2.2.2.1, txB Γ u.1.2.2.2.2.2.2 u.2.2.2.2.2.2.2 (nI 0)]) 56 1287 := by
  intro sz
  refine Met.ofW (cc := cX4_init) (maxL := 2) (ret := none) (by decide) rfl ?_
  intro p e s m args below meth c s₁ B hml hv
  obtain ⟨rfl, ⟨hsz, hP, hK, hD0, hAm⟩, hAO⟩ := hv
  have hx := B.exec
  have hb := B.bytes
  have hr := B.returns
  have hts := atoms_spec (ws := wsX4_init) B.pre
  have hown : s.vm.findClass RX4 = some m.cls := findClass_of_methodNamed B.named
  have hlocks := B.notSynchronized
  have hin : meth.name = "<init>" := (name_of_methodNamed B.named B.method).1
  subst hsz
  have hD := hD0.self (sz := s.heap.size)
  generalize hAe : va_A (wcat [[(h0, .inr (4, [.null, .null, .null, .int 0, .null, .null, .null]))]]) s.heap.size = A at hD hAm ⊢
  have hA : ∀ q : Nat, s.heap.size ≤ q → A q := fun q h => by rw [← hAe]; exact Or.inr h
  have hAB : ∀ q : Nat, A q → A q := fun _ h => h
  have hS : va_S A s.heap s.heap [] := va_S.rf
  have hl := lv_entry ([.ref h0]) (n := 2) (Nat.le_of_ble_eq_true rfl)
  rw [lg_entry_eq]
  generalize (lg_sl ([.ref h0]) ++ List.replicate (2 - (lg_sl ([.ref h0])).length) Slot.unset).toArray = ls at hl ⊢
  have hl : lv_has ls 2 [(0, .ref h0)] := hl
  have hi0 : ∀ w ∈ wsX00, w ∈ wsX4_init := by decide +kernel
  have hi1 : ∀ w ∈ wsX10, w ∈ wsX4_init := by decide +kernel
  have hi2 : ∀ w ∈ wsX20, w ∈ wsX4_init := by decide +kernel
  have hi3 : ∀ w ∈ wsX30, w ∈ wsX4_init := by decide +kernel
  have hi4 : ∀ w ∈ wsX40, w ∈ wsX4_init := by decide +kernel
  have kf10 := hts (.fieldLink RX4 10 "CapsuleKeepers" "now" "LCapsuleKeepers$Place;") (by decide +kernel)
  have kf16 := hts (.fieldLink RX4 16 "CapsuleKeepers" "spare" "LCapsuleKeepers$Place;") (by decide +kernel)
  have kf19 := hts (.fieldLink RX4 19 "CapsuleKeepers" "saved" "[LCapsuleKeepers$Place;") (by decide +kernel)
  have kf23 := hts (.fieldLink RX4 23 "CapsuleKeepers" "savedCount" "I") (by decide +kernel)
  have kf30 := hts (.fieldLink RX4 30 "CapsuleKeepers" "curves" "LCapsuleKeepers$Curves;") (by decide +kernel)
  have kf37 := hts (.fieldLink RX4 37 "CapsuleKeepers" "survey" "LCapsuleKeepers$Survey;") (by decide +kernel)
  have kf44 := hts (.fieldLink RX4 44 "CapsuleKeepers" "text" "LCapsuleKeepers$DaysText;") (by decide +kernel)
  refine lv_aload_n hx hb dX4_init_0 rfl (lv_at hl 0 rfl) ?_
  refine W.objInit hx hb hown (hts (.methodLink RX4 1 objectInit) (by decide +kernel)) (hts (.instanceMethod objectInit) (by decide +kernel)) (hts (.code objectInit ⟨#[0xb1]⟩ 1 none) (by decide +kernel)) rfl (by rw [hml]; exact hl.1) rfl dX4_init_1 (Nat.le_of_ble_eq_true rfl) (Nat.le_of_ble_eq_true rfl) ?_
  refine W.eq (g2 := F0 m 4 ls []) rfl ?_
  refine lv_aload_n hx hb dX4_init_4 rfl (lv_at hl 0 rfl) ?_
  refine va_new (D := Γ.1) (ci := 2) (fs := [.int 0, .int 0, .null, .null, .null, .null, .null, .int 0, .int 0, .int 0, .int 0, .int 0, .int 0, .int 0, .int 0, .int 0]) (C := RX2) (T := TX2) (N := 16) hx hb hts hi2 tyX2 tyX2_ok hown (hts (.classLink RX4 7 RX2) (by decide +kernel)) (hts (.instantiable RX2 16) (by decide +kernel)) (hts (.initialized RX2) (by decide +kernel)) hK hP hD hS hA rfl (fun j hj => by rcases (show j = 0 ∨ j = 1 ∨ j = 2 ∨ j = 3 ∨ j = 4 ∨ j = 5 ∨ j = 6 ∨ j = 7 ∨ j = 8 ∨ j = 9 ∨ j = 10 ∨ j = 11 ∨ j = 12 ∨ j = 13 ∨ j = 14 ∨ j = 15 by omega) with rfl | rfl | rfl | rfl | rfl | rfl | rfl | rfl | rfl | rfl | rfl | rfl | rfl | rfl | rfl | rfl <;> rfl) (Nat.le_of_ble_eq_true rfl) (Nat.le_of_ble_eq_true rfl) dX4_init_5 (fun q_1 H hP hD hS => ?_)
  refine W.widen (k := 1) (n := 16) (Nat.le_of_ble_eq_true rfl) (Nat.le_of_ble_eq_true rfl) ?_
  have hP : va_P Γ.1 vwCl (wcat [[(h0, .inr (4, [.null, .null, .null, .int 0, .null, .null, .null]))], [(q_1, .inr (2, [.int 0, .int 0, .null, .null, .null, .null, .null, .int 0, .int 0, .int 0, .int 0, .int 0, .int 0, .int 0, .int 0, .int 0]))]]) H := hP
  have hD : va_D A (wcat [[(h0, .inr (4, [.null, .null, .null, .int 0, .null, .null, .null]))], [(q_1, .inr (2, [.int 0, .int 0, .null, .null, .null, .null, .null, .int 0, .int 0, .int 0, .int 0, .int 0, .int 0, .int 0, .int 0, .int 0]))]]) := hD
  refine lv_dup hx hb dX4_init_8 rfl ?_
  refine cCT (bs := [[(h0, .inr (4, [.null, .null, .null, .int 0, .null, .null, .null]))]]) (b0 := [(q_1, .inr (2, [.int 0, .int 0, .null, .null, .null, .null, .null, .int 0, .int 0, .int 0, .int 0, .int 0, .int 0, .int 0, .int 0, .int 0]))]) (va_runI (As := []) (rest := [.ref q_1, .ref h0]) ⟨hx, hb, hml, hown, hts⟩ ((kX2_init l Γ q_1) _) (cwI 0 hts gX4_init_X2_init rfl rfl rfl (hts (.initialized RX2) (by decide +kernel)) (hts (.methodLink RX4 9 yX2_init) (by decide +kernel)) (hts (.instanceMethod yX2_init) (by decide +kernel)) rfl (by decide +kernel) ⟨Nat.le_of_ble_eq_true rfl, Nat.le_of_ble_eq_true rfl⟩) ⟨ct_blind, ct_mk (wPre_mk hP hD hK hS hA hAB hAm [1] rfl rfl)⟩ rfl rfl hl.1 rfl (lv_room (Nat.le_of_ble_eq_true rfl)) dX4_init_9 ⟨Nat.le_of_ble_eq_true rfl, Nat.le_of_ble_eq_true rfl⟩) hP hD hS hA (fun ⟨a_2, v_3⟩ H locs hu hP2 hD2 hS => ?_)
  obtain ⟨he, hc_v_3⟩ := hu
  try dsimp only at he hc_v_3 hP2 hD2
  have he : q_1 = a_2 0 := he.symm
  subst he
  have hP := hP2
  have hD := hD2
  refine W.widen (k := 6) (n := 56) (Nat.le_of_ble_eq_true rfl) (Nat.le_of_ble_eq_true rfl) ?_
  have hP : va_P Γ.1 vwCl (wcat [[(h0, .inr (4, [.null, .null, .null, .int 0, .null, .null, .null]))], plB Γ a_2 v_3]) H := hP
  have hD : va_D A (wcat [[(h0, .inr (4, [.null, .null, .null, .int 0, .null, .null, .null]))], plB Γ a_2 v_3]) := hD
  refine va_putF (D := Γ.1) (ci := 4) (v := .ref (a_2 0)) (ty := (.object "CapsuleKeepers$Place")) (C := RX4) (T := TX4) (N := 7) hx hb hts hi4 tyX4 tyX4_ok nmX4 hown hK hP hD hS 0 rfl rfl 0 (by decide) kf10 (fun _ h9 => h9) rfl hin rfl (by decide +kernel) rfl rfl (Nat.le_of_ble_eq_true rfl) dX4_init_12 (fun H locs hP hD hS => ?_)
  have hP : va_P Γ.1 vwCl (wcat [[(h0, .inr (4, [.ref (a_2 0), .null, .null, .int 0, .null, .null, .null]))], plB Γ a_2 v_3]) H := hP
  have hD : va_D A (wcat [[(h0, .inr (4, [.ref (a_2 0), .null, .null, .int 0, .null, .null, .null]))], plB Γ a_2 v_3]) := hD
  refine lv_aload_n hx hb dX4_init_15 rfl (lv_at hl 0 rfl) ?_
  refine va_new (D := Γ.1) (ci := 2) (fs := [.int 0, .int 0, .null, .null, .null, .null, .null, .int 0, .int 0, .int 0, .int 0, .int 0, .int 0, .int 0, .int 0, .int 0]) (C := RX2) (T := TX2) (N := 16) hx hb hts hi2 tyX2 tyX2_ok hown (hts (.classLink RX4 7 RX2) (by decide +kernel)) (hts (.instantiable RX2 16) (by decide +kernel)) (hts (.initialized RX2) (by decide +kernel)) hK hP hD hS hA rfl (fun j hj => by rcases (show j = 0 ∨ j = 1 ∨ j = 2 ∨ j = 3 ∨ j = 4 ∨ j = 5 ∨ j = 6 ∨ j = 7 ∨ j = 8 ∨ j = 9 ∨ j = 10 ∨ j = 11 ∨ j = 12 ∨ j = 13 ∨ j = 14 ∨ j = 15 by omega) with rfl | rfl | rfl | rfl | rfl | rfl | rfl | rfl | rfl | rfl | rfl | rfl | rfl | rfl | rfl | rfl <;> rfl) (Nat.le_of_ble_eq_true rfl) (Nat.le_of_ble_eq_true rfl) dX4_init_16 (fun q_4 H hP hD hS => ?_)
  refine W.widen (k := 7) (n := 72) (Nat.le_of_ble_eq_true rfl) (Nat.le_of_ble_eq_true rfl) ?_
  have hP : va_P Γ.1 vwCl (wcat [[(h0, .inr (4, [.ref (a_2 0), .null, .null, .int 0, .null, .null, .null]))], plB Γ a_2 v_3, [(q_4, .inr (2, [.int 0, .int 0, .null, .null, .null, .null, .null, .int 0, .int 0, .int 0, .int 0, .int 0, .int 0, .int 0, .int 0, .int 0]))]]) H := hP
  have hD : va_D A (wcat [[(h0, .inr (4, [.ref (a_2 0), .null, .null, .int 0, .null, .null, .null]))], plB Γ a_2 v_3, [(q_4, .inr (2, [.int 0, .int 0, .null, .null, .null, .null, .null, .int 0, .int 0, .int 0, .int 0, .int 0, .int 0, .int 0, .int 0, .int 0]))]]) := hD
  refine lv_dup hx hb dX4_init_19 rfl ?_
  refine cCT (bs := [[(h0, .inr (4, [.ref (a_2 0), .null, .null, .int 0, .null, .null, .null]))], plB Γ a_2 v_3]) (b0 := [(q_4, .inr (2, [.int 0, .int 0, .null, .null, .null, .null, .null, .int 0, .int 0, .int 0, .int 0, .int 0, .int 0, .int 0, .int 0, .int 0]))]) (va_runI (As := []) (rest := [.ref q_4, .ref h0]) ⟨hx, hb, hml, hown, hts⟩ ((kX2_init l Γ q_4) _) (cwI 0 hts gX4_init_X2_init rfl rfl rfl (hts (.initialized RX2) (by decide +kernel)) (hts (.methodLink RX4 9 yX2_init) (by decide +kernel)) (hts (.instanceMethod yX2_init) (by decide +kernel)) rfl (by decide +kernel) ⟨Nat.le_of_ble_eq_true rfl, Nat.le_of_ble_eq_true rfl⟩) ⟨ct_blind, ct_mk (wPre_mk hP hD hK hS hA hAB hAm [2] rfl rfl)⟩ rfl rfl hl.1 rfl (lv_room (Nat.le_of_ble_eq_true rfl)) dX4_init_20 ⟨Nat.le_of_ble_eq_true rfl, Nat.le_of_ble_eq_true rfl⟩) hP hD hS hA (fun ⟨a_5, v_6⟩ H locs hu hP2 hD2 hS => ?_)
  obtain ⟨he, hc_v_6⟩ := hu
  try dsimp only at he hc_v_6 hP2 hD2
  have he : q_4 = a_5 0 := he.symm
  subst he
  have hP := hP2
  have hD := hD2
  refine W.widen (k := 12) (n := 112) (Nat.le_of_ble_eq_true rfl) (Nat.le_of_ble_eq_true rfl) ?_
  have hP : va_P Γ.1 vwCl (wcat [[(h0, .inr (4, [.ref (a_2 0), .null, .null, .int 0, .null, .null, .null]))], plB Γ a_2 v_3, plB Γ a_5 v_6]) H := hP
  have hD : va_D A (wcat [[(h0, .inr (4, [.ref (a_2 0), .null, .null, .int 0, .null, .null, .null]))], plB Γ a_2 v_3, plB Γ a_5 v_6]) := hD
  refine va_putF (D := Γ.1) (ci := 4) (v := .ref (a_5 0)) (ty := (.object "CapsuleKeepers$Place")) (C := RX4) (T := TX4) (N := 7) hx hb hts hi4 tyX4 tyX4_ok nmX4 hown hK hP hD hS 0 rfl rfl 1 (by decide) kf16 (fun _ h9 => h9) rfl hin rfl (by decide +kernel) rfl rfl (Nat.le_of_ble_eq_true rfl) dX4_init_23 (fun H locs hP hD hS => ?_)
  have hP : va_P Γ.1 vwCl (wcat [[(h0, .inr (4, [.ref (a_2 0), .ref (a_5 0), .null, .int 0, .null, .null, .null]))], plB Γ a_2 v_3, plB Γ a_5 v_6]) H := hP
  have hD : va_D A (wcat [[(h0, .inr (4, [.ref (a_2 0), .ref (a_5 0), .null, .int 0, .null, .null, .null]))], plB Γ a_2 v_3, plB Γ a_5 v_6]) := hD
  refine lv_aload_n hx hb dX4_init_26 rfl (lv_at hl 0 rfl) ?_
  refine lv_bipush (v := (nI 6)) hx hb dX4_init_27 (by decide) ?_
  refine newR hx hb hown (hts (.classLink RX4 7 RX2) (by decide +kernel)) hAO hK hP hD hS hA (Nat.le_of_ble_eq_true rfl) (Nat.le_of_ble_eq_true rfl) dX4_init_29 (fun q_7 H hP hD hS => ?_)
  refine W.widen (k := 13) (n := 118) (Nat.le_of_ble_eq_true rfl) (Nat.le_of_ble_eq_true rfl) ?_
  have hP : va_P Γ.1 vwCl (wcat [[(h0, .inr (4, [.ref (a_2 0), .ref (a_5 0), .null, .int 0, .null, .null, .null]))], plB Γ a_2 v_3, plB Γ a_5 v_6, [(q_7, .inl (Γ.2 2, 6, .inr (.inr (.inr (.inr (gO [none, none, none, none, none, none]))))))]]) H := hP
  have hD : va_D A (wcat [[(h0, .inr (4, [.ref (a_2 0), .ref (a_5 0), .null, .int 0, .null, .null, .null]))], plB Γ a_2 v_3, plB Γ a_5 v_6, [(q_7, .inl (Γ.2 2, 6, .inr (.inr (.inr (.inr (gO [none, none, none, none, none, none]))))))]]) := hD
  refine va_putF (D := Γ.1) (ci := 4) (v := .ref q_7) (ty := (.array (.object "CapsuleKeepers$Place"))) (C := RX4) (T := TX4) (N := 7) hx hb hts hi4 tyX4 tyX4_ok nmX4 hown hK hP hD hS 0 rfl rfl 2 (by decide) kf19 (fun _ h9 => h9) rfl hin rfl (by decide +kernel) rfl rfl (Nat.le_of_ble_eq_true rfl) dX4_init_32 (fun H locs hP hD hS => ?_)
  have hP : va_P Γ.1 vwCl (wcat [[(h0, .inr (4, [.ref (a_2 0), .ref (a_5 0), .ref q_7, .int 0, .null, .null, .null]))], plB Γ a_2 v_3, plB Γ a_5 v_6, [(q_7, .inl (Γ.2 2, 6, .inr (.inr (.inr (.inr (gO [none, none, none, none, none, none]))))))]]) H := hP
  have hD : va_D A (wcat [[(h0, .inr (4, [.ref (a_2 0), .ref (a_5 0), .ref q_7, .int 0, .null, .null, .null]))], plB Γ a_2 v_3, plB Γ a_5 v_6, [(q_7, .inl (Γ.2 2, 6, .inr (.inr (.inr (.inr (gO [none, none, none, none, none, none]))))))]]) := hD
  refine lv_iconst (v := (nI 0)) hx hb dX4_init_35 (by decide) ?_
  refine lv_istore_n (lv' := [(1, .int (nI 0)), (0, .ref h0)]) hx hb dX4_init_36 rfl hl (by decide) rfl (fun ls hl => ?_)
  refine lv_iload_n hx hb dX4_init_37 rfl (lv_at hl 0 rfl) ?_
  refine lv_bipush (v := (nI 6)) hx hb dX4_init_38 (by decide) ?_
  refine lv_icmp_ge (tgt := 62) hx hb dX4_init_40 (by decide) (fun c_40 => absurd c_40 (by decide)) (fun c_40 => ?_)
  refine lv_aload_n hx hb dX4_init_43 rfl (lv_at hl 1 rfl) ?_
  refine va_get (D := Γ.1) (ci := 4) (v := .ref q_7) (C := RX4) (T := TX4) (N := 7) hx hb hts hi4 hown hK hP 0 rfl rfl 2 (by decide) kf19 (fun _ h9 => h9) rfl dX4_init_44 ?_
  refine lv_iload_n hx hb dX4_init_47 rfl (lv_at hl 0 rfl) ?_
  refine va_new (D := Γ.1) (ci := 2) (fs := [.int 0, .int 0, .null, .null, .null, .null, .null, .int 0, .int 0, .int 0, .int 0, .int 0, .int 0, .int 0, .int 0, .int 0]) (C := RX2) (T := TX2) (N := 16) hx hb hts hi2 tyX2 tyX2_ok hown (hts (.classLink RX4 7 RX2) (by decide +kernel)) (hts (.instantiable RX2 16) (by decide +kernel)) (hts (.initialized RX2) (by decide +kernel)) hK hP hD hS hA rfl (fun j hj => by rcases (show j = 0 ∨ j = 1 ∨ j = 2 ∨ j = 3 ∨ j = 4 ∨ j = 5 ∨ j = 6 ∨ j = 7 ∨ j = 8 ∨ j = 9 ∨ j = 10 ∨ j = 11 ∨ j = 12 ∨ j = 13 ∨ j = 14 ∨ j = 15 by omega) with rfl | rfl | rfl | rfl | rfl | rfl | rfl | rfl | rfl | rfl | rfl | rfl | rfl | rfl | rfl | rfl <;> rfl) (Nat.le_of_ble_eq_true rfl) (Nat.le_of_ble_eq_true rfl) dX4_init_48 (fun q_8 H hP hD hS => ?_)
  refine W.widen (k := 14) (n := 134) (Nat.le_of_ble_eq_true rfl) (Nat.le_of_ble_eq_true rfl) ?_
  have hP : va_P Γ.1 vwCl (wcat [[(h0, .inr (4, [.ref (a_2 0), .ref (a_5 0), .ref q_7, .int 0, .null, .null, .null]))], plB Γ a_2 v_3, plB Γ a_5 v_6, [(q_7, .inl (Γ.2 2, 6, .inr (.inr (.inr (.inr (gO [none, none, none, none, none, none]))))))], [(q_8, .inr (2, [.int 0, .int 0, .null, .null, .null, .null, .null, .int 0, .int 0, .int 0, .int 0, .int 0, .int 0, .int 0, .int 0, .int 0]))]]) H := hP
  have hD : va_D A (wcat [[(h0, .inr (4, [.ref (a_2 0), .ref (a_5 0), .ref q_7, .int 0, .null, .null, .null]))], plB Γ a_2 v_3, plB Γ a_5 v_6, [(q_7, .inl (Γ.2 2, 6, .inr (.inr (.inr (.inr (gO [none, none, none, none, none, none]))))))], [(q_8, .inr (2, [.int 0, .int 0, .null, .null, .null, .null, .null, .int 0, .int 0, .int 0, .int 0, .int 0, .int 0, .int 0, .int 0, .int 0]))]]) := hD
  refine lv_dup hx hb dX4_init_51 rfl ?_
  refine cCT (bs := [[(h0, .inr (4, [.ref (a_2 0), .ref (a_5 0), .ref q_7, .int 0, .null, .null, .null]))], plB Γ a_2 v_3, plB Γ a_5 v_6, [(q_7, .inl (Γ.2 2, 6, .inr (.inr (.inr (.inr (gO [none, none, none, none, none, none]))))))]]) (b0 := [(q_8, .inr (2, [.int 0, .int 0, .null, .null, .null, .null, .null, .int 0, .int 0, .int 0, .int 0, .int 0, .int 0, .int 0, .int 0, .int 0]))]) (va_runI (As := []) (rest := [.ref q_8, .int (nI 0), .ref q_7]) ⟨hx, hb, hml, hown, hts⟩ ((kX2_init l Γ q_8) _) (cwI 0 hts gX4_init_X2_init rfl rfl rfl (hts (.initialized RX2) (by decide +kernel)) (hts (.methodLink RX4 9 yX2_init) (by decide +kernel)) (hts (.instanceMethod yX2_init) (by decide +kernel)) rfl (by decide +kernel) ⟨Nat.le_of_ble_eq_true rfl, Nat.le_of_ble_eq_true rfl⟩) ⟨ct_blind, ct_mk (wPre_mk hP hD hK hS hA hAB hAm [4] rfl rfl)⟩ rfl rfl hl.1 rfl (lv_room (Nat.le_of_ble_eq_true rfl)) dX4_init_52 ⟨Nat.le_of_ble_eq_true rfl, Nat.le_of_ble_eq_true rfl⟩) hP hD hS hA (fun ⟨a_9, v_10⟩ H locs hu hP2 hD2 hS => ?_)
  obtain ⟨he, hc_v_10⟩ := hu
  try dsimp only at he hc_v_10 hP2 hD2
  have he : q_8 = a_9 0 := he.symm
  subst he
  have hP := hP2
  have hD := hD2
  refine W.widen (k := 19) (n := 174) (Nat.le_of_ble_eq_true rfl) (Nat.le_of_ble_eq_true rfl) ?_
  have hP : va_P Γ.1 vwCl (wcat [[(h0, .inr (4, [.ref (a_2 0), .ref (a_5 0), .ref q_7, .int 0, .null, .null, .null]))], plB Γ a_2 v_3, plB Γ a_5 v_6, [(q_7, .inl (Γ.2 2, 6, .inr (.inr (.inr (.inr (gO [none, none, none, none, none, none]))))))], plB Γ a_9 v_10]) H := hP
  have hD : va_D A (wcat [[(h0, .inr (4, [.ref (a_2 0), .ref (a_5 0), .ref q_7, .int 0, .null, .null, .null]))], plB Γ a_2 v_3, plB Γ a_5 v_6, [(q_7, .inl (Γ.2 2, 6, .inr (.inr (.inr (.inr (gO [none, none, none, none, none, none]))))))], plB Γ a_9 v_10]) := hD
  refine astO (l2 := [some (a_9 0), none, none, none, none, none]) hx hb hK hP hD hS 13 14 rfl rfl rfl (by decide) (Nat.le_of_ble_eq_true rfl) rfl dX4_init_55 (fun H locs hP hD hS => ?_)
  have hP : va_P Γ.1 vwCl (wcat [[(h0, .inr (4, [.ref (a_2 0), .ref (a_5 0), .ref q_7, .int 0, .null, .null, .null]))], plB Γ a_2 v_3, plB Γ a_5 v_6, [(q_7, .inl (Γ.2 2, 6, .inr (.inr (.inr (.inr (gO [some (a_9 0), none, none, none, none, none]))))))], plB Γ a_9 v_10]) H := hP
  have hD : va_D A (wcat [[(h0, .inr (4, [.ref (a_2 0), .ref (a_5 0), .ref q_7, .int 0, .null, .null, .null]))], plB Γ a_2 v_3, plB Γ a_5 v_6, [(q_7, .inl (Γ.2 2, 6, .inr (.inr (.inr (.inr (gO [some (a_9 0), none, none, none, none, none]))))))], plB Γ a_9 v_10]) := hD
  refine lv_iinc (v := (nI 1)) (lv' := [(1, .int (nI 1)), (0, .ref h0)]) hx hb dX4_init_56 hl (k := 0) rfl (by decide) (by decide) rfl (fun ls hl => ?_)
  refine lv_goto (tgt := 37) hx hb dX4_init_59 (by decide) ?_
  refine lv_iload_n hx hb dX4_init_37 rfl (lv_at hl 0 rfl) ?_
  refine lv_bipush (v := (nI 6)) hx hb dX4_init_38 (by decide) ?_
  refine lv_icmp_ge (tgt := 62) hx hb dX4_init_40 (by decide) (fun c_40 => absurd c_40 (by decide)) (fun c_40 => ?_)
  refine lv_aload_n hx hb dX4_init_43 rfl (lv_at hl 1 rfl) ?_
  refine va_get (D := Γ.1) (ci := 4) (v := .ref q_7) (C := RX4) (T := TX4) (N := 7) hx hb hts hi4 hown hK hP 0 rfl rfl 2 (by decide) kf19 (fun _ h9 => h9) rfl dX4_init_44 ?_
  refine lv_iload_n hx hb dX4_init_47 rfl (lv_at hl 0 rfl) ?_
  refine va_new (D := Γ.1) (ci := 2) (fs := [.int 0, .int 0, .null, .null, .null, .null, .null, .int 0, .int 0, .int 0, .int 0, .int 0, .int 0, .int 0, .int 0, .int 0]) (C := RX2) (T := TX2) (N := 16) hx hb hts hi2 tyX2 tyX2_ok hown (hts (.classLink RX4 7 RX2) (by decide +kernel)) (hts (.instantiable RX2 16) (by decide +kernel)) (hts (.initialized RX2) (by decide +kernel)) hK hP hD hS hA rfl (fun j hj => by rcases (show j = 0 ∨ j = 1 ∨ j = 2 ∨ j = 3 ∨ j = 4 ∨ j = 5 ∨ j = 6 ∨ j = 7 ∨ j = 8 ∨ j = 9 ∨ j = 10 ∨ j = 11 ∨ j = 12 ∨ j = 13 ∨ j = 14 ∨ j = 15 by omega) with rfl | rfl | rfl | rfl | rfl | rfl | rfl | rfl | rfl | rfl | rfl | rfl | rfl | rfl | rfl | rfl <;> rfl) (Nat.le_of_ble_eq_true rfl) (Nat.le_of_ble_eq_true rfl) dX4_init_48 (fun q_11 H hP hD hS => ?_)
  refine W.widen (k := 20) (n := 190) (Nat.le_of_ble_eq_true rfl) (Nat.le_of_ble_eq_true rfl) ?_
  have hP : va_P Γ.1 vwCl (wcat [[(h0, .inr (4, [.ref (a_2 0), .ref (a_5 0), .ref q_7, .int 0, .null, .null, .null]))], plB Γ a_2 v_3, plB Γ a_5 v_6, [(q_7, .inl (Γ.2 2, 6, .inr (.inr (.inr (.inr (gO [some (a_9 0), none, none, none, none, none]))))))], plB Γ a_9 v_10, [(q_11, .inr (2, [.int 0, .int 0, .null, .null, .null, .null, .null, .int 0, .int 0, .int 0, .int 0, .int 0, .int 0, .int 0, .int 0, .int 0]))]]) H := hP
  have hD : va_D A (wcat [[(h0, .inr (4, [.ref (a_2 0), .ref (a_5 0), .ref q_7, .int 0, .null, .null, .null]))], plB Γ a_2 v_3, plB Γ a_5 v_6, [(q_7, .inl (Γ.2 2, 6, .inr (.inr (.inr (.inr (gO [some (a_9 0), none, none, none, none, none]))))))], plB Γ a_9 v_10, [(q_11, .inr (2, [.int 0, .int 0, .null, .null, .null, .null, .null, .int 0, .int 0, .int 0, .int 0, .int 0, .int 0, .int 0, .int 0, .int 0]))]]) := hD
  refine lv_dup hx hb dX4_init_51 rfl ?_
  refine cCT (bs := [[(h0, .inr (4, [.ref (a_2 0), .ref (a_5 0), .ref q_7, .int 0, .null, .null, .null]))], plB Γ a_2 v_3, plB Γ a_5 v_6, [(q_7, .inl (Γ.2 2, 6, .inr (.inr (.inr (.inr (gO [some (a_9 0), none, none, none, none, none]))))))], plB Γ a_9 v_10]) (b0 := [(q_11, .inr (2, [.int 0, .int 0, .null, .null, .null, .null, .null, .int 0, .int 0, .int 0, .int 0, .int 0, .int 0, .int 0, .int 0, .int 0]))]) (va_runI (As := []) (rest := [.ref q_11, .int (nI 1), .ref q_7]) ⟨hx, hb, hml, hown, hts⟩ ((kX2_init l Γ q_11) _) (cwI 0 hts gX4_init_X2_init rfl rfl rfl (hts (.initialized RX2) (by decide +kernel)) (hts (.methodLink RX4 9 yX2_init) (by decide +kernel)) (hts (.instanceMethod yX2_init) (by decide +kernel)) rfl (by decide +kernel) ⟨Nat.le_of_ble_eq_true rfl, Nat.le_of_ble_eq_true rfl⟩) ⟨ct_blind, ct_mk (wPre_mk hP hD hK hS hA hAB hAm [5] rfl rfl)⟩ rfl rfl hl.1 rfl (lv_room (Nat.le_of_ble_eq_true rfl)) dX4_init_52 ⟨Nat.le_of_ble_eq_true rfl, Nat.le_of_ble_eq_true rfl⟩) hP hD hS hA (fun ⟨a_12, v_13⟩ H locs hu hP2 hD2 hS => ?_)
  obtain ⟨he, hc_v_13⟩ := hu
  try dsimp only at he hc_v_13 hP2 hD2
  have he : q_11 = a_12 0 := he.symm
  subst he
  have hP := hP2
  have hD := hD2
  refine W.widen (k := 25) (n := 230) (Nat.le_of_ble_eq_true rfl) (Nat.le_of_ble_eq_true rfl) ?_
  have hP : va_P Γ.1 vwCl (wcat [[(h0, .inr (4, [.ref (a_2 0), .ref (a_5 0), .ref q_7, .int 0, .null, .null, .null]))], plB Γ a_2 v_3, plB Γ a_5 v_6, [(q_7, .inl (Γ.2 2, 6, .inr (.inr (.inr (.inr (gO [some (a_9 0), none, none, none, none, none]))))))], plB Γ a_9 v_10, plB Γ a_12 v_13]) H := hP
  have hD : va_D A (wcat [[(h0, .inr (4, [.ref (a_2 0), .ref (a_5 0), .ref q_7, .int 0, .null, .null, .null]))], plB Γ a_2 v_3, plB Γ a_5 v_6, [(q_7, .inl (Γ.2 2, 6, .inr (.inr (.inr (.inr (gO [some (a_9 0), none, none, none, none, none]))))))], plB Γ a_9 v_10, plB Γ a_12 v_13]) := hD
  refine astO (l2 := [some (a_9 0), some (a_12 0), none, none, none, none]) hx hb hK hP hD hS 13 20 rfl rfl rfl (by decide) (Nat.le_of_ble_eq_true rfl) rfl dX4_init_55 (fun H locs hP hD hS => ?_)
  have hP : va_P Γ.1 vwCl (wcat [[(h0, .inr (4, [.ref (a_2 0), .ref (a_5 0), .ref q_7, .int 0, .null, .null, .null]))], plB Γ a_2 v_3, plB Γ a_5 v_6, [(q_7, .inl (Γ.2 2, 6, .inr (.inr (.inr (.inr (gO [some (a_9 0), some (a_12 0), none, none, none, none]))))))], plB Γ a_9 v_10, plB Γ a_12 v_13]) H := hP
  have hD : va_D A (wcat [[(h0, .inr (4, [.ref (a_2 0), .ref (a_5 0), .ref q_7, .int 0, .null, .null, .null]))], plB Γ a_2 v_3, plB Γ a_5 v_6, [(q_7, .inl (Γ.2 2, 6, .inr (.inr (.inr (.inr (gO [some (a_9 0), some (a_12 0), none, none, none, none]))))))], plB Γ a_9 v_10, plB Γ a_12 v_13]) := hD
  refine lv_iinc (v := (nI 2)) (lv' := [(1, .int (nI 2)), (0, .ref h0)]) hx hb dX4_init_56 hl (k := 0) rfl (by decide) (by decide) rfl (fun ls hl => ?_)
  refine lv_goto (tgt := 37) hx hb dX4_init_59 (by decide) ?_
  refine lv_iload_n hx hb dX4_init_37 rfl (lv_at hl 0 rfl) ?_
  refine lv_bipush (v := (nI 6)) hx hb dX4_init_38 (by decide) ?_
  refine lv_icmp_ge (tgt := 62) hx hb dX4_init_40 (by decide) (fun c_40 => absurd c_40 (by decide)) (fun c_40 => ?_)
  refine lv_aload_n hx hb dX4_init_43 rfl (lv_at hl 1 rfl) ?_
  refine va_get (D := Γ.1) (ci := 4) (v := .ref q_7) (C := RX4) (T := TX4) (N := 7) hx hb hts hi4 hown hK hP 0 rfl rfl 2 (by decide) kf19 (fun _ h9 => h9) rfl dX4_init_44 ?_
  refine lv_iload_n hx hb dX4_init_47 rfl (lv_at hl 0 rfl) ?_
  refine va_new (D := Γ.1) (ci := 2) (fs := [.int 0, .int 0, .null, .null, .null, .null, .null, .int 0, .int 0, .int 0, .int 0, .int 0, .int 0, .int 0, .int 0, .int 0]) (C := RX2) (T := TX2) (N := 16) hx hb hts hi2 tyX2 tyX2_ok hown (hts (.classLink RX4 7 RX2) (by decide +kernel)) (hts (.instantiable RX2 16) (by decide +kernel)) (hts (.initialized RX2) (by decide +kernel)) hK hP hD hS hA rfl (fun j hj => by rcases (show j = 0 ∨ j = 1 ∨ j = 2 ∨ j = 3 ∨ j = 4 ∨ j = 5 ∨ j = 6 ∨ j = 7 ∨ j = 8 ∨ j = 9 ∨ j = 10 ∨ j = 11 ∨ j = 12 ∨ j = 13 ∨ j = 14 ∨ j = 15 by omega) with rfl | rfl | rfl | rfl | rfl | rfl | rfl | rfl | rfl | rfl | rfl | rfl | rfl | rfl | rfl | rfl <;> rfl) (Nat.le_of_ble_eq_true rfl) (Nat.le_of_ble_eq_true rfl) dX4_init_48 (fun q_14 H hP hD hS => ?_)
  refine W.widen (k := 26) (n := 246) (Nat.le_of_ble_eq_true rfl) (Nat.le_of_ble_eq_true rfl) ?_
  have hP : va_P Γ.1 vwCl (wcat [[(h0, .inr (4, [.ref (a_2 0), .ref (a_5 0), .ref q_7, .int 0, .null, .null, .null]))], plB Γ a_2 v_3, plB Γ a_5 v_6, [(q_7, .inl (Γ.2 2, 6, .inr (.inr (.inr (.inr (gO [some (a_9 0), some (a_12 0), none, none, none, none]))))))], plB Γ a_9 v_10, plB Γ a_12 v_13, [(q_14, .inr (2, [.int 0, .int 0, .null, .null, .null, .null, .null, .int 0, .int 0, .int 0, .int 0, .int 0, .int 0, .int 0, .int 0, .int 0]))]]) H := hP
  have hD : va_D A (wcat [[(h0, .inr (4, [.ref (a_2 0), .ref (a_5 0), .ref q_7, .int 0, .null, .null, .null]))], plB Γ a_2 v_3, plB Γ a_5 v_6, [(q_7, .inl (Γ.2 2, 6, .inr (.inr (.inr (.inr (gO [some (a_9 0), some (a_12 0), none, none, none, none]))))))], plB Γ a_9 v_10, plB Γ a_12 v_13, [(q_14, .inr (2, [.int 0, .int 0, .null, .null, .null, .null, .null, .int 0, .int 0, .int 0, .int 0, .int 0, .int 0, .int 0, .int 0, .int 0]))]]) := hD
  refine lv_dup hx hb dX4_init_51 rfl ?_
  refine cCT (bs := [[(h0, .inr (4, [.ref (a_2 0), .ref (a_5 0), .ref q_7, .int 0, .null, .null, .null]))], plB Γ a_2 v_3, plB Γ a_5 v_6, [(q_7, .inl (Γ.2 2, 6, .inr (.inr (.inr (.inr (gO [some (a_9 0), some (a_12 0), none, none, none, none]))))))], plB Γ a_9 v_10, plB Γ a_12 v_13]) (b0 := [(q_14, .inr (2, [.int 0, .int 0, .null, .null, .null, .null, .null, .int 0, .int 0, .int 0, .int 0, .int 0, .int 0, .int 0, .int 0, .int 0]))]) (va_runI (As := []) (rest := [.ref q_14, .int (nI 2), .ref q_7]) ⟨hx, hb, hml, hown, hts⟩ ((kX2_init l Γ q_14) _) (cwI 0 hts gX4_init_X2_init rfl rfl rfl (hts (.initialized RX2) (by decide +kernel)) (hts (.methodLink RX4 9 yX2_init) (by decide +kernel)) (hts (.instanceMethod yX2_init) (by decide +kernel)) rfl (by decide +kernel) ⟨Nat.le_of_ble_eq_true rfl, Nat.le_of_ble_eq_true rfl⟩) ⟨ct_blind, ct_mk (wPre_mk hP hD hK hS hA hAB hAm [6] rfl rfl)⟩ rfl rfl hl.1 rfl (lv_room (Nat.le_of_ble_eq_true rfl)) dX4_init_52 ⟨Nat.le_of_ble_eq_true rfl, Nat.le_of_ble_eq_true rfl⟩) hP hD hS hA (fun ⟨a_15, v_16⟩ H locs hu hP2 hD2 hS => ?_)
  obtain ⟨he, hc_v_16⟩ := hu
  try dsimp only at he hc_v_16 hP2 hD2
  have he : q_14 = a_15 0 := he.symm
  subst he
  have hP := hP2
  have hD := hD2
  refine W.widen (k := 31) (n := 286) (Nat.le_of_ble_eq_true rfl) (Nat.le_of_ble_eq_true rfl) ?_
  have hP : va_P Γ.1 vwCl (wcat [[(h0, .inr (4, [.ref (a_2 0), .ref (a_5 0), .ref q_7, .int 0, .null, .null, .null]))], plB Γ a_2 v_3, plB Γ a_5 v_6, [(q_7, .inl (Γ.2 2, 6, .inr (.inr (.inr (.inr (gO [some (a_9 0), some (a_12 0), none, none, none, none]))))))], plB Γ a_9 v_10, plB Γ a_12 v_13, plB Γ a_15 v_16]) H := hP
  have hD : va_D A (wcat [[(h0, .inr (4, [.ref (a_2 0), .ref (a_5 0), .ref q_7, .int 0, .null, .null, .null]))], plB Γ a_2 v_3, plB Γ a_5 v_6, [(q_7, .inl (Γ.2 2, 6, .inr (.inr (.inr (.inr (gO [some (a_9 0), some (a_12 0), none, none, none, none]))))))], plB Γ a_9 v_10, plB Γ a_12 v_13, plB Γ a_15 v_16]) := hD
  refine astO (l2 := [some (a_9 0), some (a_12 0), some (a_15 0), none, none, none]) hx hb hK hP hD hS 13 26 rfl rfl rfl (by decide) (Nat.le_of_ble_eq_true rfl) rfl dX4_init_55 (fun H locs hP hD hS => ?_)
  have hP : va_P Γ.1 vwCl (wcat [[(h0, .inr (4, [.ref (a_2 0), .ref (a_5 0), .ref q_7, .int 0, .null, .null, .null]))], plB Γ a_2 v_3, plB Γ a_5 v_6, [(q_7, .inl (Γ.2 2, 6, .inr (.inr (.inr (.inr (gO [some (a_9 0), some (a_12 0), some (a_15 0), none, none, none]))))))], plB Γ a_9 v_10, plB Γ a_12 v_13, plB Γ a_15 v_16]) H := hP
  have hD : va_D A (wcat [[(h0, .inr (4, [.ref (a_2 0), .ref (a_5 0), .ref q_7, .int 0, .null, .null, .null]))], plB Γ a_2 v_3, plB Γ a_5 v_6, [(q_7, .inl (Γ.2 2, 6, .inr (.inr (.inr (.inr (gO [some (a_9 0), some (a_12 0), some (a_15 0), none, none, none]))))))], plB Γ a_9 v_10, plB Γ a_12 v_13, plB Γ a_15 v_16]) := hD
  refine lv_iinc (v := (nI 3)) (lv' := [(1, .int (nI 3)), (0, .ref h0)]) hx hb dX4_init_56 hl (k := 0) rfl (by decide) (by decide) rfl (fun ls hl => ?_)
  refine lv_goto (tgt := 37) hx hb dX4_init_59 (by decide) ?_
  refine lv_iload_n hx hb dX4_init_37 rfl (lv_at hl 0 rfl) ?_
  refine lv_bipush (v := (nI 6)) hx hb dX4_init_38 (by decide) ?_
  refine lv_icmp_ge (tgt := 62) hx hb dX4_init_40 (by decide) (fun c_40 => absurd c_40 (by decide)) (fun c_40 => ?_)
  refine lv_aload_n hx hb dX4_init_43 rfl (lv_at hl 1 rfl) ?_
  refine va_get (D := Γ.1) (ci := 4) (v := .ref q_7) (C := RX4) (T := TX4) (N := 7) hx hb hts hi4 hown hK hP 0 rfl rfl 2 (by decide) kf19 (fun _ h9 => h9) rfl dX4_init_44 ?_
  refine lv_iload_n hx hb dX4_init_47 rfl (lv_at hl 0 rfl) ?_
  refine va_new (D := Γ.1) (ci := 2) (fs := [.int 0, .int 0, .null, .null, .null, .null, .null, .int 0, .int 0, .int 0, .int 0, .int 0, .int 0, .int 0, .int 0, .int 0]) (C := RX2) (T := TX2) (N := 16) hx hb hts hi2 tyX2 tyX2_ok hown (hts (.classLink RX4 7 RX2) (by decide +kernel)) (hts (.instantiable RX2 16) (by decide +kernel)) (hts (.initialized RX2) (by decide +kernel)) hK hP hD hS hA rfl (fun j hj => by rcases (show j = 0 ∨ j = 1 ∨ j = 2 ∨ j = 3 ∨ j = 4 ∨ j = 5 ∨ j = 6 ∨ j = 7 ∨ j = 8 ∨ j = 9 ∨ j = 10 ∨ j = 11 ∨ j = 12 ∨ j = 13 ∨ j = 14 ∨ j = 15 by omega) with rfl | rfl | rfl | rfl | rfl | rfl | rfl | rfl | rfl | rfl | rfl | rfl | rfl | rfl | rfl | rfl <;> rfl) (Nat.le_of_ble_eq_true rfl) (Nat.le_of_ble_eq_true rfl) dX4_init_48 (fun q_17 H hP hD hS => ?_)
  refine W.widen (k := 32) (n := 302) (Nat.le_of_ble_eq_true rfl) (Nat.le_of_ble_eq_true rfl) ?_
  have hP : va_P Γ.1 vwCl (wcat [[(h0, .inr (4, [.ref (a_2 0), .ref (a_5 0), .ref q_7, .int 0, .null, .null, .null]))], plB Γ a_2 v_3, plB Γ a_5 v_6, [(q_7, .inl (Γ.2 2, 6, .inr (.inr (.inr (.inr (gO [some (a_9 0), some (a_12 0), some (a_15 0), none, none, none]))))))], plB Γ a_9 v_10, plB Γ a_12 v_13, plB Γ a_15 v_16, [(q_17, .inr (2, [.int 0, .int 0, .null, .null, .null, .null, .null, .int 0, .int 0, .int 0, .int 0, .int 0, .int 0, .int 0, .int 0, .int 0]))]]) H := hP
  have hD : va_D A (wcat [[(h0, .inr (4, [.ref (a_2 0), .ref (a_5 0), .ref q_7, .int 0, .null, .null, .null]))], plB Γ a_2 v_3, plB Γ a_5 v_6, [(q_7, .inl (Γ.2 2, 6, .inr (.inr (.inr (.inr (gO [some (a_9 0), some (a_12 0), some (a_15 0), none, none, none]))))))], plB Γ a_9 v_10, plB Γ a_12 v_13, plB Γ a_15 v_16, [(q_17, .inr (2, [.int 0, .int 0, .null, .null, .null, .null, .null, .int 0, .int 0, .int 0, .int 0, .int 0, .int 0, .int 0, .int 0, .int 0]))]]) := hD
  refine lv_dup hx hb dX4_init_51 rfl ?_
  refine cCT (bs := [[(h0, .inr (4, [.ref (a_2 0), .ref (a_5 0), .ref q_7, .int 0, .null, .null, .null]))], plB Γ a_2 v_3, plB Γ a_5 v_6, [(q_7, .inl (Γ.2 2, 6, .inr (.inr (.inr (.inr (gO [some (a_9 0), some (a_12 0), some (a_15 0), none, none, none]))))))], plB Γ a_9 v_10, plB Γ a_12 v_13, plB Γ a_15 v_16]) (b0 := [(q_17, .inr (2, [.int 0, .int 0, .null, .null, .null, .null, .null, .int 0, .int 0, .int 0, .int 0, .int 0, .int 0, .int 0, .int 0, .int 0]))]) (va_runI (As := []) (rest := [.ref q_17, .int (nI 3), .ref q_7]) ⟨hx, hb, hml, hown, hts⟩ ((kX2_init l Γ q_17) _) (cwI 0 hts gX4_init_X2_init rfl rfl rfl (hts (.initialized RX2) (by decide +kernel)) (hts (.methodLink RX4 9 yX2_init) (by decide +kernel)) (hts (.instanceMethod yX2_init) (by decide +kernel)) rfl (by decide +kernel) ⟨Nat.le_of_ble_eq_true rfl, Nat.le_of_ble_eq_true rfl⟩) ⟨ct_blind, ct_mk (wPre_mk hP hD hK hS hA hAB hAm [7] rfl rfl)⟩ rfl rfl hl.1 rfl (lv_room (Nat.le_of_ble_eq_true rfl)) dX4_init_52 ⟨Nat.le_of_ble_eq_true rfl, Nat.le_of_ble_eq_true rfl⟩) hP hD hS hA (fun ⟨a_18, v_19⟩ H locs hu hP2 hD2 hS => ?_)
  obtain ⟨he, hc_v_19⟩ := hu
  try dsimp only at he hc_v_19 hP2 hD2
  have he : q_17 = a_18 0 := he.symm
  subst he
  have hP := hP2
  have hD := hD2
  refine W.widen (k := 37) (n := 342) (Nat.le_of_ble_eq_true rfl) (Nat.le_of_ble_eq_true rfl) ?_
  have hP : va_P Γ.1 vwCl (wcat [[(h0, .inr (4, [.ref (a_2 0), .ref (a_5 0), .ref q_7, .int 0, .null, .null, .null]))], plB Γ a_2 v_3, plB Γ a_5 v_6, [(q_7, .inl (Γ.2 2, 6, .inr (.inr (.inr (.inr (gO [some (a_9 0), some (a_12 0), some (a_15 0), none, none, none]))))))], plB Γ a_9 v_10, plB Γ a_12 v_13, plB Γ a_15 v_16, plB Γ a_18 v_19]) H := hP
  have hD : va_D A (wcat [[(h0, .inr (4, [.ref (a_2 0), .ref (a_5 0), .ref q_7, .int 0, .null, .null, .null]))], plB Γ a_2 v_3, plB Γ a_5 v_6, [(q_7, .inl (Γ.2 2, 6, .inr (.inr (.inr (.inr (gO [some (a_9 0), some (a_12 0), some (a_15 0), none, none, none]))))))], plB Γ a_9 v_10, plB Γ a_12 v_13, plB Γ a_15 v_16, plB Γ a_18 v_19]) := hD
  refine astO (l2 := [some (a_9 0), some (a_12 0), some (a_15 0), some (a_18 0), none, none]) hx hb hK hP hD hS 13 32 rfl rfl rfl (by decide) (Nat.le_of_ble_eq_true rfl) rfl dX4_init_55 (fun H locs hP hD hS => ?_)
  have hP : va_P Γ.1 vwCl (wcat [[(h0, .inr (4, [.ref (a_2 0), .ref (a_5 0), .ref q_7, .int 0, .null, .null, .null]))], plB Γ a_2 v_3, plB Γ a_5 v_6, [(q_7, .inl (Γ.2 2, 6, .inr (.inr (.inr (.inr (gO [some (a_9 0), some (a_12 0), some (a_15 0), some (a_18 0), none, none]))))))], plB Γ a_9 v_10, plB Γ a_12 v_13, plB Γ a_15 v_16, plB Γ a_18 v_19]) H := hP
  have hD : va_D A (wcat [[(h0, .inr (4, [.ref (a_2 0), .ref (a_5 0), .ref q_7, .int 0, .null, .null, .null]))], plB Γ a_2 v_3, plB Γ a_5 v_6, [(q_7, .inl (Γ.2 2, 6, .inr (.inr (.inr (.inr (gO [some (a_9 0), some (a_12 0), some (a_15 0), some (a_18 0), none, none]))))))], plB Γ a_9 v_10, plB Γ a_12 v_13, plB Γ a_15 v_16, plB Γ a_18 v_19]) := hD
  refine lv_iinc (v := (nI 4)) (lv' := [(1, .int (nI 4)), (0, .ref h0)]) hx hb dX4_init_56 hl (k := 0) rfl (by decide) (by decide) rfl (fun ls hl => ?_)
  refine lv_goto (tgt := 37) hx hb dX4_init_59 (by decide) ?_
  refine lv_iload_n hx hb dX4_init_37 rfl (lv_at hl 0 rfl) ?_
  refine lv_bipush (v := (nI 6)) hx hb dX4_init_38 (by decide) ?_
  refine lv_icmp_ge (tgt := 62) hx hb dX4_init_40 (by decide) (fun c_40 => absurd c_40 (by decide)) (fun c_40 => ?_)
  refine lv_aload_n hx hb dX4_init_43 rfl (lv_at hl 1 rfl) ?_
  refine va_get (D := Γ.1) (ci := 4) (v := .ref q_7) (C := RX4) (T := TX4) (N := 7) hx hb hts hi4 hown hK hP 0 rfl rfl 2 (by decide) kf19 (fun _ h9 => h9) rfl dX4_init_44 ?_
  refine lv_iload_n hx hb dX4_init_47 rfl (lv_at hl 0 rfl) ?_
  refine va_new (D := Γ.1) (ci := 2) (fs := [.int 0, .int 0, .null, .null, .null, .null, .null, .int 0, .int 0, .int 0, .int 0, .int 0, .int 0, .int 0, .int 0, .int 0]) (C := RX2) (T := TX2) (N := 16) hx hb hts hi2 tyX2 tyX2_ok hown (hts (.classLink RX4 7 RX2) (by decide +kernel)) (hts (.instantiable RX2 16) (by decide +kernel)) (hts (.initialized RX2) (by decide +kernel)) hK hP hD hS hA rfl (fun j hj => by rcases (show j = 0 ∨ j = 1 ∨ j = 2 ∨ j = 3 ∨ j = 4 ∨ j = 5 ∨ j = 6 ∨ j = 7 ∨ j = 8 ∨ j = 9 ∨ j = 10 ∨ j = 11 ∨ j = 12 ∨ j = 13 ∨ j = 14 ∨ j = 15 by omega) with rfl | rfl | rfl | rfl | rfl | rfl | rfl | rfl | rfl | rfl | rfl | rfl | rfl | rfl | rfl | rfl <;> rfl) (Nat.le_of_ble_eq_true rfl) (Nat.le_of_ble_eq_true rfl) dX4_init_48 (fun q_20 H hP hD hS => ?_)
  refine W.widen (k := 38) (n := 358) (Nat.le_of_ble_eq_true rfl) (Nat.le_of_ble_eq_true rfl) ?_
  have hP : va_P Γ.1 vwCl (wcat [[(h0, .inr (4, [.ref (a_2 0), .ref (a_5 0), .ref q_7, .int 0, .null, .null, .null]))], plB Γ a_2 v_3, plB Γ a_5 v_6, [(q_7, .inl (Γ.2 2, 6, .inr (.inr (.inr (.inr (gO [some (a_9 0), some (a_12 0), some (a_15 0), some (a_18 0), none, none]))))))], plB Γ a_9 v_10, plB Γ a_12 v_13, plB Γ a_15 v_16, plB Γ a_18 v_19, [(q_20, .inr (2, [.int 0, .int 0, .null, .null, .null, .null, .null, .int 0, .int 0, .int 0, .int 0, .int 0, .int 0, .int 0, .int 0, .int 0]))]]) H := hP
  have hD : va_D A (wcat [[(h0, .inr (4, [.ref (a_2 0), .ref (a_5 0), .ref q_7, .int 0, .null, .null, .null]))], plB Γ a_2 v_3, plB Γ a_5 v_6, [(q_7, .inl (Γ.2 2, 6, .inr (.inr (.inr (.inr (gO [some (a_9 0), some (a_12 0), some (a_15 0), some (a_18 0), none, none]))))))], plB Γ a_9 v_10, plB Γ a_12 v_13, plB Γ a_15 v_16, plB Γ a_18 v_19, [(q_20, .inr (2, [.int 0, .int 0, .null, .null, .null, .null, .null, .int 0, .int 0, .int 0, .int 0, .int 0, .int 0, .int 0, .int 0, .int 0]))]]) := hD
  refine lv_dup hx hb dX4_init_51 rfl ?_
  refine cCT (bs := [[(h0, .inr (4, [.ref (a_2 0), .ref (a_5 0), .ref q_7, .int 0, .null, .null, .null]))], plB Γ a_2 v_3, plB Γ a_5 v_6, [(q_7, .inl (Γ.2 2, 6, .inr (.inr (.inr (.inr (gO [some (a_9 0), some (a_12 0), some (a_15 0), some (a_18 0), none, none]))))))], plB Γ a_9 v_10, plB Γ a_12 v_13, plB Γ a_15 v_16, plB Γ a_18 v_19]) (b0 := [(q_20, .inr (2, [.int 0, .int 0, .null, .null, .null, .null, .null, .int 0, .int 0, .int 0, .int 0, .int 0, .int 0, .int 0, .int 0, .int 0]))]) (va_runI (As := []) (rest := [.ref q_20, .int (nI 4), .ref q_7]) ⟨hx, hb, hml, hown, hts⟩ ((kX2_init l Γ q_20) _) (cwI 0 hts gX4_init_X2_init rfl rfl rfl (hts (.initialized RX2) (by decide +kernel)) (hts (.methodLink RX4 9 yX2_init) (by decide +kernel)) (hts (.instanceMethod yX2_init) (by decide +kernel)) rfl (by decide +kernel) ⟨Nat.le_of_ble_eq_true rfl, Nat.le_of_ble_eq_true rfl⟩) ⟨ct_blind, ct_mk (wPre_mk hP hD hK hS hA hAB hAm [8] rfl rfl)⟩ rfl rfl hl.1 rfl (lv_room (Nat.le_of_ble_eq_true rfl)) dX4_init_52 ⟨Nat.le_of_ble_eq_true rfl, Nat.le_of_ble_eq_true rfl⟩) hP hD hS hA (fun ⟨a_21, v_22⟩ H locs hu hP2 hD2 hS => ?_)
  obtain ⟨he, hc_v_22⟩ := hu
  try dsimp only at he hc_v_22 hP2 hD2
  have he : q_20 = a_21 0 := he.symm
  subst he
  have hP := hP2
  have hD := hD2
  refine W.widen (k := 43) (n := 398) (Nat.le_of_ble_eq_true rfl) (Nat.le_of_ble_eq_true rfl) ?_
  have hP : va_P Γ.1 vwCl (wcat [[(h0, .inr (4, [.ref (a_2 0), .ref (a_5 0), .ref q_7, .int 0, .null, .null, .null]))], plB Γ a_2 v_3, plB Γ a_5 v_6, [(q_7, .inl (Γ.2 2, 6, .inr (.inr (.inr (.inr (gO [some (a_9 0), some (a_12 0), some (a_15 0), some (a_18 0), none, none]))))))], plB Γ a_9 v_10, plB Γ a_12 v_13, plB Γ a_15 v_16, plB Γ a_18 v_19, plB Γ a_21 v_22]) H := hP
  have hD : va_D A (wcat [[(h0, .inr (4, [.ref (a_2 0), .ref (a_5 0), .ref q_7, .int 0, .null, .null, .null]))], plB Γ a_2 v_3, plB Γ a_5 v_6, [(q_7, .inl (Γ.2 2, 6, .inr (.inr (.inr (.inr (gO [some (a_9 0), some (a_12 0), some (a_15 0), some (a_18 0), none, none]))))))], plB Γ a_9 v_10, plB Γ a_12 v_13, plB Γ a_15 v_16, plB Γ a_18 v_19, plB Γ a_21 v_22]) := hD
  refine astO (l2 := [some (a_9 0), some (a_12 0), some (a_15 0), some (a_18 0), some (a_21 0), none]) hx hb hK hP hD hS 13 38 rfl rfl rfl (by decide) (Nat.le_of_ble_eq_true rfl) rfl dX4_init_55 (fun H locs hP hD hS => ?_)
  have hP : va_P Γ.1 vwCl (wcat [[(h0, .inr (4, [.ref (a_2 0), .ref (a_5 0), .ref q_7, .int 0, .null, .null, .null]))], plB Γ a_2 v_3, plB Γ a_5 v_6, [(q_7, .inl (Γ.2 2, 6, .inr (.inr (.inr (.inr (gO [some (a_9 0), some (a_12 0), some (a_15 0), some (a_18 0), some (a_21 0), none]))))))], plB Γ a_9 v_10, plB Γ a_12 v_13, plB Γ a_15 v_16, plB Γ a_18 v_19, plB Γ a_21 v_22]) H := hP
  have hD : va_D A (wcat [[(h0, .inr (4, [.ref (a_2 0), .ref (a_5 0), .ref q_7, .int 0, .null, .null, .null]))], plB Γ a_2 v_3, plB Γ a_5 v_6, [(q_7, .inl (Γ.2 2, 6, .inr (.inr (.inr (.inr (gO [some (a_9 0), some (a_12 0), some (a_15 0), some (a_18 0), some (a_21 0), none]))))))], plB Γ a_9 v_10, plB Γ a_12 v_13, plB Γ a_15 v_16, plB Γ a_18 v_19, plB Γ a_21 v_22]) := hD
  refine lv_iinc (v := (nI 5)) (lv' := [(1, .int (nI 5)), (0, .ref h0)]) hx hb dX4_init_56 hl (k := 0) rfl (by decide) (by decide) rfl (fun ls hl => ?_)
  refine lv_goto (tgt := 37) hx hb dX4_init_59 (by decide) ?_
  refine lv_iload_n hx hb dX4_init_37 rfl (lv_at hl 0 rfl) ?_
  refine lv_bipush (v := (nI 6)) hx hb dX4_init_38 (by decide) ?_
  refine lv_icmp_ge (tgt := 62) hx hb dX4_init_40 (by decide) (fun c_40 => absurd c_40 (by decide)) (fun c_40 => ?_)
  refine lv_aload_n hx hb dX4_init_43 rfl (lv_at hl 1 rfl) ?_
  refine va_get (D := Γ.1) (ci := 4) (v := .ref q_7) (C := RX4) (T := TX4) (N := 7) hx hb hts hi4 hown hK hP 0 rfl rfl 2 (by decide) kf19 (fun _ h9 => h9) rfl dX4_init_44 ?_
  refine lv_iload_n hx hb dX4_init_47 rfl (lv_at hl 0 rfl) ?_
  refine va_new (D := Γ.1) (ci := 2) (fs := [.int 0, .int 0, .null, .null, .null, .null, .null, .int 0, .int 0, .int 0, .int 0, .int 0, .int 0, .int 0, .int 0, .int 0]) (C := RX2) (T := TX2) (N := 16) hx hb hts hi2 tyX2 tyX2_ok hown (hts (.classLink RX4 7 RX2) (by decide +kernel)) (hts (.instantiable RX2 16) (by decide +kernel)) (hts (.initialized RX2) (by decide +kernel)) hK hP hD hS hA rfl (fun j hj => by rcases (show j = 0 ∨ j = 1 ∨ j = 2 ∨ j = 3 ∨ j = 4 ∨ j = 5 ∨ j = 6 ∨ j = 7 ∨ j = 8 ∨ j = 9 ∨ j = 10 ∨ j = 11 ∨ j = 12 ∨ j = 13 ∨ j = 14 ∨ j = 15 by omega) with rfl | rfl | rfl | rfl | rfl | rfl | rfl | rfl | rfl | rfl | rfl | rfl | rfl | rfl | rfl | rfl <;> rfl) (Nat.le_of_ble_eq_true rfl) (Nat.le_of_ble_eq_true rfl) dX4_init_48 (fun q_23 H hP hD hS => ?_)
  refine W.widen (k := 44) (n := 414) (Nat.le_of_ble_eq_true rfl) (Nat.le_of_ble_eq_true rfl) ?_
  have hP : va_P Γ.1 vwCl (wcat [[(h0, .inr (4, [.ref (a_2 0), .ref (a_5 0), .ref q_7, .int 0, .null, .null, .null]))], plB Γ a_2 v_3, plB Γ a_5 v_6, [(q_7, .inl (Γ.2 2, 6, .inr (.inr (.inr (.inr (gO [some (a_9 0), some (a_12 0), some (a_15 0), some (a_18 0), some (a_21 0), none]))))))], plB Γ a_9 v_10, plB Γ a_12 v_13, plB Γ a_15 v_16, plB Γ a_18 v_19, plB Γ a_21 v_22, [(q_23, .inr (2, [.int 0, .int 0, .null, .null, .null, .null, .null, .int 0, .int 0, .int 0, .int 0, .int 0, .int 0, .int 0, .int 0, .int 0]))]]) H := hP
  have hD : va_D A (wcat [[(h0, .inr (4, [.ref (a_2 0), .ref (a_5 0), .ref q_7, .int 0, .null, .null, .null]))], plB Γ a_2 v_3, plB Γ a_5 v_6, [(q_7, .inl (Γ.2 2, 6, .inr (.inr (.inr (.inr (gO [some (a_9 0), some (a_12 0), some (a_15 0), some (a_18 0), some (a_21 0), none]))))))], plB Γ a_9 v_10, plB Γ a_12 v_13, plB Γ a_15 v_16, plB Γ a_18 v_19, plB Γ a_21 v_22, [(q_23, .inr (2, [.int 0, .int 0, .null, .null, .null, .null, .null, .int 0, .int 0, .int 0, .int 0, .int 0, .int 0, .int 0, .int 0, .int 0]))]]) := hD
  refine lv_dup hx hb dX4_init_51 rfl ?_
  refine cCT (bs := [[(h0, .inr (4, [.ref (a_2 0), .ref (a_5 0), .ref q_7, .int 0, .null, .null, .null]))], plB Γ a_2 v_3, plB Γ a_5 v_6, [(q_7, .inl (Γ.2 2, 6, .inr (.inr (.inr (.inr (gO [some (a_9 0), some (a_12 0), some (a_15 0), some (a_18 0), some (a_21 0), none]))))))], plB Γ a_9 v_10, plB Γ a_12 v_13, plB Γ a_15 v_16, plB Γ a_18 v_19, plB Γ a_21 v_22]) (b0 := [(q_23, .inr (2, [.int 0, .int 0, .null, .null, .null, .null, .null, .int 0, .int 0, .int 0, .int 0, .int 0, .int 0, .int 0, .int 0, .int 0]))]) (va_runI (As := []) (rest := [.ref q_23, .int (nI 5), .ref q_7]) ⟨hx, hb, hml, hown, hts⟩ ((kX2_init l Γ q_23) _) (cwI 0 hts gX4_init_X2_init rfl rfl rfl (hts (.initialized RX2) (by decide +kernel)) (hts (.methodLink RX4 9 yX2_init) (by decide +kernel)) (hts (.instanceMethod yX2_init) (by decide +kernel)) rfl (by decide +kernel) ⟨Nat.le_of_ble_eq_true rfl, Nat.le_of_ble_eq_true rfl⟩) ⟨ct_blind, ct_mk (wPre_mk hP hD hK hS hA hAB hAm [9] rfl rfl)⟩ rfl rfl hl.1 rfl (lv_room (Nat.le_of_ble_eq_true rfl)) dX4_init_52 ⟨Nat.le_of_ble_eq_true rfl, Nat.le_of_ble_eq_true rfl⟩) hP hD hS hA (fun ⟨a_24, v_25⟩ H locs hu hP2 hD2 hS => ?_)
  obtain ⟨he, hc_v_25⟩ := hu
  try dsimp only at he hc_v_25 hP2 hD2
  have he : q_23 = a_24 0 := he.symm
  subst he
  have hP := hP2
  have hD := hD2
  refine W.widen (k := 49) (n := 454) (Nat.le_of_ble_eq_true rfl) (Nat.le_of_ble_eq_true rfl) ?_
  have hP : va_P Γ.1 vwCl (wcat [[(h0, .inr (4, [.ref (a_2 0), .ref (a_5 0), .ref q_7, .int 0, .null, .null, .null]))], plB Γ a_2 v_3, plB Γ a_5 v_6, [(q_7, .inl (Γ.2 2, 6, .inr (.inr (.inr (.inr (gO [some (a_9 0), some (a_12 0), some (a_15 0), some (a_18 0), some (a_21 0), none]))))))], plB Γ a_9 v_10, plB Γ a_12 v_13, plB Γ a_15 v_16, plB Γ a_18 v_19, plB Γ a_21 v_22, plB Γ a_24 v_25]) H := hP
  have hD : va_D A (wcat [[(h0, .inr (4, [.ref (a_2 0), .ref (a_5 0), .ref q_7, .int 0, .null, .null, .null]))], plB Γ a_2 v_3, plB Γ a_5 v_6, [(q_7, .inl (Γ.2 2, 6, .inr (.inr (.inr (.inr (gO [some (a_9 0), some (a_12 0), some (a_15 0), some (a_18 0), some (a_21 0), none]))))))], plB Γ a_9 v_10, plB Γ a_12 v_13, plB Γ a_15 v_16, plB Γ a_18 v_19, plB Γ a_21 v_22, plB Γ a_24 v_25]) := hD
  refine astO (l2 := [some (a_9 0), some (a_12 0), some (a_15 0), some (a_18 0), some (a_21 0), some (a_24 0)]) hx hb hK hP hD hS 13 44 rfl rfl rfl (by decide) (Nat.le_of_ble_eq_true rfl) rfl dX4_init_55 (fun H locs hP hD hS => ?_)
  have hP : va_P Γ.1 vwCl (wcat [[(h0, .inr (4, [.ref (a_2 0), .ref (a_5 0), .ref q_7, .int 0, .null, .null, .null]))], plB Γ a_2 v_3, plB Γ a_5 v_6, [(q_7, .inl (Γ.2 2, 6, .inr (.inr (.inr (.inr (gO [some (a_9 0), some (a_12 0), some (a_15 0), some (a_18 0), some (a_21 0), some (a_24 0)]))))))], plB Γ a_9 v_10, plB Γ a_12 v_13, plB Γ a_15 v_16, plB Γ a_18 v_19, plB Γ a_21 v_22, plB Γ a_24 v_25]) H := hP
  have hD : va_D A (wcat [[(h0, .inr (4, [.ref (a_2 0), .ref (a_5 0), .ref q_7, .int 0, .null, .null, .null]))], plB Γ a_2 v_3, plB Γ a_5 v_6, [(q_7, .inl (Γ.2 2, 6, .inr (.inr (.inr (.inr (gO [some (a_9 0), some (a_12 0), some (a_15 0), some (a_18 0), some (a_21 0), some (a_24 0)]))))))], plB Γ a_9 v_10, plB Γ a_12 v_13, plB Γ a_15 v_16, plB Γ a_18 v_19, plB Γ a_21 v_22, plB Γ a_24 v_25]) := hD
  refine lv_iinc (v := (nI 6)) (lv' := [(1, .int (nI 6)), (0, .ref h0)]) hx hb dX4_init_56 hl (k := 0) rfl (by decide) (by decide) rfl (fun ls hl => ?_)
  refine lv_goto (tgt := 37) hx hb dX4_init_59 (by decide) ?_
  refine lv_iload_n hx hb dX4_init_37 rfl (lv_at hl 0 rfl) ?_
  refine lv_bipush (v := (nI 6)) hx hb dX4_init_38 (by decide) ?_
  refine lv_icmp_ge (tgt := 62) hx hb dX4_init_40 (by decide) (fun c_40 => ?_) (fun c_40 => absurd c_40 (by decide))
  refine lv_aload_n hx hb dX4_init_62 rfl (lv_at hl 1 rfl) ?_
  refine lv_iconst (v := (nI 0)) hx hb dX4_init_63 (by decide) ?_
  refine va_put (D := Γ.1) (ci := 4) (v := .int (nI 0)) (ty := .int) (C := RX4) (T := TX4) (N := 7) hx hb hts hi4 tyX4 tyX4_ok nmX4 hown hK hP hD hS 0 rfl rfl 3 (by decide) kf23 (fun _ h9 => h9) rfl (by decide +kernel) rfl rfl (Nat.le_of_ble_eq_true rfl) dX4_init_64 (fun H locs hP hD hS => ?_)
  have hP : va_P Γ.1 vwCl (wcat [[(h0, .inr (4, [.ref (a_2 0), .ref (a_5 0), .ref q_7, .int (nI 0), .null, .null, .null]))], plB Γ a_2 v_3, plB Γ a_5 v_6, [(q_7, .inl (Γ.2 2, 6, .inr (.inr (.inr (.inr (gO [some (a_9 0), some (a_12 0), some (a_15 0), some (a_18 0), some (a_21 0), some (a_24 0)]))))))], plB Γ a_9 v_10, plB Γ a_12 v_13, plB Γ a_15 v_16, plB Γ a_18 v_19, plB Γ a_21 v_22, plB Γ a_24 v_25]) H := hP
  have hD : va_D A (wcat [[(h0, .inr (4, [.ref (a_2 0), .ref (a_5 0), .ref q_7, .int (nI 0), .null, .null, .null]))], plB Γ a_2 v_3, plB Γ a_5 v_6, [(q_7, .inl (Γ.2 2, 6, .inr (.inr (.inr (.inr (gO [some (a_9 0), some (a_12 0), some (a_15 0), some (a_18 0), some (a_21 0), some (a_24 0)]))))))], plB Γ a_9 v_10, plB Γ a_12 v_13, plB Γ a_15 v_16, plB Γ a_18 v_19, plB Γ a_21 v_22, plB Γ a_24 v_25]) := hD
  refine lv_aload_n hx hb dX4_init_67 rfl (lv_at hl 1 rfl) ?_
  refine va_new (D := Γ.1) (ci := 0) (fs := [.null]) (C := RX0) (T := TX0) (N := 1) hx hb hts hi0 tyX0 tyX0_ok hown (hts (.classLink RX4 27 RX0) (by decide +kernel)) (hts (.instantiable RX0 1) (by decide +kernel)) (hts (.initialized RX0) (by decide +kernel)) hK hP hD hS hA rfl (fun j hj => by rcases (show j = 0 by omega) with rfl <;> rfl) (Nat.le_of_ble_eq_true rfl) (Nat.le_of_ble_eq_true rfl) dX4_init_68 (fun q_26 H hP hD hS => ?_)
  refine W.widen (k := 50) (n := 455) (Nat.le_of_ble_eq_true rfl) (Nat.le_of_ble_eq_true rfl) ?_
  have hP : va_P Γ.1 vwCl (wcat [[(h0, .inr (4, [.ref (a_2 0), .ref (a_5 0), .ref q_7, .int (nI 0), .null, .null, .null]))], plB Γ a_2 v_3, plB Γ a_5 v_6, [(q_7, .inl (Γ.2 2, 6, .inr (.inr (.inr (.inr (gO [some (a_9 0), some (a_12 0), some (a_15 0), some (a_18 0), some (a_21 0), some (a_24 0)]))))))], plB Γ a_9 v_10, plB Γ a_12 v_13, plB Γ a_15 v_16, plB Γ a_18 v_19, plB Γ a_21 v_22, plB Γ a_24 v_25, [(q_26, .inr (0, [.null]))]]) H := hP
  have hD : va_D A (wcat [[(h0, .inr (4, [.ref (a_2 0), .ref (a_5 0), .ref q_7, .int (nI 0), .null, .null, .null]))], plB Γ a_2 v_3, plB Γ a_5 v_6, [(q_7, .inl (Γ.2 2, 6, .inr (.inr (.inr (.inr (gO [some (a_9 0), some (a_12 0), some (a_15 0), some (a_18 0), some (a_21 0), some (a_24 0)]))))))], plB Γ a_9 v_10, plB Γ a_12 v_13, plB Γ a_15 v_16, plB Γ a_18 v_19, plB Γ a_21 v_22, plB Γ a_24 v_25, [(q_26, .inr (0, [.null]))]]) := hD
  refine lv_dup hx hb dX4_init_71 rfl ?_
  refine cCT (bs := [[(h0, .inr (4, [.ref (a_2 0), .ref (a_5 0), .ref q_7, .int (nI 0), .null, .null, .null]))], plB Γ a_2 v_3, plB Γ a_5 v_6, [(q_7, .inl (Γ.2 2, 6, .inr (.inr (.inr (.inr (gO [some (a_9 0), some (a_12 0), some (a_15 0), some (a_18 0), some (a_21 0), some (a_24 0)]))))))], plB Γ a_9 v_10, plB Γ a_12 v_13, plB Γ a_15 v_16, plB Γ a_18 v_19, plB Γ a_21 v_22, plB Γ a_24 v_25]) (b0 := [(q_26, .inr (0, [.null]))]) (va_runIN (As := []) (rest := [.ref q_26, .ref h0]) ⟨hx, hb, hml, hown, hts⟩ ((kX0_init l Γ q_26) _) ⟨va_cnB 0 hts gX4_init_X0_init_n29 rfl rfl rfl (hAm.1.1) (hts (.initialized RX0) (by decide +kernel)) (by decide +kernel) ⟨Nat.le_of_ble_eq_true rfl, Nat.le_of_ble_eq_true rfl⟩, rfl, hts (.instanceMethod yX0_init) (by decide +kernel)⟩ ⟨ct_blind, ct_mk (wPre_mk hP hD hK hS hA hAB hAm [10] rfl rfl)⟩ rfl rfl hl.1 rfl (lv_room (Nat.le_of_ble_eq_true rfl)) dX4_init_72 ⟨Nat.le_of_ble_eq_true rfl, Nat.le_of_ble_eq_true rfl⟩) hP hD hS hA (fun ⟨a_27, k_28⟩ H locs hu hP2 hD2 hS => ?_)
  try dsimp only at hu hP2 hD2
  have he : q_26 = a_27 0 := hu.symm
  subst he
  have hP := hP2
  have hD := hD2
  refine W.widen (k := 51) (n := 711) (Nat.le_of_ble_eq_true rfl) (Nat.le_of_ble_eq_true rfl) ?_
  have hP : va_P Γ.1 vwCl (wcat [[(h0, .inr (4, [.ref (a_2 0), .ref (a_5 0), .ref q_7, .int (nI 0), .null, .null, .null]))], plB Γ a_2 v_3, plB Γ a_5 v_6, [(q_7, .inl (Γ.2 2, 6, .inr (.inr (.inr (.inr (gO [some (a_9 0), some (a_12 0), some (a_15 0), some (a_18 0), some (a_21 0), some (a_24 0)]))))))], plB Γ a_9 v_10, plB Γ a_12 v_13, plB Γ a_15 v_16, plB Γ a_18 v_19, plB Γ a_21 v_22, plB Γ a_24 v_25, cuB Γ a_27 k_28]) H := hP
  have hD : va_D A (wcat [[(h0, .inr (4, [.ref (a_2 0), .ref (a_5 0), .ref q_7, .int (nI 0), .null, .null, .null]))], plB Γ a_2 v_3, plB Γ a_5 v_6, [(q_7, .inl (Γ.2 2, 6, .inr (.inr (.inr (.inr (gO [some (a_9 0), some (a_12 0), some (a_15 0), some (a_18 0), some (a_21 0), some (a_24 0)]))))))], plB Γ a_9 v_10, plB Γ a_12 v_13, plB Γ a_15 v_16, plB Γ a_18 v_19, plB Γ a_21 v_22, plB Γ a_24 v_25, cuB Γ a_27 k_28]) := hD
  refine va_putF (D := Γ.1) (ci := 4) (v := .ref (a_27 0)) (ty := (.object "CapsuleKeepers$Curves")) (C := RX4) (T := TX4) (N := 7) hx hb hts hi4 tyX4 tyX4_ok nmX4 hown hK hP hD hS 0 rfl rfl 4 (by decide) kf30 (fun _ h9 => h9) rfl hin rfl (by decide +kernel) rfl rfl (Nat.le_of_ble_eq_true rfl) dX4_init_75 (fun H locs hP hD hS => ?_)
  have hP : va_P Γ.1 vwCl (wcat [[(h0, .inr (4, [.ref (a_2 0), .ref (a_5 0), .ref q_7, .int (nI 0), .ref (a_27 0), .null, .null]))], plB Γ a_2 v_3, plB Γ a_5 v_6, [(q_7, .inl (Γ.2 2, 6, .inr (.inr (.inr (.inr (gO [some (a_9 0), some (a_12 0), some (a_15 0), some (a_18 0), some (a_21 0), some (a_24 0)]))))))], plB Γ a_9 v_10, plB Γ a_12 v_13, plB Γ a_15 v_16, plB Γ a_18 v_19, plB Γ a_21 v_22, plB Γ a_24 v_25, cuB Γ a_27 k_28]) H := hP
  have hD : va_D A (wcat [[(h0, .inr (4, [.ref (a_2 0), .ref (a_5 0), .ref q_7, .int (nI 0), .ref (a_27 0), .null, .null]))], plB Γ a_2 v_3, plB Γ a_5 v_6, [(q_7, .inl (Γ.2 2, 6, .inr (.inr (.inr (.inr (gO [some (a_9 0), some (a_12 0), some (a_15 0), some (a_18 0), some (a_21 0), some (a_24 0)]))))))], plB Γ a_9 v_10, plB Γ a_12 v_13, plB Γ a_15 v_16, plB Γ a_18 v_19, plB Γ a_21 v_22, plB Γ a_24 v_25, cuB Γ a_27 k_28]) := hD
  refine lv_aload_n hx hb dX4_init_78 rfl (lv_at hl 1 rfl) ?_
  refine va_new (D := Γ.1) (ci := 3) (fs := [.null, .null]) (C := RX3) (T := TX3) (N := 2) hx hb hts hi3 tyX3 tyX3_ok hown (hts (.classLink RX4 34 RX3) (by decide +kernel)) (hts (.instantiable RX3 2) (by decide +kernel)) (hts (.initialized RX3) (by decide +kernel)) hK hP hD hS hA rfl (fun j hj => by rcases (show j = 0 ∨ j = 1 by omega) with rfl | rfl <;> rfl) (Nat.le_of_ble_eq_true rfl) (Nat.le_of_ble_eq_true rfl) dX4_init_79 (fun q_29 H hP hD hS => ?_)
  refine W.widen (k := 52) (n := 713) (Nat.le_of_ble_eq_true rfl) (Nat.le_of_ble_eq_true rfl) ?_
  have hP : va_P Γ.1 vwCl (wcat [[(h0, .inr (4, [.ref (a_2 0), .ref (a_5 0), .ref q_7, .int (nI 0), .ref (a_27 0), .null, .null]))], plB Γ a_2 v_3, plB Γ a_5 v_6, [(q_7, .inl (Γ.2 2, 6, .inr (.inr (.inr (.inr (gO [some (a_9 0), some (a_12 0), some (a_15 0), some (a_18 0), some (a_21 0), some (a_24 0)]))))))], plB Γ a_9 v_10, plB Γ a_12 v_13, plB Γ a_15 v_16, plB Γ a_18 v_19, plB Γ a_21 v_22, plB Γ a_24 v_25, cuB Γ a_27 k_28, [(q_29, .inr (3, [.null, .null]))]]) H := hP
  have hD : va_D A (wcat [[(h0, .inr (4, [.ref (a_2 0), .ref (a_5 0), .ref q_7, .int (nI 0), .ref (a_27 0), .null, .null]))], plB Γ a_2 v_3, plB Γ a_5 v_6, [(q_7, .inl (Γ.2 2, 6, .inr (.inr (.inr (.inr (gO [some (a_9 0), some (a_12 0), some (a_15 0), some (a_18 0), some (a_21 0), some (a_24 0)]))))))], plB Γ a_9 v_10, plB Γ a_12 v_13, plB Γ a_15 v_16, plB Γ a_18 v_19, plB Γ a_21 v_22, plB Γ a_24 v_25, cuB Γ a_27 k_28, [(q_29, .inr (3, [.null, .null]))]]) := hD
  refine lv_dup hx hb dX4_init_82 rfl ?_
  refine cCT (bs := [[(h0, .inr (4, [.ref (a_2 0), .ref (a_5 0), .ref q_7, .int (nI 0), .ref (a_27 0), .null, .null]))], plB Γ a_2 v_3, plB Γ a_5 v_6, [(q_7, .inl (Γ.2 2, 6, .inr (.inr (.inr (.inr (gO [some (a_9 0), some (a_12 0), some (a_15 0), some (a_18 0), some (a_21 0), some (a_24 0)]))))))], plB Γ a_9 v_10, plB Γ a_12 v_13, plB Γ a_15 v_16, plB Γ a_18 v_19, plB Γ a_21 v_22, plB Γ a_24 v_25, cuB Γ a_27 k_28]) (b0 := [(q_29, .inr (3, [.null, .null]))]) (va_runIN (As := []) (rest := [.ref q_29, .ref h0]) ⟨hx, hb, hml, hown, hts⟩ ((kX3_init l Γ q_29) _) ⟨va_cnB 0 hts gX4_init_X3_init_n36 rfl rfl rfl (hAm.1.2.1) (hts (.initialized RX3) (by decide +kernel)) (by decide +kernel) ⟨Nat.le_of_ble_eq_true rfl, Nat.le_of_ble_eq_true rfl⟩, rfl, hts (.instanceMethod yX3_init) (by decide +kernel)⟩ ⟨ct_blind, ct_mk (wPre_mk hP hD hK hS hA hAB hAm [11] rfl rfl)⟩ rfl rfl hl.1 rfl (lv_room (Nat.le_of_ble_eq_true rfl)) dX4_init_83 ⟨Nat.le_of_ble_eq_true rfl, Nat.le_of_ble_eq_true rfl⟩) hP hD hS hA (fun ⟨a_30, o_31, p_32⟩ H locs hu hP2 hD2 hS => ?_)
  obtain ⟨he, ho_o_31, hp_p_32⟩ := hu
  try dsimp only at he ho_o_31 hp_p_32 hP2 hD2
  have he : q_29 = a_30 0 := he.symm
  subst he
  have hP := hP2
  have hD := hD2
  refine W.widen (k := 54) (n := 1225) (Nat.le_of_ble_eq_true rfl) (Nat.le_of_ble_eq_true rfl) ?_
  have hP : va_P Γ.1 vwCl (wcat [[(h0, .inr (4, [.ref (a_2 0), .ref (a_5 0), .ref q_7, .int (nI 0), .ref (a_27 0), .null, .null]))], plB Γ a_2 v_3, plB Γ a_5 v_6, [(q_7, .inl (Γ.2 2, 6, .inr (.inr (.inr (.inr (gO [some (a_9 0), some (a_12 0), some (a_15 0), some (a_18 0), some (a_21 0), some (a_24 0)]))))))], plB Γ a_9 v_10, plB Γ a_12 v_13, plB Γ a_15 v_16, plB Γ a_18 v_19, plB Γ a_21 v_22, plB Γ a_24 v_25, cuB Γ a_27 k_28, suB Γ a_30 o_31 p_32]) H := hP
  have hD : va_D A (wcat [[(h0, .inr (4, [.ref (a_2 0), .ref (a_5 0), .ref q_7, .int (nI 0), .ref (a_27 0), .null, .null]))], plB Γ a_2 v_3, plB Γ a_5 v_6, [(q_7, .inl (Γ.2 2, 6, .inr (.inr (.inr (.inr (gO [some (a_9 0), some (a_12 0), some (a_15 0), some (a_18 0), some (a_21 0), some (a_24 0)]))))))], plB Γ a_9 v_10, plB Γ a_12 v_13, plB Γ a_15 v_16, plB Γ a_18 v_19, plB Γ a_21 v_22, plB Γ a_24 v_25, cuB Γ a_27 k_28, suB Γ a_30 o_31 p_32]) := hD
  refine va_putF (D := Γ.1) (ci := 4) (v := .ref (a_30 0)) (ty := (.object "CapsuleKeepers$Survey")) (C := RX4) (T := TX4) (N := 7) hx hb hts hi4 tyX4 tyX4_ok nmX4 hown hK hP hD hS 0 rfl rfl 5 (by decide) kf37 (fun _ h9 => h9) rfl hin rfl (by decide +kernel) rfl rfl (Nat.le_of_ble_eq_true rfl) dX4_init_86 (fun H locs hP hD hS => ?_)
  have hP : va_P Γ.1 vwCl (wcat [[(h0, .inr (4, [.ref (a_2 0), .ref (a_5 0), .ref q_7, .int (nI 0), .ref (a_27 0), .ref (a_30 0), .null]))], plB Γ a_2 v_3, plB Γ a_5 v_6, [(q_7, .inl (Γ.2 2, 6, .inr (.inr (.inr (.inr (gO [some (a_9 0), some (a_12 0), some (a_15 0), some (a_18 0), some (a_21 0), some (a_24 0)]))))))], plB Γ a_9 v_10, plB Γ a_12 v_13, plB Γ a_15 v_16, plB Γ a_18 v_19, plB Γ a_21 v_22, plB Γ a_24 v_25, cuB Γ a_27 k_28, suB Γ a_30 o_31 p_32]) H := hP
  have hD : va_D A (wcat [[(h0, .inr (4, [.ref (a_2 0), .ref (a_5 0), .ref q_7, .int (nI 0), .ref (a_27 0), .ref (a_30 0), .null]))], plB Γ a_2 v_3, plB Γ a_5 v_6, [(q_7, .inl (Γ.2 2, 6, .inr (.inr (.inr (.inr (gO [some (a_9 0), some (a_12 0), some (a_15 0), some (a_18 0), some (a_21 0), some (a_24 0)]))))))], plB Γ a_9 v_10, plB Γ a_12 v_13, plB Γ a_15 v_16, plB Γ a_18 v_19, plB Γ a_21 v_22, plB Γ a_24 v_25, cuB Γ a_27 k_28, suB Γ a_30 o_31 p_32]) := hD
  refine lv_aload_n hx hb dX4_init_89 rfl (lv_at hl 1 rfl) ?_
  refine va_new (D := Γ.1) (ci := 1) (fs := [.null, .int 0]) (C := RX1) (T := TX1) (N := 2) hx hb hts hi1 tyX1 tyX1_ok hown (hts (.classLink RX4 41 RX1) (by decide +kernel)) (hts (.instantiable RX1 2) (by decide +kernel)) (hts (.initialized RX1) (by decide +kernel)) hK hP hD hS hA rfl (fun j hj => by rcases (show j = 0 ∨ j = 1 by omega) with rfl | rfl <;> rfl) (Nat.le_of_ble_eq_true rfl) (Nat.le_of_ble_eq_true rfl) dX4_init_90 (fun q_33 H hP hD hS => ?_)
  refine W.widen (k := 55) (n := 1227) (Nat.le_of_ble_eq_true rfl) (Nat.le_of_ble_eq_true rfl) ?_
  have hP : va_P Γ.1 vwCl (wcat [[(h0, .inr (4, [.ref (a_2 0), .ref (a_5 0), .ref q_7, .int (nI 0), .ref (a_27 0), .ref (a_30 0), .null]))], plB Γ a_2 v_3, plB Γ a_5 v_6, [(q_7, .inl (Γ.2 2, 6, .inr (.inr (.inr (.inr (gO [some (a_9 0), some (a_12 0), some (a_15 0), some (a_18 0), some (a_21 0), some (a_24 0)]))))))], plB Γ a_9 v_10, plB Γ a_12 v_13, plB Γ a_15 v_16, plB Γ a_18 v_19, plB Γ a_21 v_22, plB Γ a_24 v_25, cuB Γ a_27 k_28, suB Γ a_30 o_31 p_32, [(q_33, .inr (1, [.null, .int 0]))]]) H := hP
  have hD : va_D A (wcat [[(h0, .inr (4, [.ref (a_2 0), .ref (a_5 0), .ref q_7, .int (nI 0), .ref (a_27 0), .ref (a_30 0), .null]))], plB Γ a_2 v_3, plB Γ a_5 v_6, [(q_7, .inl (Γ.2 2, 6, .inr (.inr (.inr (.inr (gO [some (a_9 0), some (a_12 0), some (a_15 0), some (a_18 0), some (a_21 0), some (a_24 0)]))))))], plB Γ a_9 v_10, plB Γ a_12 v_13, plB Γ a_15 v_16, plB Γ a_18 v_19, plB Γ a_21 v_22, plB Γ a_24 v_25, cuB Γ a_27 k_28, suB Γ a_30 o_31 p_32, [(q_33, .inr (1, [.null, .int 0]))]]) := hD
  refine lv_dup hx hb dX4_init_93 rfl ?_
  refine cCT (bs := [[(h0, .inr (4, [.ref (a_2 0), .ref (a_5 0), .ref q_7, .int (nI 0), .ref (a_27 0), .ref (a_30 0), .null]))], plB Γ a_2 v_3, plB Γ a_5 v_6, [(q_7, .inl (Γ.2 2, 6, .inr (.inr (.inr (.inr (gO [some (a_9 0), some (a_12 0), some (a_15 0), some (a_18 0), some (a_21 0), some (a_24 0)]))))))], plB Γ a_9 v_10, plB Γ a_12 v_13, plB Γ a_15 v_16, plB Γ a_18 v_19, plB Γ a_21 v_22, plB Γ a_24 v_25, cuB Γ a_27 k_28, suB Γ a_30 o_31 p_32]) (b0 := [(q_33, .inr (1, [.null, .int 0]))]) (va_runIN (As := []) (rest := [.ref q_33, .ref h0]) ⟨hx, hb, hml, hown, hts⟩ ((kX1_init l Γ q_33) _) ⟨va_cnB 0 hts gX4_init_X1_init_n43 rfl rfl rfl (hAm.1.2.2.1) (hts (.initialized RX1) (by decide +kernel)) (by decide +kernel) ⟨Nat.le_of_ble_eq_true rfl, Nat.le_of_ble_eq_true rfl⟩, rfl, hts (.instanceMethod yX1_init) (by decide +kernel)⟩ ⟨ct_blind, ct_mk (wPre_mk hP hD hK hS hA hAB hAm [12] rfl rfl)⟩ rfl rfl hl.1 rfl (lv_room (Nat.le_of_ble_eq_true rfl)) dX4_init_94 ⟨Nat.le_of_ble_eq_true rfl, Nat.le_of_ble_eq_true rfl⟩) hP hD hS hA (fun ⟨a_34, k_35⟩ H locs hu hP2 hD2 hS => ?_)
  try dsimp only at hu hP2 hD2
  have he : q_33 = a_34 0 := hu.symm
  subst he
  have hP := hP2
  have hD := hD2
  refine W.widen (k := 56) (n := 1287) (Nat.le_of_ble_eq_true rfl) (Nat.le_of_ble_eq_true rfl) ?_
  have hP : va_P Γ.1 vwCl (wcat [[(h0, .inr (4, [.ref (a_2 0), .ref (a_5 0), .ref q_7, .int (nI 0), .ref (a_27 0), .ref (a_30 0), .null]))], plB Γ a_2 v_3, plB Γ a_5 v_6, [(q_7, .inl (Γ.2 2, 6, .inr (.inr (.inr (.inr (gO [some (a_9 0), some (a_12 0), some (a_15 0), some (a_18 0), some (a_21 0), some (a_24 0)]))))))], plB Γ a_9 v_10, plB Γ a_12 v_13, plB Γ a_15 v_16, plB Γ a_18 v_19, plB Γ a_21 v_22, plB Γ a_24 v_25, cuB Γ a_27 k_28, suB Γ a_30 o_31 p_32, txB Γ a_34 k_35 0]) H := hP
  have hD : va_D A (wcat [[(h0, .inr (4, [.ref (a_2 0), .ref (a_5 0), .ref q_7, .int (nI 0), .ref (a_27 0), .ref (a_30 0), .null]))], plB Γ a_2 v_3, plB Γ a_5 v_6, [(q_7, .inl (Γ.2 2, 6, .inr (.inr (.inr (.inr (gO [some (a_9 0), some (a_12 0), some (a_15 0), some (a_18 0), some (a_21 0), some (a_24 0)]))))))], plB Γ a_9 v_10, plB Γ a_12 v_13, plB Γ a_15 v_16, plB Γ a_18 v_19, plB Γ a_21 v_22, plB Γ a_24 v_25, cuB Γ a_27 k_28, suB Γ a_30 o_31 p_32, txB Γ a_34 k_35 0]) := hD
  refine va_putF (D := Γ.1) (ci := 4) (v := .ref (a_34 0)) (ty := (.object "CapsuleKeepers$DaysText")) (C := RX4) (T := TX4) (N := 7) hx hb hts hi4 tyX4 tyX4_ok nmX4 hown hK hP hD hS 0 rfl rfl 6 (by decide) kf44 (fun _ h9 => h9) rfl hin rfl (by decide +kernel) rfl rfl (Nat.le_of_ble_eq_true rfl) dX4_init_97 (fun H locs hP hD hS => ?_)
  have hP : va_P Γ.1 vwCl (wcat [[(h0, .inr (4, [.ref (a_2 0), .ref (a_5 0), .ref q_7, .int (nI 0), .ref (a_27 0), .ref (a_30 0), .ref (a_34 0)]))], plB Γ a_2 v_3, plB Γ a_5 v_6, [(q_7, .inl (Γ.2 2, 6, .inr (.inr (.inr (.inr (gO [some (a_9 0), some (a_12 0), some (a_15 0), some (a_18 0), some (a_21 0), some (a_24 0)]))))))], plB Γ a_9 v_10, plB Γ a_12 v_13, plB Γ a_15 v_16, plB Γ a_18 v_19, plB Γ a_21 v_22, plB Γ a_24 v_25, cuB Γ a_27 k_28, suB Γ a_30 o_31 p_32, txB Γ a_34 k_35 0]) H := hP
  have hD : va_D A (wcat [[(h0, .inr (4, [.ref (a_2 0), .ref (a_5 0), .ref q_7, .int (nI 0), .ref (a_27 0), .ref (a_30 0), .ref (a_34 0)]))], plB Γ a_2 v_3, plB Γ a_5 v_6, [(q_7, .inl (Γ.2 2, 6, .inr (.inr (.inr (.inr (gO [some (a_9 0), some (a_12 0), some (a_15 0), some (a_18 0), some (a_21 0), some (a_24 0)]))))))], plB Γ a_9 v_10, plB Γ a_12 v_13, plB Γ a_15 v_16, plB Γ a_18 v_19, plB Γ a_21 v_22, plB Γ a_24 v_25, cuB Γ a_27 k_28, suB Γ a_30 o_31 p_32, txB Γ a_34 k_35 0]) := hD
  have hP := wP_swap (a := [[(h0, .inr (4, [.ref (a_2 0), .ref (a_5 0), .ref q_7, .int (nI 0), .ref (a_27 0), .ref (a_30 0), .ref (a_34 0)]))], plB Γ a_2 v_3, plB Γ a_5 v_6]) (b := [plB Γ a_9 v_10, plB Γ a_12 v_13, plB Γ a_15 v_16, plB Γ a_18 v_19, plB Γ a_21 v_22, plB Γ a_24 v_25, cuB Γ a_27 k_28, suB Γ a_30 o_31 p_32, txB Γ a_34 k_35 0]) hP gO_gR
  have hD := wD_addr (ws' := wcat ([[(h0, .inr (4, [.ref (a_2 0), .ref (a_5 0), .ref q_7, .int (nI 0), .ref (a_27 0), .ref (a_30 0), .ref (a_34 0)]))], plB Γ a_2 v_3, plB Γ a_5 v_6] ++ ([(q_7, .inl (Γ.2 2, 6, .inr (.inr (.inr (.inr (fun j => some (gR [(a_9 0), (a_12 0), (a_15 0), (a_18 0), (a_21 0), (a_24 0)] j)))))))] :: [plB Γ a_9 v_10, plB Γ a_12 v_13, plB Γ a_15 v_16, plB Γ a_18 v_19, plB Γ a_21 v_22, plB Γ a_24 v_25, cuB Γ a_27 k_28, suB Γ a_30 o_31 p_32, txB Γ a_34 k_35 0]))) hD rfl
  refine W.widen (k := 56) (n := 1287) (Nat.le_of_ble_eq_true rfl) (Nat.le_of_ble_eq_true rfl) ?_
  exact W.vret hx hb hr (fun t ht hW => ⟨⟨((a_2, a_5, q_7, gF [a_9, a_12, a_15, a_18, a_21, a_24], a_27, a_30, a_34), v_3, v_6, gV [v_10, v_13, v_16, v_19, v_22, v_25], k_28, o_31, p_32, k_35), rfl, ⟨hc_v_3, ho_o_31, hp_p_32⟩, by rw [ht]; exact hP, hD⟩, hS.F ht⟩) hS.2.2 dX4_init_100
