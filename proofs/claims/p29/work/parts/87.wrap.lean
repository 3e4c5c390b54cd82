/-! ===== the law's wrappers over the seven blocks of the class ===== -/
abbrev ST : Type := Nat × Nat × (Nat → Nat → Nat → Int32) × (Nat → Nat → Int32) × (Nat → Nat → Int32) × (Nat → Int32) × (Nat → Int32) × (Nat → Int32) × (Nat → Int32)
abbrev AD : Type := Nat × (Nat → Nat) × (Nat → Nat) × Nat × (Nat → Nat) × (Nat → Nat) × (Nat → Nat) × (Nat → Nat → Nat)
abbrev W7 (Γ : wG) (D : AD) (x : ST) : List va_W := [mnC D.1 D.2.1 D.2.2.1 D.2.2.2.1 D.2.2.2.2.1 D.2.2.2.2.2.1 D.2.2.2.2.2.2.1 (nI x.1), plB Γ D.2.1 x.2.2.2.1, plB Γ D.2.2.1 x.2.2.2.2.1, saB Γ D.2.2.2.1 D.2.2.2.2.2.2.2 x.2.1 x.2.2.1, cuB Γ D.2.2.2.2.1 x.2.2.2.2.2.1, suB Γ D.2.2.2.2.2.1 x.2.2.2.2.2.2.1 x.2.2.2.2.2.2.2.1, txB Γ D.2.2.2.2.2.2.1 x.2.2.2.2.2.2.2.2 (nI 0)]
theorem W7_ad {Γ : wG} {D : AD} {x u : ST} : (W7 Γ D u).map wad = (W7 Γ D x).map wad := by simp only [List.map_cons, List.map_nil, suB_w, plB_w, cuB_w, txB_w, mnC_w, saB_w]
def MJ (l : Launch) (Γ : wG) (y : MethodName) (ws : List Cond) (rm : Room) (av : List Value) (bs bs' : List va_W) (f : Int32) : Prop := ∀ sz : Nat, Met l y ws rm (va_Pc av (wPre Γ bs sz)) (va_Qi (fun r (_ : Unit) => r = f) (fun _ t => va_P Γ.1 vwCl (wcat bs') t.heap) (va_A (wcat bs) sz)) 1 6 (va_A (wcat bs) sz)
theorem LI.toMI {l : Launch} {Γ : wG} {y : MethodName} {ws : List Cond} {rm : Room} {av : List Value} {bs : List va_W} {f : Int32} (h : LI l Γ y ws rm av bs f) : MI l Γ y ws rm av bs bs f := fun sz => by
  refine MetFree.mono (h sz) (fun _ _ h => h) (fun _ _ _ _ _ h => h) fun a s o t hp hq => ?_
  obtain ⟨⟨⟨r, u, h1, h2, -⟩, hF⟩, L, hL, hfree⟩ := hq
  obtain ⟨-, hsz, hP, hK, hD, hAm⟩ := hp
  subst hsz
  have hup : ∀ q, va_A [] s.heap.size q → va_A (wcat bs) s.heap.size q := fun q z => Or.inr (wnone z)
  exact ⟨⟨⟨r, u, h1, h2, wP_up hP (fun q hq hn => hF.2 q hq hn)⟩, hF.1, fun q hq hn => hF.2 q hq fun z => hn (hup q z)⟩, L, hL, fun q hq => hup _ (hfree q hq)⟩
theorem TX.frame {l : Launch} {Γ : wG} {y : MethodName} {ws : List Cond} {rm : Room} {av : List Value} {bs bc : List va_W} {E : String} (h : TX l Γ y ws rm av bc E) (is : List Nat) (hn : va_nd is = true) (his : is.map (fun i => bs[i]?) = bc.map some) : TX l Γ y ws rm av bs E := fun sz =>
  MetFree.mono (h sz) (fun a s hp => ⟨hp.1, wPre_sel is hn his hp.2⟩) (fun _ _ _ _ _ h => h) fun a s o t hp hq => hq
section WX
variable {p : Program} {l : Launch} {e : Env} {R : Room} {s : State} {m : MethodId} {args : Array Value} {below : List Frame} {meth : Method} {c : Code} {H : Heap} {locs : List Loc} {cells slots : Nat} {Q : State → Prop}
variable {pc : Nat} {ls : Array Slot} {rest st0 : List Value} {cc : ByteArray} {ws : va_W} {A : Nat → Prop} {a : Nat} {Γ : wG}
theorem cTX {E : String} (hr : vx_Run p l e R s m args below meth c H locs cells slots 1 6 (F0 m pc ls st0) rest (fun _ _ _ => False) (vx_X (fun (_ : Unit) => True) (fun E' _ _ => E' = E) (va_A [] H.size)) (va_A [] H.size)) (hS : va_S A s.heap H locs) (hA : ∀ q, s.heap.size ≤ q → A q)
    (kx : ∀ (ce : Cell) (q9 : Addr) (H1 : Heap) (locs1 : List Loc), H.size ≤ H1.size → (∀ q : Nat, q < H.size → H1[q]? = H[q]?) → va_S A s.heap H1 locs1 → H1[q9]? = some ce → ce.vm = .none → s.vm.findClass E = some ce.cls → vx_W p l e R s m args below meth c H1 locs1 (cells + 1) (slots + 6) Q (F0 m pc ls rest) q9) :
    W p l e R s m args below meth c H locs cells slots Q (F0 m pc ls st0) := by
  have hF : ∀ q, va_A [] H.size q → A q := fun q h => hA q (Nat.le_trans hS.1 (wnone h))
  intro T hT X
  rcases hr T hT X with ⟨v, st₀, t, T', L, h0, X', hL, e1, e2, hfalse, st⟩ | ⟨q, st₀, t, T', L, E', ce, h0, X', hL, e1, e2, ⟨u, hp, hb, hFr⟩, hce, hcv, hcl, st⟩
  · exact hfalse.elim
  · subst hb
    obtain ⟨k1, k2, k3⟩ := vx_keep h0 e1 hS (fun q _ h => hF q h) (fun q h => hF q h) hL hFr
    obtain ⟨t2, a1, b1⟩ := kx ce q T'.heap (locs ++ L) k1 (fun q hq => k2 q hq (fun h => absurd hq (Nat.not_lt.mpr (wnone h)))) k3 (by rw [e1]; exact hce) hcv hcl T' rfl X'
    exact ⟨t2, st.trans a1, b1⟩
end WX
theorem Amb.cast {A : Nat → Prop} {s : State} (h : Amb A s) {E : String} (hE : E ∈ wX) {args : Array Value} : (Cond.castable E E).before args s = true := by
  obtain ⟨-, -, -, -, -, hc1, -, -⟩ := h
  exact va_Nw.use rfl (hc1 E hE)
theorem Amb.nc {A : Nat → Prop} {s : State} (h : Amb A s) {E F : String} (hE : E ∈ wX) (hF : F ∈ wX) (hne : E ≠ F) : va_Nc E F s := by
  obtain ⟨-, -, -, -, -, -, -, hc3⟩ := h
  exact hc3 E hE F hF hne

set_option maxHeartbeats 4000000 in
set_option maxRecDepth 100000 in
theorem sL_keeper (l : Launch) (Γ : wG) (D : AD) (x u : ST) (f : Int32) (rmX : Room) (hrf : rmX.frames ≤ 9) (hrl : rmX.locals ≤ 300) (hrc : rmX.cells = 0) (hrs : rmX.slots = 0) (hM : MI l Γ yX4_keeper wsX4_keeper rmX [.ref D.1] (W7 Γ D x) (W7 Γ D u) f) : MI l Γ yL_keeper wsL_keeper ({ frames := 10, cells := 0, slots := 0, locals := 340 }) [.ref D.1] (W7 Γ D x) (W7 Γ D u) f := by
  intro sz
  refine va_MetW (cc := cL_keeper) (maxL := 2) (ret := (some .int)) (hh := [(0, 4, 5, 15)]) (by decide) rfl ?_
  intro p e s m args below meth c s₁ B hml hv
  obtain ⟨rfl, hsz, hP, hK, hD0, hAm⟩ := hv
  have hx := B.exec
  have hb := B.bytes
  have hr := B.returns
  have hts := atoms_spec (ws := wsL_keeper) B.pre
  have hown : s.vm.findClass RL = some m.cls := findClass_of_methodNamed B.named
  subst hsz
  have hD := hD0.self (sz := s.heap.size)
  generalize hAe : va_A (wcat (W7 Γ D x)) s.heap.size = A at hD hAm ⊢
  have hA : ∀ q : Nat, s.heap.size ≤ q → A q := fun q h => by rw [← hAe]; exact Or.inr h
  have hAB : ∀ q : Nat, A q → A q := fun _ h => h
  have hS : va_S A s.heap s.heap [] := va_S.rf
  have hl := lv_entry ([.ref D.1]) (n := 2) (Nat.le_of_ble_eq_true rfl)
  rw [lg_entry_eq]
  generalize (lg_sl ([.ref D.1]) ++ List.replicate (2 - (lg_sl ([.ref D.1])).length) Slot.unset).toArray = ls at hl ⊢
  have hl : lv_has ls 2 [(0, .ref D.1)] := hl
  refine lv_aload_n hx hb dL_keeper_0 rfl (lv_at hl 0 rfl) ?_
  refine cMI (bc' := W7 Γ D u) (va_runV (As := []) (rest := []) ⟨hx, hb, hml, hown, hts⟩ (hM _) (cwV 0 hts gL_keeper_X4_keeper rfl hrc hrs (by decide +kernel) ⟨by show rmX.frames + 1 ≤ 10; omega, by show 8 + (_ + 11) + rmX.locals ≤ 340; omega⟩) ⟨wPre_blind, va_recv hK hP (ci := 4) (q0 := 0) rfl rfl, wPre_mk hP hD hK hS hA hAB hAm [0, 1, 2, 3, 4, 5, 6] rfl rfl⟩ rfl rfl hl.1 rfl (lv_room (Nat.le_of_ble_eq_true rfl)) dL_keeper_1 ⟨Nat.zero_le _, Nat.zero_le _⟩) hP hD hS hA [0, 1, 2, 3, 4, 5, 6] rfl W7_ad (bs' := W7 Γ D u) rfl (fun H locs hP hD hS => ?_)
  exact W.iret (v := f) hx hb hr (fun t ht hW => eMI hP hS ht rfl) hS.2.2 dL_keeper_4
set_option maxHeartbeats 4000000 in
set_option maxRecDepth 100000 in
theorem xL_keeper_1 (l : Launch) (Γ : wG) (D : AD) (x : ST) (rmX : Room) (hrf : rmX.frames ≤ 9) (hrl : rmX.locals ≤ 300) (hrc : rmX.cells = 1) (hrs : rmX.slots = 6) (hX : TX l Γ yX4_keeper wsX4_keeper rmX [.ref D.1] (W7 Γ D x) "java/lang/IllegalStateException") : MJ l Γ yL_keeper wsL_keeper ({ frames := 10, cells := 1, slots := 6, locals := 340 }) [.ref D.1] (W7 Γ D x) (W7 Γ D x) (-2000001) := by
  intro sz
  refine va_MetW (cc := cL_keeper) (maxL := 2) (ret := (some .int)) (hh := [(0, 4, 5, 15)]) (by decide) rfl ?_
  intro p e s m args below meth c s₁ B hml hv
  obtain ⟨rfl, hsz, hP, hK, hD0, hAm⟩ := hv
  have hx := B.exec
  have hb := B.bytes
  have hr := B.returns
  have hts := atoms_spec (ws := wsL_keeper) B.pre
  have hown : s.vm.findClass RL = some m.cls := findClass_of_methodNamed B.named
  subst hsz
  have hD := hD0.self (sz := s.heap.size)
  generalize hAe : va_A (wcat (W7 Γ D x)) s.heap.size = A at hD hAm ⊢
  have hA : ∀ q : Nat, s.heap.size ≤ q → A q := fun q h => by rw [← hAe]; exact Or.inr h
  have hAB : ∀ q : Nat, A q → A q := fun _ h => h
  have hS : va_S A s.heap s.heap [] := va_S.rf
  have hl := lv_entry ([.ref D.1]) (n := 2) (Nat.le_of_ble_eq_true rfl)
  rw [lg_entry_eq]
  generalize (lg_sl ([.ref D.1]) ++ List.replicate (2 - (lg_sl ([.ref D.1])).length) Slot.unset).toArray = ls at hl ⊢
  have hl : lv_has ls 2 [(0, .ref D.1)] := hl
  refine lv_aload_n hx hb dL_keeper_0 rfl (lv_at hl 0 rfl) ?_
  refine cTX (vx_runV (As := []) (rest := []) ⟨hx, hb, hml, hown, hts⟩ (hX _) (cwV 0 hts gL_keeper_X4_keeper rfl hrc hrs (by decide +kernel) ⟨by show rmX.frames + 1 ≤ 10; omega, by show 8 + (_ + 11) + rmX.locals ≤ 340; omega⟩) ⟨wPre_blind, va_recv hK hP (ci := 4) (q0 := 0) rfl rfl, wPre_mk hP hD hK hS hA hAB hAm [0, 1, 2, 3, 4, 5, 6] rfl rfl⟩ rfl rfl hl.1 rfl (lv_room (Nat.le_of_ble_eq_true rfl)) dL_keeper_1 ⟨Nat.le_of_ble_eq_true rfl, Nat.le_of_ble_eq_true rfl⟩) hS hA (fun ce q9 H1 locs1 hz hk hS1 hce hcv hcl => ?_)
  have hP1 : va_P Γ.1 vwCl (wcat (W7 Γ D x)) H1 := hP.kept (fun k x hx => hk x.1 (hP k x hx).lt)
  refine vx_catch (name := "java/lang/IllegalStateException") hown [] ⟨0, 4, 5, 15⟩ [] (by rw [vx_table (x := yL_keeper) (y := yL_keeper) B (hts (.codeWith yL_keeper cL_keeper 2 (some .int) [(0, 4, 5, 15)]) List.mem_cons_self)]; rfl) (fun z hz => by cases hz) (by decide) (by decide) (hts (.classLink RL 15 "java/lang/IllegalStateException") (by decide +kernel)) (hAm.cast (by decide +kernel)) hce hcv hcl ?_
  refine lv_astore_n (lv' := [(1, .ref q9), (0, .ref D.1)]) hx hb dL_keeper_5 rfl hl (by decide) rfl (fun ls hl => ?_)
  refine lv_ldc hx hb hown (hts (.constant RL 17 (-2000001)) (by decide +kernel)) dL_keeper_6 ?_
  exact W.iret (v := -2000001) hx hb hr (fun t ht hW => eMI hP1 hS1 ht rfl) hS1.2.2 dL_keeper_8
set_option maxHeartbeats 4000000 in
set_option maxRecDepth 100000 in
theorem sL_die (l : Launch) (Γ : wG) (D : AD) (a1 : Int32) (x u : ST) (f : Int32) (rmX : Room) (hrf : rmX.frames ≤ 9) (hrl : rmX.locals ≤ 300) (hrc : rmX.cells = 0) (hrs : rmX.slots = 0) (hM : MI l Γ yX4_die wsX4_die rmX [.ref D.1, .int a1] (W7 Γ D x) (W7 Γ D u) f) : MI l Γ yL_die wsL_die ({ frames := 10, cells := 0, slots := 0, locals := 340 }) [.ref D.1, .int a1] (W7 Γ D x) (W7 Γ D u) f := by
  intro sz
  refine va_MetW (cc := cL_die) (maxL := 3) (ret := (some .int)) (hh := [(0, 5, 6, 22), (0, 5, 10, 15)]) (by decide) rfl ?_
  intro p e s m args below meth c s₁ B hml hv
  obtain ⟨rfl, hsz, hP, hK, hD0, hAm⟩ := hv
  have hx := B.exec
  have hb := B.bytes
  have hr := B.returns
  have hts := atoms_spec (ws := wsL_die) B.pre
  have hown : s.vm.findClass RL = some m.cls := findClass_of_methodNamed B.named
  subst hsz
  have hD := hD0.self (sz := s.heap.size)
  generalize hAe : va_A (wcat (W7 Γ D x)) s.heap.size = A at hD hAm ⊢
  have hA : ∀ q : Nat, s.heap.size ≤ q → A q := fun q h => by rw [← hAe]; exact Or.inr h
  have hAB : ∀ q : Nat, A q → A q := fun _ h => h
  have hS : va_S A s.heap s.heap [] := va_S.rf
  have hl := lv_entry ([.ref D.1, .int a1]) (n := 3) (Nat.le_of_ble_eq_true rfl)
  rw [lg_entry_eq]
  generalize (lg_sl ([.ref D.1, .int a1]) ++ List.replicate (3 - (lg_sl ([.ref D.1, .int a1])).length) Slot.unset).toArray = ls at hl ⊢
  have hl : lv_has ls 3 [(0, .ref D.1), (1, .int a1)] := hl
  refine lv_aload_n hx hb dL_die_0 rfl (lv_at hl 0 rfl) ?_
  refine lv_iload_n hx hb dL_die_1 rfl (lv_at hl 1 rfl) ?_
  refine cMI (bc' := W7 Γ D u) (va_runV (As := [.int a1]) (rest := []) ⟨hx, hb, hml, hown, hts⟩ (hM _) (cwV 1 hts gL_die_X4_die rfl hrc hrs (by decide +kernel) ⟨by show rmX.frames + 1 ≤ 10; omega, by show 8 + (_ + 11) + rmX.locals ≤ 340; omega⟩) ⟨wPre_blind, va_recv hK hP (ci := 4) (q0 := 0) rfl rfl, wPre_mk hP hD hK hS hA hAB hAm [0, 1, 2, 3, 4, 5, 6] rfl rfl⟩ rfl rfl hl.1 rfl (lv_room (Nat.le_of_ble_eq_true rfl)) dL_die_2 ⟨Nat.zero_le _, Nat.zero_le _⟩) hP hD hS hA [0, 1, 2, 3, 4, 5, 6] rfl W7_ad (bs' := W7 Γ D u) rfl (fun H locs hP hD hS => ?_)
  exact W.iret (v := f) hx hb hr (fun t ht hW => eMI hP hS ht rfl) hS.2.2 dL_die_5
set_option maxHeartbeats 4000000 in
set_option maxRecDepth 100000 in
theorem xL_die_1 (l : Launch) (Γ : wG) (D : AD) (a1 : Int32) (x : ST) (rmX : Room) (hrf : rmX.frames ≤ 9) (hrl : rmX.locals ≤ 300) (hrc : rmX.cells = 1) (hrs : rmX.slots = 6) (hX : TX l Γ yX4_die wsX4_die rmX [.ref D.1, .int a1] (W7 Γ D x) "java/lang/IndexOutOfBoundsException") : MJ l Γ yL_die wsL_die ({ frames := 10, cells := 1, slots := 6, locals := 340 }) [.ref D.1, .int a1] (W7 Γ D x) (W7 Γ D x) (-2000001) := by
  intro sz
  refine va_MetW (cc := cL_die) (maxL := 3) (ret := (some .int)) (hh := [(0, 5, 6, 22), (0, 5, 10, 15)]) (by decide) rfl ?_
  intro p e s m args below meth c s₁ B hml hv
  obtain ⟨rfl, hsz, hP, hK, hD0, hAm⟩ := hv
  have hx := B.exec
  have hb := B.bytes
  have hr := B.returns
  have hts := atoms_spec (ws := wsL_die) B.pre
  have hown : s.vm.findClass RL = some m.cls := findClass_of_methodNamed B.named
  subst hsz
  have hD := hD0.self (sz := s.heap.size)
  generalize hAe : va_A (wcat (W7 Γ D x)) s.heap.size = A at hD hAm ⊢
  have hA : ∀ q : Nat, s.heap.size ≤ q → A q := fun q h => by rw [← hAe]; exact Or.inr h
  have hAB : ∀ q : Nat, A q → A q := fun _ h => h
  have hS : va_S A s.heap s.heap [] := va_S.rf
  have hl := lv_entry ([.ref D.1, .int a1]) (n := 3) (Nat.le_of_ble_eq_true rfl)
  rw [lg_entry_eq]
  generalize (lg_sl ([.ref D.1, .int a1]) ++ List.replicate (3 - (lg_sl ([.ref D.1, .int a1])).length) Slot.unset).toArray = ls at hl ⊢
  have hl : lv_has ls 3 [(0, .ref D.1), (1, .int a1)] := hl
  refine lv_aload_n hx hb dL_die_0 rfl (lv_at hl 0 rfl) ?_
  refine lv_iload_n hx hb dL_die_1 rfl (lv_at hl 1 rfl) ?_
  refine cTX (vx_runV (As := [.int a1]) (rest := []) ⟨hx, hb, hml, hown, hts⟩ (hX _) (cwV 1 hts gL_die_X4_die rfl hrc hrs (by decide +kernel) ⟨by show rmX.frames + 1 ≤ 10; omega, by show 8 + (_ + 11) + rmX.locals ≤ 340; omega⟩) ⟨wPre_blind, va_recv hK hP (ci := 4) (q0 := 0) rfl rfl, wPre_mk hP hD hK hS hA hAB hAm [0, 1, 2, 3, 4, 5, 6] rfl rfl⟩ rfl rfl hl.1 rfl (lv_room (Nat.le_of_ble_eq_true rfl)) dL_die_2 ⟨Nat.le_of_ble_eq_true rfl, Nat.le_of_ble_eq_true rfl⟩) hS hA (fun ce q9 H1 locs1 hz hk hS1 hce hcv hcl => ?_)
  have hP1 : va_P Γ.1 vwCl (wcat (W7 Γ D x)) H1 := hP.kept (fun k x hx => hk x.1 (hP k x hx).lt)
  refine vx_catch (name := "java/lang/IndexOutOfBoundsException") hown [] ⟨0, 5, 6, 22⟩ [⟨0, 5, 10, 15⟩] (by rw [vx_table (x := yL_die) (y := yL_die) B (hts (.codeWith yL_die cL_die 3 (some .int) [(0, 5, 6, 22), (0, 5, 10, 15)]) List.mem_cons_self)]; rfl) (fun z hz => by cases hz) (by decide) (by decide) (hts (.classLink RL 22 "java/lang/IndexOutOfBoundsException") (by decide +kernel)) (hAm.cast (by decide +kernel)) hce hcv hcl ?_
  refine lv_astore_n (lv' := [(2, .ref q9), (0, .ref D.1), (1, .int a1)]) hx hb dL_die_6 rfl hl (by decide) rfl (fun ls hl => ?_)
  refine lv_ldc hx hb hown (hts (.constant RL 17 (-2000001)) (by decide +kernel)) dL_die_7 ?_
  exact W.iret (v := -2000001) hx hb hr (fun t ht hW => eMI hP1 hS1 ht rfl) hS1.2.2 dL_die_9
set_option maxHeartbeats 4000000 in
set_option maxRecDepth 100000 in
theorem xL_die_2 (l : Launch) (Γ : wG) (D : AD) (a1 : Int32) (x : ST) (rmX : Room) (hrf : rmX.frames ≤ 9) (hrl : rmX.locals ≤ 300) (hrc : rmX.cells = 1) (hrs : rmX.slots = 6) (hX : TX l Γ yX4_die wsX4_die rmX [.ref D.1, .int a1] (W7 Γ D x) "java/lang/IllegalStateException") : MJ l Γ yL_die wsL_die ({ frames := 10, cells := 1, slots := 6, locals := 340 }) [.ref D.1, .int a1] (W7 Γ D x) (W7 Γ D x) (-2000002) := by
  intro sz
  refine va_MetW (cc := cL_die) (maxL := 3) (ret := (some .int)) (hh := [(0, 5, 6, 22), (0, 5, 10, 15)]) (by decide) rfl ?_
  intro p e s m args below meth c s₁ B hml hv
  obtain ⟨rfl, hsz, hP, hK, hD0, hAm⟩ := hv
  have hx := B.exec
  have hb := B.bytes
  have hr := B.returns
  have hts := atoms_spec (ws := wsL_die) B.pre
  have hown : s.vm.findClass RL = some m.cls := findClass_of_methodNamed B.named
  subst hsz
  have hD := hD0.self (sz := s.heap.size)
  generalize hAe : va_A (wcat (W7 Γ D x)) s.heap.size = A at hD hAm ⊢
  have hA : ∀ q : Nat, s.heap.size ≤ q → A q := fun q h => by rw [← hAe]; exact Or.inr h
  have hAB : ∀ q : Nat, A q → A q := fun _ h => h
  have hS : va_S A s.heap s.heap [] := va_S.rf
  have hl := lv_entry ([.ref D.1, .int a1]) (n := 3) (Nat.le_of_ble_eq_true rfl)
  rw [lg_entry_eq]
  generalize (lg_sl ([.ref D.1, .int a1]) ++ List.replicate (3 - (lg_sl ([.ref D.1, .int a1])).length) Slot.unset).toArray = ls at hl ⊢
  have hl : lv_has ls 3 [(0, .ref D.1), (1, .int a1)] := hl
  refine lv_aload_n hx hb dL_die_0 rfl (lv_at hl 0 rfl) ?_
  refine lv_iload_n hx hb dL_die_1 rfl (lv_at hl 1 rfl) ?_
  refine cTX (vx_runV (As := [.int a1]) (rest := []) ⟨hx, hb, hml, hown, hts⟩ (hX _) (cwV 1 hts gL_die_X4_die rfl hrc hrs (by decide +kernel) ⟨by show rmX.frames + 1 ≤ 10; omega, by show 8 + (_ + 11) + rmX.locals ≤ 340; omega⟩) ⟨wPre_blind, va_recv hK hP (ci := 4) (q0 := 0) rfl rfl, wPre_mk hP hD hK hS hA hAB hAm [0, 1, 2, 3, 4, 5, 6] rfl rfl⟩ rfl rfl hl.1 rfl (lv_room (Nat.le_of_ble_eq_true rfl)) dL_die_2 ⟨Nat.le_of_ble_eq_true rfl, Nat.le_of_ble_eq_true rfl⟩) hS hA (fun ce q9 H1 locs1 hz hk hS1 hce hcv hcl => ?_)
  have hP1 : va_P Γ.1 vwCl (wcat (W7 Γ D x)) H1 := hP.kept (fun k x hx => hk x.1 (hP k x hx).lt)
  refine vx_catch (name := "java/lang/IllegalStateException") hown [⟨0, 5, 6, 22⟩] ⟨0, 5, 10, 15⟩ [] (by rw [vx_table (x := yL_die) (y := yL_die) B (hts (.codeWith yL_die cL_die 3 (some .int) [(0, 5, 6, 22), (0, 5, 10, 15)]) List.mem_cons_self)]; rfl) (fun z hz => by obtain rfl : z = ⟨0, 5, 6, 22⟩ := (by simpa using hz); exact Or.inr ⟨by decide, "java/lang/IndexOutOfBoundsException", hts (.classLink RL 22 "java/lang/IndexOutOfBoundsException") (by decide +kernel), hAm.nc (by decide +kernel) (by decide +kernel) (by decide +kernel)⟩) (by decide) (by decide) (hts (.classLink RL 15 "java/lang/IllegalStateException") (by decide +kernel)) (hAm.cast (by decide +kernel)) hce hcv hcl ?_
  refine lv_astore_n (lv' := [(2, .ref q9), (0, .ref D.1), (1, .int a1)]) hx hb dL_die_10 rfl hl (by decide) rfl (fun ls hl => ?_)
  refine lv_ldc hx hb hown (hts (.constant RL 24 (-2000002)) (by decide +kernel)) dL_die_11 ?_
  exact W.iret (v := -2000002) hx hb hr (fun t ht hW => eMI hP1 hS1 ht rfl) hS1.2.2 dL_die_13
set_option maxHeartbeats 4000000 in
set_option maxRecDepth 100000 in
theorem sL_heir (l : Launch) (Γ : wG) (D : AD) (a1 : Int32) (a2 : Int32) (x u : ST) (f : Int32) (rmX : Room) (hrf : rmX.frames ≤ 9) (hrl : rmX.locals ≤ 300) (hrc : rmX.cells = 0) (hrs : rmX.slots = 0) (hM : MI l Γ yX4_heir wsX4_heir rmX [.ref D.1, .int a1, .int a2] (W7 Γ D x) (W7 Γ D u) f) : MI l Γ yL_heir wsL_heir ({ frames := 10, cells := 0, slots := 0, locals := 340 }) [.ref D.1, .int a1, .int a2] (W7 Γ D x) (W7 Γ D u) f := by
  intro sz
  refine va_MetW (cc := cL_heir) (maxL := 4) (ret := (some .int)) (hh := [(0, 6, 7, 22), (0, 6, 11, 15)]) (by decide) rfl ?_
  intro p e s m args below meth c s₁ B hml hv
  obtain ⟨rfl, hsz, hP, hK, hD0, hAm⟩ := hv
  have hx := B.exec
  have hb := B.bytes
  have hr := B.returns
  have hts := atoms_spec (ws := wsL_heir) B.pre
  have hown : s.vm.findClass RL = some m.cls := findClass_of_methodNamed B.named
  subst hsz
  have hD := hD0.self (sz := s.heap.size)
  generalize hAe : va_A (wcat (W7 Γ D x)) s.heap.size = A at hD hAm ⊢
  have hA : ∀ q : Nat, s.heap.size ≤ q → A q := fun q h => by rw [← hAe]; exact Or.inr h
  have hAB : ∀ q : Nat, A q → A q := fun _ h => h
  have hS : va_S A s.heap s.heap [] := va_S.rf
  have hl := lv_entry ([.ref D.1, .int a1, .int a2]) (n := 4) (Nat.le_of_ble_eq_true rfl)
  rw [lg_entry_eq]
  generalize (lg_sl ([.ref D.1, .int a1, .int a2]) ++ List.replicate (4 - (lg_sl ([.ref D.1, .int a1, .int a2])).length) Slot.unset).toArray = ls at hl ⊢
  have hl : lv_has ls 4 [(0, .ref D.1), (1, .int a1), (2, .int a2)] := hl
  refine lv_aload_n hx hb dL_heir_0 rfl (lv_at hl 0 rfl) ?_
  refine lv_iload_n hx hb dL_heir_1 rfl (lv_at hl 1 rfl) ?_
  refine lv_iload_n hx hb dL_heir_2 rfl (lv_at hl 2 rfl) ?_
  refine cMI (bc' := W7 Γ D u) (va_runV (As := [.int a1, .int a2]) (rest := []) ⟨hx, hb, hml, hown, hts⟩ (hM _) (cwV 2 hts gL_heir_X4_heir rfl hrc hrs (by decide +kernel) ⟨by show rmX.frames + 1 ≤ 10; omega, by show 8 + (_ + 11) + rmX.locals ≤ 340; omega⟩) ⟨wPre_blind, va_recv hK hP (ci := 4) (q0 := 0) rfl rfl, wPre_mk hP hD hK hS hA hAB hAm [0, 1, 2, 3, 4, 5, 6] rfl rfl⟩ rfl rfl hl.1 rfl (lv_room (Nat.le_of_ble_eq_true rfl)) dL_heir_3 ⟨Nat.zero_le _, Nat.zero_le _⟩) hP hD hS hA [0, 1, 2, 3, 4, 5, 6] rfl W7_ad (bs' := W7 Γ D u) rfl (fun H locs hP hD hS => ?_)
  exact W.iret (v := f) hx hb hr (fun t ht hW => eMI hP hS ht rfl) hS.2.2 dL_heir_6
set_option maxHeartbeats 4000000 in
set_option maxRecDepth 100000 in
theorem xL_heir_1 (l : Launch) (Γ : wG) (D : AD) (a1 : Int32) (a2 : Int32) (x : ST) (rmX : Room) (hrf : rmX.frames ≤ 9) (hrl : rmX.locals ≤ 300) (hrc : rmX.cells = 1) (hrs : rmX.slots = 6) (hX : TX l Γ yX4_heir wsX4_heir rmX [.ref D.1, .int a1, .int a2] (W7 Γ D x) "java/lang/IndexOutOfBoundsException") : MJ l Γ yL_heir wsL_heir ({ frames := 10, cells := 1, slots := 6, locals := 340 }) [.ref D.1, .int a1, .int a2] (W7 Γ D x) (W7 Γ D x) (-2000001) := by
  intro sz
  refine va_MetW (cc := cL_heir) (maxL := 4) (ret := (some .int)) (hh := [(0, 6, 7, 22), (0, 6, 11, 15)]) (by decide) rfl ?_
  intro p e s m args below meth c s₁ B hml hv
  obtain ⟨rfl, hsz, hP, hK, hD0, hAm⟩ := hv
  have hx := B.exec
  have hb := B.bytes
  have hr := B.returns
  have hts := atoms_spec (ws := wsL_heir) B.pre
  have hown : s.vm.findClass RL = some m.cls := findClass_of_methodNamed B.named
  subst hsz
  have hD := hD0.self (sz := s.heap.size)
  generalize hAe : va_A (wcat (W7 Γ D x)) s.heap.size = A at hD hAm ⊢
  have hA : ∀ q : Nat, s.heap.size ≤ q → A q := fun q h => by rw [← hAe]; exact Or.inr h
  have hAB : ∀ q : Nat, A q → A q := fun _ h => h
  have hS : va_S A s.heap s.heap [] := va_S.rf
  have hl := lv_entry ([.ref D.1, .int a1, .int a2]) (n := 4) (Nat.le_of_ble_eq_true rfl)
  rw [lg_entry_eq]
  generalize (lg_sl ([.ref D.1, .int a1, .int a2]) ++ List.replicate (4 - (lg_sl ([.ref D.1, .int a1, .int a2])).length) Slot.unset).toArray = ls at hl ⊢
  have hl : lv_has ls 4 [(0, .ref D.1), (1, .int a1), (2, .int a2)] := hl
  refine lv_aload_n hx hb dL_heir_0 rfl (lv_at hl 0 rfl) ?_
  refine lv_iload_n hx hb dL_heir_1 rfl (lv_at hl 1 rfl) ?_
  refine lv_iload_n hx hb dL_heir_2 rfl (lv_at hl 2 rfl) ?_
  refine cTX (vx_runV (As := [.int a1, .int a2]) (rest := []) ⟨hx, hb, hml, hown, hts⟩ (hX _) (cwV 2 hts gL_heir_X4_heir rfl hrc hrs (by decide +kernel) ⟨by show rmX.frames + 1 ≤ 10; omega, by show 8 + (_ + 11) + rmX.locals ≤ 340; omega⟩) ⟨wPre_blind, va_recv hK hP (ci := 4) (q0 := 0) rfl rfl, wPre_mk hP hD hK hS hA hAB hAm [0, 1, 2, 3, 4, 5, 6] rfl rfl⟩ rfl rfl hl.1 rfl (lv_room (Nat.le_of_ble_eq_true rfl)) dL_heir_3 ⟨Nat.le_of_ble_eq_true rfl, Nat.le_of_ble_eq_true rfl⟩) hS hA (fun ce q9 H1 locs1 hz hk hS1 hce hcv hcl => ?_)
  have hP1 : va_P Γ.1 vwCl (wcat (W7 Γ D x)) H1 := hP.kept (fun k x hx => hk x.1 (hP k x hx).lt)
  refine vx_catch (name := "java/lang/IndexOutOfBoundsException") hown [] ⟨0, 6, 7, 22⟩ [⟨0, 6, 11, 15⟩] (by rw [vx_table (x := yL_heir) (y := yL_heir) B (hts (.codeWith yL_heir cL_heir 4 (some .int) [(0, 6, 7, 22), (0, 6, 11, 15)]) List.mem_cons_self)]; rfl) (fun z hz => by cases hz) (by decide) (by decide) (hts (.classLink RL 22 "java/lang/IndexOutOfBoundsException") (by decide +kernel)) (hAm.cast (by decide +kernel)) hce hcv hcl ?_
  refine lv_astore_n (lv' := [(3, .ref q9), (0, .ref D.1), (1, .int a1), (2, .int a2)]) hx hb dL_heir_7 rfl hl (by decide) rfl (fun ls hl => ?_)
  refine lv_ldc hx hb hown (hts (.constant RL 17 (-2000001)) (by decide +kernel)) dL_heir_8 ?_
  exact W.iret (v := -2000001) hx hb hr (fun t ht hW => eMI hP1 hS1 ht rfl) hS1.2.2 dL_heir_10
set_option maxHeartbeats 4000000 in
set_option maxRecDepth 100000 in
theorem xL_heir_2 (l : Launch) (Γ : wG) (D : AD) (a1 : Int32) (a2 : Int32) (x : ST) (rmX : Room) (hrf : rmX.frames ≤ 9) (hrl : rmX.locals ≤ 300) (hrc : rmX.cells = 1) (hrs : rmX.slots = 6) (hX : TX l Γ yX4_heir wsX4_heir rmX [.ref D.1, .int a1, .int a2] (W7 Γ D x) "java/lang/IllegalStateException") : MJ l Γ yL_heir wsL_heir ({ frames := 10, cells := 1, slots := 6, locals := 340 }) [.ref D.1, .int a1, .int a2] (W7 Γ D x) (W7 Γ D x) (-2000002) := by
  intro sz
  refine va_MetW (cc := cL_heir) (maxL := 4) (ret := (some .int)) (hh := [(0, 6, 7, 22), (0, 6, 11, 15)]) (by decide) rfl ?_
  intro p e s m args below meth c s₁ B hml hv
  obtain ⟨rfl, hsz, hP, hK, hD0, hAm⟩ := hv
  have hx := B.exec
  have hb := B.bytes
  have hr := B.returns
  have hts := atoms_spec (ws := wsL_heir) B.pre
  have hown : s.vm.findClass RL = some m.cls := findClass_of_methodNamed B.named
  subst hsz
  have hD := hD0.self (sz := s.heap.size)
  generalize hAe : va_A (wcat (W7 Γ D x)) s.heap.size = A at hD hAm ⊢
  have hA : ∀ q : Nat, s.heap.size ≤ q → A q := fun q h => by rw [← hAe]; exact Or.inr h
  have hAB : ∀ q : Nat, A q → A q := fun _ h => h
  have hS : va_S A s.heap s.heap [] := va_S.rf
  have hl := lv_entry ([.ref D.1, .int a1, .int a2]) (n := 4) (Nat.le_of_ble_eq_true rfl)
  rw [lg_entry_eq]
  generalize (lg_sl ([.ref D.1, .int a1, .int a2]) ++ List.replicate (4 - (lg_sl ([.ref D.1, .int a1, .int a2])).length) Slot.unset).toArray = ls at hl ⊢
  have hl : lv_has ls 4 [(0, .ref D.1), (1, .int a1), (2, .int a2)] := hl
  refine lv_aload_n hx hb dL_heir_0 rfl (lv_at hl 0 rfl) ?_
  refine lv_iload_n hx hb dL_heir_1 rfl (lv_at hl 1 rfl) ?_
  refine lv_iload_n hx hb dL_heir_2 rfl (lv_at hl 2 rfl) ?_
  refine cTX (vx_runV (As := [.int a1, .int a2]) (rest := []) ⟨hx, hb, hml, hown, hts⟩ (hX _) (cwV 2 hts gL_heir_X4_heir rfl hrc hrs (by decide +kernel) ⟨by show rmX.frames + 1 ≤ 10; omega, by show 8 + (_ + 11) + rmX.locals ≤ 340; omega⟩) ⟨wPre_blind, va_recv hK hP (ci := 4) (q0 := 0) rfl rfl, wPre_mk hP hD hK hS hA hAB hAm [0, 1, 2, 3, 4, 5, 6] rfl rfl⟩ rfl rfl hl.1 rfl (lv_room (Nat.le_of_ble_eq_true rfl)) dL_heir_3 ⟨Nat.le_of_ble_eq_true rfl, Nat.le_of_ble_eq_true rfl⟩) hS hA (fun ce q9 H1 locs1 hz hk hS1 hce hcv hcl => ?_)
  have hP1 : va_P Γ.1 vwCl (wcat (W7 Γ D x)) H1 := hP.kept (fun k x hx => hk x.1 (hP k x hx).lt)
  refine vx_catch (name := "java/lang/IllegalStateException") hown [⟨0, 6, 7, 22⟩] ⟨0, 6, 11, 15⟩ [] (by rw [vx_table (x := yL_heir) (y := yL_heir) B (hts (.codeWith yL_heir cL_heir 4 (some .int) [(0, 6, 7, 22), (0, 6, 11, 15)]) List.mem_cons_self)]; rfl) (fun z hz => by obtain rfl : z = ⟨0, 6, 7, 22⟩ := (by simpa using hz); exact Or.inr ⟨by decide, "java/lang/IndexOutOfBoundsException", hts (.classLink RL 22 "java/lang/IndexOutOfBoundsException") (by decide +kernel), hAm.nc (by decide +kernel) (by decide +kernel) (by decide +kernel)⟩) (by decide) (by decide) (hts (.classLink RL 15 "java/lang/IllegalStateException") (by decide +kernel)) (hAm.cast (by decide +kernel)) hce hcv hcl ?_
  refine lv_astore_n (lv' := [(3, .ref q9), (0, .ref D.1), (1, .int a1), (2, .int a2)]) hx hb dL_heir_11 rfl hl (by decide) rfl (fun ls hl => ?_)
  refine lv_ldc hx hb hown (hts (.constant RL 24 (-2000002)) (by decide +kernel)) dL_heir_12 ?_
  exact W.iret (v := -2000002) hx hb hr (fun t ht hW => eMI hP1 hS1 ht rfl) hS1.2.2 dL_heir_14
set_option maxHeartbeats 4000000 in
set_option maxRecDepth 100000 in
theorem sL_quarrel (l : Launch) (Γ : wG) (D : AD) (a1 : Int32) (a2 : Int32) (x u : ST) (f : Int32) (rmX : Room) (hrf : rmX.frames ≤ 9) (hrl : rmX.locals ≤ 300) (hrc : rmX.cells = 0) (hrs : rmX.slots = 0) (hM : MI l Γ yX4_quarrel wsX4_quarrel rmX [.ref D.1, .int a1, .int a2] (W7 Γ D x) (W7 Γ D u) f) : MI l Γ yL_quarrel wsL_quarrel ({ frames := 10, cells := 0, slots := 0, locals := 340 }) [.ref D.1, .int a1, .int a2] (W7 Γ D x) (W7 Γ D u) f := by
  intro sz
  refine va_MetW (cc := cL_quarrel) (maxL := 4) (ret := (some .int)) (hh := [(0, 6, 7, 22), (0, 6, 11, 15)]) (by decide) rfl ?_
  intro p e s m args below meth c s₁ B hml hv
  obtain ⟨rfl, hsz, hP, hK, hD0, hAm⟩ := hv
  have hx := B.exec
  have hb := B.bytes
  have hr := B.returns
  have hts := atoms_spec (ws := wsL_quarrel) B.pre
  have hown : s.vm.findClass RL = some m.cls := findClass_of_methodNamed B.named
  subst hsz
  have hD := hD0.self (sz := s.heap.size)
  generalize hAe : va_A (wcat (W7 Γ D x)) s.heap.size = A at hD hAm ⊢
  have hA : ∀ q : Nat, s.heap.size ≤ q → A q := fun q h => by rw [← hAe]; exact Or.inr h
  have hAB : ∀ q : Nat, A q → A q := fun _ h => h
  have hS : va_S A s.heap s.heap [] := va_S.rf
  have hl := lv_entry ([.ref D.1, .int a1, .int a2]) (n := 4) (Nat.le_of_ble_eq_true rfl)
  rw [lg_entry_eq]
  generalize (lg_sl ([.ref D.1, .int a1, .int a2]) ++ List.replicate (4 - (lg_sl ([.ref D.1, .int a1, .int a2])).length) Slot.unset).toArray = ls at hl ⊢
  have hl : lv_has ls 4 [(0, .ref D.1), (1, .int a1), (2, .int a2)] := hl
  refine lv_aload_n hx hb dL_quarrel_0 rfl (lv_at hl 0 rfl) ?_
  refine lv_iload_n hx hb dL_quarrel_1 rfl (lv_at hl 1 rfl) ?_
  refine lv_iload_n hx hb dL_quarrel_2 rfl (lv_at hl 2 rfl) ?_
  refine cMI (bc' := W7 Γ D u) (va_runV (As := [.int a1, .int a2]) (rest := []) ⟨hx, hb, hml, hown, hts⟩ (hM _) (cwV 2 hts gL_quarrel_X4_quarrel rfl hrc hrs (by decide +kernel) ⟨by show rmX.frames + 1 ≤ 10; omega, by show 8 + (_ + 11) + rmX.locals ≤ 340; omega⟩) ⟨wPre_blind, va_recv hK hP (ci := 4) (q0 := 0) rfl rfl, wPre_mk hP hD hK hS hA hAB hAm [0, 1, 2, 3, 4, 5, 6] rfl rfl⟩ rfl rfl hl.1 rfl (lv_room (Nat.le_of_ble_eq_true rfl)) dL_quarrel_3 ⟨Nat.zero_le _, Nat.zero_le _⟩) hP hD hS hA [0, 1, 2, 3, 4, 5, 6] rfl W7_ad (bs' := W7 Γ D u) rfl (fun H locs hP hD hS => ?_)
  exact W.iret (v := f) hx hb hr (fun t ht hW => eMI hP hS ht rfl) hS.2.2 dL_quarrel_6
set_option maxHeartbeats 4000000 in
set_option maxRecDepth 100000 in
theorem xL_quarrel_1 (l : Launch) (Γ : wG) (D : AD) (a1 : Int32) (a2 : Int32) (x : ST) (rmX : Room) (hrf : rmX.frames ≤ 9) (hrl : rmX.locals ≤ 300) (hrc : rmX.cells = 1) (hrs : rmX.slots = 6) (hX : TX l Γ yX4_quarrel wsX4_quarrel rmX [.ref D.1, .int a1, .int a2] (W7 Γ D x) "java/lang/IndexOutOfBoundsException") : MJ l Γ yL_quarrel wsL_quarrel ({ frames := 10, cells := 1, slots := 6, locals := 340 }) [.ref D.1, .int a1, .int a2] (W7 Γ D x) (W7 Γ D x) (-2000001) := by
  intro sz
  refine va_MetW (cc := cL_quarrel) (maxL := 4) (ret := (some .int)) (hh := [(0, 6, 7, 22), (0, 6, 11, 15)]) (by decide) rfl ?_
  intro p e s m args below meth c s₁ B hml hv
  obtain ⟨rfl, hsz, hP, hK, hD0, hAm⟩ := hv
  have hx := B.exec
  have hb := B.bytes
  have hr := B.returns
  have hts := atoms_spec (ws := wsL_quarrel) B.pre
  have hown : s.vm.findClass RL = some m.cls := findClass_of_methodNamed B.named
  subst hsz
  have hD := hD0.self (sz := s.heap.size)
  generalize hAe : va_A (wcat (W7 Γ D x)) s.heap.size = A at hD hAm ⊢
  have hA : ∀ q : Nat, s.heap.size ≤ q → A q := fun q h => by rw [← hAe]; exact Or.inr h
  have hAB : ∀ q : Nat, A q → A q := fun _ h => h
  have hS : va_S A s.heap s.heap [] := va_S.rf
  have hl := lv_entry ([.ref D.1, .int a1, .int a2]) (n := 4) (Nat.le_of_ble_eq_true rfl)
  rw [lg_entry_eq]
  generalize (lg_sl ([.ref D.1, .int a1, .int a2]) ++ List.replicate (4 - (lg_sl ([.ref D.1, .int a1, .int a2])).length) Slot.unset).toArray = ls at hl ⊢
  have hl : lv_has ls 4 [(0, .ref D.1), (1, .int a1), (2, .int a2)] := hl
  refine lv_aload_n hx hb dL_quarrel_0 rfl (lv_at hl 0 rfl) ?_
  refine lv_iload_n hx hb dL_quarrel_1 rfl (lv_at hl 1 rfl) ?_
  refine lv_iload_n hx hb dL_quarrel_2 rfl (lv_at hl 2 rfl) ?_
  refine cTX (vx_runV (As := [.int a1, .int a2]) (rest := []) ⟨hx, hb, hml, hown, hts⟩ (hX _) (cwV 2 hts gL_quarrel_X4_quarrel rfl hrc hrs (by decide +kernel) ⟨by show rmX.frames + 1 ≤ 10; omega, by show 8 + (_ + 11) + rmX.locals ≤ 340; omega⟩) ⟨wPre_blind, va_recv hK hP (ci := 4) (q0 := 0) rfl rfl, wPre_mk hP hD hK hS hA hAB hAm [0, 1, 2, 3, 4, 5, 6] rfl rfl⟩ rfl rfl hl.1 rfl (lv_room (Nat.le_of_ble_eq_true rfl)) dL_quarrel_3 ⟨Nat.le_of_ble_eq_true rfl, Nat.le_of_ble_eq_true rfl⟩) hS hA (fun ce q9 H1 locs1 hz hk hS1 hce hcv hcl => ?_)
  have hP1 : va_P Γ.1 vwCl (wcat (W7 Γ D x)) H1 := hP.kept (fun k x hx => hk x.1 (hP k x hx).lt)
  refine vx_catch (name := "java/lang/IndexOutOfBoundsException") hown [] ⟨0, 6, 7, 22⟩ [⟨0, 6, 11, 15⟩] (by rw [vx_table (x := yL_quarrel) (y := yL_quarrel) B (hts (.codeWith yL_quarrel cL_quarrel 4 (some .int) [(0, 6, 7, 22), (0, 6, 11, 15)]) List.mem_cons_self)]; rfl) (fun z hz => by cases hz) (by decide) (by decide) (hts (.classLink RL 22 "java/lang/IndexOutOfBoundsException") (by decide +kernel)) (hAm.cast (by decide +kernel)) hce hcv hcl ?_
  refine lv_astore_n (lv' := [(3, .ref q9), (0, .ref D.1), (1, .int a1), (2, .int a2)]) hx hb dL_quarrel_7 rfl hl (by decide) rfl (fun ls hl => ?_)
  refine lv_ldc hx hb hown (hts (.constant RL 17 (-2000001)) (by decide +kernel)) dL_quarrel_8 ?_
  exact W.iret (v := -2000001) hx hb hr (fun t ht hW => eMI hP1 hS1 ht rfl) hS1.2.2 dL_quarrel_10
set_option maxHeartbeats 4000000 in
set_option maxRecDepth 100000 in
theorem xL_quarrel_2 (l : Launch) (Γ : wG) (D : AD) (a1 : Int32) (a2 : Int32) (x : ST) (rmX : Room) (hrf : rmX.frames ≤ 9) (hrl : rmX.locals ≤ 300) (hrc : rmX.cells = 1) (hrs : rmX.slots = 6) (hX : TX l Γ yX4_quarrel wsX4_quarrel rmX [.ref D.1, .int a1, .int a2] (W7 Γ D x) "java/lang/IllegalStateException") : MJ l Γ yL_quarrel wsL_quarrel ({ frames := 10, cells := 1, slots := 6, locals := 340 }) [.ref D.1, .int a1, .int a2] (W7 Γ D x) (W7 Γ D x) (-2000002) := by
  intro sz
  refine va_MetW (cc := cL_quarrel) (maxL := 4) (ret := (some .int)) (hh := [(0, 6, 7, 22), (0, 6, 11, 15)]) (by decide) rfl ?_
  intro p e s m args below meth c s₁ B hml hv
  obtain ⟨rfl, hsz, hP, hK, hD0, hAm⟩ := hv
  have hx := B.exec
  have hb := B.bytes
  have hr := B.returns
  have hts := atoms_spec (ws := wsL_quarrel) B.pre
  have hown : s.vm.findClass RL = some m.cls := findClass_of_methodNamed B.named
  subst hsz
  have hD := hD0.self (sz := s.heap.size)
  generalize hAe : va_A (wcat (W7 Γ D x)) s.heap.size = A at hD hAm ⊢
  have hA : ∀ q : Nat, s.heap.size ≤ q → A q := fun q h => by rw [← hAe]; exact Or.inr h
  have hAB : ∀ q : Nat, A q → A q := fun _ h => h
  have hS : va_S A s.heap s.heap [] := va_S.rf
  have hl := lv_entry ([.ref D.1, .int a1, .int a2]) (n := 4) (Nat.le_of_ble_eq_true rfl)
  rw [lg_entry_eq]
  generalize (lg_sl ([.ref D.1, .int a1, .int a2]) ++ List.replicate (4 - (lg_sl ([.ref D.1, .int a1, .int a2])).length) Slot.unset).toArray = ls at hl ⊢
  have hl : lv_has ls 4 [(0, .ref D.1), (1, .int a1), (2, .int a2)] := hl
  refine lv_aload_n hx hb dL_quarrel_0 rfl (lv_at hl 0 rfl) ?_
  refine lv_iload_n hx hb dL_quarrel_1 rfl (lv_at hl 1 rfl) ?_
  refine lv_iload_n hx hb dL_quarrel_2 rfl (lv_at hl 2 rfl) ?_
  refine cTX (vx_runV (As := [.int a1, .int a2]) (rest := []) ⟨hx, hb, hml, hown, hts⟩ (hX _) (cwV 2 hts gL_quarrel_X4_quarrel rfl hrc hrs (by decide +kernel) ⟨by show rmX.frames + 1 ≤ 10; omega, by show 8 + (_ + 11) + rmX.locals ≤ 340; omega⟩) ⟨wPre_blind, va_recv hK hP (ci := 4) (q0 := 0) rfl rfl, wPre_mk hP hD hK hS hA hAB hAm [0, 1, 2, 3, 4, 5, 6] rfl rfl⟩ rfl rfl hl.1 rfl (lv_room (Nat.le_of_ble_eq_true rfl)) dL_quarrel_3 ⟨Nat.le_of_ble_eq_true rfl, Nat.le_of_ble_eq_true rfl⟩) hS hA (fun ce q9 H1 locs1 hz hk hS1 hce hcv hcl => ?_)
  have hP1 : va_P Γ.1 vwCl (wcat (W7 Γ D x)) H1 := hP.kept (fun k x hx => hk x.1 (hP k x hx).lt)
  refine vx_catch (name := "java/lang/IllegalStateException") hown [⟨0, 6, 7, 22⟩] ⟨0, 6, 11, 15⟩ [] (by rw [vx_table (x := yL_quarrel) (y := yL_quarrel) B (hts (.codeWith yL_quarrel cL_quarrel 4 (some .int) [(0, 6, 7, 22), (0, 6, 11, 15)]) List.mem_cons_self)]; rfl) (fun z hz => by obtain rfl : z = ⟨0, 6, 7, 22⟩ := (by simpa using hz); exact Or.inr ⟨by decide, "java/lang/IndexOutOfBoundsException", hts (.classLink RL 22 "java/lang/IndexOutOfBoundsException") (by decide +kernel), hAm.nc (by decide +kernel) (by decide +kernel) (by decide +kernel)⟩) (by decide) (by decide) (hts (.classLink RL 15 "java/lang/IllegalStateException") (by decide +kernel)) (hAm.cast (by decide +kernel)) hce hcv hcl ?_
  refine lv_astore_n (lv' := [(3, .ref q9), (0, .ref D.1), (1, .int a1), (2, .int a2)]) hx hb dL_quarrel_11 rfl hl (by decide) rfl (fun ls hl => ?_)
  refine lv_ldc hx hb hown (hts (.constant RL 24 (-2000002)) (by decide +kernel)) dL_quarrel_12 ?_
  exact W.iret (v := -2000002) hx hb hr (fun t ht hW => eMI hP1 hS1 ht rfl) hS1.2.2 dL_quarrel_14
set_option maxHeartbeats 4000000 in
set_option maxRecDepth 100000 in
theorem sL_seal (l : Launch) (Γ : wG) (D : AD) (a1 : Int32) (a2 : Int32) (a3 : Int32) (x u : ST) (f : Int32) (rmX : Room) (hrf : rmX.frames ≤ 9) (hrl : rmX.locals ≤ 300) (hrc : rmX.cells = 0) (hrs : rmX.slots = 0) (hM : MI l Γ yX4_seal wsX4_seal rmX [.ref D.1, .int a1, .int a2, .int a3] (W7 Γ D x) (W7 Γ D u) f) : MI l Γ yL_seal wsL_seal ({ frames := 10, cells := 0, slots := 0, locals := 340 }) [.ref D.1, .int a1, .int a2, .int a3] (W7 Γ D x) (W7 Γ D u) f := by
  intro sz
  refine va_MetW (cc := cL_seal) (maxL := 5) (ret := (some .int)) (hh := [(0, 7, 8, 36), (0, 7, 13, 15)]) (by decide) rfl ?_
  intro p e s m args below meth c s₁ B hml hv
  obtain ⟨rfl, hsz, hP, hK, hD0, hAm⟩ := hv
  have hx := B.exec
  have hb := B.bytes
  have hr := B.returns
  have hts := atoms_spec (ws := wsL_seal) B.pre
  have hown : s.vm.findClass RL = some m.cls := findClass_of_methodNamed B.named
  subst hsz
  have hD := hD0.self (sz := s.heap.size)
  generalize hAe : va_A (wcat (W7 Γ D x)) s.heap.size = A at hD hAm ⊢
  have hA : ∀ q : Nat, s.heap.size ≤ q → A q := fun q h => by rw [← hAe]; exact Or.inr h
  have hAB : ∀ q : Nat, A q → A q := fun _ h => h
  have hS : va_S A s.heap s.heap [] := va_S.rf
  have hl := lv_entry ([.ref D.1, .int a1, .int a2, .int a3]) (n := 5) (Nat.le_of_ble_eq_true rfl)
  rw [lg_entry_eq]
  generalize (lg_sl ([.ref D.1, .int a1, .int a2, .int a3]) ++ List.replicate (5 - (lg_sl ([.ref D.1, .int a1, .int a2, .int a3])).length) Slot.unset).toArray = ls at hl ⊢
  have hl : lv_has ls 5 [(0, .ref D.1), (1, .int a1), (2, .int a2), (3, .int a3)] := hl
  refine lv_aload_n hx hb dL_seal_0 rfl (lv_at hl 0 rfl) ?_
  refine lv_iload_n hx hb dL_seal_1 rfl (lv_at hl 1 rfl) ?_
  refine lv_iload_n hx hb dL_seal_2 rfl (lv_at hl 2 rfl) ?_
  refine lv_iload_n hx hb dL_seal_3 rfl (lv_at hl 3 rfl) ?_
  refine cMI (bc' := W7 Γ D u) (va_runV (As := [.int a1, .int a2, .int a3]) (rest := []) ⟨hx, hb, hml, hown, hts⟩ (hM _) (cwV 3 hts gL_seal_X4_seal rfl hrc hrs (by decide +kernel) ⟨by show rmX.frames + 1 ≤ 10; omega, by show 8 + (_ + 11) + rmX.locals ≤ 340; omega⟩) ⟨wPre_blind, va_recv hK hP (ci := 4) (q0 := 0) rfl rfl, wPre_mk hP hD hK hS hA hAB hAm [0, 1, 2, 3, 4, 5, 6] rfl rfl⟩ rfl rfl hl.1 rfl (lv_room (Nat.le_of_ble_eq_true rfl)) dL_seal_4 ⟨Nat.zero_le _, Nat.zero_le _⟩) hP hD hS hA [0, 1, 2, 3, 4, 5, 6] rfl W7_ad (bs' := W7 Γ D u) rfl (fun H locs hP hD hS => ?_)
  exact W.iret (v := f) hx hb hr (fun t ht hW => eMI hP hS ht rfl) hS.2.2 dL_seal_7
set_option maxHeartbeats 4000000 in
set_option maxRecDepth 100000 in
theorem xL_seal_1 (l : Launch) (Γ : wG) (D : AD) (a1 : Int32) (a2 : Int32) (a3 : Int32) (x : ST) (rmX : Room) (hrf : rmX.frames ≤ 9) (hrl : rmX.locals ≤ 300) (hrc : rmX.cells = 1) (hrs : rmX.slots = 6) (hX : TX l Γ yX4_seal wsX4_seal rmX [.ref D.1, .int a1, .int a2, .int a3] (W7 Γ D x) "java/lang/IllegalArgumentException") : MJ l Γ yL_seal wsL_seal ({ frames := 10, cells := 1, slots := 6, locals := 340 }) [.ref D.1, .int a1, .int a2, .int a3] (W7 Γ D x) (W7 Γ D x) (-2000001) := by
  intro sz
  refine va_MetW (cc := cL_seal) (maxL := 5) (ret := (some .int)) (hh := [(0, 7, 8, 36), (0, 7, 13, 15)]) (by decide) rfl ?_
  intro p e s m args below meth c s₁ B hml hv
  obtain ⟨rfl, hsz, hP, hK, hD0, hAm⟩ := hv
  have hx := B.exec
  have hb := B.bytes
  have hr := B.returns
  have hts := atoms_spec (ws := wsL_seal) B.pre
  have hown : s.vm.findClass RL = some m.cls := findClass_of_methodNamed B.named
  subst hsz
  have hD := hD0.self (sz := s.heap.size)
  generalize hAe : va_A (wcat (W7 Γ D x)) s.heap.size = A at hD hAm ⊢
  have hA : ∀ q : Nat, s.heap.size ≤ q → A q := fun q h => by rw [← hAe]; exact Or.inr h
  have hAB : ∀ q : Nat, A q → A q := fun _ h => h
  have hS : va_S A s.heap s.heap [] := va_S.rf
  have hl := lv_entry ([.ref D.1, .int a1, .int a2, .int a3]) (n := 5) (Nat.le_of_ble_eq_true rfl)
  rw [lg_entry_eq]
  generalize (lg_sl ([.ref D.1, .int a1, .int a2, .int a3]) ++ List.replicate (5 - (lg_sl ([.ref D.1, .int a1, .int a2, .int a3])).length) Slot.unset).toArray = ls at hl ⊢
  have hl : lv_has ls 5 [(0, .ref D.1), (1, .int a1), (2, .int a2), (3, .int a3)] := hl
  refine lv_aload_n hx hb dL_seal_0 rfl (lv_at hl 0 rfl) ?_
  refine lv_iload_n hx hb dL_seal_1 rfl (lv_at hl 1 rfl) ?_
  refine lv_iload_n hx hb dL_seal_2 rfl (lv_at hl 2 rfl) ?_
  refine lv_iload_n hx hb dL_seal_3 rfl (lv_at hl 3 rfl) ?_
  refine cTX (vx_runV (As := [.int a1, .int a2, .int a3]) (rest := []) ⟨hx, hb, hml, hown, hts⟩ (hX _) (cwV 3 hts gL_seal_X4_seal rfl hrc hrs (by decide +kernel) ⟨by show rmX.frames + 1 ≤ 10; omega, by show 8 + (_ + 11) + rmX.locals ≤ 340; omega⟩) ⟨wPre_blind, va_recv hK hP (ci := 4) (q0 := 0) rfl rfl, wPre_mk hP hD hK hS hA hAB hAm [0, 1, 2, 3, 4, 5, 6] rfl rfl⟩ rfl rfl hl.1 rfl (lv_room (Nat.le_of_ble_eq_true rfl)) dL_seal_4 ⟨Nat.le_of_ble_eq_true rfl, Nat.le_of_ble_eq_true rfl⟩) hS hA (fun ce q9 H1 locs1 hz hk hS1 hce hcv hcl => ?_)
  have hP1 : va_P Γ.1 vwCl (wcat (W7 Γ D x)) H1 := hP.kept (fun k x hx => hk x.1 (hP k x hx).lt)
  refine vx_catch (name := "java/lang/IllegalArgumentException") hown [] ⟨0, 7, 8, 36⟩ [⟨0, 7, 13, 15⟩] (by rw [vx_table (x := yL_seal) (y := yL_seal) B (hts (.codeWith yL_seal cL_seal 5 (some .int) [(0, 7, 8, 36), (0, 7, 13, 15)]) List.mem_cons_self)]; rfl) (fun z hz => by cases hz) (by decide) (by decide) (hts (.classLink RL 36 "java/lang/IllegalArgumentException") (by decide +kernel)) (hAm.cast (by decide +kernel)) hce hcv hcl ?_
  refine lv_astore (lv' := [(4, .ref q9), (0, .ref D.1), (1, .int a1), (2, .int a2), (3, .int a3)]) hx hb dL_seal_8 hl (by decide) rfl (fun ls hl => ?_)
  refine lv_ldc hx hb hown (hts (.constant RL 17 (-2000001)) (by decide +kernel)) dL_seal_10 ?_
  exact W.iret (v := -2000001) hx hb hr (fun t ht hW => eMI hP1 hS1 ht rfl) hS1.2.2 dL_seal_12
set_option maxHeartbeats 4000000 in
set_option maxRecDepth 100000 in
theorem xL_seal_2 (l : Launch) (Γ : wG) (D : AD) (a1 : Int32) (a2 : Int32) (a3 : Int32) (x : ST) (rmX : Room) (hrf : rmX.frames ≤ 9) (hrl : rmX.locals ≤ 300) (hrc : rmX.cells = 1) (hrs : rmX.slots = 6) (hX : TX l Γ yX4_seal wsX4_seal rmX [.ref D.1, .int a1, .int a2, .int a3] (W7 Γ D x) "java/lang/IllegalStateException") : MJ l Γ yL_seal wsL_seal ({ frames := 10, cells := 1, slots := 6, locals := 340 }) [.ref D.1, .int a1, .int a2, .int a3] (W7 Γ D x) (W7 Γ D x) (-2000002) := by
  intro sz
  refine va_MetW (cc := cL_seal) (maxL := 5) (ret := (some .int)) (hh := [(0, 7, 8, 36), (0, 7, 13, 15)]) (by decide) rfl ?_
  intro p e s m args below meth c s₁ B hml hv
  obtain ⟨rfl, hsz, hP, hK, hD0, hAm⟩ := hv
  have hx := B.exec
  have hb := B.bytes
  have hr := B.returns
  have hts := atoms_spec (ws := wsL_seal) B.pre
  have hown : s.vm.findClass RL = some m.cls := findClass_of_methodNamed B.named
  subst hsz
  have hD := hD0.self (sz := s.heap.size)
  generalize hAe : va_A (wcat (W7 Γ D x)) s.heap.size = A at hD hAm ⊢
  have hA : ∀ q : Nat, s.heap.size ≤ q → A q := fun q h => by rw [← hAe]; exact Or.inr h
  have hAB : ∀ q : Nat, A q → A q := fun _ h => h
  have hS : va_S A s.heap s.heap [] := va_S.rf
  have hl := lv_entry ([.ref D.1, .int a1, .int a2, .int a3]) (n := 5) (Nat.le_of_ble_eq_true rfl)
  rw [lg_entry_eq]
  generalize (lg_sl ([.ref D.1, .int a1, .int a2, .int a3]) ++ List.replicate (5 - (lg_sl ([.ref D.1, .int a1, .int a2, .int a3])).length) Slot.unset).toArray = ls at hl ⊢
  have hl : lv_has ls 5 [(0, .ref D.1), (1, .int a1), (2, .int a2), (3, .int a3)] := hl
  refine lv_aload_n hx hb dL_seal_0 rfl (lv_at hl 0 rfl) ?_
  refine lv_iload_n hx hb dL_seal_1 rfl (lv_at hl 1 rfl) ?_
  refine lv_iload_n hx hb dL_seal_2 rfl (lv_at hl 2 rfl) ?_
  refine lv_iload_n hx hb dL_seal_3 rfl (lv_at hl 3 rfl) ?_
  refine cTX (vx_runV (As := [.int a1, .int a2, .int a3]) (rest := []) ⟨hx, hb, hml, hown, hts⟩ (hX _) (cwV 3 hts gL_seal_X4_seal rfl hrc hrs (by decide +kernel) ⟨by show rmX.frames + 1 ≤ 10; omega, by show 8 + (_ + 11) + rmX.locals ≤ 340; omega⟩) ⟨wPre_blind, va_recv hK hP (ci := 4) (q0 := 0) rfl rfl, wPre_mk hP hD hK hS hA hAB hAm [0, 1, 2, 3, 4, 5, 6] rfl rfl⟩ rfl rfl hl.1 rfl (lv_room (Nat.le_of_ble_eq_true rfl)) dL_seal_4 ⟨Nat.le_of_ble_eq_true rfl, Nat.le_of_ble_eq_true rfl⟩) hS hA (fun ce q9 H1 locs1 hz hk hS1 hce hcv hcl => ?_)
  have hP1 : va_P Γ.1 vwCl (wcat (W7 Γ D x)) H1 := hP.kept (fun k x hx => hk x.1 (hP k x hx).lt)
  refine vx_catch (name := "java/lang/IllegalStateException") hown [⟨0, 7, 8, 36⟩] ⟨0, 7, 13, 15⟩ [] (by rw [vx_table (x := yL_seal) (y := yL_seal) B (hts (.codeWith yL_seal cL_seal 5 (some .int) [(0, 7, 8, 36), (0, 7, 13, 15)]) List.mem_cons_self)]; rfl) (fun z hz => by obtain rfl : z = ⟨0, 7, 8, 36⟩ := (by simpa using hz); exact Or.inr ⟨by decide, "java/lang/IllegalArgumentException", hts (.classLink RL 36 "java/lang/IllegalArgumentException") (by decide +kernel), hAm.nc (by decide +kernel) (by decide +kernel) (by decide +kernel)⟩) (by decide) (by decide) (hts (.classLink RL 15 "java/lang/IllegalStateException") (by decide +kernel)) (hAm.cast (by decide +kernel)) hce hcv hcl ?_
  refine lv_astore (lv' := [(4, .ref q9), (0, .ref D.1), (1, .int a1), (2, .int a2), (3, .int a3)]) hx hb dL_seal_13 hl (by decide) rfl (fun ls hl => ?_)
  refine lv_ldc hx hb hown (hts (.constant RL 24 (-2000002)) (by decide +kernel)) dL_seal_15 ?_
  exact W.iret (v := -2000002) hx hb hr (fun t ht hW => eMI hP1 hS1 ht rfl) hS1.2.2 dL_seal_17
set_option maxHeartbeats 4000000 in
set_option maxRecDepth 100000 in
theorem sL_renew (l : Launch) (Γ : wG) (D : AD) (x u : ST) (f : Int32) (rmX : Room) (hrf : rmX.frames ≤ 9) (hrl : rmX.locals ≤ 300) (hrc : rmX.cells = 0) (hrs : rmX.slots = 0) (hM : MI l Γ yX4_renew wsX4_renew rmX [.ref D.1] (W7 Γ D x) (W7 Γ D u) f) : MI l Γ yL_renew wsL_renew ({ frames := 10, cells := 0, slots := 0, locals := 340 }) [.ref D.1] (W7 Γ D x) (W7 Γ D u) f := by
  intro sz
  refine va_MetW (cc := cL_renew) (maxL := 2) (ret := (some .int)) (hh := [(0, 4, 5, 15)]) (by decide) rfl ?_
  intro p e s m args below meth c s₁ B hml hv
  obtain ⟨rfl, hsz, hP, hK, hD0, hAm⟩ := hv
  have hx := B.exec
  have hb := B.bytes
  have hr := B.returns
  have hts := atoms_spec (ws := wsL_renew) B.pre
  have hown : s.vm.findClass RL = some m.cls := findClass_of_methodNamed B.named
  subst hsz
  have hD := hD0.self (sz := s.heap.size)
  generalize hAe : va_A (wcat (W7 Γ D x)) s.heap.size = A at hD hAm ⊢
  have hA : ∀ q : Nat, s.heap.size ≤ q → A q := fun q h => by rw [← hAe]; exact Or.inr h
  have hAB : ∀ q : Nat, A q → A q := fun _ h => h
  have hS : va_S A s.heap s.heap [] := va_S.rf
  have hl := lv_entry ([.ref D.1]) (n := 2) (Nat.le_of_ble_eq_true rfl)
  rw [lg_entry_eq]
  generalize (lg_sl ([.ref D.1]) ++ List.replicate (2 - (lg_sl ([.ref D.1])).length) Slot.unset).toArray = ls at hl ⊢
  have hl : lv_has ls 2 [(0, .ref D.1)] := hl
  refine lv_aload_n hx hb dL_renew_0 rfl (lv_at hl 0 rfl) ?_
  refine cMI (bc' := W7 Γ D u) (va_runV (As := []) (rest := []) ⟨hx, hb, hml, hown, hts⟩ (hM _) (cwV 0 hts gL_renew_X4_renew rfl hrc hrs (by decide +kernel) ⟨by show rmX.frames + 1 ≤ 10; omega, by show 8 + (_ + 11) + rmX.locals ≤ 340; omega⟩) ⟨wPre_blind, va_recv hK hP (ci := 4) (q0 := 0) rfl rfl, wPre_mk hP hD hK hS hA hAB hAm [0, 1, 2, 3, 4, 5, 6] rfl rfl⟩ rfl rfl hl.1 rfl (lv_room (Nat.le_of_ble_eq_true rfl)) dL_renew_1 ⟨Nat.zero_le _, Nat.zero_le _⟩) hP hD hS hA [0, 1, 2, 3, 4, 5, 6] rfl W7_ad (bs' := W7 Γ D u) rfl (fun H locs hP hD hS => ?_)
  exact W.iret (v := f) hx hb hr (fun t ht hW => eMI hP hS ht rfl) hS.2.2 dL_renew_4
set_option maxHeartbeats 4000000 in
set_option maxRecDepth 100000 in
theorem xL_renew_1 (l : Launch) (Γ : wG) (D : AD) (x : ST) (rmX : Room) (hrf : rmX.frames ≤ 9) (hrl : rmX.locals ≤ 300) (hrc : rmX.cells = 1) (hrs : rmX.slots = 6) (hX : TX l Γ yX4_renew wsX4_renew rmX [.ref D.1] (W7 Γ D x) "java/lang/IllegalStateException") : MJ l Γ yL_renew wsL_renew ({ frames := 10, cells := 1, slots := 6, locals := 340 }) [.ref D.1] (W7 Γ D x) (W7 Γ D x) (-2000001) := by
  intro sz
  refine va_MetW (cc := cL_renew) (maxL := 2) (ret := (some .int)) (hh := [(0, 4, 5, 15)]) (by decide) rfl ?_
  intro p e s m args below meth c s₁ B hml hv
  obtain ⟨rfl, hsz, hP, hK, hD0, hAm⟩ := hv
  have hx := B.exec
  have hb := B.bytes
  have hr := B.returns
  have hts := atoms_spec (ws := wsL_renew) B.pre
  have hown : s.vm.findClass RL = some m.cls := findClass_of_methodNamed B.named
  subst hsz
  have hD := hD0.self (sz := s.heap.size)
  generalize hAe : va_A (wcat (W7 Γ D x)) s.heap.size = A at hD hAm ⊢
  have hA : ∀ q : Nat, s.heap.size ≤ q → A q := fun q h => by rw [← hAe]; exact Or.inr h
  have hAB : ∀ q : Nat, A q → A q := fun _ h => h
  have hS : va_S A s.heap s.heap [] := va_S.rf
  have hl := lv_entry ([.ref D.1]) (n := 2) (Nat.le_of_ble_eq_true rfl)
  rw [lg_entry_eq]
  generalize (lg_sl ([.ref D.1]) ++ List.replicate (2 - (lg_sl ([.ref D.1])).length) Slot.unset).toArray = ls at hl ⊢
  have hl : lv_has ls 2 [(0, .ref D.1)] := hl
  refine lv_aload_n hx hb dL_renew_0 rfl (lv_at hl 0 rfl) ?_
  refine cTX (vx_runV (As := []) (rest := []) ⟨hx, hb, hml, hown, hts⟩ (hX _) (cwV 0 hts gL_renew_X4_renew rfl hrc hrs (by decide +kernel) ⟨by show rmX.frames + 1 ≤ 10; omega, by show 8 + (_ + 11) + rmX.locals ≤ 340; omega⟩) ⟨wPre_blind, va_recv hK hP (ci := 4) (q0 := 0) rfl rfl, wPre_mk hP hD hK hS hA hAB hAm [0, 1, 2, 3, 4, 5, 6] rfl rfl⟩ rfl rfl hl.1 rfl (lv_room (Nat.le_of_ble_eq_true rfl)) dL_renew_1 ⟨Nat.le_of_ble_eq_true rfl, Nat.le_of_ble_eq_true rfl⟩) hS hA (fun ce q9 H1 locs1 hz hk hS1 hce hcv hcl => ?_)
  have hP1 : va_P Γ.1 vwCl (wcat (W7 Γ D x)) H1 := hP.kept (fun k x hx => hk x.1 (hP k x hx).lt)
  refine vx_catch (name := "java/lang/IllegalStateException") hown [] ⟨0, 4, 5, 15⟩ [] (by rw [vx_table (x := yL_renew) (y := yL_renew) B (hts (.codeWith yL_renew cL_renew 2 (some .int) [(0, 4, 5, 15)]) List.mem_cons_self)]; rfl) (fun z hz => by cases hz) (by decide) (by decide) (hts (.classLink RL 15 "java/lang/IllegalStateException") (by decide +kernel)) (hAm.cast (by decide +kernel)) hce hcv hcl ?_
  refine lv_astore_n (lv' := [(1, .ref q9), (0, .ref D.1)]) hx hb dL_renew_5 rfl hl (by decide) rfl (fun ls hl => ?_)
  refine lv_ldc hx hb hown (hts (.constant RL 17 (-2000001)) (by decide +kernel)) dL_renew_6 ?_
  exact W.iret (v := -2000001) hx hb hr (fun t ht hW => eMI hP1 hS1 ht rfl) hS1.2.2 dL_renew_8
set_option maxHeartbeats 4000000 in
set_option maxRecDepth 100000 in
theorem sL_forge (l : Launch) (Γ : wG) (D : AD) (a1 : Int32) (a2 : Int32) (x u : ST) (f : Int32) (rmX : Room) (hrf : rmX.frames ≤ 9) (hrl : rmX.locals ≤ 300) (hrc : rmX.cells = 0) (hrs : rmX.slots = 0) (hM : MI l Γ yX4_forge wsX4_forge rmX [.ref D.1, .int a1, .int a2] (W7 Γ D x) (W7 Γ D u) f) : MI l Γ yL_forge wsL_forge ({ frames := 10, cells := 0, slots := 0, locals := 340 }) [.ref D.1, .int a1, .int a2] (W7 Γ D x) (W7 Γ D u) f := by
  intro sz
  refine va_MetW (cc := cL_forge) (maxL := 4) (ret := (some .int)) (hh := [(0, 6, 7, 36), (0, 6, 11, 15)]) (by decide) rfl ?_
  intro p e s m args below meth c s₁ B hml hv
  obtain ⟨rfl, hsz, hP, hK, hD0, hAm⟩ := hv
  have hx := B.exec
  have hb := B.bytes
  have hr := B.returns
  have hts := atoms_spec (ws := wsL_forge) B.pre
  have hown : s.vm.findClass RL = some m.cls := findClass_of_methodNamed B.named
  subst hsz
  have hD := hD0.self (sz := s.heap.size)
  generalize hAe : va_A (wcat (W7 Γ D x)) s.heap.size = A at hD hAm ⊢
  have hA : ∀ q : Nat, s.heap.size ≤ q → A q := fun q h => by rw [← hAe]; exact Or.inr h
  have hAB : ∀ q : Nat, A q → A q := fun _ h => h
  have hS : va_S A s.heap s.heap [] := va_S.rf
  have hl := lv_entry ([.ref D.1, .int a1, .int a2]) (n := 4) (Nat.le_of_ble_eq_true rfl)
  rw [lg_entry_eq]
  generalize (lg_sl ([.ref D.1, .int a1, .int a2]) ++ List.replicate (4 - (lg_sl ([.ref D.1, .int a1, .int a2])).length) Slot.unset).toArray = ls at hl ⊢
  have hl : lv_has ls 4 [(0, .ref D.1), (1, .int a1), (2, .int a2)] := hl
  refine lv_aload_n hx hb dL_forge_0 rfl (lv_at hl 0 rfl) ?_
  refine lv_iload_n hx hb dL_forge_1 rfl (lv_at hl 1 rfl) ?_
  refine lv_iload_n hx hb dL_forge_2 rfl (lv_at hl 2 rfl) ?_
  refine cMI (bc' := W7 Γ D u) (va_runV (As := [.int a1, .int a2]) (rest := []) ⟨hx, hb, hml, hown, hts⟩ (hM _) (cwV 2 hts gL_forge_X4_forge rfl hrc hrs (by decide +kernel) ⟨by show rmX.frames + 1 ≤ 10; omega, by show 8 + (_ + 11) + rmX.locals ≤ 340; omega⟩) ⟨wPre_blind, va_recv hK hP (ci := 4) (q0 := 0) rfl rfl, wPre_mk hP hD hK hS hA hAB hAm [0, 1, 2, 3, 4, 5, 6] rfl rfl⟩ rfl rfl hl.1 rfl (lv_room (Nat.le_of_ble_eq_true rfl)) dL_forge_3 ⟨Nat.zero_le _, Nat.zero_le _⟩) hP hD hS hA [0, 1, 2, 3, 4, 5, 6] rfl W7_ad (bs' := W7 Γ D u) rfl (fun H locs hP hD hS => ?_)
  exact W.iret (v := f) hx hb hr (fun t ht hW => eMI hP hS ht rfl) hS.2.2 dL_forge_6
set_option maxHeartbeats 4000000 in
set_option maxRecDepth 100000 in
theorem xL_forge_1 (l : Launch) (Γ : wG) (D : AD) (a1 : Int32) (a2 : Int32) (x : ST) (rmX : Room) (hrf : rmX.frames ≤ 9) (hrl : rmX.locals ≤ 300) (hrc : rmX.cells = 1) (hrs : rmX.slots = 6) (hX : TX l Γ yX4_forge wsX4_forge rmX [.ref D.1, .int a1, .int a2] (W7 Γ D x) "java/lang/IllegalArgumentException") : MJ l Γ yL_forge wsL_forge ({ frames := 10, cells := 1, slots := 6, locals := 340 }) [.ref D.1, .int a1, .int a2] (W7 Γ D x) (W7 Γ D x) (-2000001) := by
  intro sz
  refine va_MetW (cc := cL_forge) (maxL := 4) (ret := (some .int)) (hh := [(0, 6, 7, 36), (0, 6, 11, 15)]) (by decide) rfl ?_
  intro p e s m args below meth c s₁ B hml hv
  obtain ⟨rfl, hsz, hP, hK, hD0, hAm⟩ := hv
  have hx := B.exec
  have hb := B.bytes
  have hr := B.returns
  have hts := atoms_spec (ws := wsL_forge) B.pre
  have hown : s.vm.findClass RL = some m.cls := findClass_of_methodNamed B.named
  subst hsz
  have hD := hD0.self (sz := s.heap.size)
  generalize hAe : va_A (wcat (W7 Γ D x)) s.heap.size = A at hD hAm ⊢
  have hA : ∀ q : Nat, s.heap.size ≤ q → A q := fun q h => by rw [← hAe]; exact Or.inr h
  have hAB : ∀ q : Nat, A q → A q := fun _ h => h
  have hS : va_S A s.heap s.heap [] := va_S.rf
  have hl := lv_entry ([.ref D.1, .int a1, .int a2]) (n := 4) (Nat.le_of_ble_eq_true rfl)
  rw [lg_entry_eq]
  generalize (lg_sl ([.ref D.1, .int a1, .int a2]) ++ List.replicate (4 - (lg_sl ([.ref D.1, .int a1, .int a2])).length) Slot.unset).toArray = ls at hl ⊢
  have hl : lv_has ls 4 [(0, .ref D.1), (1, .int a1), (2, .int a2)] := hl
  refine lv_aload_n hx hb dL_forge_0 rfl (lv_at hl 0 rfl) ?_
  refine lv_iload_n hx hb dL_forge_1 rfl (lv_at hl 1 rfl) ?_
  refine lv_iload_n hx hb dL_forge_2 rfl (lv_at hl 2 rfl) ?_
  refine cTX (vx_runV (As := [.int a1, .int a2]) (rest := []) ⟨hx, hb, hml, hown, hts⟩ (hX _) (cwV 2 hts gL_forge_X4_forge rfl hrc hrs (by decide +kernel) ⟨by show rmX.frames + 1 ≤ 10; omega, by show 8 + (_ + 11) + rmX.locals ≤ 340; omega⟩) ⟨wPre_blind, va_recv hK hP (ci := 4) (q0 := 0) rfl rfl, wPre_mk hP hD hK hS hA hAB hAm [0, 1, 2, 3, 4, 5, 6] rfl rfl⟩ rfl rfl hl.1 rfl (lv_room (Nat.le_of_ble_eq_true rfl)) dL_forge_3 ⟨Nat.le_of_ble_eq_true rfl, Nat.le_of_ble_eq_true rfl⟩) hS hA (fun ce q9 H1 locs1 hz hk hS1 hce hcv hcl => ?_)
  have hP1 : va_P Γ.1 vwCl (wcat (W7 Γ D x)) H1 := hP.kept (fun k x hx => hk x.1 (hP k x hx).lt)
  refine vx_catch (name := "java/lang/IllegalArgumentException") hown [] ⟨0, 6, 7, 36⟩ [⟨0, 6, 11, 15⟩] (by rw [vx_table (x := yL_forge) (y := yL_forge) B (hts (.codeWith yL_forge cL_forge 4 (some .int) [(0, 6, 7, 36), (0, 6, 11, 15)]) List.mem_cons_self)]; rfl) (fun z hz => by cases hz) (by decide) (by decide) (hts (.classLink RL 36 "java/lang/IllegalArgumentException") (by decide +kernel)) (hAm.cast (by decide +kernel)) hce hcv hcl ?_
  refine lv_astore_n (lv' := [(3, .ref q9), (0, .ref D.1), (1, .int a1), (2, .int a2)]) hx hb dL_forge_7 rfl hl (by decide) rfl (fun ls hl => ?_)
  refine lv_ldc hx hb hown (hts (.constant RL 17 (-2000001)) (by decide +kernel)) dL_forge_8 ?_
  exact W.iret (v := -2000001) hx hb hr (fun t ht hW => eMI hP1 hS1 ht rfl) hS1.2.2 dL_forge_10
set_option maxHeartbeats 4000000 in
set_option maxRecDepth 100000 in
theorem xL_forge_2 (l : Launch) (Γ : wG) (D : AD) (a1 : Int32) (a2 : Int32) (x : ST) (rmX : Room) (hrf : rmX.frames ≤ 9) (hrl : rmX.locals ≤ 300) (hrc : rmX.cells = 1) (hrs : rmX.slots = 6) (hX : TX l Γ yX4_forge wsX4_forge rmX [.ref D.1, .int a1, .int a2] (W7 Γ D x) "java/lang/IllegalStateException") : MJ l Γ yL_forge wsL_forge ({ frames := 10, cells := 1, slots := 6, locals := 340 }) [.ref D.1, .int a1, .int a2] (W7 Γ D x) (W7 Γ D x) (-2000002) := by
  intro sz
  refine va_MetW (cc := cL_forge) (maxL := 4) (ret := (some .int)) (hh := [(0, 6, 7, 36), (0, 6, 11, 15)]) (by decide) rfl ?_
  intro p e s m args below meth c s₁ B hml hv
  obtain ⟨rfl, hsz, hP, hK, hD0, hAm⟩ := hv
  have hx := B.exec
  have hb := B.bytes
  have hr := B.returns
  have hts := atoms_spec (ws := wsL_forge) B.pre
  have hown : s.vm.findClass RL = some m.cls := findClass_of_methodNamed B.named
  subst hsz
  have hD := hD0.self (sz := s.heap.size)
  generalize hAe : va_A (wcat (W7 Γ D x)) s.heap.size = A at hD hAm ⊢
  have hA : ∀ q : Nat, s.heap.size ≤ q → A q := fun q h => by rw [← hAe]; exact Or.inr h
  have hAB : ∀ q : Nat, A q → A q := fun _ h => h
  have hS : va_S A s.heap s.heap [] := va_S.rf
  have hl := lv_entry ([.ref D.1, .int a1, .int a2]) (n := 4) (Nat.le_of_ble_eq_true rfl)
  rw [lg_entry_eq]
  generalize (lg_sl ([.ref D.1, .int a1, .int a2]) ++ List.replicate (4 - (lg_sl ([.ref D.1, .int a1, .int a2])).length) Slot.unset).toArray = ls at hl ⊢
  have hl : lv_has ls 4 [(0, .ref D.1), (1, .int a1), (2, .int a2)] := hl
  refine lv_aload_n hx hb dL_forge_0 rfl (lv_at hl 0 rfl) ?_
  refine lv_iload_n hx hb dL_forge_1 rfl (lv_at hl 1 rfl) ?_
  refine lv_iload_n hx hb dL_forge_2 rfl (lv_at hl 2 rfl) ?_
  refine cTX (vx_runV (As := [.int a1, .int a2]) (rest := []) ⟨hx, hb, hml, hown, hts⟩ (hX _) (cwV 2 hts gL_forge_X4_forge rfl hrc hrs (by decide +kernel) ⟨by show rmX.frames + 1 ≤ 10; omega, by show 8 + (_ + 11) + rmX.locals ≤ 340; omega⟩) ⟨wPre_blind, va_recv hK hP (ci := 4) (q0 := 0) rfl rfl, wPre_mk hP hD hK hS hA hAB hAm [0, 1, 2, 3, 4, 5, 6] rfl rfl⟩ rfl rfl hl.1 rfl (lv_room (Nat.le_of_ble_eq_true rfl)) dL_forge_3 ⟨Nat.le_of_ble_eq_true rfl, Nat.le_of_ble_eq_true rfl⟩) hS hA (fun ce q9 H1 locs1 hz hk hS1 hce hcv hcl => ?_)
  have hP1 : va_P Γ.1 vwCl (wcat (W7 Γ D x)) H1 := hP.kept (fun k x hx => hk x.1 (hP k x hx).lt)
  refine vx_catch (name := "java/lang/IllegalStateException") hown [⟨0, 6, 7, 36⟩] ⟨0, 6, 11, 15⟩ [] (by rw [vx_table (x := yL_forge) (y := yL_forge) B (hts (.codeWith yL_forge cL_forge 4 (some .int) [(0, 6, 7, 36), (0, 6, 11, 15)]) List.mem_cons_self)]; rfl) (fun z hz => by obtain rfl : z = ⟨0, 6, 7, 36⟩ := (by simpa using hz); exact Or.inr ⟨by decide, "java/lang/IllegalArgumentException", hts (.classLink RL 36 "java/lang/IllegalArgumentException") (by decide +kernel), hAm.nc (by decide +kernel) (by decide +kernel) (by decide +kernel)⟩) (by decide) (by decide) (hts (.classLink RL 15 "java/lang/IllegalStateException") (by decide +kernel)) (hAm.cast (by decide +kernel)) hce hcv hcl ?_
  refine lv_astore_n (lv' := [(3, .ref q9), (0, .ref D.1), (1, .int a1), (2, .int a2)]) hx hb dL_forge_11 rfl hl (by decide) rfl (fun ls hl => ?_)
  refine lv_ldc hx hb hown (hts (.constant RL 24 (-2000002)) (by decide +kernel)) dL_forge_12 ?_
  exact W.iret (v := -2000002) hx hb hr (fun t ht hW => eMI hP1 hS1 ht rfl) hS1.2.2 dL_forge_14
set_option maxHeartbeats 4000000 in
set_option maxRecDepth 100000 in
theorem sL_pass (l : Launch) (Γ : wG) (D : AD) (a1 : Int32) (x u : ST) (f : Int32) (rmX : Room) (hrf : rmX.frames ≤ 9) (hrl : rmX.locals ≤ 300) (hrc : rmX.cells = 0) (hrs : rmX.slots = 0) (hM : MI l Γ yX4_pass wsX4_pass rmX [.ref D.1, .int a1] (W7 Γ D x) (W7 Γ D u) f) : MI l Γ yL_pass wsL_pass ({ frames := 10, cells := 0, slots := 0, locals := 340 }) [.ref D.1, .int a1] (W7 Γ D x) (W7 Γ D u) f := by
  intro sz
  refine va_MetW (cc := cL_pass) (maxL := 3) (ret := (some .int)) (hh := [(0, 5, 6, 36), (0, 5, 10, 15)]) (by decide) rfl ?_
  intro p e s m args below meth c s₁ B hml hv
  obtain ⟨rfl, hsz, hP, hK, hD0, hAm⟩ := hv
  have hx := B.exec
  have hb := B.bytes
  have hr := B.returns
  have hts := atoms_spec (ws := wsL_pass) B.pre
  have hown : s.vm.findClass RL = some m.cls := findClass_of_methodNamed B.named
  subst hsz
  have hD := hD0.self (sz := s.heap.size)
  generalize hAe : va_A (wcat (W7 Γ D x)) s.heap.size = A at hD hAm ⊢
  have hA : ∀ q : Nat, s.heap.size ≤ q → A q := fun q h => by rw [← hAe]; exact Or.inr h
  have hAB : ∀ q : Nat, A q → A q := fun _ h => h
  have hS : va_S A s.heap s.heap [] := va_S.rf
  have hl := lv_entry ([.ref D.1, .int a1]) (n := 3) (Nat.le_of_ble_eq_true rfl)
  rw [lg_entry_eq]
  generalize (lg_sl ([.ref D.1, .int a1]) ++ List.replicate (3 - (lg_sl ([.ref D.1, .int a1])).length) Slot.unset).toArray = ls at hl ⊢
  have hl : lv_has ls 3 [(0, .ref D.1), (1, .int a1)] := hl
  refine lv_aload_n hx hb dL_pass_0 rfl (lv_at hl 0 rfl) ?_
  refine lv_iload_n hx hb dL_pass_1 rfl (lv_at hl 1 rfl) ?_
  refine cMI (bc' := W7 Γ D u) (va_runV (As := [.int a1]) (rest := []) ⟨hx, hb, hml, hown, hts⟩ (hM _) (cwV 1 hts gL_pass_X4_pass rfl hrc hrs (by decide +kernel) ⟨by show rmX.frames + 1 ≤ 10; omega, by show 8 + (_ + 11) + rmX.locals ≤ 340; omega⟩) ⟨wPre_blind, va_recv hK hP (ci := 4) (q0 := 0) rfl rfl, wPre_mk hP hD hK hS hA hAB hAm [0, 1, 2, 3, 4, 5, 6] rfl rfl⟩ rfl rfl hl.1 rfl (lv_room (Nat.le_of_ble_eq_true rfl)) dL_pass_2 ⟨Nat.zero_le _, Nat.zero_le _⟩) hP hD hS hA [0, 1, 2, 3, 4, 5, 6] rfl W7_ad (bs' := W7 Γ D u) rfl (fun H locs hP hD hS => ?_)
  exact W.iret (v := f) hx hb hr (fun t ht hW => eMI hP hS ht rfl) hS.2.2 dL_pass_5
set_option maxHeartbeats 4000000 in
set_option maxRecDepth 100000 in
theorem xL_pass_1 (l : Launch) (Γ : wG) (D : AD) (a1 : Int32) (x : ST) (rmX : Room) (hrf : rmX.frames ≤ 9) (hrl : rmX.locals ≤ 300) (hrc : rmX.cells = 1) (hrs : rmX.slots = 6) (hX : TX l Γ yX4_pass wsX4_pass rmX [.ref D.1, .int a1] (W7 Γ D x) "java/lang/IllegalArgumentException") : MJ l Γ yL_pass wsL_pass ({ frames := 10, cells := 1, slots := 6, locals := 340 }) [.ref D.1, .int a1] (W7 Γ D x) (W7 Γ D x) (-2000001) := by
  intro sz
  refine va_MetW (cc := cL_pass) (maxL := 3) (ret := (some .int)) (hh := [(0, 5, 6, 36), (0, 5, 10, 15)]) (by decide) rfl ?_
  intro p e s m args below meth c s₁ B hml hv
  obtain ⟨rfl, hsz, hP, hK, hD0, hAm⟩ := hv
  have hx := B.exec
  have hb := B.bytes
  have hr := B.returns
  have hts := atoms_spec (ws := wsL_pass) B.pre
  have hown : s.vm.findClass RL = some m.cls := findClass_of_methodNamed B.named
  subst hsz
  have hD := hD0.self (sz := s.heap.size)
  generalize hAe : va_A (wcat (W7 Γ D x)) s.heap.size = A at hD hAm ⊢
  have hA : ∀ q : Nat, s.heap.size ≤ q → A q := fun q h => by rw [← hAe]; exact Or.inr h
  have hAB : ∀ q : Nat, A q → A q := fun _ h => h
  have hS : va_S A s.heap s.heap [] := va_S.rf
  have hl := lv_entry ([.ref D.1, .int a1]) (n := 3) (Nat.le_of_ble_eq_true rfl)
  rw [lg_entry_eq]
  generalize (lg_sl ([.ref D.1, .int a1]) ++ List.replicate (3 - (lg_sl ([.ref D.1, .int a1])).length) Slot.unset).toArray = ls at hl ⊢
  have hl : lv_has ls 3 [(0, .ref D.1), (1, .int a1)] := hl
  refine lv_aload_n hx hb dL_pass_0 rfl (lv_at hl 0 rfl) ?_
  refine lv_iload_n hx hb dL_pass_1 rfl (lv_at hl 1 rfl) ?_
  refine cTX (vx_runV (As := [.int a1]) (rest := []) ⟨hx, hb, hml, hown, hts⟩ (hX _) (cwV 1 hts gL_pass_X4_pass rfl hrc hrs (by decide +kernel) ⟨by show rmX.frames + 1 ≤ 10; omega, by show 8 + (_ + 11) + rmX.locals ≤ 340; omega⟩) ⟨wPre_blind, va_recv hK hP (ci := 4) (q0 := 0) rfl rfl, wPre_mk hP hD hK hS hA hAB hAm [0, 1, 2, 3, 4, 5, 6] rfl rfl⟩ rfl rfl hl.1 rfl (lv_room (Nat.le_of_ble_eq_true rfl)) dL_pass_2 ⟨Nat.le_of_ble_eq_true rfl, Nat.le_of_ble_eq_true rfl⟩) hS hA (fun ce q9 H1 locs1 hz hk hS1 hce hcv hcl => ?_)
  have hP1 : va_P Γ.1 vwCl (wcat (W7 Γ D x)) H1 := hP.kept (fun k x hx => hk x.1 (hP k x hx).lt)
  refine vx_catch (name := "java/lang/IllegalArgumentException") hown [] ⟨0, 5, 6, 36⟩ [⟨0, 5, 10, 15⟩] (by rw [vx_table (x := yL_pass) (y := yL_pass) B (hts (.codeWith yL_pass cL_pass 3 (some .int) [(0, 5, 6, 36), (0, 5, 10, 15)]) List.mem_cons_self)]; rfl) (fun z hz => by cases hz) (by decide) (by decide) (hts (.classLink RL 36 "java/lang/IllegalArgumentException") (by decide +kernel)) (hAm.cast (by decide +kernel)) hce hcv hcl ?_
  refine lv_astore_n (lv' := [(2, .ref q9), (0, .ref D.1), (1, .int a1)]) hx hb dL_pass_6 rfl hl (by decide) rfl (fun ls hl => ?_)
  refine lv_ldc hx hb hown (hts (.constant RL 17 (-2000001)) (by decide +kernel)) dL_pass_7 ?_
  exact W.iret (v := -2000001) hx hb hr (fun t ht hW => eMI hP1 hS1 ht rfl) hS1.2.2 dL_pass_9
set_option maxHeartbeats 4000000 in
set_option maxRecDepth 100000 in
theorem xL_pass_2 (l : Launch) (Γ : wG) (D : AD) (a1 : Int32) (x : ST) (rmX : Room) (hrf : rmX.frames ≤ 9) (hrl : rmX.locals ≤ 300) (hrc : rmX.cells = 1) (hrs : rmX.slots = 6) (hX : TX l Γ yX4_pass wsX4_pass rmX [.ref D.1, .int a1] (W7 Γ D x) "java/lang/IllegalStateException") : MJ l Γ yL_pass wsL_pass ({ frames := 10, cells := 1, slots := 6, locals := 340 }) [.ref D.1, .int a1] (W7 Γ D x) (W7 Γ D x) (-2000002) := by
  intro sz
  refine va_MetW (cc := cL_pass) (maxL := 3) (ret := (some .int)) (hh := [(0, 5, 6, 36), (0, 5, 10, 15)]) (by decide) rfl ?_
  intro p e s m args below meth c s₁ B hml hv
  obtain ⟨rfl, hsz, hP, hK, hD0, hAm⟩ := hv
  have hx := B.exec
  have hb := B.bytes
  have hr := B.returns
  have hts := atoms_spec (ws := wsL_pass) B.pre
  have hown : s.vm.findClass RL = some m.cls := findClass_of_methodNamed B.named
  subst hsz
  have hD := hD0.self (sz := s.heap.size)
  generalize hAe : va_A (wcat (W7 Γ D x)) s.heap.size = A at hD hAm ⊢
  have hA : ∀ q : Nat, s.heap.size ≤ q → A q := fun q h => by rw [← hAe]; exact Or.inr h
  have hAB : ∀ q : Nat, A q → A q := fun _ h => h
  have hS : va_S A s.heap s.heap [] := va_S.rf
  have hl := lv_entry ([.ref D.1, .int a1]) (n := 3) (Nat.le_of_ble_eq_true rfl)
  rw [lg_entry_eq]
  generalize (lg_sl ([.ref D.1, .int a1]) ++ List.replicate (3 - (lg_sl ([.ref D.1, .int a1])).length) Slot.unset).toArray = ls at hl ⊢
  have hl : lv_has ls 3 [(0, .ref D.1), (1, .int a1)] := hl
  refine lv_aload_n hx hb dL_pass_0 rfl (lv_at hl 0 rfl) ?_
  refine lv_iload_n hx hb dL_pass_1 rfl (lv_at hl 1 rfl) ?_
  refine cTX (vx_runV (As := [.int a1]) (rest := []) ⟨hx, hb, hml, hown, hts⟩ (hX _) (cwV 1 hts gL_pass_X4_pass rfl hrc hrs (by decide +kernel) ⟨by show rmX.frames + 1 ≤ 10; omega, by show 8 + (_ + 11) + rmX.locals ≤ 340; omega⟩) ⟨wPre_blind, va_recv hK hP (ci := 4) (q0 := 0) rfl rfl, wPre_mk hP hD hK hS hA hAB hAm [0, 1, 2, 3, 4, 5, 6] rfl rfl⟩ rfl rfl hl.1 rfl (lv_room (Nat.le_of_ble_eq_true rfl)) dL_pass_2 ⟨Nat.le_of_ble_eq_true rfl, Nat.le_of_ble_eq_true rfl⟩) hS hA (fun ce q9 H1 locs1 hz hk hS1 hce hcv hcl => ?_)
  have hP1 : va_P Γ.1 vwCl (wcat (W7 Γ D x)) H1 := hP.kept (fun k x hx => hk x.1 (hP k x hx).lt)
  refine vx_catch (name := "java/lang/IllegalStateException") hown [⟨0, 5, 6, 36⟩] ⟨0, 5, 10, 15⟩ [] (by rw [vx_table (x := yL_pass) (y := yL_pass) B (hts (.codeWith yL_pass cL_pass 3 (some .int) [(0, 5, 6, 36), (0, 5, 10, 15)]) List.mem_cons_self)]; rfl) (fun z hz => by obtain rfl : z = ⟨0, 5, 6, 36⟩ := (by simpa using hz); exact Or.inr ⟨by decide, "java/lang/IllegalArgumentException", hts (.classLink RL 36 "java/lang/IllegalArgumentException") (by decide +kernel), hAm.nc (by decide +kernel) (by decide +kernel) (by decide +kernel)⟩) (by decide) (by decide) (hts (.classLink RL 15 "java/lang/IllegalStateException") (by decide +kernel)) (hAm.cast (by decide +kernel)) hce hcv hcl ?_
  refine lv_astore_n (lv' := [(2, .ref q9), (0, .ref D.1), (1, .int a1)]) hx hb dL_pass_10 rfl hl (by decide) rfl (fun ls hl => ?_)
  refine lv_ldc hx hb hown (hts (.constant RL 24 (-2000002)) (by decide +kernel)) dL_pass_11 ?_
  exact W.iret (v := -2000002) hx hb hr (fun t ht hW => eMI hP1 hS1 ht rfl) hS1.2.2 dL_pass_13
set_option maxHeartbeats 4000000 in
set_option maxRecDepth 100000 in
theorem sL_open (l : Launch) (Γ : wG) (D : AD) (a1 : Int32) (x u : ST) (f : Int32) (rmX : Room) (hrf : rmX.frames ≤ 9) (hrl : rmX.locals ≤ 300) (hrc : rmX.cells = 0) (hrs : rmX.slots = 0) (hM : MI l Γ yX4_open wsX4_open rmX [.ref D.1, .int a1] (W7 Γ D x) (W7 Γ D u) f) : MI l Γ yL_open wsL_open ({ frames := 10, cells := 0, slots := 0, locals := 340 }) [.ref D.1, .int a1] (W7 Γ D x) (W7 Γ D u) f := by
  intro sz
  refine va_MetW (cc := cL_open) (maxL := 3) (ret := (some .int)) (hh := [(0, 5, 6, 36)]) (by decide) rfl ?_
  intro p e s m args below meth c s₁ B hml hv
  obtain ⟨rfl, hsz, hP, hK, hD0, hAm⟩ := hv
  have hx := B.exec
  have hb := B.bytes
  have hr := B.returns
  have hts := atoms_spec (ws := wsL_open) B.pre
  have hown : s.vm.findClass RL = some m.cls := findClass_of_methodNamed B.named
  subst hsz
  have hD := hD0.self (sz := s.heap.size)
  generalize hAe : va_A (wcat (W7 Γ D x)) s.heap.size = A at hD hAm ⊢
  have hA : ∀ q : Nat, s.heap.size ≤ q → A q := fun q h => by rw [← hAe]; exact Or.inr h
  have hAB : ∀ q : Nat, A q → A q := fun _ h => h
  have hS : va_S A s.heap s.heap [] := va_S.rf
  have hl := lv_entry ([.ref D.1, .int a1]) (n := 3) (Nat.le_of_ble_eq_true rfl)
  rw [lg_entry_eq]
  generalize (lg_sl ([.ref D.1, .int a1]) ++ List.replicate (3 - (lg_sl ([.ref D.1, .int a1])).length) Slot.unset).toArray = ls at hl ⊢
  have hl : lv_has ls 3 [(0, .ref D.1), (1, .int a1)] := hl
  refine lv_aload_n hx hb dL_open_0 rfl (lv_at hl 0 rfl) ?_
  refine lv_iload_n hx hb dL_open_1 rfl (lv_at hl 1 rfl) ?_
  refine cMI (bc' := W7 Γ D u) (va_runV (As := [.int a1]) (rest := []) ⟨hx, hb, hml, hown, hts⟩ (hM _) (cwV 1 hts gL_open_X4_open rfl hrc hrs (by decide +kernel) ⟨by show rmX.frames + 1 ≤ 10; omega, by show 8 + (_ + 11) + rmX.locals ≤ 340; omega⟩) ⟨wPre_blind, va_recv hK hP (ci := 4) (q0 := 0) rfl rfl, wPre_mk hP hD hK hS hA hAB hAm [0, 1, 2, 3, 4, 5, 6] rfl rfl⟩ rfl rfl hl.1 rfl (lv_room (Nat.le_of_ble_eq_true rfl)) dL_open_2 ⟨Nat.zero_le _, Nat.zero_le _⟩) hP hD hS hA [0, 1, 2, 3, 4, 5, 6] rfl W7_ad (bs' := W7 Γ D u) rfl (fun H locs hP hD hS => ?_)
  exact W.iret (v := f) hx hb hr (fun t ht hW => eMI hP hS ht rfl) hS.2.2 dL_open_5
set_option maxHeartbeats 4000000 in
set_option maxRecDepth 100000 in
theorem xL_open_1 (l : Launch) (Γ : wG) (D : AD) (a1 : Int32) (x : ST) (rmX : Room) (hrf : rmX.frames ≤ 9) (hrl : rmX.locals ≤ 300) (hrc : rmX.cells = 1) (hrs : rmX.slots = 6) (hX : TX l Γ yX4_open wsX4_open rmX [.ref D.1, .int a1] (W7 Γ D x) "java/lang/IllegalArgumentException") : MJ l Γ yL_open wsL_open ({ frames := 10, cells := 1, slots := 6, locals := 340 }) [.ref D.1, .int a1] (W7 Γ D x) (W7 Γ D x) (-2000001) := by
  intro sz
  refine va_MetW (cc := cL_open) (maxL := 3) (ret := (some .int)) (hh := [(0, 5, 6, 36)]) (by decide) rfl ?_
  intro p e s m args below meth c s₁ B hml hv
  obtain ⟨rfl, hsz, hP, hK, hD0, hAm⟩ := hv
  have hx := B.exec
  have hb := B.bytes
  have hr := B.returns
  have hts := atoms_spec (ws := wsL_open) B.pre
  have hown : s.vm.findClass RL = some m.cls := findClass_of_methodNamed B.named
  subst hsz
  have hD := hD0.self (sz := s.heap.size)
  generalize hAe : va_A (wcat (W7 Γ D x)) s.heap.size = A at hD hAm ⊢
  have hA : ∀ q : Nat, s.heap.size ≤ q → A q := fun q h => by rw [← hAe]; exact Or.inr h
  have hAB : ∀ q : Nat, A q → A q := fun _ h => h
  have hS : va_S A s.heap s.heap [] := va_S.rf
  have hl := lv_entry ([.ref D.1, .int a1]) (n := 3) (Nat.le_of_ble_eq_true rfl)
  rw [lg_entry_eq]
  generalize (lg_sl ([.ref D.1, .int a1]) ++ List.replicate (3 - (lg_sl ([.ref D.1, .int a1])).length) Slot.unset).toArray = ls at hl ⊢
  have hl : lv_has ls 3 [(0, .ref D.1), (1, .int a1)] := hl
  refine lv_aload_n hx hb dL_open_0 rfl (lv_at hl 0 rfl) ?_
  refine lv_iload_n hx hb dL_open_1 rfl (lv_at hl 1 rfl) ?_
  refine cTX (vx_runV (As := [.int a1]) (rest := []) ⟨hx, hb, hml, hown, hts⟩ (hX _) (cwV 1 hts gL_open_X4_open rfl hrc hrs (by decide +kernel) ⟨by show rmX.frames + 1 ≤ 10; omega, by show 8 + (_ + 11) + rmX.locals ≤ 340; omega⟩) ⟨wPre_blind, va_recv hK hP (ci := 4) (q0 := 0) rfl rfl, wPre_mk hP hD hK hS hA hAB hAm [0, 1, 2, 3, 4, 5, 6] rfl rfl⟩ rfl rfl hl.1 rfl (lv_room (Nat.le_of_ble_eq_true rfl)) dL_open_2 ⟨Nat.le_of_ble_eq_true rfl, Nat.le_of_ble_eq_true rfl⟩) hS hA (fun ce q9 H1 locs1 hz hk hS1 hce hcv hcl => ?_)
  have hP1 : va_P Γ.1 vwCl (wcat (W7 Γ D x)) H1 := hP.kept (fun k x hx => hk x.1 (hP k x hx).lt)
  refine vx_catch (name := "java/lang/IllegalArgumentException") hown [] ⟨0, 5, 6, 36⟩ [] (by rw [vx_table (x := yL_open) (y := yL_open) B (hts (.codeWith yL_open cL_open 3 (some .int) [(0, 5, 6, 36)]) List.mem_cons_self)]; rfl) (fun z hz => by cases hz) (by decide) (by decide) (hts (.classLink RL 36 "java/lang/IllegalArgumentException") (by decide +kernel)) (hAm.cast (by decide +kernel)) hce hcv hcl ?_
  refine lv_astore_n (lv' := [(2, .ref q9), (0, .ref D.1), (1, .int a1)]) hx hb dL_open_6 rfl hl (by decide) rfl (fun ls hl => ?_)
  refine lv_ldc hx hb hown (hts (.constant RL 17 (-2000001)) (by decide +kernel)) dL_open_7 ?_
  exact W.iret (v := -2000001) hx hb hr (fun t ht hW => eMI hP1 hS1 ht rfl) hS1.2.2 dL_open_9
set_option maxHeartbeats 4000000 in
set_option maxRecDepth 100000 in
theorem sL_append (l : Launch) (Γ : wG) (D : AD) (a1 : Int32) (x u : ST) (f : Int32) (rmX : Room) (hrf : rmX.frames ≤ 9) (hrl : rmX.locals ≤ 300) (hrc : rmX.cells = 0) (hrs : rmX.slots = 0) (hM : MI l Γ yX4_append wsX4_append rmX [.ref D.1, .int a1] (W7 Γ D x) (W7 Γ D u) f) : MI l Γ yL_append wsL_append ({ frames := 10, cells := 0, slots := 0, locals := 340 }) [.ref D.1, .int a1] (W7 Γ D x) (W7 Γ D u) f := by
  intro sz
  refine va_MetW (cc := cL_append) (maxL := 3) (ret := (some .int)) (hh := [(0, 5, 6, 36), (0, 5, 10, 15)]) (by decide) rfl ?_
  intro p e s m args below meth c s₁ B hml hv
  obtain ⟨rfl, hsz, hP, hK, hD0, hAm⟩ := hv
  have hx := B.exec
  have hb := B.bytes
  have hr := B.returns
  have hts := atoms_spec (ws := wsL_append) B.pre
  have hown : s.vm.findClass RL = some m.cls := findClass_of_methodNamed B.named
  subst hsz
  have hD := hD0.self (sz := s.heap.size)
  generalize hAe : va_A (wcat (W7 Γ D x)) s.heap.size = A at hD hAm ⊢
  have hA : ∀ q : Nat, s.heap.size ≤ q → A q := fun q h => by rw [← hAe]; exact Or.inr h
  have hAB : ∀ q : Nat, A q → A q := fun _ h => h
  have hS : va_S A s.heap s.heap [] := va_S.rf
  have hl := lv_entry ([.ref D.1, .int a1]) (n := 3) (Nat.le_of_ble_eq_true rfl)
  rw [lg_entry_eq]
  generalize (lg_sl ([.ref D.1, .int a1]) ++ List.replicate (3 - (lg_sl ([.ref D.1, .int a1])).length) Slot.unset).toArray = ls at hl ⊢
  have hl : lv_has ls 3 [(0, .ref D.1), (1, .int a1)] := hl
  refine lv_aload_n hx hb dL_append_0 rfl (lv_at hl 0 rfl) ?_
  refine lv_iload_n hx hb dL_append_1 rfl (lv_at hl 1 rfl) ?_
  refine cMI (bc' := W7 Γ D u) (va_runV (As := [.int a1]) (rest := []) ⟨hx, hb, hml, hown, hts⟩ (hM _) (cwV 1 hts gL_append_X4_append rfl hrc hrs (by decide +kernel) ⟨by show rmX.frames + 1 ≤ 10; omega, by show 8 + (_ + 11) + rmX.locals ≤ 340; omega⟩) ⟨wPre_blind, va_recv hK hP (ci := 4) (q0 := 0) rfl rfl, wPre_mk hP hD hK hS hA hAB hAm [0, 1, 2, 3, 4, 5, 6] rfl rfl⟩ rfl rfl hl.1 rfl (lv_room (Nat.le_of_ble_eq_true rfl)) dL_append_2 ⟨Nat.zero_le _, Nat.zero_le _⟩) hP hD hS hA [0, 1, 2, 3, 4, 5, 6] rfl W7_ad (bs' := W7 Γ D u) rfl (fun H locs hP hD hS => ?_)
  exact W.iret (v := f) hx hb hr (fun t ht hW => eMI hP hS ht rfl) hS.2.2 dL_append_5
set_option maxHeartbeats 4000000 in
set_option maxRecDepth 100000 in
theorem xL_append_1 (l : Launch) (Γ : wG) (D : AD) (a1 : Int32) (x : ST) (rmX : Room) (hrf : rmX.frames ≤ 9) (hrl : rmX.locals ≤ 300) (hrc : rmX.cells = 1) (hrs : rmX.slots = 6) (hX : TX l Γ yX4_append wsX4_append rmX [.ref D.1, .int a1] (W7 Γ D x) "java/lang/IllegalArgumentException") : MJ l Γ yL_append wsL_append ({ frames := 10, cells := 1, slots := 6, locals := 340 }) [.ref D.1, .int a1] (W7 Γ D x) (W7 Γ D x) (-2000001) := by
  intro sz
  refine va_MetW (cc := cL_append) (maxL := 3) (ret := (some .int)) (hh := [(0, 5, 6, 36), (0, 5, 10, 15)]) (by decide) rfl ?_
  intro p e s m args below meth c s₁ B hml hv
  obtain ⟨rfl, hsz, hP, hK, hD0, hAm⟩ := hv
  have hx := B.exec
  have hb := B.bytes
  have hr := B.returns
  have hts := atoms_spec (ws := wsL_append) B.pre
  have hown : s.vm.findClass RL = some m.cls := findClass_of_methodNamed B.named
  subst hsz
  have hD := hD0.self (sz := s.heap.size)
  generalize hAe : va_A (wcat (W7 Γ D x)) s.heap.size = A at hD hAm ⊢
  have hA : ∀ q : Nat, s.heap.size ≤ q → A q := fun q h => by rw [← hAe]; exact Or.inr h
  have hAB : ∀ q : Nat, A q → A q := fun _ h => h
  have hS : va_S A s.heap s.heap [] := va_S.rf
  have hl := lv_entry ([.ref D.1, .int a1]) (n := 3) (Nat.le_of_ble_eq_true rfl)
  rw [lg_entry_eq]
  generalize (lg_sl ([.ref D.1, .int a1]) ++ List.replicate (3 - (lg_sl ([.ref D.1, .int a1])).length) Slot.unset).toArray = ls at hl ⊢
  have hl : lv_has ls 3 [(0, .ref D.1), (1, .int a1)] := hl
  refine lv_aload_n hx hb dL_append_0 rfl (lv_at hl 0 rfl) ?_
  refine lv_iload_n hx hb dL_append_1 rfl (lv_at hl 1 rfl) ?_
  refine cTX (vx_runV (As := [.int a1]) (rest := []) ⟨hx, hb, hml, hown, hts⟩ (hX _) (cwV 1 hts gL_append_X4_append rfl hrc hrs (by decide +kernel) ⟨by show rmX.frames + 1 ≤ 10; omega, by show 8 + (_ + 11) + rmX.locals ≤ 340; omega⟩) ⟨wPre_blind, va_recv hK hP (ci := 4) (q0 := 0) rfl rfl, wPre_mk hP hD hK hS hA hAB hAm [0, 1, 2, 3, 4, 5, 6] rfl rfl⟩ rfl rfl hl.1 rfl (lv_room (Nat.le_of_ble_eq_true rfl)) dL_append_2 ⟨Nat.le_of_ble_eq_true rfl, Nat.le_of_ble_eq_true rfl⟩) hS hA (fun ce q9 H1 locs1 hz hk hS1 hce hcv hcl => ?_)
  have hP1 : va_P Γ.1 vwCl (wcat (W7 Γ D x)) H1 := hP.kept (fun k x hx => hk x.1 (hP k x hx).lt)
  refine vx_catch (name := "java/lang/IllegalArgumentException") hown [] ⟨0, 5, 6, 36⟩ [⟨0, 5, 10, 15⟩] (by rw [vx_table (x := yL_append) (y := yL_append) B (hts (.codeWith yL_append cL_append 3 (some .int) [(0, 5, 6, 36), (0, 5, 10, 15)]) List.mem_cons_self)]; rfl) (fun z hz => by cases hz) (by decide) (by decide) (hts (.classLink RL 36 "java/lang/IllegalArgumentException") (by decide +kernel)) (hAm.cast (by decide +kernel)) hce hcv hcl ?_
  refine lv_astore_n (lv' := [(2, .ref q9), (0, .ref D.1), (1, .int a1)]) hx hb dL_append_6 rfl hl (by decide) rfl (fun ls hl => ?_)
  refine lv_ldc hx hb hown (hts (.constant RL 17 (-2000001)) (by decide +kernel)) dL_append_7 ?_
  exact W.iret (v := -2000001) hx hb hr (fun t ht hW => eMI hP1 hS1 ht rfl) hS1.2.2 dL_append_9
set_option maxHeartbeats 4000000 in
set_option maxRecDepth 100000 in
theorem xL_append_2 (l : Launch) (Γ : wG) (D : AD) (a1 : Int32) (x : ST) (rmX : Room) (hrf : rmX.frames ≤ 9) (hrl : rmX.locals ≤ 300) (hrc : rmX.cells = 1) (hrs : rmX.slots = 6) (hX : TX l Γ yX4_append wsX4_append rmX [.ref D.1, .int a1] (W7 Γ D x) "java/lang/IllegalStateException") : MJ l Γ yL_append wsL_append ({ frames := 10, cells := 1, slots := 6, locals := 340 }) [.ref D.1, .int a1] (W7 Γ D x) (W7 Γ D x) (-2000002) := by
  intro sz
  refine va_MetW (cc := cL_append) (maxL := 3) (ret := (some .int)) (hh := [(0, 5, 6, 36), (0, 5, 10, 15)]) (by decide) rfl ?_
  intro p e s m args below meth c s₁ B hml hv
  obtain ⟨rfl, hsz, hP, hK, hD0, hAm⟩ := hv
  have hx := B.exec
  have hb := B.bytes
  have hr := B.returns
  have hts := atoms_spec (ws := wsL_append) B.pre
  have hown : s.vm.findClass RL = some m.cls := findClass_of_methodNamed B.named
  subst hsz
  have hD := hD0.self (sz := s.heap.size)
  generalize hAe : va_A (wcat (W7 Γ D x)) s.heap.size = A at hD hAm ⊢
  have hA : ∀ q : Nat, s.heap.size ≤ q → A q := fun q h => by rw [← hAe]; exact Or.inr h
  have hAB : ∀ q : Nat, A q → A q := fun _ h => h
  have hS : va_S A s.heap s.heap [] := va_S.rf
  have hl := lv_entry ([.ref D.1, .int a1]) (n := 3) (Nat.le_of_ble_eq_true rfl)
  rw [lg_entry_eq]
  generalize (lg_sl ([.ref D.1, .int a1]) ++ List.replicate (3 - (lg_sl ([.ref D.1, .int a1])).length) Slot.unset).toArray = ls at hl ⊢
  have hl : lv_has ls 3 [(0, .ref D.1), (1, .int a1)] := hl
  refine lv_aload_n hx hb dL_append_0 rfl (lv_at hl 0 rfl) ?_
  refine lv_iload_n hx hb dL_append_1 rfl (lv_at hl 1 rfl) ?_
  refine cTX (vx_runV (As := [.int a1]) (rest := []) ⟨hx, hb, hml, hown, hts⟩ (hX _) (cwV 1 hts gL_append_X4_append rfl hrc hrs (by decide +kernel) ⟨by show rmX.frames + 1 ≤ 10; omega, by show 8 + (_ + 11) + rmX.locals ≤ 340; omega⟩) ⟨wPre_blind, va_recv hK hP (ci := 4) (q0 := 0) rfl rfl, wPre_mk hP hD hK hS hA hAB hAm [0, 1, 2, 3, 4, 5, 6] rfl rfl⟩ rfl rfl hl.1 rfl (lv_room (Nat.le_of_ble_eq_true rfl)) dL_append_2 ⟨Nat.le_of_ble_eq_true rfl, Nat.le_of_ble_eq_true rfl⟩) hS hA (fun ce q9 H1 locs1 hz hk hS1 hce hcv hcl => ?_)
  have hP1 : va_P Γ.1 vwCl (wcat (W7 Γ D x)) H1 := hP.kept (fun k x hx => hk x.1 (hP k x hx).lt)
  refine vx_catch (name := "java/lang/IllegalStateException") hown [⟨0, 5, 6, 36⟩] ⟨0, 5, 10, 15⟩ [] (by rw [vx_table (x := yL_append) (y := yL_append) B (hts (.codeWith yL_append cL_append 3 (some .int) [(0, 5, 6, 36), (0, 5, 10, 15)]) List.mem_cons_self)]; rfl) (fun z hz => by obtain rfl : z = ⟨0, 5, 6, 36⟩ := (by simpa using hz); exact Or.inr ⟨by decide, "java/lang/IllegalArgumentException", hts (.classLink RL 36 "java/lang/IllegalArgumentException") (by decide +kernel), hAm.nc (by decide +kernel) (by decide +kernel) (by decide +kernel)⟩) (by decide) (by decide) (hts (.classLink RL 15 "java/lang/IllegalStateException") (by decide +kernel)) (hAm.cast (by decide +kernel)) hce hcv hcl ?_
  refine lv_astore_n (lv' := [(2, .ref q9), (0, .ref D.1), (1, .int a1)]) hx hb dL_append_10 rfl hl (by decide) rfl (fun ls hl => ?_)
  refine lv_ldc hx hb hown (hts (.constant RL 24 (-2000002)) (by decide +kernel)) dL_append_11 ?_
  exact W.iret (v := -2000002) hx hb hr (fun t ht hW => eMI hP1 hS1 ht rfl) hS1.2.2 dL_append_13
set_option maxHeartbeats 4000000 in
set_option maxRecDepth 100000 in
theorem sL_live (l : Launch) (Γ : wG) (D : AD) (x u : ST) (f : Int32) (rmX : Room) (hrf : rmX.frames ≤ 9) (hrl : rmX.locals ≤ 300) (hrc : rmX.cells = 0) (hrs : rmX.slots = 0) (hM : MI l Γ yX4_live wsX4_live rmX [.ref D.1] (W7 Γ D x) (W7 Γ D u) f) : MI l Γ yL_live wsL_live ({ frames := 10, cells := 0, slots := 0, locals := 340 }) [.ref D.1] (W7 Γ D x) (W7 Γ D u) f := by
  intro sz
  refine va_MetW (cc := cL_live) (maxL := 2) (ret := (some .int)) (hh := [(0, 4, 5, 36)]) (by decide) rfl ?_
  intro p e s m args below meth c s₁ B hml hv
  obtain ⟨rfl, hsz, hP, hK, hD0, hAm⟩ := hv
  have hx := B.exec
  have hb := B.bytes
  have hr := B.returns
  have hts := atoms_spec (ws := wsL_live) B.pre
  have hown : s.vm.findClass RL = some m.cls := findClass_of_methodNamed B.named
  subst hsz
  have hD := hD0.self (sz := s.heap.size)
  generalize hAe : va_A (wcat (W7 Γ D x)) s.heap.size = A at hD hAm ⊢
  have hA : ∀ q : Nat, s.heap.size ≤ q → A q := fun q h => by rw [← hAe]; exact Or.inr h
  have hAB : ∀ q : Nat, A q → A q := fun _ h => h
  have hS : va_S A s.heap s.heap [] := va_S.rf
  have hl := lv_entry ([.ref D.1]) (n := 2) (Nat.le_of_ble_eq_true rfl)
  rw [lg_entry_eq]
  generalize (lg_sl ([.ref D.1]) ++ List.replicate (2 - (lg_sl ([.ref D.1])).length) Slot.unset).toArray = ls at hl ⊢
  have hl : lv_has ls 2 [(0, .ref D.1)] := hl
  refine lv_aload_n hx hb dL_live_0 rfl (lv_at hl 0 rfl) ?_
  refine cMI (bc' := W7 Γ D u) (va_runV (As := []) (rest := []) ⟨hx, hb, hml, hown, hts⟩ (hM _) (cwV 0 hts gL_live_X4_live rfl hrc hrs (by decide +kernel) ⟨by show rmX.frames + 1 ≤ 10; omega, by show 8 + (_ + 11) + rmX.locals ≤ 340; omega⟩) ⟨wPre_blind, va_recv hK hP (ci := 4) (q0 := 0) rfl rfl, wPre_mk hP hD hK hS hA hAB hAm [0, 1, 2, 3, 4, 5, 6] rfl rfl⟩ rfl rfl hl.1 rfl (lv_room (Nat.le_of_ble_eq_true rfl)) dL_live_1 ⟨Nat.zero_le _, Nat.zero_le _⟩) hP hD hS hA [0, 1, 2, 3, 4, 5, 6] rfl W7_ad (bs' := W7 Γ D u) rfl (fun H locs hP hD hS => ?_)
  exact W.iret (v := f) hx hb hr (fun t ht hW => eMI hP hS ht rfl) hS.2.2 dL_live_4
set_option maxHeartbeats 4000000 in
set_option maxRecDepth 100000 in
theorem xL_live_1 (l : Launch) (Γ : wG) (D : AD) (x : ST) (rmX : Room) (hrf : rmX.frames ≤ 9) (hrl : rmX.locals ≤ 300) (hrc : rmX.cells = 1) (hrs : rmX.slots = 6) (hX : TX l Γ yX4_live wsX4_live rmX [.ref D.1] (W7 Γ D x) "java/lang/IllegalArgumentException") : MJ l Γ yL_live wsL_live ({ frames := 10, cells := 1, slots := 6, locals := 340 }) [.ref D.1] (W7 Γ D x) (W7 Γ D x) (-2000001) := by
  intro sz
  refine va_MetW (cc := cL_live) (maxL := 2) (ret := (some .int)) (hh := [(0, 4, 5, 36)]) (by decide) rfl ?_
  intro p e s m args below meth c s₁ B hml hv
  obtain ⟨rfl, hsz, hP, hK, hD0, hAm⟩ := hv
  have hx := B.exec
  have hb := B.bytes
  have hr := B.returns
  have hts := atoms_spec (ws := wsL_live) B.pre
  have hown : s.vm.findClass RL = some m.cls := findClass_of_methodNamed B.named
  subst hsz
  have hD := hD0.self (sz := s.heap.size)
  generalize hAe : va_A (wcat (W7 Γ D x)) s.heap.size = A at hD hAm ⊢
  have hA : ∀ q : Nat, s.heap.size ≤ q → A q := fun q h => by rw [← hAe]; exact Or.inr h
  have hAB : ∀ q : Nat, A q → A q := fun _ h => h
  have hS : va_S A s.heap s.heap [] := va_S.rf
  have hl := lv_entry ([.ref D.1]) (n := 2) (Nat.le_of_ble_eq_true rfl)
  rw [lg_entry_eq]
  generalize (lg_sl ([.ref D.1]) ++ List.replicate (2 - (lg_sl ([.ref D.1])).length) Slot.unset).toArray = ls at hl ⊢
  have hl : lv_has ls 2 [(0, .ref D.1)] := hl
  refine lv_aload_n hx hb dL_live_0 rfl (lv_at hl 0 rfl) ?_
  refine cTX (vx_runV (As := []) (rest := []) ⟨hx, hb, hml, hown, hts⟩ (hX _) (cwV 0 hts gL_live_X4_live rfl hrc hrs (by decide +kernel) ⟨by show rmX.frames + 1 ≤ 10; omega, by show 8 + (_ + 11) + rmX.locals ≤ 340; omega⟩) ⟨wPre_blind, va_recv hK hP (ci := 4) (q0 := 0) rfl rfl, wPre_mk hP hD hK hS hA hAB hAm [0, 1, 2, 3, 4, 5, 6] rfl rfl⟩ rfl rfl hl.1 rfl (lv_room (Nat.le_of_ble_eq_true rfl)) dL_live_1 ⟨Nat.le_of_ble_eq_true rfl, Nat.le_of_ble_eq_true rfl⟩) hS hA (fun ce q9 H1 locs1 hz hk hS1 hce hcv hcl => ?_)
  have hP1 : va_P Γ.1 vwCl (wcat (W7 Γ D x)) H1 := hP.kept (fun k x hx => hk x.1 (hP k x hx).lt)
  refine vx_catch (name := "java/lang/IllegalArgumentException") hown [] ⟨0, 4, 5, 36⟩ [] (by rw [vx_table (x := yL_live) (y := yL_live) B (hts (.codeWith yL_live cL_live 2 (some .int) [(0, 4, 5, 36)]) List.mem_cons_self)]; rfl) (fun z hz => by cases hz) (by decide) (by decide) (hts (.classLink RL 36 "java/lang/IllegalArgumentException") (by decide +kernel)) (hAm.cast (by decide +kernel)) hce hcv hcl ?_
  refine lv_astore_n (lv' := [(1, .ref q9), (0, .ref D.1)]) hx hb dL_live_5 rfl hl (by decide) rfl (fun ls hl => ?_)
  refine lv_ldc hx hb hown (hts (.constant RL 17 (-2000001)) (by decide +kernel)) dL_live_6 ?_
  exact W.iret (v := -2000001) hx hb hr (fun t ht hW => eMI hP1 hS1 ht rfl) hS1.2.2 dL_live_8
set_option maxHeartbeats 4000000 in
set_option maxRecDepth 100000 in
theorem sL_undo (l : Launch) (Γ : wG) (D : AD) (x u : ST) (f : Int32) (rmX : Room) (hrf : rmX.frames ≤ 9) (hrl : rmX.locals ≤ 300) (hrc : rmX.cells = 0) (hrs : rmX.slots = 0) (hM : MI l Γ yX4_undo wsX4_undo rmX [.ref D.1] (W7 Γ D x) (W7 Γ D u) f) : MI l Γ yL_undo wsL_undo ({ frames := 10, cells := 0, slots := 0, locals := 340 }) [.ref D.1] (W7 Γ D x) (W7 Γ D u) f := by
  intro sz
  refine va_MetW (cc := cL_undo) (maxL := 2) (ret := (some .int)) (hh := [(0, 4, 5, 15)]) (by decide) rfl ?_
  intro p e s m args below meth c s₁ B hml hv
  obtain ⟨rfl, hsz, hP, hK, hD0, hAm⟩ := hv
  have hx := B.exec
  have hb := B.bytes
  have hr := B.returns
  have hts := atoms_spec (ws := wsL_undo) B.pre
  have hown : s.vm.findClass RL = some m.cls := findClass_of_methodNamed B.named
  subst hsz
  have hD := hD0.self (sz := s.heap.size)
  generalize hAe : va_A (wcat (W7 Γ D x)) s.heap.size = A at hD hAm ⊢
  have hA : ∀ q : Nat, s.heap.size ≤ q → A q := fun q h => by rw [← hAe]; exact Or.inr h
  have hAB : ∀ q : Nat, A q → A q := fun _ h => h
  have hS : va_S A s.heap s.heap [] := va_S.rf
  have hl := lv_entry ([.ref D.1]) (n := 2) (Nat.le_of_ble_eq_true rfl)
  rw [lg_entry_eq]
  generalize (lg_sl ([.ref D.1]) ++ List.replicate (2 - (lg_sl ([.ref D.1])).length) Slot.unset).toArray = ls at hl ⊢
  have hl : lv_has ls 2 [(0, .ref D.1)] := hl
  refine lv_aload_n hx hb dL_undo_0 rfl (lv_at hl 0 rfl) ?_
  refine cMI (bc' := W7 Γ D u) (va_runV (As := []) (rest := []) ⟨hx, hb, hml, hown, hts⟩ (hM _) (cwV 0 hts gL_undo_X4_undo rfl hrc hrs (by decide +kernel) ⟨by show rmX.frames + 1 ≤ 10; omega, by show 8 + (_ + 11) + rmX.locals ≤ 340; omega⟩) ⟨wPre_blind, va_recv hK hP (ci := 4) (q0 := 0) rfl rfl, wPre_mk hP hD hK hS hA hAB hAm [0, 1, 2, 3, 4, 5, 6] rfl rfl⟩ rfl rfl hl.1 rfl (lv_room (Nat.le_of_ble_eq_true rfl)) dL_undo_1 ⟨Nat.zero_le _, Nat.zero_le _⟩) hP hD hS hA [0, 1, 2, 3, 4, 5, 6] rfl W7_ad (bs' := W7 Γ D u) rfl (fun H locs hP hD hS => ?_)
  exact W.iret (v := f) hx hb hr (fun t ht hW => eMI hP hS ht rfl) hS.2.2 dL_undo_4
set_option maxHeartbeats 4000000 in
set_option maxRecDepth 100000 in
theorem xL_undo_1 (l : Launch) (Γ : wG) (D : AD) (x : ST) (rmX : Room) (hrf : rmX.frames ≤ 9) (hrl : rmX.locals ≤ 300) (hrc : rmX.cells = 1) (hrs : rmX.slots = 6) (hX : TX l Γ yX4_undo wsX4_undo rmX [.ref D.1] (W7 Γ D x) "java/lang/IllegalStateException") : MJ l Γ yL_undo wsL_undo ({ frames := 10, cells := 1, slots := 6, locals := 340 }) [.ref D.1] (W7 Γ D x) (W7 Γ D x) (-2000001) := by
  intro sz
  refine va_MetW (cc := cL_undo) (maxL := 2) (ret := (some .int)) (hh := [(0, 4, 5, 15)]) (by decide) rfl ?_
  intro p e s m args below meth c s₁ B hml hv
  obtain ⟨rfl, hsz, hP, hK, hD0, hAm⟩ := hv
  have hx := B.exec
  have hb := B.bytes
  have hr := B.returns
  have hts := atoms_spec (ws := wsL_undo) B.pre
  have hown : s.vm.findClass RL = some m.cls := findClass_of_methodNamed B.named
  subst hsz
  have hD := hD0.self (sz := s.heap.size)
  generalize hAe : va_A (wcat (W7 Γ D x)) s.heap.size = A at hD hAm ⊢
  have hA : ∀ q : Nat, s.heap.size ≤ q → A q := fun q h => by rw [← hAe]; exact Or.inr h
  have hAB : ∀ q : Nat, A q → A q := fun _ h => h
  have hS : va_S A s.heap s.heap [] := va_S.rf
  have hl := lv_entry ([.ref D.1]) (n := 2) (Nat.le_of_ble_eq_true rfl)
  rw [lg_entry_eq]
  generalize (lg_sl ([.ref D.1]) ++ List.replicate (2 - (lg_sl ([.ref D.1])).length) Slot.unset).toArray = ls at hl ⊢
  have hl : lv_has ls 2 [(0, .ref D.1)] := hl
  refine lv_aload_n hx hb dL_undo_0 rfl (lv_at hl 0 rfl) ?_
  refine cTX (vx_runV (As := []) (rest := []) ⟨hx, hb, hml, hown, hts⟩ (hX _) (cwV 0 hts gL_undo_X4_undo rfl hrc hrs (by decide +kernel) ⟨by show rmX.frames + 1 ≤ 10; omega, by show 8 + (_ + 11) + rmX.locals ≤ 340; omega⟩) ⟨wPre_blind, va_recv hK hP (ci := 4) (q0 := 0) rfl rfl, wPre_mk hP hD hK hS hA hAB hAm [0, 1, 2, 3, 4, 5, 6] rfl rfl⟩ rfl rfl hl.1 rfl (lv_room (Nat.le_of_ble_eq_true rfl)) dL_undo_1 ⟨Nat.le_of_ble_eq_true rfl, Nat.le_of_ble_eq_true rfl⟩) hS hA (fun ce q9 H1 locs1 hz hk hS1 hce hcv hcl => ?_)
  have hP1 : va_P Γ.1 vwCl (wcat (W7 Γ D x)) H1 := hP.kept (fun k x hx => hk x.1 (hP k x hx).lt)
  refine vx_catch (name := "java/lang/IllegalStateException") hown [] ⟨0, 4, 5, 15⟩ [] (by rw [vx_table (x := yL_undo) (y := yL_undo) B (hts (.codeWith yL_undo cL_undo 2 (some .int) [(0, 4, 5, 15)]) List.mem_cons_self)]; rfl) (fun z hz => by cases hz) (by decide) (by decide) (hts (.classLink RL 15 "java/lang/IllegalStateException") (by decide +kernel)) (hAm.cast (by decide +kernel)) hce hcv hcl ?_
  refine lv_astore_n (lv' := [(1, .ref q9), (0, .ref D.1)]) hx hb dL_undo_5 rfl hl (by decide) rfl (fun ls hl => ?_)
  refine lv_ldc hx hb hown (hts (.constant RL 17 (-2000001)) (by decide +kernel)) dL_undo_6 ?_
  exact W.iret (v := -2000001) hx hb hr (fun t ht hW => eMI hP1 hS1 ht rfl) hS1.2.2 dL_undo_8
set_option maxHeartbeats 4000000 in
set_option maxRecDepth 100000 in
theorem sL_keeperOf (l : Launch) (Γ : wG) (D : AD) (a1 : Int32) (a2 : Int32) (x u : ST) (f : Int32) (rmX : Room) (hrf : rmX.frames ≤ 9) (hrl : rmX.locals ≤ 300) (hrc : rmX.cells = 0) (hrs : rmX.slots = 0) (hM : MI l Γ yX4_keeperOf wsX4_keeperOf rmX [.ref D.1, .int a1, .int a2] (W7 Γ D x) (W7 Γ D u) f) : MI l Γ yL_keeperOf wsL_keeperOf ({ frames := 10, cells := 0, slots := 0, locals := 340 }) [.ref D.1, .int a1, .int a2] (W7 Γ D x) (W7 Γ D u) f := by
  intro sz
  refine va_MetW (cc := cL_keeperOf) (maxL := 4) (ret := (some .int)) (hh := [(0, 6, 7, 22), (0, 6, 11, 36)]) (by decide) rfl ?_
  intro p e s m args below meth c s₁ B hml hv
  obtain ⟨rfl, hsz, hP, hK, hD0, hAm⟩ := hv
  have hx := B.exec
  have hb := B.bytes
  have hr := B.returns
  have hts := atoms_spec (ws := wsL_keeperOf) B.pre
  have hown : s.vm.findClass RL = some m.cls := findClass_of_methodNamed B.named
  subst hsz
  have hD := hD0.self (sz := s.heap.size)
  generalize hAe : va_A (wcat (W7 Γ D x)) s.heap.size = A at hD hAm ⊢
  have hA : ∀ q : Nat, s.heap.size ≤ q → A q := fun q h => by rw [← hAe]; exact Or.inr h
  have hAB : ∀ q : Nat, A q → A q := fun _ h => h
  have hS : va_S A s.heap s.heap [] := va_S.rf
  have hl := lv_entry ([.ref D.1, .int a1, .int a2]) (n := 4) (Nat.le_of_ble_eq_true rfl)
  rw [lg_entry_eq]
  generalize (lg_sl ([.ref D.1, .int a1, .int a2]) ++ List.replicate (4 - (lg_sl ([.ref D.1, .int a1, .int a2])).length) Slot.unset).toArray = ls at hl ⊢
  have hl : lv_has ls 4 [(0, .ref D.1), (1, .int a1), (2, .int a2)] := hl
  refine lv_aload_n hx hb dL_keeperOf_0 rfl (lv_at hl 0 rfl) ?_
  refine lv_iload_n hx hb dL_keeperOf_1 rfl (lv_at hl 1 rfl) ?_
  refine lv_iload_n hx hb dL_keeperOf_2 rfl (lv_at hl 2 rfl) ?_
  refine cMI (bc' := W7 Γ D u) (va_runV (As := [.int a1, .int a2]) (rest := []) ⟨hx, hb, hml, hown, hts⟩ (hM _) (cwV 2 hts gL_keeperOf_X4_keeperOf rfl hrc hrs (by decide +kernel) ⟨by show rmX.frames + 1 ≤ 10; omega, by show 8 + (_ + 11) + rmX.locals ≤ 340; omega⟩) ⟨wPre_blind, va_recv hK hP (ci := 4) (q0 := 0) rfl rfl, wPre_mk hP hD hK hS hA hAB hAm [0, 1, 2, 3, 4, 5, 6] rfl rfl⟩ rfl rfl hl.1 rfl (lv_room (Nat.le_of_ble_eq_true rfl)) dL_keeperOf_3 ⟨Nat.zero_le _, Nat.zero_le _⟩) hP hD hS hA [0, 1, 2, 3, 4, 5, 6] rfl W7_ad (bs' := W7 Γ D u) rfl (fun H locs hP hD hS => ?_)
  exact W.iret (v := f) hx hb hr (fun t ht hW => eMI hP hS ht rfl) hS.2.2 dL_keeperOf_6
set_option maxHeartbeats 4000000 in
set_option maxRecDepth 100000 in
theorem xL_keeperOf_1 (l : Launch) (Γ : wG) (D : AD) (a1 : Int32) (a2 : Int32) (x : ST) (rmX : Room) (hrf : rmX.frames ≤ 9) (hrl : rmX.locals ≤ 300) (hrc : rmX.cells = 1) (hrs : rmX.slots = 6) (hX : TX l Γ yX4_keeperOf wsX4_keeperOf rmX [.ref D.1, .int a1, .int a2] (W7 Γ D x) "java/lang/IndexOutOfBoundsException") : MJ l Γ yL_keeperOf wsL_keeperOf ({ frames := 10, cells := 1, slots := 6, locals := 340 }) [.ref D.1, .int a1, .int a2] (W7 Γ D x) (W7 Γ D x) (-2000001) := by
  intro sz
  refine va_MetW (cc := cL_keeperOf) (maxL := 4) (ret := (some .int)) (hh := [(0, 6, 7, 22), (0, 6, 11, 36)]) (by decide) rfl ?_
  intro p e s m args below meth c s₁ B hml hv
  obtain ⟨rfl, hsz, hP, hK, hD0, hAm⟩ := hv
  have hx := B.exec
  have hb := B.bytes
  have hr := B.returns
  have hts := atoms_spec (ws := wsL_keeperOf) B.pre
  have hown : s.vm.findClass RL = some m.cls := findClass_of_methodNamed B.named
  subst hsz
  have hD := hD0.self (sz := s.heap.size)
  generalize hAe : va_A (wcat (W7 Γ D x)) s.heap.size = A at hD hAm ⊢
  have hA : ∀ q : Nat, s.heap.size ≤ q → A q := fun q h => by rw [← hAe]; exact Or.inr h
  have hAB : ∀ q : Nat, A q → A q := fun _ h => h
  have hS : va_S A s.heap s.heap [] := va_S.rf
  have hl := lv_entry ([.ref D.1, .int a1, .int a2]) (n := 4) (Nat.le_of_ble_eq_true rfl)
  rw [lg_entry_eq]
  generalize (lg_sl ([.ref D.1, .int a1, .int a2]) ++ List.replicate (4 - (lg_sl ([.ref D.1, .int a1, .int a2])).length) Slot.unset).toArray = ls at hl ⊢
  have hl : lv_has ls 4 [(0, .ref D.1), (1, .int a1), (2, .int a2)] := hl
  refine lv_aload_n hx hb dL_keeperOf_0 rfl (lv_at hl 0 rfl) ?_
  refine lv_iload_n hx hb dL_keeperOf_1 rfl (lv_at hl 1 rfl) ?_
  refine lv_iload_n hx hb dL_keeperOf_2 rfl (lv_at hl 2 rfl) ?_
  refine cTX (vx_runV (As := [.int a1, .int a2]) (rest := []) ⟨hx, hb, hml, hown, hts⟩ (hX _) (cwV 2 hts gL_keeperOf_X4_keeperOf rfl hrc hrs (by decide +kernel) ⟨by show rmX.frames + 1 ≤ 10; omega, by show 8 + (_ + 11) + rmX.locals ≤ 340; omega⟩) ⟨wPre_blind, va_recv hK hP (ci := 4) (q0 := 0) rfl rfl, wPre_mk hP hD hK hS hA hAB hAm [0, 1, 2, 3, 4, 5, 6] rfl rfl⟩ rfl rfl hl.1 rfl (lv_room (Nat.le_of_ble_eq_true rfl)) dL_keeperOf_3 ⟨Nat.le_of_ble_eq_true rfl, Nat.le_of_ble_eq_true rfl⟩) hS hA (fun ce q9 H1 locs1 hz hk hS1 hce hcv hcl => ?_)
  have hP1 : va_P Γ.1 vwCl (wcat (W7 Γ D x)) H1 := hP.kept (fun k x hx => hk x.1 (hP k x hx).lt)
  refine vx_catch (name := "java/lang/IndexOutOfBoundsException") hown [] ⟨0, 6, 7, 22⟩ [⟨0, 6, 11, 36⟩] (by rw [vx_table (x := yL_keeperOf) (y := yL_keeperOf) B (hts (.codeWith yL_keeperOf cL_keeperOf 4 (some .int) [(0, 6, 7, 22), (0, 6, 11, 36)]) List.mem_cons_self)]; rfl) (fun z hz => by cases hz) (by decide) (by decide) (hts (.classLink RL 22 "java/lang/IndexOutOfBoundsException") (by decide +kernel)) (hAm.cast (by decide +kernel)) hce hcv hcl ?_
  refine lv_astore_n (lv' := [(3, .ref q9), (0, .ref D.1), (1, .int a1), (2, .int a2)]) hx hb dL_keeperOf_7 rfl hl (by decide) rfl (fun ls hl => ?_)
  refine lv_ldc hx hb hown (hts (.constant RL 17 (-2000001)) (by decide +kernel)) dL_keeperOf_8 ?_
  exact W.iret (v := -2000001) hx hb hr (fun t ht hW => eMI hP1 hS1 ht rfl) hS1.2.2 dL_keeperOf_10
set_option maxHeartbeats 4000000 in
set_option maxRecDepth 100000 in
theorem xL_keeperOf_2 (l : Launch) (Γ : wG) (D : AD) (a1 : Int32) (a2 : Int32) (x : ST) (rmX : Room) (hrf : rmX.frames ≤ 9) (hrl : rmX.locals ≤ 300) (hrc : rmX.cells = 1) (hrs : rmX.slots = 6) (hX : TX l Γ yX4_keeperOf wsX4_keeperOf rmX [.ref D.1, .int a1, .int a2] (W7 Γ D x) "java/lang/IllegalArgumentException") : MJ l Γ yL_keeperOf wsL_keeperOf ({ frames := 10, cells := 1, slots := 6, locals := 340 }) [.ref D.1, .int a1, .int a2] (W7 Γ D x) (W7 Γ D x) (-2000002) := by
  intro sz
  refine va_MetW (cc := cL_keeperOf) (maxL := 4) (ret := (some .int)) (hh := [(0, 6, 7, 22), (0, 6, 11, 36)]) (by decide) rfl ?_
  intro p e s m args below meth c s₁ B hml hv
  obtain ⟨rfl, hsz, hP, hK, hD0, hAm⟩ := hv
  have hx := B.exec
  have hb := B.bytes
  have hr := B.returns
  have hts := atoms_spec (ws := wsL_keeperOf) B.pre
  have hown : s.vm.findClass RL = some m.cls := findClass_of_methodNamed B.named
  subst hsz
  have hD := hD0.self (sz := s.heap.size)
  generalize hAe : va_A (wcat (W7 Γ D x)) s.heap.size = A at hD hAm ⊢
  have hA : ∀ q : Nat, s.heap.size ≤ q → A q := fun q h => by rw [← hAe]; exact Or.inr h
  have hAB : ∀ q : Nat, A q → A q := fun _ h => h
  have hS : va_S A s.heap s.heap [] := va_S.rf
  have hl := lv_entry ([.ref D.1, .int a1, .int a2]) (n := 4) (Nat.le_of_ble_eq_true rfl)
  rw [lg_entry_eq]
  generalize (lg_sl ([.ref D.1, .int a1, .int a2]) ++ List.replicate (4 - (lg_sl ([.ref D.1, .int a1, .int a2])).length) Slot.unset).toArray = ls at hl ⊢
  have hl : lv_has ls 4 [(0, .ref D.1), (1, .int a1), (2, .int a2)] := hl
  refine lv_aload_n hx hb dL_keeperOf_0 rfl (lv_at hl 0 rfl) ?_
  refine lv_iload_n hx hb dL_keeperOf_1 rfl (lv_at hl 1 rfl) ?_
  refine lv_iload_n hx hb dL_keeperOf_2 rfl (lv_at hl 2 rfl) ?_
  refine cTX (vx_runV (As := [.int a1, .int a2]) (rest := []) ⟨hx, hb, hml, hown, hts⟩ (hX _) (cwV 2 hts gL_keeperOf_X4_keeperOf rfl hrc hrs (by decide +kernel) ⟨by show rmX.frames + 1 ≤ 10; omega, by show 8 + (_ + 11) + rmX.locals ≤ 340; omega⟩) ⟨wPre_blind, va_recv hK hP (ci := 4) (q0 := 0) rfl rfl, wPre_mk hP hD hK hS hA hAB hAm [0, 1, 2, 3, 4, 5, 6] rfl rfl⟩ rfl rfl hl.1 rfl (lv_room (Nat.le_of_ble_eq_true rfl)) dL_keeperOf_3 ⟨Nat.le_of_ble_eq_true rfl, Nat.le_of_ble_eq_true rfl⟩) hS hA (fun ce q9 H1 locs1 hz hk hS1 hce hcv hcl => ?_)
  have hP1 : va_P Γ.1 vwCl (wcat (W7 Γ D x)) H1 := hP.kept (fun k x hx => hk x.1 (hP k x hx).lt)
  refine vx_catch (name := "java/lang/IllegalArgumentException") hown [⟨0, 6, 7, 22⟩] ⟨0, 6, 11, 36⟩ [] (by rw [vx_table (x := yL_keeperOf) (y := yL_keeperOf) B (hts (.codeWith yL_keeperOf cL_keeperOf 4 (some .int) [(0, 6, 7, 22), (0, 6, 11, 36)]) List.mem_cons_self)]; rfl) (fun z hz => by obtain rfl : z = ⟨0, 6, 7, 22⟩ := (by simpa using hz); exact Or.inr ⟨by decide, "java/lang/IndexOutOfBoundsException", hts (.classLink RL 22 "java/lang/IndexOutOfBoundsException") (by decide +kernel), hAm.nc (by decide +kernel) (by decide +kernel) (by decide +kernel)⟩) (by decide) (by decide) (hts (.classLink RL 36 "java/lang/IllegalArgumentException") (by decide +kernel)) (hAm.cast (by decide +kernel)) hce hcv hcl ?_
  refine lv_astore_n (lv' := [(3, .ref q9), (0, .ref D.1), (1, .int a1), (2, .int a2)]) hx hb dL_keeperOf_11 rfl hl (by decide) rfl (fun ls hl => ?_)
  refine lv_ldc hx hb hown (hts (.constant RL 24 (-2000002)) (by decide +kernel)) dL_keeperOf_12 ?_
  exact W.iret (v := -2000002) hx hb hr (fun t ht hW => eMI hP1 hS1 ht rfl) hS1.2.2 dL_keeperOf_14
set_option maxHeartbeats 4000000 in
set_option maxRecDepth 100000 in
theorem sL_share (l : Launch) (Γ : wG) (D : AD) (a1 : Int32) (a2 : Int32) (x u : ST) (f : Int32) (rmX : Room) (hrf : rmX.frames ≤ 9) (hrl : rmX.locals ≤ 300) (hrc : rmX.cells = 0) (hrs : rmX.slots = 0) (hM : MI l Γ yX4_share wsX4_share rmX [.ref D.1, .int a1, .int a2] (W7 Γ D x) (W7 Γ D u) f) : MI l Γ yL_share wsL_share ({ frames := 10, cells := 0, slots := 0, locals := 340 }) [.ref D.1, .int a1, .int a2] (W7 Γ D x) (W7 Γ D u) f := by
  intro sz
  refine va_MetW (cc := cL_share) (maxL := 4) (ret := (some .int)) (hh := [(0, 6, 7, 36)]) (by decide) rfl ?_
  intro p e s m args below meth c s₁ B hml hv
  obtain ⟨rfl, hsz, hP, hK, hD0, hAm⟩ := hv
  have hx := B.exec
  have hb := B.bytes
  have hr := B.returns
  have hts := atoms_spec (ws := wsL_share) B.pre
  have hown : s.vm.findClass RL = some m.cls := findClass_of_methodNamed B.named
  subst hsz
  have hD := hD0.self (sz := s.heap.size)
  generalize hAe : va_A (wcat (W7 Γ D x)) s.heap.size = A at hD hAm ⊢
  have hA : ∀ q : Nat, s.heap.size ≤ q → A q := fun q h => by rw [← hAe]; exact Or.inr h
  have hAB : ∀ q : Nat, A q → A q := fun _ h => h
  have hS : va_S A s.heap s.heap [] := va_S.rf
  have hl := lv_entry ([.ref D.1, .int a1, .int a2]) (n := 4) (Nat.le_of_ble_eq_true rfl)
  rw [lg_entry_eq]
  generalize (lg_sl ([.ref D.1, .int a1, .int a2]) ++ List.replicate (4 - (lg_sl ([.ref D.1, .int a1, .int a2])).length) Slot.unset).toArray = ls at hl ⊢
  have hl : lv_has ls 4 [(0, .ref D.1), (1, .int a1), (2, .int a2)] := hl
  refine lv_aload_n hx hb dL_share_0 rfl (lv_at hl 0 rfl) ?_
  refine lv_iload_n hx hb dL_share_1 rfl (lv_at hl 1 rfl) ?_
  refine lv_iload_n hx hb dL_share_2 rfl (lv_at hl 2 rfl) ?_
  refine cMI (bc' := W7 Γ D u) (va_runV (As := [.int a1, .int a2]) (rest := []) ⟨hx, hb, hml, hown, hts⟩ (hM _) (cwV 2 hts gL_share_X4_share rfl hrc hrs (by decide +kernel) ⟨by show rmX.frames + 1 ≤ 10; omega, by show 8 + (_ + 11) + rmX.locals ≤ 340; omega⟩) ⟨wPre_blind, va_recv hK hP (ci := 4) (q0 := 0) rfl rfl, wPre_mk hP hD hK hS hA hAB hAm [0, 1, 2, 3, 4, 5, 6] rfl rfl⟩ rfl rfl hl.1 rfl (lv_room (Nat.le_of_ble_eq_true rfl)) dL_share_3 ⟨Nat.zero_le _, Nat.zero_le _⟩) hP hD hS hA [0, 1, 2, 3, 4, 5, 6] rfl W7_ad (bs' := W7 Γ D u) rfl (fun H locs hP hD hS => ?_)
  exact W.iret (v := f) hx hb hr (fun t ht hW => eMI hP hS ht rfl) hS.2.2 dL_share_6
set_option maxHeartbeats 4000000 in
set_option maxRecDepth 100000 in
theorem xL_share_1 (l : Launch) (Γ : wG) (D : AD) (a1 : Int32) (a2 : Int32) (x : ST) (rmX : Room) (hrf : rmX.frames ≤ 9) (hrl : rmX.locals ≤ 300) (hrc : rmX.cells = 1) (hrs : rmX.slots = 6) (hX : TX l Γ yX4_share wsX4_share rmX [.ref D.1, .int a1, .int a2] (W7 Γ D x) "java/lang/IllegalArgumentException") : MJ l Γ yL_share wsL_share ({ frames := 10, cells := 1, slots := 6, locals := 340 }) [.ref D.1, .int a1, .int a2] (W7 Γ D x) (W7 Γ D x) (-2000001) := by
  intro sz
  refine va_MetW (cc := cL_share) (maxL := 4) (ret := (some .int)) (hh := [(0, 6, 7, 36)]) (by decide) rfl ?_
  intro p e s m args below meth c s₁ B hml hv
  obtain ⟨rfl, hsz, hP, hK, hD0, hAm⟩ := hv
  have hx := B.exec
  have hb := B.bytes
  have hr := B.returns
  have hts := atoms_spec (ws := wsL_share) B.pre
  have hown : s.vm.findClass RL = some m.cls := findClass_of_methodNamed B.named
  subst hsz
  have hD := hD0.self (sz := s.heap.size)
  generalize hAe : va_A (wcat (W7 Γ D x)) s.heap.size = A at hD hAm ⊢
  have hA : ∀ q : Nat, s.heap.size ≤ q → A q := fun q h => by rw [← hAe]; exact Or.inr h
  have hAB : ∀ q : Nat, A q → A q := fun _ h => h
  have hS : va_S A s.heap s.heap [] := va_S.rf
  have hl := lv_entry ([.ref D.1, .int a1, .int a2]) (n := 4) (Nat.le_of_ble_eq_true rfl)
  rw [lg_entry_eq]
  generalize (lg_sl ([.ref D.1, .int a1, .int a2]) ++ List.replicate (4 - (lg_sl ([.ref D.1, .int a1, .int a2])).length) Slot.unset).toArray = ls at hl ⊢
  have hl : lv_has ls 4 [(0, .ref D.1), (1, .int a1), (2, .int a2)] := hl
  refine lv_aload_n hx hb dL_share_0 rfl (lv_at hl 0 rfl) ?_
  refine lv_iload_n hx hb dL_share_1 rfl (lv_at hl 1 rfl) ?_
  refine lv_iload_n hx hb dL_share_2 rfl (lv_at hl 2 rfl) ?_
  refine cTX (vx_runV (As := [.int a1, .int a2]) (rest := []) ⟨hx, hb, hml, hown, hts⟩ (hX _) (cwV 2 hts gL_share_X4_share rfl hrc hrs (by decide +kernel) ⟨by show rmX.frames + 1 ≤ 10; omega, by show 8 + (_ + 11) + rmX.locals ≤ 340; omega⟩) ⟨wPre_blind, va_recv hK hP (ci := 4) (q0 := 0) rfl rfl, wPre_mk hP hD hK hS hA hAB hAm [0, 1, 2, 3, 4, 5, 6] rfl rfl⟩ rfl rfl hl.1 rfl (lv_room (Nat.le_of_ble_eq_true rfl)) dL_share_3 ⟨Nat.le_of_ble_eq_true rfl, Nat.le_of_ble_eq_true rfl⟩) hS hA (fun ce q9 H1 locs1 hz hk hS1 hce hcv hcl => ?_)
  have hP1 : va_P Γ.1 vwCl (wcat (W7 Γ D x)) H1 := hP.kept (fun k x hx => hk x.1 (hP k x hx).lt)
  refine vx_catch (name := "java/lang/IllegalArgumentException") hown [] ⟨0, 6, 7, 36⟩ [] (by rw [vx_table (x := yL_share) (y := yL_share) B (hts (.codeWith yL_share cL_share 4 (some .int) [(0, 6, 7, 36)]) List.mem_cons_self)]; rfl) (fun z hz => by cases hz) (by decide) (by decide) (hts (.classLink RL 36 "java/lang/IllegalArgumentException") (by decide +kernel)) (hAm.cast (by decide +kernel)) hce hcv hcl ?_
  refine lv_astore_n (lv' := [(3, .ref q9), (0, .ref D.1), (1, .int a1), (2, .int a2)]) hx hb dL_share_7 rfl hl (by decide) rfl (fun ls hl => ?_)
  refine lv_ldc hx hb hown (hts (.constant RL 17 (-2000001)) (by decide +kernel)) dL_share_8 ?_
  exact W.iret (v := -2000001) hx hb hr (fun t ht hW => eMI hP1 hS1 ht rfl) hS1.2.2 dL_share_10
set_option maxHeartbeats 4000000 in
set_option maxRecDepth 100000 in
theorem sL_count (l : Launch) (Γ : wG) (D : AD) (a1 : Int32) (x u : ST) (f : Int32) (rmX : Room) (hrf : rmX.frames ≤ 9) (hrl : rmX.locals ≤ 300) (hrc : rmX.cells = 0) (hrs : rmX.slots = 0) (hM : MI l Γ yX4_count wsX4_count rmX [.ref D.1, .int a1] (W7 Γ D x) (W7 Γ D u) f) : MI l Γ yL_count wsL_count ({ frames := 10, cells := 0, slots := 0, locals := 340 }) [.ref D.1, .int a1] (W7 Γ D x) (W7 Γ D u) f := by
  intro sz
  refine va_MetW (cc := cL_count) (maxL := 3) (ret := (some .int)) (hh := [(0, 5, 6, 36)]) (by decide) rfl ?_
  intro p e s m args below meth c s₁ B hml hv
  obtain ⟨rfl, hsz, hP, hK, hD0, hAm⟩ := hv
  have hx := B.exec
  have hb := B.bytes
  have hr := B.returns
  have hts := atoms_spec (ws := wsL_count) B.pre
  have hown : s.vm.findClass RL = some m.cls := findClass_of_methodNamed B.named
  subst hsz
  have hD := hD0.self (sz := s.heap.size)
  generalize hAe : va_A (wcat (W7 Γ D x)) s.heap.size = A at hD hAm ⊢
  have hA : ∀ q : Nat, s.heap.size ≤ q → A q := fun q h => by rw [← hAe]; exact Or.inr h
  have hAB : ∀ q : Nat, A q → A q := fun _ h => h
  have hS : va_S A s.heap s.heap [] := va_S.rf
  have hl := lv_entry ([.ref D.1, .int a1]) (n := 3) (Nat.le_of_ble_eq_true rfl)
  rw [lg_entry_eq]
  generalize (lg_sl ([.ref D.1, .int a1]) ++ List.replicate (3 - (lg_sl ([.ref D.1, .int a1])).length) Slot.unset).toArray = ls at hl ⊢
  have hl : lv_has ls 3 [(0, .ref D.1), (1, .int a1)] := hl
  refine lv_aload_n hx hb dL_count_0 rfl (lv_at hl 0 rfl) ?_
  refine lv_iload_n hx hb dL_count_1 rfl (lv_at hl 1 rfl) ?_
  refine cMI (bc' := W7 Γ D u) (va_runV (As := [.int a1]) (rest := []) ⟨hx, hb, hml, hown, hts⟩ (hM _) (cwV 1 hts gL_count_X4_count rfl hrc hrs (by decide +kernel) ⟨by show rmX.frames + 1 ≤ 10; omega, by show 8 + (_ + 11) + rmX.locals ≤ 340; omega⟩) ⟨wPre_blind, va_recv hK hP (ci := 4) (q0 := 0) rfl rfl, wPre_mk hP hD hK hS hA hAB hAm [0, 1, 2, 3, 4, 5, 6] rfl rfl⟩ rfl rfl hl.1 rfl (lv_room (Nat.le_of_ble_eq_true rfl)) dL_count_2 ⟨Nat.zero_le _, Nat.zero_le _⟩) hP hD hS hA [0, 1, 2, 3, 4, 5, 6] rfl W7_ad (bs' := W7 Γ D u) rfl (fun H locs hP hD hS => ?_)
  exact W.iret (v := f) hx hb hr (fun t ht hW => eMI hP hS ht rfl) hS.2.2 dL_count_5
set_option maxHeartbeats 4000000 in
set_option maxRecDepth 100000 in
theorem xL_count_1 (l : Launch) (Γ : wG) (D : AD) (a1 : Int32) (x : ST) (rmX : Room) (hrf : rmX.frames ≤ 9) (hrl : rmX.locals ≤ 300) (hrc : rmX.cells = 1) (hrs : rmX.slots = 6) (hX : TX l Γ yX4_count wsX4_count rmX [.ref D.1, .int a1] (W7 Γ D x) "java/lang/IllegalArgumentException") : MJ l Γ yL_count wsL_count ({ frames := 10, cells := 1, slots := 6, locals := 340 }) [.ref D.1, .int a1] (W7 Γ D x) (W7 Γ D x) (-2000001) := by
  intro sz
  refine va_MetW (cc := cL_count) (maxL := 3) (ret := (some .int)) (hh := [(0, 5, 6, 36)]) (by decide) rfl ?_
  intro p e s m args below meth c s₁ B hml hv
  obtain ⟨rfl, hsz, hP, hK, hD0, hAm⟩ := hv
  have hx := B.exec
  have hb := B.bytes
  have hr := B.returns
  have hts := atoms_spec (ws := wsL_count) B.pre
  have hown : s.vm.findClass RL = some m.cls := findClass_of_methodNamed B.named
  subst hsz
  have hD := hD0.self (sz := s.heap.size)
  generalize hAe : va_A (wcat (W7 Γ D x)) s.heap.size = A at hD hAm ⊢
  have hA : ∀ q : Nat, s.heap.size ≤ q → A q := fun q h => by rw [← hAe]; exact Or.inr h
  have hAB : ∀ q : Nat, A q → A q := fun _ h => h
  have hS : va_S A s.heap s.heap [] := va_S.rf
  have hl := lv_entry ([.ref D.1, .int a1]) (n := 3) (Nat.le_of_ble_eq_true rfl)
  rw [lg_entry_eq]
  generalize (lg_sl ([.ref D.1, .int a1]) ++ List.replicate (3 - (lg_sl ([.ref D.1, .int a1])).length) Slot.unset).toArray = ls at hl ⊢
  have hl : lv_has ls 3 [(0, .ref D.1), (1, .int a1)] := hl
  refine lv_aload_n hx hb dL_count_0 rfl (lv_at hl 0 rfl) ?_
  refine lv_iload_n hx hb dL_count_1 rfl (lv_at hl 1 rfl) ?_
  refine cTX (vx_runV (As := [.int a1]) (rest := []) ⟨hx, hb, hml, hown, hts⟩ (hX _) (cwV 1 hts gL_count_X4_count rfl hrc hrs (by decide +kernel) ⟨by show rmX.frames + 1 ≤ 10; omega, by show 8 + (_ + 11) + rmX.locals ≤ 340; omega⟩) ⟨wPre_blind, va_recv hK hP (ci := 4) (q0 := 0) rfl rfl, wPre_mk hP hD hK hS hA hAB hAm [0, 1, 2, 3, 4, 5, 6] rfl rfl⟩ rfl rfl hl.1 rfl (lv_room (Nat.le_of_ble_eq_true rfl)) dL_count_2 ⟨Nat.le_of_ble_eq_true rfl, Nat.le_of_ble_eq_true rfl⟩) hS hA (fun ce q9 H1 locs1 hz hk hS1 hce hcv hcl => ?_)
  have hP1 : va_P Γ.1 vwCl (wcat (W7 Γ D x)) H1 := hP.kept (fun k x hx => hk x.1 (hP k x hx).lt)
  refine vx_catch (name := "java/lang/IllegalArgumentException") hown [] ⟨0, 5, 6, 36⟩ [] (by rw [vx_table (x := yL_count) (y := yL_count) B (hts (.codeWith yL_count cL_count 3 (some .int) [(0, 5, 6, 36)]) List.mem_cons_self)]; rfl) (fun z hz => by cases hz) (by decide) (by decide) (hts (.classLink RL 36 "java/lang/IllegalArgumentException") (by decide +kernel)) (hAm.cast (by decide +kernel)) hce hcv hcl ?_
  refine lv_astore_n (lv' := [(2, .ref q9), (0, .ref D.1), (1, .int a1)]) hx hb dL_count_6 rfl hl (by decide) rfl (fun ls hl => ?_)
  refine lv_ldc hx hb hown (hts (.constant RL 17 (-2000001)) (by decide +kernel)) dL_count_7 ?_
  exact W.iret (v := -2000001) hx hb hr (fun t ht hW => eMI hP1 hS1 ht rfl) hS1.2.2 dL_count_9
set_option maxHeartbeats 4000000 in
set_option maxRecDepth 100000 in
theorem sL_why (l : Launch) (Γ : wG) (D : AD) (a1 : Int32) (x u : ST) (f : Int32) (rmX : Room) (hrf : rmX.frames ≤ 9) (hrl : rmX.locals ≤ 300) (hrc : rmX.cells = 0) (hrs : rmX.slots = 0) (hM : MI l Γ yX4_why wsX4_why rmX [.ref D.1, .int a1] (W7 Γ D x) (W7 Γ D u) f) : MI l Γ yL_why wsL_why ({ frames := 10, cells := 0, slots := 0, locals := 340 }) [.ref D.1, .int a1] (W7 Γ D x) (W7 Γ D u) f := by
  intro sz
  refine va_MetW (cc := cL_why) (maxL := 3) (ret := (some .int)) (hh := [(0, 5, 6, 36)]) (by decide) rfl ?_
  intro p e s m args below meth c s₁ B hml hv
  obtain ⟨rfl, hsz, hP, hK, hD0, hAm⟩ := hv
  have hx := B.exec
  have hb := B.bytes
  have hr := B.returns
  have hts := atoms_spec (ws := wsL_why) B.pre
  have hown : s.vm.findClass RL = some m.cls := findClass_of_methodNamed B.named
  subst hsz
  have hD := hD0.self (sz := s.heap.size)
  generalize hAe : va_A (wcat (W7 Γ D x)) s.heap.size = A at hD hAm ⊢
  have hA : ∀ q : Nat, s.heap.size ≤ q → A q := fun q h => by rw [← hAe]; exact Or.inr h
  have hAB : ∀ q : Nat, A q → A q := fun _ h => h
  have hS : va_S A s.heap s.heap [] := va_S.rf
  have hl := lv_entry ([.ref D.1, .int a1]) (n := 3) (Nat.le_of_ble_eq_true rfl)
  rw [lg_entry_eq]
  generalize (lg_sl ([.ref D.1, .int a1]) ++ List.replicate (3 - (lg_sl ([.ref D.1, .int a1])).length) Slot.unset).toArray = ls at hl ⊢
  have hl : lv_has ls 3 [(0, .ref D.1), (1, .int a1)] := hl
  refine lv_aload_n hx hb dL_why_0 rfl (lv_at hl 0 rfl) ?_
  refine lv_iload_n hx hb dL_why_1 rfl (lv_at hl 1 rfl) ?_
  refine cMI (bc' := W7 Γ D u) (va_runV (As := [.int a1]) (rest := []) ⟨hx, hb, hml, hown, hts⟩ (hM _) (cwV 1 hts gL_why_X4_why rfl hrc hrs (by decide +kernel) ⟨by show rmX.frames + 1 ≤ 10; omega, by show 8 + (_ + 11) + rmX.locals ≤ 340; omega⟩) ⟨wPre_blind, va_recv hK hP (ci := 4) (q0 := 0) rfl rfl, wPre_mk hP hD hK hS hA hAB hAm [0, 1, 2, 3, 4, 5, 6] rfl rfl⟩ rfl rfl hl.1 rfl (lv_room (Nat.le_of_ble_eq_true rfl)) dL_why_2 ⟨Nat.zero_le _, Nat.zero_le _⟩) hP hD hS hA [0, 1, 2, 3, 4, 5, 6] rfl W7_ad (bs' := W7 Γ D u) rfl (fun H locs hP hD hS => ?_)
  exact W.iret (v := f) hx hb hr (fun t ht hW => eMI hP hS ht rfl) hS.2.2 dL_why_5
set_option maxHeartbeats 4000000 in
set_option maxRecDepth 100000 in
theorem xL_why_1 (l : Launch) (Γ : wG) (D : AD) (a1 : Int32) (x : ST) (rmX : Room) (hrf : rmX.frames ≤ 9) (hrl : rmX.locals ≤ 300) (hrc : rmX.cells = 1) (hrs : rmX.slots = 6) (hX : TX l Γ yX4_why wsX4_why rmX [.ref D.1, .int a1] (W7 Γ D x) "java/lang/IllegalArgumentException") : MJ l Γ yL_why wsL_why ({ frames := 10, cells := 1, slots := 6, locals := 340 }) [.ref D.1, .int a1] (W7 Γ D x) (W7 Γ D x) (-2000001) := by
  intro sz
  refine va_MetW (cc := cL_why) (maxL := 3) (ret := (some .int)) (hh := [(0, 5, 6, 36)]) (by decide) rfl ?_
  intro p e s m args below meth c s₁ B hml hv
  obtain ⟨rfl, hsz, hP, hK, hD0, hAm⟩ := hv
  have hx := B.exec
  have hb := B.bytes
  have hr := B.returns
  have hts := atoms_spec (ws := wsL_why) B.pre
  have hown : s.vm.findClass RL = some m.cls := findClass_of_methodNamed B.named
  subst hsz
  have hD := hD0.self (sz := s.heap.size)
  generalize hAe : va_A (wcat (W7 Γ D x)) s.heap.size = A at hD hAm ⊢
  have hA : ∀ q : Nat, s.heap.size ≤ q → A q := fun q h => by rw [← hAe]; exact Or.inr h
  have hAB : ∀ q : Nat, A q → A q := fun _ h => h
  have hS : va_S A s.heap s.heap [] := va_S.rf
  have hl := lv_entry ([.ref D.1, .int a1]) (n := 3) (Nat.le_of_ble_eq_true rfl)
  rw [lg_entry_eq]
  generalize (lg_sl ([.ref D.1, .int a1]) ++ List.replicate (3 - (lg_sl ([.ref D.1, .int a1])).length) Slot.unset).toArray = ls at hl ⊢
  have hl : lv_has ls 3 [(0, .ref D.1), (1, .int a1)] := hl
  refine lv_aload_n hx hb dL_why_0 rfl (lv_at hl 0 rfl) ?_
  refine lv_iload_n hx hb dL_why_1 rfl (lv_at hl 1 rfl) ?_
  refine cTX (vx_runV (As := [.int a1]) (rest := []) ⟨hx, hb, hml, hown, hts⟩ (hX _) (cwV 1 hts gL_why_X4_why rfl hrc hrs (by decide +kernel) ⟨by show rmX.frames + 1 ≤ 10; omega, by show 8 + (_ + 11) + rmX.locals ≤ 340; omega⟩) ⟨wPre_blind, va_recv hK hP (ci := 4) (q0 := 0) rfl rfl, wPre_mk hP hD hK hS hA hAB hAm [0, 1, 2, 3, 4, 5, 6] rfl rfl⟩ rfl rfl hl.1 rfl (lv_room (Nat.le_of_ble_eq_true rfl)) dL_why_2 ⟨Nat.le_of_ble_eq_true rfl, Nat.le_of_ble_eq_true rfl⟩) hS hA (fun ce q9 H1 locs1 hz hk hS1 hce hcv hcl => ?_)
  have hP1 : va_P Γ.1 vwCl (wcat (W7 Γ D x)) H1 := hP.kept (fun k x hx => hk x.1 (hP k x hx).lt)
  refine vx_catch (name := "java/lang/IllegalArgumentException") hown [] ⟨0, 5, 6, 36⟩ [] (by rw [vx_table (x := yL_why) (y := yL_why) B (hts (.codeWith yL_why cL_why 3 (some .int) [(0, 5, 6, 36)]) List.mem_cons_self)]; rfl) (fun z hz => by cases hz) (by decide) (by decide) (hts (.classLink RL 36 "java/lang/IllegalArgumentException") (by decide +kernel)) (hAm.cast (by decide +kernel)) hce hcv hcl ?_
  refine lv_astore_n (lv' := [(2, .ref q9), (0, .ref D.1), (1, .int a1)]) hx hb dL_why_6 rfl hl (by decide) rfl (fun ls hl => ?_)
  refine lv_ldc hx hb hown (hts (.constant RL 17 (-2000001)) (by decide +kernel)) dL_why_7 ?_
  exact W.iret (v := -2000001) hx hb hr (fun t ht hW => eMI hP1 hS1 ht rfl) hS1.2.2 dL_why_9
set_option maxHeartbeats 4000000 in
set_option maxRecDepth 100000 in
theorem sL_told (l : Launch) (Γ : wG) (D : AD) (a1 : Int32) (x u : ST) (f : Int32) (rmX : Room) (hrf : rmX.frames ≤ 9) (hrl : rmX.locals ≤ 300) (hrc : rmX.cells = 0) (hrs : rmX.slots = 0) (hM : MI l Γ yX4_told wsX4_told rmX [.ref D.1, .int a1] (W7 Γ D x) (W7 Γ D u) f) : MI l Γ yL_told wsL_told ({ frames := 10, cells := 0, slots := 0, locals := 340 }) [.ref D.1, .int a1] (W7 Γ D x) (W7 Γ D u) f := by
  intro sz
  refine va_MetW (cc := cL_told) (maxL := 3) (ret := (some .int)) (hh := [(0, 5, 6, 36)]) (by decide) rfl ?_
  intro p e s m args below meth c s₁ B hml hv
  obtain ⟨rfl, hsz, hP, hK, hD0, hAm⟩ := hv
  have hx := B.exec
  have hb := B.bytes
  have hr := B.returns
  have hts := atoms_spec (ws := wsL_told) B.pre
  have hown : s.vm.findClass RL = some m.cls := findClass_of_methodNamed B.named
  subst hsz
  have hD := hD0.self (sz := s.heap.size)
  generalize hAe : va_A (wcat (W7 Γ D x)) s.heap.size = A at hD hAm ⊢
  have hA : ∀ q : Nat, s.heap.size ≤ q → A q := fun q h => by rw [← hAe]; exact Or.inr h
  have hAB : ∀ q : Nat, A q → A q := fun _ h => h
  have hS : va_S A s.heap s.heap [] := va_S.rf
  have hl := lv_entry ([.ref D.1, .int a1]) (n := 3) (Nat.le_of_ble_eq_true rfl)
  rw [lg_entry_eq]
  generalize (lg_sl ([.ref D.1, .int a1]) ++ List.replicate (3 - (lg_sl ([.ref D.1, .int a1])).length) Slot.unset).toArray = ls at hl ⊢
  have hl : lv_has ls 3 [(0, .ref D.1), (1, .int a1)] := hl
  refine lv_aload_n hx hb dL_told_0 rfl (lv_at hl 0 rfl) ?_
  refine lv_iload_n hx hb dL_told_1 rfl (lv_at hl 1 rfl) ?_
  refine cMI (bc' := W7 Γ D u) (va_runV (As := [.int a1]) (rest := []) ⟨hx, hb, hml, hown, hts⟩ (hM _) (cwV 1 hts gL_told_X4_told rfl hrc hrs (by decide +kernel) ⟨by show rmX.frames + 1 ≤ 10; omega, by show 8 + (_ + 11) + rmX.locals ≤ 340; omega⟩) ⟨wPre_blind, va_recv hK hP (ci := 4) (q0 := 0) rfl rfl, wPre_mk hP hD hK hS hA hAB hAm [0, 1, 2, 3, 4, 5, 6] rfl rfl⟩ rfl rfl hl.1 rfl (lv_room (Nat.le_of_ble_eq_true rfl)) dL_told_2 ⟨Nat.zero_le _, Nat.zero_le _⟩) hP hD hS hA [0, 1, 2, 3, 4, 5, 6] rfl W7_ad (bs' := W7 Γ D u) rfl (fun H locs hP hD hS => ?_)
  exact W.iret (v := f) hx hb hr (fun t ht hW => eMI hP hS ht rfl) hS.2.2 dL_told_5
set_option maxHeartbeats 4000000 in
set_option maxRecDepth 100000 in
theorem xL_told_1 (l : Launch) (Γ : wG) (D : AD) (a1 : Int32) (x : ST) (rmX : Room) (hrf : rmX.frames ≤ 9) (hrl : rmX.locals ≤ 300) (hrc : rmX.cells = 1) (hrs : rmX.slots = 6) (hX : TX l Γ yX4_told wsX4_told rmX [.ref D.1, .int a1] (W7 Γ D x) "java/lang/IllegalArgumentException") : MJ l Γ yL_told wsL_told ({ frames := 10, cells := 1, slots := 6, locals := 340 }) [.ref D.1, .int a1] (W7 Γ D x) (W7 Γ D x) (-2000001) := by
  intro sz
  refine va_MetW (cc := cL_told) (maxL := 3) (ret := (some .int)) (hh := [(0, 5, 6, 36)]) (by decide) rfl ?_
  intro p e s m args below meth c s₁ B hml hv
  obtain ⟨rfl, hsz, hP, hK, hD0, hAm⟩ := hv
  have hx := B.exec
  have hb := B.bytes
  have hr := B.returns
  have hts := atoms_spec (ws := wsL_told) B.pre
  have hown : s.vm.findClass RL = some m.cls := findClass_of_methodNamed B.named
  subst hsz
  have hD := hD0.self (sz := s.heap.size)
  generalize hAe : va_A (wcat (W7 Γ D x)) s.heap.size = A at hD hAm ⊢
  have hA : ∀ q : Nat, s.heap.size ≤ q → A q := fun q h => by rw [← hAe]; exact Or.inr h
  have hAB : ∀ q : Nat, A q → A q := fun _ h => h
  have hS : va_S A s.heap s.heap [] := va_S.rf
  have hl := lv_entry ([.ref D.1, .int a1]) (n := 3) (Nat.le_of_ble_eq_true rfl)
  rw [lg_entry_eq]
  generalize (lg_sl ([.ref D.1, .int a1]) ++ List.replicate (3 - (lg_sl ([.ref D.1, .int a1])).length) Slot.unset).toArray = ls at hl ⊢
  have hl : lv_has ls 3 [(0, .ref D.1), (1, .int a1)] := hl
  refine lv_aload_n hx hb dL_told_0 rfl (lv_at hl 0 rfl) ?_
  refine lv_iload_n hx hb dL_told_1 rfl (lv_at hl 1 rfl) ?_
  refine cTX (vx_runV (As := [.int a1]) (rest := []) ⟨hx, hb, hml, hown, hts⟩ (hX _) (cwV 1 hts gL_told_X4_told rfl hrc hrs (by decide +kernel) ⟨by show rmX.frames + 1 ≤ 10; omega, by show 8 + (_ + 11) + rmX.locals ≤ 340; omega⟩) ⟨wPre_blind, va_recv hK hP (ci := 4) (q0 := 0) rfl rfl, wPre_mk hP hD hK hS hA hAB hAm [0, 1, 2, 3, 4, 5, 6] rfl rfl⟩ rfl rfl hl.1 rfl (lv_room (Nat.le_of_ble_eq_true rfl)) dL_told_2 ⟨Nat.le_of_ble_eq_true rfl, Nat.le_of_ble_eq_true rfl⟩) hS hA (fun ce q9 H1 locs1 hz hk hS1 hce hcv hcl => ?_)
  have hP1 : va_P Γ.1 vwCl (wcat (W7 Γ D x)) H1 := hP.kept (fun k x hx => hk x.1 (hP k x hx).lt)
  refine vx_catch (name := "java/lang/IllegalArgumentException") hown [] ⟨0, 5, 6, 36⟩ [] (by rw [vx_table (x := yL_told) (y := yL_told) B (hts (.codeWith yL_told cL_told 3 (some .int) [(0, 5, 6, 36)]) List.mem_cons_self)]; rfl) (fun z hz => by cases hz) (by decide) (by decide) (hts (.classLink RL 36 "java/lang/IllegalArgumentException") (by decide +kernel)) (hAm.cast (by decide +kernel)) hce hcv hcl ?_
  refine lv_astore_n (lv' := [(2, .ref q9), (0, .ref D.1), (1, .int a1)]) hx hb dL_told_6 rfl hl (by decide) rfl (fun ls hl => ?_)
  refine lv_ldc hx hb hown (hts (.constant RL 17 (-2000001)) (by decide +kernel)) dL_told_7 ?_
  exact W.iret (v := -2000001) hx hb hr (fun t ht hW => eMI hP1 hS1 ht rfl) hS1.2.2 dL_told_9
set_option maxHeartbeats 4000000 in
set_option maxRecDepth 100000 in
theorem sL_possible (l : Launch) (Γ : wG) (D : AD) (a1 : Int32) (x u : ST) (f : Int32) (rmX : Room) (hrf : rmX.frames ≤ 9) (hrl : rmX.locals ≤ 300) (hrc : rmX.cells = 0) (hrs : rmX.slots = 0) (hM : MI l Γ yX4_possible wsX4_possible rmX [.ref D.1, .int a1] (W7 Γ D x) (W7 Γ D u) f) : MI l Γ yL_possible wsL_possible ({ frames := 10, cells := 0, slots := 0, locals := 340 }) [.ref D.1, .int a1] (W7 Γ D x) (W7 Γ D u) f := by
  intro sz
  refine va_MetW (cc := cL_possible) (maxL := 3) (ret := (some .int)) (hh := [(0, 5, 6, 36)]) (by decide) rfl ?_
  intro p e s m args below meth c s₁ B hml hv
  obtain ⟨rfl, hsz, hP, hK, hD0, hAm⟩ := hv
  have hx := B.exec
  have hb := B.bytes
  have hr := B.returns
  have hts := atoms_spec (ws := wsL_possible) B.pre
  have hown : s.vm.findClass RL = some m.cls := findClass_of_methodNamed B.named
  subst hsz
  have hD := hD0.self (sz := s.heap.size)
  generalize hAe : va_A (wcat (W7 Γ D x)) s.heap.size = A at hD hAm ⊢
  have hA : ∀ q : Nat, s.heap.size ≤ q → A q := fun q h => by rw [← hAe]; exact Or.inr h
  have hAB : ∀ q : Nat, A q → A q := fun _ h => h
  have hS : va_S A s.heap s.heap [] := va_S.rf
  have hl := lv_entry ([.ref D.1, .int a1]) (n := 3) (Nat.le_of_ble_eq_true rfl)
  rw [lg_entry_eq]
  generalize (lg_sl ([.ref D.1, .int a1]) ++ List.replicate (3 - (lg_sl ([.ref D.1, .int a1])).length) Slot.unset).toArray = ls at hl ⊢
  have hl : lv_has ls 3 [(0, .ref D.1), (1, .int a1)] := hl
  refine lv_aload_n hx hb dL_possible_0 rfl (lv_at hl 0 rfl) ?_
  refine lv_iload_n hx hb dL_possible_1 rfl (lv_at hl 1 rfl) ?_
  refine cMI (bc' := W7 Γ D u) (va_runV (As := [.int a1]) (rest := []) ⟨hx, hb, hml, hown, hts⟩ (hM _) (cwV 1 hts gL_possible_X4_possible rfl hrc hrs (by decide +kernel) ⟨by show rmX.frames + 1 ≤ 10; omega, by show 8 + (_ + 11) + rmX.locals ≤ 340; omega⟩) ⟨wPre_blind, va_recv hK hP (ci := 4) (q0 := 0) rfl rfl, wPre_mk hP hD hK hS hA hAB hAm [0, 1, 2, 3, 4, 5, 6] rfl rfl⟩ rfl rfl hl.1 rfl (lv_room (Nat.le_of_ble_eq_true rfl)) dL_possible_2 ⟨Nat.zero_le _, Nat.zero_le _⟩) hP hD hS hA [0, 1, 2, 3, 4, 5, 6] rfl W7_ad (bs' := W7 Γ D u) rfl (fun H locs hP hD hS => ?_)
  exact W.iret (v := f) hx hb hr (fun t ht hW => eMI hP hS ht rfl) hS.2.2 dL_possible_5
set_option maxHeartbeats 4000000 in
set_option maxRecDepth 100000 in
theorem xL_possible_1 (l : Launch) (Γ : wG) (D : AD) (a1 : Int32) (x : ST) (rmX : Room) (hrf : rmX.frames ≤ 9) (hrl : rmX.locals ≤ 300) (hrc : rmX.cells = 1) (hrs : rmX.slots = 6) (hX : TX l Γ yX4_possible wsX4_possible rmX [.ref D.1, .int a1] (W7 Γ D x) "java/lang/IllegalArgumentException") : MJ l Γ yL_possible wsL_possible ({ frames := 10, cells := 1, slots := 6, locals := 340 }) [.ref D.1, .int a1] (W7 Γ D x) (W7 Γ D x) (-2000001) := by
  intro sz
  refine va_MetW (cc := cL_possible) (maxL := 3) (ret := (some .int)) (hh := [(0, 5, 6, 36)]) (by decide) rfl ?_
  intro p e s m args below meth c s₁ B hml hv
  obtain ⟨rfl, hsz, hP, hK, hD0, hAm⟩ := hv
  have hx := B.exec
  have hb := B.bytes
  have hr := B.returns
  have hts := atoms_spec (ws := wsL_possible) B.pre
  have hown : s.vm.findClass RL = some m.cls := findClass_of_methodNamed B.named
  subst hsz
  have hD := hD0.self (sz := s.heap.size)
  generalize hAe : va_A (wcat (W7 Γ D x)) s.heap.size = A at hD hAm ⊢
  have hA : ∀ q : Nat, s.heap.size ≤ q → A q := fun q h => by rw [← hAe]; exact Or.inr h
  have hAB : ∀ q : Nat, A q → A q := fun _ h => h
  have hS : va_S A s.heap s.heap [] := va_S.rf
  have hl := lv_entry ([.ref D.1, .int a1]) (n := 3) (Nat.le_of_ble_eq_true rfl)
  rw [lg_entry_eq]
  generalize (lg_sl ([.ref D.1, .int a1]) ++ List.replicate (3 - (lg_sl ([.ref D.1, .int a1])).length) Slot.unset).toArray = ls at hl ⊢
  have hl : lv_has ls 3 [(0, .ref D.1), (1, .int a1)] := hl
  refine lv_aload_n hx hb dL_possible_0 rfl (lv_at hl 0 rfl) ?_
  refine lv_iload_n hx hb dL_possible_1 rfl (lv_at hl 1 rfl) ?_
  refine cTX (vx_runV (As := [.int a1]) (rest := []) ⟨hx, hb, hml, hown, hts⟩ (hX _) (cwV 1 hts gL_possible_X4_possible rfl hrc hrs (by decide +kernel) ⟨by show rmX.frames + 1 ≤ 10; omega, by show 8 + (_ + 11) + rmX.locals ≤ 340; omega⟩) ⟨wPre_blind, va_recv hK hP (ci := 4) (q0 := 0) rfl rfl, wPre_mk hP hD hK hS hA hAB hAm [0, 1, 2, 3, 4, 5, 6] rfl rfl⟩ rfl rfl hl.1 rfl (lv_room (Nat.le_of_ble_eq_true rfl)) dL_possible_2 ⟨Nat.le_of_ble_eq_true rfl, Nat.le_of_ble_eq_true rfl⟩) hS hA (fun ce q9 H1 locs1 hz hk hS1 hce hcv hcl => ?_)
  have hP1 : va_P Γ.1 vwCl (wcat (W7 Γ D x)) H1 := hP.kept (fun k x hx => hk x.1 (hP k x hx).lt)
  refine vx_catch (name := "java/lang/IllegalArgumentException") hown [] ⟨0, 5, 6, 36⟩ [] (by rw [vx_table (x := yL_possible) (y := yL_possible) B (hts (.codeWith yL_possible cL_possible 3 (some .int) [(0, 5, 6, 36)]) List.mem_cons_self)]; rfl) (fun z hz => by cases hz) (by decide) (by decide) (hts (.classLink RL 36 "java/lang/IllegalArgumentException") (by decide +kernel)) (hAm.cast (by decide +kernel)) hce hcv hcl ?_
  refine lv_astore_n (lv' := [(2, .ref q9), (0, .ref D.1), (1, .int a1)]) hx hb dL_possible_6 rfl hl (by decide) rfl (fun ls hl => ?_)
  refine lv_ldc hx hb hown (hts (.constant RL 17 (-2000001)) (by decide +kernel)) dL_possible_7 ?_
  exact W.iret (v := -2000001) hx hb hr (fun t ht hW => eMI hP1 hS1 ht rfl) hS1.2.2 dL_possible_9
set_option maxHeartbeats 4000000 in
set_option maxRecDepth 100000 in
theorem sL_smallest (l : Launch) (Γ : wG) (D : AD) (a1 : Int32) (x u : ST) (f : Int32) (rmX : Room) (hrf : rmX.frames ≤ 9) (hrl : rmX.locals ≤ 300) (hrc : rmX.cells = 0) (hrs : rmX.slots = 0) (hM : MI l Γ yX4_smallest wsX4_smallest rmX [.ref D.1, .int a1] (W7 Γ D x) (W7 Γ D u) f) : MI l Γ yL_smallest wsL_smallest ({ frames := 10, cells := 0, slots := 0, locals := 340 }) [.ref D.1, .int a1] (W7 Γ D x) (W7 Γ D u) f := by
  intro sz
  refine va_MetW (cc := cL_smallest) (maxL := 3) (ret := (some .int)) (hh := [(0, 5, 6, 36)]) (by decide) rfl ?_
  intro p e s m args below meth c s₁ B hml hv
  obtain ⟨rfl, hsz, hP, hK, hD0, hAm⟩ := hv
  have hx := B.exec
  have hb := B.bytes
  have hr := B.returns
  have hts := atoms_spec (ws := wsL_smallest) B.pre
  have hown : s.vm.findClass RL = some m.cls := findClass_of_methodNamed B.named
  subst hsz
  have hD := hD0.self (sz := s.heap.size)
  generalize hAe : va_A (wcat (W7 Γ D x)) s.heap.size = A at hD hAm ⊢
  have hA : ∀ q : Nat, s.heap.size ≤ q → A q := fun q h => by rw [← hAe]; exact Or.inr h
  have hAB : ∀ q : Nat, A q → A q := fun _ h => h
  have hS : va_S A s.heap s.heap [] := va_S.rf
  have hl := lv_entry ([.ref D.1, .int a1]) (n := 3) (Nat.le_of_ble_eq_true rfl)
  rw [lg_entry_eq]
  generalize (lg_sl ([.ref D.1, .int a1]) ++ List.replicate (3 - (lg_sl ([.ref D.1, .int a1])).length) Slot.unset).toArray = ls at hl ⊢
  have hl : lv_has ls 3 [(0, .ref D.1), (1, .int a1)] := hl
  refine lv_aload_n hx hb dL_smallest_0 rfl (lv_at hl 0 rfl) ?_
  refine lv_iload_n hx hb dL_smallest_1 rfl (lv_at hl 1 rfl) ?_
  refine cMI (bc' := W7 Γ D u) (va_runV (As := [.int a1]) (rest := []) ⟨hx, hb, hml, hown, hts⟩ (hM _) (cwV 1 hts gL_smallest_X4_smallest rfl hrc hrs (by decide +kernel) ⟨by show rmX.frames + 1 ≤ 10; omega, by show 8 + (_ + 11) + rmX.locals ≤ 340; omega⟩) ⟨wPre_blind, va_recv hK hP (ci := 4) (q0 := 0) rfl rfl, wPre_mk hP hD hK hS hA hAB hAm [0, 1, 2, 3, 4, 5, 6] rfl rfl⟩ rfl rfl hl.1 rfl (lv_room (Nat.le_of_ble_eq_true rfl)) dL_smallest_2 ⟨Nat.zero_le _, Nat.zero_le _⟩) hP hD hS hA [0, 1, 2, 3, 4, 5, 6] rfl W7_ad (bs' := W7 Γ D u) rfl (fun H locs hP hD hS => ?_)
  exact W.iret (v := f) hx hb hr (fun t ht hW => eMI hP hS ht rfl) hS.2.2 dL_smallest_5
set_option maxHeartbeats 4000000 in
set_option maxRecDepth 100000 in
theorem xL_smallest_1 (l : Launch) (Γ : wG) (D : AD) (a1 : Int32) (x : ST) (rmX : Room) (hrf : rmX.frames ≤ 9) (hrl : rmX.locals ≤ 300) (hrc : rmX.cells = 1) (hrs : rmX.slots = 6) (hX : TX l Γ yX4_smallest wsX4_smallest rmX [.ref D.1, .int a1] (W7 Γ D x) "java/lang/IllegalArgumentException") : MJ l Γ yL_smallest wsL_smallest ({ frames := 10, cells := 1, slots := 6, locals := 340 }) [.ref D.1, .int a1] (W7 Γ D x) (W7 Γ D x) (-2000001) := by
  intro sz
  refine va_MetW (cc := cL_smallest) (maxL := 3) (ret := (some .int)) (hh := [(0, 5, 6, 36)]) (by decide) rfl ?_
  intro p e s m args below meth c s₁ B hml hv
  obtain ⟨rfl, hsz, hP, hK, hD0, hAm⟩ := hv
  have hx := B.exec
  have hb := B.bytes
  have hr := B.returns
  have hts := atoms_spec (ws := wsL_smallest) B.pre
  have hown : s.vm.findClass RL = some m.cls := findClass_of_methodNamed B.named
  subst hsz
  have hD := hD0.self (sz := s.heap.size)
  generalize hAe : va_A (wcat (W7 Γ D x)) s.heap.size = A at hD hAm ⊢
  have hA : ∀ q : Nat, s.heap.size ≤ q → A q := fun q h => by rw [← hAe]; exact Or.inr h
  have hAB : ∀ q : Nat, A q → A q := fun _ h => h
  have hS : va_S A s.heap s.heap [] := va_S.rf
  have hl := lv_entry ([.ref D.1, .int a1]) (n := 3) (Nat.le_of_ble_eq_true rfl)
  rw [lg_entry_eq]
  generalize (lg_sl ([.ref D.1, .int a1]) ++ List.replicate (3 - (lg_sl ([.ref D.1, .int a1])).length) Slot.unset).toArray = ls at hl ⊢
  have hl : lv_has ls 3 [(0, .ref D.1), (1, .int a1)] := hl
  refine lv_aload_n hx hb dL_smallest_0 rfl (lv_at hl 0 rfl) ?_
  refine lv_iload_n hx hb dL_smallest_1 rfl (lv_at hl 1 rfl) ?_
  refine cTX (vx_runV (As := [.int a1]) (rest := []) ⟨hx, hb, hml, hown, hts⟩ (hX _) (cwV 1 hts gL_smallest_X4_smallest rfl hrc hrs (by decide +kernel) ⟨by show rmX.frames + 1 ≤ 10; omega, by show 8 + (_ + 11) + rmX.locals ≤ 340; omega⟩) ⟨wPre_blind, va_recv hK hP (ci := 4) (q0 := 0) rfl rfl, wPre_mk hP hD hK hS hA hAB hAm [0, 1, 2, 3, 4, 5, 6] rfl rfl⟩ rfl rfl hl.1 rfl (lv_room (Nat.le_of_ble_eq_true rfl)) dL_smallest_2 ⟨Nat.le_of_ble_eq_true rfl, Nat.le_of_ble_eq_true rfl⟩) hS hA (fun ce q9 H1 locs1 hz hk hS1 hce hcv hcl => ?_)
  have hP1 : va_P Γ.1 vwCl (wcat (W7 Γ D x)) H1 := hP.kept (fun k x hx => hk x.1 (hP k x hx).lt)
  refine vx_catch (name := "java/lang/IllegalArgumentException") hown [] ⟨0, 5, 6, 36⟩ [] (by rw [vx_table (x := yL_smallest) (y := yL_smallest) B (hts (.codeWith yL_smallest cL_smallest 3 (some .int) [(0, 5, 6, 36)]) List.mem_cons_self)]; rfl) (fun z hz => by cases hz) (by decide) (by decide) (hts (.classLink RL 36 "java/lang/IllegalArgumentException") (by decide +kernel)) (hAm.cast (by decide +kernel)) hce hcv hcl ?_
  refine lv_astore_n (lv' := [(2, .ref q9), (0, .ref D.1), (1, .int a1)]) hx hb dL_smallest_6 rfl hl (by decide) rfl (fun ls hl => ?_)
  refine lv_ldc hx hb hown (hts (.constant RL 17 (-2000001)) (by decide +kernel)) dL_smallest_7 ?_
  exact W.iret (v := -2000001) hx hb hr (fun t ht hW => eMI hP1 hS1 ht rfl) hS1.2.2 dL_smallest_9
