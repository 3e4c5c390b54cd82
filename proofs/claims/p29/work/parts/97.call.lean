/-! ===== a call of the law's: CX is what holds around it, WD the world, in the words of a place ===== -/
def CX (p : Program) (R : Room) (s : State) (m : MethodId) (args : Array Value) (c : Code) (A : Nat → Prop) (Γ : wG) (cc : ByteArray) (nL : Nat) (Ts : List Cond) : Prop := p.tables.exec = Jvm.exec ∧ c.code = cc ∧ c.maxLocals = nL ∧ s.vm.findClass RL = some m.cls ∧ (∀ w ∈ Ts, w.before args s = true) ∧ va_K Γ.1 vwCl (wtys Γ) s ∧ Amb A s ∧ (∀ q : Nat, s.heap.size ≤ q → A q) ∧ 11 ≤ R.frames ∧ 380 ≤ R.locals
def WD (Γ : wG) (D : AD) (A : Nat → Prop) (s : State) (P : Nat → Nat → Nat) (S : Nat) (H : Heap) (locs : List Loc) : Prop := ∃ x : ST, va_P Γ.1 vwCl (wcat (W7 Γ D x)) H ∧ va_D A (wcat (W7 Γ D x)) ∧ va_S A s.heap H locs ∧ AB P S x
def WT (Γ : wG) (D : AD) (A : Nat → Prop) (s : State) (P : Nat → Nat → Nat) (S : Nat) (T : Nat → Nat → Nat) (H : Heap) (locs : List Loc) : Prop := ∃ x : ST, va_P Γ.1 vwCl (wcat (W7 Γ D x)) H ∧ va_D A (wcat (W7 Γ D x)) ∧ va_S A s.heap H locs ∧ AB P S x ∧ TOP T x
theorem WT.wd {Γ : wG} {D : AD} {A : Nat → Prop} {s : State} {P T : Nat → Nat → Nat} {S : Nat} {H : Heap} {locs : List Loc} (h : WT Γ D A s P S T H locs) : WD Γ D A s P S H locs := by
  obtain ⟨x, h1, h2, h3, h4, _⟩ := h
  exact ⟨x, h1, h2, h3, h4⟩
section CL
variable {p : Program} {l : Launch} {e : Env} {R : Room} {s : State} {m : MethodId} {args : Array Value} {below : List Frame} {meth : Method} {c : Code} {H : Heap} {locs : List Loc} {cells slots : Nat} {Q : State → Prop}
variable {pc : Nat} {ls : Array Slot} {rest st0 : List Value} {cc : ByteArray} {A : Nat → Prop} {Γ : wG} {D : AD} {x : ST} {nL : Nat} {Ts : List Cond} {P : Nat → Nat → Nat} {S idx mc ms : Nat} {Post : Int32 → ST → Prop}
theorem cCW {ar : Array Value} (hr : va_Run p l e R s m args below meth c H locs cells slots mc ms (F0 m pc ls st0) rest (va_Qi Post (fun u t => va_P Γ.1 vwCl (wcat (W7 Γ D u)) t.heap) (va_A (wcat (W7 Γ D x)) H.size) ar) (va_A (wcat (W7 Γ D x)) H.size)) (hP : va_P Γ.1 vwCl (wcat (W7 Γ D x)) H) (hD : va_D A (wcat (W7 Γ D x))) (hS : va_S A s.heap H locs) (hA : ∀ q : Nat, s.heap.size ≤ q → A q)
    (kk : ∀ (r : Int32) (u : ST) (H1 : Heap) (locs1 : List Loc), Post r u → va_P Γ.1 vwCl (wcat (W7 Γ D u)) H1 → va_D A (wcat (W7 Γ D u)) → va_S A s.heap H1 locs1 → W p l e R s m args below meth c H1 locs1 (cells + mc) (slots + ms) Q (F0 m (pc + 3) ls (.int r :: rest))) : W p l e R s m args below meth c H locs cells slots Q (F0 m pc ls st0) := by
  have his : [0, 1, 2, 3, 4, 5, 6].map (fun i => (W7 Γ D x)[i]?) = (W7 Γ D x).map some := rfl
  have hF := wfree hD hS hA his
  refine va_calli hr hS (fun q _ h => hF q h) hF (fun r u t H1 locs1 ht hvm hw hB hz1 hk1 hS1 => ?_)
  rw [ht] at hB
  obtain ⟨h1, h2⟩ := wjoin hP hD his W7_ad (bs' := W7 Γ D u) rfl hk1 hB
  exact kk r u H1 locs1 hw h1 h2 hS1
theorem eCW {u : ST} {r : Int32} {t : State} (hP : va_P Γ.1 vwCl (wcat (W7 Γ D u)) H) (hS : va_S A s.heap H locs) (ht : t.heap = H) (h : Post r u) : va_Qi Post (fun u t => va_P Γ.1 vwCl (wcat (W7 Γ D u)) t.heap) A args s (.returned (some (.int r))) t :=
  ⟨⟨r, u, rfl, h, by show va_P Γ.1 vwCl (wcat (W7 Γ D u)) t.heap; rw [ht]; exact hP⟩, hS.F ht⟩
/-- a static method with a table of its own -/
theorem callW {y : MethodName} {ws ws' : List Cond} {bytes : ByteArray} {maxL n : Nat} {ret : Option FieldType} {hh : List (Nat × Nat × Nat × Nat)} {rm : Room} {As : List Value} (C : CX p R s m args c A Γ cc nL Ts) (hM : CW l Γ D y ws rm As x Post mc ms) (g : GoodIn Ts (va_wsS RL idx y ws)) (hw : ws = Cond.codeWith y bytes maxL ret hh :: ws') (hrc : rm.cells = mc) (hrs : rm.slots = ms) (hR : rm.frames + 1 ≤ R.frames ∧ 8 + (maxL + 11) + rm.locals ≤ R.locals)
    (hd : y.cls ≠ "java/lang/invoke/MethodHandle" ∧ y.cls ≠ "java/lang/invoke/VarHandle" ∧ (parseMethodDescriptor y.desc).map (fun d => d.parameters.length) = some n) (hn : As.length = n) (hls : ls.size = nL) (hroom : (rest.map fun v => v.category).sum ≤ 8) (hdg : decode cc pc = .ok (.invokestatic idx, 3)) (hf : cells + mc ≤ R.cells ∧ slots + ms ≤ R.slots) (hP : va_P Γ.1 vwCl (wcat (W7 Γ D x)) H) (hD : va_D A (wcat (W7 Γ D x))) (hS : va_S A s.heap H locs)
    (kk : ∀ (r : Int32) (u : ST) (H1 : Heap) (locs1 : List Loc), Post r u → va_P Γ.1 vwCl (wcat (W7 Γ D u)) H1 → va_D A (wcat (W7 Γ D u)) → va_S A s.heap H1 locs1 → W p l e R s m args below meth c H1 locs1 (cells + mc) (slots + ms) Q (F0 m (pc + 3) ls (.int r :: rest))) : W p l e R s m args below meth c H locs cells slots Q (F0 m pc ls (As.reverse ++ rest)) := by
  obtain ⟨hx, hb, hml, hown, hts, hK, hAm, hA, _, _⟩ := C
  have hAB : ∀ q : Nat, A q → A q := fun _ h => h
  exact cCW (vx_runSW (As := As) (rest := rest) ⟨hx, hb, hml, hown, hts⟩ (hM _) (vx_cwSW n hts g hw hrc hrs hd hR) ⟨wPre_blind, wPre_mk hP hD hK hS hA hAB hAm [0, 1, 2, 3, 4, 5, 6] rfl rfl⟩ rfl hn hls rfl (lv_room hroom) hdg hf) hP hD hS hA kk
/-- a static method without one -/
theorem callS9 {y : MethodName} {ws ws' : List Cond} {bytes : ByteArray} {maxL n : Nat} {ret : Option FieldType} {rm : Room} {As : List Value} (C : CX p R s m args c A Γ cc nL Ts) (hM : CW l Γ D y ws rm As x Post mc ms) (g : GoodIn Ts (va_wsS RL idx y ws)) (hw : ws = Cond.code y bytes maxL ret :: ws') (hrc : rm.cells = mc) (hrs : rm.slots = ms) (hR : rm.frames + 1 ≤ R.frames ∧ 8 + (maxL + 11) + rm.locals ≤ R.locals)
    (hd : y.cls ≠ "java/lang/invoke/MethodHandle" ∧ y.cls ≠ "java/lang/invoke/VarHandle" ∧ (parseMethodDescriptor y.desc).map (fun d => d.parameters.length) = some n) (hn : As.length = n) (hls : ls.size = nL) (hroom : (rest.map fun v => v.category).sum ≤ 8) (hdg : decode cc pc = .ok (.invokestatic idx, 3)) (hf : cells + mc ≤ R.cells ∧ slots + ms ≤ R.slots) (hP : va_P Γ.1 vwCl (wcat (W7 Γ D x)) H) (hD : va_D A (wcat (W7 Γ D x))) (hS : va_S A s.heap H locs)
    (kk : ∀ (r : Int32) (u : ST) (H1 : Heap) (locs1 : List Loc), Post r u → va_P Γ.1 vwCl (wcat (W7 Γ D u)) H1 → va_D A (wcat (W7 Γ D u)) → va_S A s.heap H1 locs1 → W p l e R s m args below meth c H1 locs1 (cells + mc) (slots + ms) Q (F0 m (pc + 3) ls (.int r :: rest))) : W p l e R s m args below meth c H locs cells slots Q (F0 m pc ls (As.reverse ++ rest)) := by
  obtain ⟨hx, hb, hml, hown, hts, hK, hAm, hA, _, _⟩ := C
  have hAB : ∀ q : Nat, A q → A q := fun _ h => h
  exact cCW (va_runS (As := As) (rest := rest) ⟨hx, hb, hml, hown, hts⟩ (hM _) (va_cwS n hts g hw hrc hrs hd hR) ⟨wPre_blind, wPre_mk hP hD hK hS hA hAB hAm [0, 1, 2, 3, 4, 5, 6] rfl rfl⟩ rfl hn hls rfl (lv_room hroom) hdg hf) hP hD hS hA kk
/-- a static look at numbers alone -/
theorem callN {y : MethodName} {ws ws' : List Cond} {bytes : ByteArray} {maxL n : Nat} {ret : Option FieldType} {rm : Room} {As : List Value} {f : Int32} (C : CX p R s m args c A Γ cc nL Ts) (hM : LI l Γ y ws rm As [] f) (g : GoodIn Ts (va_wsS RL idx y ws)) (hw : ws = Cond.code y bytes maxL ret :: ws') (hrc : rm.cells = 0) (hrs : rm.slots = 0) (hR : rm.frames + 1 ≤ R.frames ∧ 8 + (maxL + 11) + rm.locals ≤ R.locals)
    (hd : y.cls ≠ "java/lang/invoke/MethodHandle" ∧ y.cls ≠ "java/lang/invoke/VarHandle" ∧ (parseMethodDescriptor y.desc).map (fun d => d.parameters.length) = some n) (hn : As.length = n) (hls : ls.size = nL) (hroom : (rest.map fun v => v.category).sum ≤ 8) (hdg : decode cc pc = .ok (.invokestatic idx, 3)) (hc : cells ≤ R.cells ∧ slots ≤ R.slots) (w : WD Γ D A s P S H locs)
    (kk : ∀ (H1 : Heap) (locs1 : List Loc), WD Γ D A s P S H1 locs1 → W p l e R s m args below meth c H1 locs1 cells slots Q (F0 m (pc + 3) ls (.int f :: rest))) : W p l e R s m args below meth c H locs cells slots Q (F0 m pc ls (As.reverse ++ rest)) := by
  obtain ⟨hx, hb, hml, hown, hts, hK, hAm, hA, _, _⟩ := C
  have hAB : ∀ q : Nat, A q → A q := fun _ h => h
  obtain ⟨x, hP, hD, hS, hB⟩ := w
  exact cLI (va_runS (As := As) (rest := rest) ⟨hx, hb, hml, hown, hts⟩ (hM _) (va_cwS n hts g hw hrc hrs hd hR) ⟨wPre_blind, wPre_mk hP hD hK hS hA hAB hAm [] rfl rfl⟩ rfl hn hls rfl (lv_room hroom) hdg hc) hP hS hA (fun H1 locs1 hP hS => kk H1 locs1 ⟨x, hP, hD, hS, hB⟩)
/-- a method of the class itself -/
theorem callV9 {y : MethodName} {ws ws' : List Cond} {bytes : ByteArray} {maxL n : Nat} {ret : Option FieldType} {rm : Room} {As : List Value} (C : CX p R s m args c A Γ cc nL Ts) (hM : CW l Γ D y ws rm (.ref D.1 :: As) x Post mc ms) (g : GoodIn Ts (wsV RL idx RX4 y ws)) (hw : ws = Cond.code y bytes maxL ret :: ws') (hrc : rm.cells = mc) (hrs : rm.slots = ms) (hR : rm.frames + 1 ≤ R.frames ∧ 8 + (maxL + 11) + rm.locals ≤ R.locals)
    (hd : y.cls = RX4 ∧ y.cls ≠ "java/lang/invoke/MethodHandle" ∧ y.cls ≠ "java/lang/invoke/VarHandle" ∧ (parseMethodDescriptor y.desc).map (fun d => d.parameters.length) = some n) (hn : As.length = n) (hls : ls.size = nL) (hroom : (rest.map fun v => v.category).sum ≤ 8) (hdg : decode cc pc = .ok (.invokevirtual idx, 3)) (hf : cells + mc ≤ R.cells ∧ slots + ms ≤ R.slots) (hP : va_P Γ.1 vwCl (wcat (W7 Γ D x)) H) (hD : va_D A (wcat (W7 Γ D x))) (hS : va_S A s.heap H locs)
    (kk : ∀ (r : Int32) (u : ST) (H1 : Heap) (locs1 : List Loc), Post r u → va_P Γ.1 vwCl (wcat (W7 Γ D u)) H1 → va_D A (wcat (W7 Γ D u)) → va_S A s.heap H1 locs1 → W p l e R s m args below meth c H1 locs1 (cells + mc) (slots + ms) Q (F0 m (pc + 3) ls (.int r :: rest))) : W p l e R s m args below meth c H locs cells slots Q (F0 m pc ls (As.reverse ++ .ref D.1 :: rest)) := by
  obtain ⟨hx, hb, hml, hown, hts, hK, hAm, hA, _, _⟩ := C
  have hAB : ∀ q : Nat, A q → A q := fun _ h => h
  exact cCW (va_runV (As := As) (rest := rest) ⟨hx, hb, hml, hown, hts⟩ (hM _) (cwV n hts g hw hrc hrs hd hR) ⟨wPre_blind, va_recv hK hP (ci := 4) (q0 := 0) rfl rfl, wPre_mk hP hD hK hS hA hAB hAm [0, 1, 2, 3, 4, 5, 6] rfl rfl⟩ rfl hn hls rfl (lv_room hroom) hdg hf) hP hD hS hA kk
theorem n_count (C : CX p R s m args c A Γ cc nL Ts) (g : GoodIn Ts (va_wsS RL idx yL_count wsL_count)) (w : WD Γ D A s P S H locs) {k : Nat} (hk : k < 12) {f : Int32} (hf : cntV P S k = f) (hls : ls.size = nL) (hroom : (rest.map fun v => v.category).sum ≤ 8) (hdg : decode cc pc = .ok (.invokestatic idx, 3)) (hc : cells ≤ R.cells ∧ slots ≤ R.slots)
    (kk : ∀ (H1 : Heap) (locs1 : List Loc), WD Γ D A s (P) (S) H1 locs1 → W p l e R s m args below meth c H1 locs1 cells slots Q (F0 m (pc + 3) ls (.int f :: rest))) : W p l e R s m args below meth c H locs cells slots Q (F0 m pc ls (.int (nI k) :: .ref D.1 :: rest)) := by
  obtain ⟨x, hP, hD, hS, hB⟩ := w
  subst hf
  obtain ⟨_, _, _, _, _, _, _, _, hR1, hR2⟩ := id C
  refine callW (n := 2) (As := [.ref D.1, .int (nI k)]) C (W_count hB hk) g rfl rfl rfl ⟨Nat.le_trans (Nat.le_of_ble_eq_true rfl) hR1, Nat.le_trans (Nat.le_of_ble_eq_true rfl) hR2⟩ (by decide +kernel) rfl hls hroom hdg hc hP hD hS (fun r u H1 locs1 hr hP hD hS => ?_)
  obtain ⟨rfl, hB⟩ := hr
  exact kk H1 locs1 ⟨u, hP, hD, hS, hB⟩
theorem n_keeperOf (C : CX p R s m args c A Γ cc nL Ts) (g : GoodIn Ts (va_wsS RL idx yL_keeperOf wsL_keeperOf)) (w : WD Γ D A s P S H locs) {k i : Nat} (hk : k < P 0 0) (hi : i < 5) {f : Int32} (hf : koV P k i = f) (hls : ls.size = nL) (hroom : (rest.map fun v => v.category).sum ≤ 8) (hdg : decode cc pc = .ok (.invokestatic idx, 3)) (hc : cells ≤ R.cells ∧ slots ≤ R.slots)
    (kk : ∀ (H1 : Heap) (locs1 : List Loc), WD Γ D A s (P) (S) H1 locs1 → W p l e R s m args below meth c H1 locs1 cells slots Q (F0 m (pc + 3) ls (.int f :: rest))) : W p l e R s m args below meth c H locs cells slots Q (F0 m pc ls (.int (nI i) :: .int (nI k) :: .ref D.1 :: rest)) := by
  obtain ⟨x, hP, hD, hS, hB⟩ := w
  subst hf
  obtain ⟨_, _, _, _, _, _, _, _, hR1, hR2⟩ := id C
  refine callW (n := 3) (As := [.ref D.1, .int (nI k), .int (nI i)]) C (W_keeperOf hB hk hi) g rfl rfl rfl ⟨Nat.le_trans (Nat.le_of_ble_eq_true rfl) hR1, Nat.le_trans (Nat.le_of_ble_eq_true rfl) hR2⟩ (by decide +kernel) rfl hls hroom hdg hc hP hD hS (fun r u H1 locs1 hr hP hD hS => ?_)
  obtain ⟨rfl, hB⟩ := hr
  exact kk H1 locs1 ⟨u, hP, hD, hS, hB⟩
theorem n_share (C : CX p R s m args c A Γ cc nL Ts) (g : GoodIn Ts (va_wsS RL idx yL_share wsL_share)) (w : WD Γ D A s P S H locs) {k i : Nat} (hk : k < 8) (hi : i < 3) {f : Int32} (hf : shV P k i = f) (hls : ls.size = nL) (hroom : (rest.map fun v => v.category).sum ≤ 8) (hdg : decode cc pc = .ok (.invokestatic idx, 3)) (hc : cells ≤ R.cells ∧ slots ≤ R.slots)
    (kk : ∀ (H1 : Heap) (locs1 : List Loc), WD Γ D A s (P) (S) H1 locs1 → W p l e R s m args below meth c H1 locs1 cells slots Q (F0 m (pc + 3) ls (.int f :: rest))) : W p l e R s m args below meth c H locs cells slots Q (F0 m pc ls (.int (nI i) :: .int (nI k) :: .ref D.1 :: rest)) := by
  obtain ⟨x, hP, hD, hS, hB⟩ := w
  subst hf
  obtain ⟨_, _, _, _, _, _, _, _, hR1, hR2⟩ := id C
  refine callW (n := 3) (As := [.ref D.1, .int (nI k), .int (nI i)]) C (W_share hB hk hi) g rfl rfl rfl ⟨Nat.le_trans (Nat.le_of_ble_eq_true rfl) hR1, Nat.le_trans (Nat.le_of_ble_eq_true rfl) hR2⟩ (by decide +kernel) rfl hls hroom hdg hc hP hD hS (fun r u H1 locs1 hr hP hD hS => ?_)
  obtain ⟨rfl, hB⟩ := hr
  exact kk H1 locs1 ⟨u, hP, hD, hS, hB⟩
theorem n_told (C : CX p R s m args c A Γ cc nL Ts) (g : GoodIn Ts (va_wsS RL idx yL_told wsL_told)) (w : WD Γ D A s P S H locs) {k : Nat} (hk : k < 256) {f : Int32} (hf : toV P k = f) (hls : ls.size = nL) (hroom : (rest.map fun v => v.category).sum ≤ 8) (hdg : decode cc pc = .ok (.invokestatic idx, 3)) (hc : cells ≤ R.cells ∧ slots ≤ R.slots)
    (kk : ∀ (H1 : Heap) (locs1 : List Loc), WD Γ D A s (P) (S) H1 locs1 → W p l e R s m args below meth c H1 locs1 cells slots Q (F0 m (pc + 3) ls (.int f :: rest))) : W p l e R s m args below meth c H locs cells slots Q (F0 m pc ls (.int (nI k) :: .ref D.1 :: rest)) := by
  obtain ⟨x, hP, hD, hS, hB⟩ := w
  subst hf
  obtain ⟨_, _, _, _, _, _, _, _, hR1, hR2⟩ := id C
  refine callW (n := 2) (As := [.ref D.1, .int (nI k)]) C (W_told hB hk) g rfl rfl rfl ⟨Nat.le_trans (Nat.le_of_ble_eq_true rfl) hR1, Nat.le_trans (Nat.le_of_ble_eq_true rfl) hR2⟩ (by decide +kernel) rfl hls hroom hdg hc hP hD hS (fun r u H1 locs1 hr hP hD hS => ?_)
  obtain ⟨rfl, hB⟩ := hr
  exact kk H1 locs1 ⟨u, hP, hD, hS, hB⟩
theorem n_possible (C : CX p R s m args c A Γ cc nL Ts) (g : GoodIn Ts (va_wsS RL idx yL_possible wsL_possible)) (w : WD Γ D A s P S H locs) {k : Nat} (hk : k < 256) {f : Int32} (hf : poV P k = f) (hls : ls.size = nL) (hroom : (rest.map fun v => v.category).sum ≤ 8) (hdg : decode cc pc = .ok (.invokestatic idx, 3)) (hc : cells ≤ R.cells ∧ slots ≤ R.slots)
    (kk : ∀ (H1 : Heap) (locs1 : List Loc), WD Γ D A s (P) (S) H1 locs1 → W p l e R s m args below meth c H1 locs1 cells slots Q (F0 m (pc + 3) ls (.int f :: rest))) : W p l e R s m args below meth c H locs cells slots Q (F0 m pc ls (.int (nI k) :: .ref D.1 :: rest)) := by
  obtain ⟨x, hP, hD, hS, hB⟩ := w
  subst hf
  obtain ⟨_, _, _, _, _, _, _, _, hR1, hR2⟩ := id C
  refine callW (n := 2) (As := [.ref D.1, .int (nI k)]) C (W_possible hB hk) g rfl rfl rfl ⟨Nat.le_trans (Nat.le_of_ble_eq_true rfl) hR1, Nat.le_trans (Nat.le_of_ble_eq_true rfl) hR2⟩ (by decide +kernel) rfl hls hroom hdg hc hP hD hS (fun r u H1 locs1 hr hP hD hS => ?_)
  obtain ⟨rfl, hB⟩ := hr
  exact kk H1 locs1 ⟨u, hP, hD, hS, hB⟩
theorem n_why (C : CX p R s m args c A Γ cc nL Ts) (g : GoodIn Ts (va_wsS RL idx yL_why wsL_why)) (w : WD Γ D A s P S H locs) {k : Nat} (hk : k < 2 ^ P 0 0) {f : Int32} (hf : nI (reaN P k false) = f) (hls : ls.size = nL) (hroom : (rest.map fun v => v.category).sum ≤ 8) (hdg : decode cc pc = .ok (.invokestatic idx, 3)) (hc : cells ≤ R.cells ∧ slots ≤ R.slots)
    (kk : ∀ (H1 : Heap) (locs1 : List Loc), WD Γ D A s (P) (S) H1 locs1 → W p l e R s m args below meth c H1 locs1 cells slots Q (F0 m (pc + 3) ls (.int f :: rest))) : W p l e R s m args below meth c H locs cells slots Q (F0 m pc ls (.int (nI k) :: .ref D.1 :: rest)) := by
  obtain ⟨x, hP, hD, hS, hB⟩ := w
  subst hf
  obtain ⟨_, _, _, _, _, _, _, _, hR1, hR2⟩ := id C
  refine callW (n := 2) (As := [.ref D.1, .int (nI k)]) C (W_why hB hk) g rfl rfl rfl ⟨Nat.le_trans (Nat.le_of_ble_eq_true rfl) hR1, Nat.le_trans (Nat.le_of_ble_eq_true rfl) hR2⟩ (by decide +kernel) rfl hls hroom hdg hc hP hD hS (fun r u H1 locs1 hr hP hD hS => ?_)
  obtain ⟨rfl, hB⟩ := hr
  exact kk H1 locs1 ⟨u, hP, hD, hS, hB⟩
theorem n_smallest (C : CX p R s m args c A Γ cc nL Ts) (g : GoodIn Ts (va_wsS RL idx yL_smallest wsL_smallest)) (w : WD Γ D A s P S H locs) {k : Nat} (hk : k < 2) {f : Int32} (hf : smA P (nI k) = f) (hls : ls.size = nL) (hroom : (rest.map fun v => v.category).sum ≤ 8) (hdg : decode cc pc = .ok (.invokestatic idx, 3)) (hc : cells ≤ R.cells ∧ slots ≤ R.slots)
    (kk : ∀ (H1 : Heap) (locs1 : List Loc), WD Γ D A s (P) (S) H1 locs1 → W p l e R s m args below meth c H1 locs1 cells slots Q (F0 m (pc + 3) ls (.int f :: rest))) : W p l e R s m args below meth c H locs cells slots Q (F0 m pc ls (.int (nI k) :: .ref D.1 :: rest)) := by
  obtain ⟨x, hP, hD, hS, hB⟩ := w
  subst hf
  obtain ⟨_, _, _, _, _, _, _, _, hR1, hR2⟩ := id C
  refine callW (n := 2) (As := [.ref D.1, .int (nI k)]) C (W_smallest hB hk) g rfl rfl rfl ⟨Nat.le_trans (Nat.le_of_ble_eq_true rfl) hR1, Nat.le_trans (Nat.le_of_ble_eq_true rfl) hR2⟩ (by decide +kernel) rfl hls hroom hdg hc hP hD hS (fun r u H1 locs1 hr hP hD hS => ?_)
  obtain ⟨rfl, hB⟩ := hr
  exact kk H1 locs1 ⟨u, hP, hD, hS, hB⟩
theorem n_groups (C : CX p R s m args c A Γ cc nL Ts) (g : GoodIn Ts (wsV RL idx RX4 yX4_groups wsX4_groups)) (w : WD Γ D A s P S H locs) (hls : ls.size = nL) (hroom : (rest.map fun v => v.category).sum ≤ 8) (hdg : decode cc pc = .ok (.invokevirtual idx, 3)) (hc : cells ≤ R.cells ∧ slots ≤ R.slots)
    (kk : ∀ (H1 : Heap) (locs1 : List Loc), WD Γ D A s (P) (S) H1 locs1 → W p l e R s m args below meth c H1 locs1 cells slots Q (F0 m (pc + 3) ls (.int (nI (grN P)) :: rest))) : W p l e R s m args below meth c H locs cells slots Q (F0 m pc ls (.ref D.1 :: rest)) := by
  obtain ⟨x, hP, hD, hS, hB⟩ := w
  obtain ⟨_, _, _, _, _, _, _, _, hR1, hR2⟩ := id C
  refine callV9 (n := 0) (As := []) C (V_groups hB) g rfl rfl rfl ⟨Nat.le_trans (Nat.le_of_ble_eq_true rfl) hR1, Nat.le_trans (Nat.le_of_ble_eq_true rfl) hR2⟩ (by decide +kernel) rfl hls hroom hdg hc hP hD hS (fun r u H1 locs1 hr hP hD hS => ?_)
  obtain ⟨rfl, hB⟩ := hr
  exact kk H1 locs1 ⟨u, hP, hD, hS, hB⟩
theorem n_needed (C : CX p R s m args c A Γ cc nL Ts) (g : GoodIn Ts (wsV RL idx RX4 yX4_needed wsX4_needed)) (w : WD Γ D A s P S H locs) (hls : ls.size = nL) (hroom : (rest.map fun v => v.category).sum ≤ 8) (hdg : decode cc pc = .ok (.invokevirtual idx, 3)) (hc : cells ≤ R.cells ∧ slots ≤ R.slots)
    (kk : ∀ (H1 : Heap) (locs1 : List Loc), WD Γ D A s (P) (S) H1 locs1 → W p l e R s m args below meth c H1 locs1 cells slots Q (F0 m (pc + 3) ls (.int (nI (neN P)) :: rest))) : W p l e R s m args below meth c H locs cells slots Q (F0 m pc ls (.ref D.1 :: rest)) := by
  obtain ⟨x, hP, hD, hS, hB⟩ := w
  obtain ⟨_, _, _, _, _, _, _, _, hR1, hR2⟩ := id C
  refine callV9 (n := 0) (As := []) C (V_needed hB) g rfl rfl rfl ⟨Nat.le_trans (Nat.le_of_ble_eq_true rfl) hR1, Nat.le_trans (Nat.le_of_ble_eq_true rfl) hR2⟩ (by decide +kernel) rfl hls hroom hdg hc hP hD hS (fun r u H1 locs1 hr hP hD hS => ?_)
  obtain ⟨rfl, hB⟩ := hr
  exact kk H1 locs1 ⟨u, hP, hD, hS, hB⟩
theorem n_firstError (C : CX p R s m args c A Γ cc nL Ts) (g : GoodIn Ts (wsV RL idx RX4 yX4_firstError wsX4_firstError)) (w : WD Γ D A s P S H locs) (hls : ls.size = nL) (hroom : (rest.map fun v => v.category).sum ≤ 8) (hdg : decode cc pc = .ok (.invokevirtual idx, 3)) (hc : cells ≤ R.cells ∧ slots ≤ R.slots)
    (kk : ∀ (H1 : Heap) (locs1 : List Loc), WD Γ D A s (P) (S) H1 locs1 → W p l e R s m args below meth c H1 locs1 cells slots Q (F0 m (pc + 3) ls (.int (nI 0) :: rest))) : W p l e R s m args below meth c H locs cells slots Q (F0 m pc ls (.ref D.1 :: rest)) := by
  obtain ⟨x, hP, hD, hS, hB⟩ := w
  obtain ⟨_, _, _, _, _, _, _, _, hR1, hR2⟩ := id C
  refine callV9 (n := 0) (As := []) C (V_firstError hB) g rfl rfl rfl ⟨Nat.le_trans (Nat.le_of_ble_eq_true rfl) hR1, Nat.le_trans (Nat.le_of_ble_eq_true rfl) hR2⟩ (by decide +kernel) rfl hls hroom hdg hc hP hD hS (fun r u H1 locs1 hr hP hD hS => ?_)
  obtain ⟨rfl, hB⟩ := hr
  exact kk H1 locs1 ⟨u, hP, hD, hS, hB⟩
theorem n_peace (C : CX p R s m args c A Γ cc nL Ts) (g : GoodIn Ts (wsV RL idx RX4 yX4_peace wsX4_peace)) (w : WD Γ D A s P S H locs) {la : Int32} {f : Int32} (hf : (piF (gaN P) la 8 0 (-1, 0)).1 = f) (hls : ls.size = nL) (hroom : (rest.map fun v => v.category).sum ≤ 8) (hdg : decode cc pc = .ok (.invokevirtual idx, 3)) (hc : cells ≤ R.cells ∧ slots ≤ R.slots)
    (kk : ∀ (H1 : Heap) (locs1 : List Loc), WD Γ D A s (P) (S) H1 locs1 → W p l e R s m args below meth c H1 locs1 cells slots Q (F0 m (pc + 3) ls (.int f :: rest))) : W p l e R s m args below meth c H locs cells slots Q (F0 m pc ls (.int (la) :: .ref D.1 :: rest)) := by
  obtain ⟨x, hP, hD, hS, hB⟩ := w
  subst hf
  obtain ⟨_, _, _, _, _, _, _, _, hR1, hR2⟩ := id C
  refine callV9 (n := 1) (As := [.int (la)]) C (V_peace hB la) g rfl rfl rfl ⟨Nat.le_trans (Nat.le_of_ble_eq_true rfl) hR1, Nat.le_trans (Nat.le_of_ble_eq_true rfl) hR2⟩ (by decide +kernel) rfl hls hroom hdg hc hP hD hS (fun r u H1 locs1 hr hP hD hS => ?_)
  obtain ⟨rfl, hB⟩ := hr
  exact kk H1 locs1 ⟨u, hP, hD, hS, hB⟩
theorem n_keeper (C : CX p R s m args c A Γ cc nL Ts) (g : GoodIn Ts (va_wsS RL idx yL_keeper wsL_keeper)) (w : WD Γ D A s P S H locs) (h1 : P 0 0 < 8) (hls : ls.size = nL) (hroom : (rest.map fun v => v.category).sum ≤ 8) (hdg : decode cc pc = .ok (.invokestatic idx, 3)) (hc : cells ≤ R.cells ∧ slots ≤ R.slots)
    (kk : ∀ (H1 : Heap) (locs1 : List Loc), WT Γ D A s (addP P) (svS S) P H1 locs1 → W p l e R s m args below meth c H1 locs1 cells slots Q (F0 m (pc + 3) ls (.int (nI (P 0 0)) :: rest))) : W p l e R s m args below meth c H locs cells slots Q (F0 m pc ls (.ref D.1 :: rest)) := by
  obtain ⟨x, hP, hD, hS, hB⟩ := w
  obtain ⟨_, _, _, _, _, _, _, _, hR1, hR2⟩ := id C
  refine callW (n := 1) (As := [.ref D.1]) C (W_keeper hB h1) g rfl rfl rfl ⟨Nat.le_trans (Nat.le_of_ble_eq_true rfl) hR1, Nat.le_trans (Nat.le_of_ble_eq_true rfl) hR2⟩ (by decide +kernel) rfl hls hroom hdg hc hP hD hS (fun r u H1 locs1 hr hP hD hS => ?_)
  obtain ⟨rfl, hB, ht⟩ := hr
  exact kk H1 locs1 ⟨u, hP, hD, hS, hB, ht⟩
theorem n_die (C : CX p R s m args c A Γ cc nL Ts) (g : GoodIn Ts (va_wsS RL idx yL_die wsL_die)) (w : WD Γ D A s P S H locs) {k : Nat} (h1 : k < P 0 0) (h2 : (P 0 1).testBit k = true) (hls : ls.size = nL) (hroom : (rest.map fun v => v.category).sum ≤ 8) (hdg : decode cc pc = .ok (.invokestatic idx, 3)) (hc : cells ≤ R.cells ∧ slots ≤ R.slots)
    (kk : ∀ (H1 : Heap) (locs1 : List Loc), WT Γ D A s (buryP P k) (svS S) P H1 locs1 → W p l e R s m args below meth c H1 locs1 cells slots Q (F0 m (pc + 3) ls (.int (nI (buN P k)) :: rest))) : W p l e R s m args below meth c H locs cells slots Q (F0 m pc ls (.int (nI k) :: .ref D.1 :: rest)) := by
  obtain ⟨x, hP, hD, hS, hB⟩ := w
  obtain ⟨_, _, _, _, _, _, _, _, hR1, hR2⟩ := id C
  refine callW (n := 2) (As := [.ref D.1, .int (nI k)]) C (W_die hB h1 h2) g rfl rfl rfl ⟨Nat.le_trans (Nat.le_of_ble_eq_true rfl) hR1, Nat.le_trans (Nat.le_of_ble_eq_true rfl) hR2⟩ (by decide +kernel) rfl hls hroom hdg hc hP hD hS (fun r u H1 locs1 hr hP hD hS => ?_)
  obtain ⟨rfl, hB, ht⟩ := hr
  exact kk H1 locs1 ⟨u, hP, hD, hS, hB, ht⟩
theorem n_heir (C : CX p R s m args c A Γ cc nL Ts) (g : GoodIn Ts (va_wsS RL idx yL_heir wsL_heir)) (w : WD Γ D A s P S H locs) {k i : Nat} (h1 : k < P 0 0) (h2 : (P 0 1).testBit k = true) (h3 : i ≤ P 0 0) (h4 : i ≠ k + 1) (h5 : i ≠ 0 → (P 0 1).testBit (i - 1) = true) (hls : ls.size = nL) (hroom : (rest.map fun v => v.category).sum ≤ 8) (hdg : decode cc pc = .ok (.invokestatic idx, 3)) (hc : cells ≤ R.cells ∧ slots ≤ R.slots)
    (kk : ∀ (H1 : Heap) (locs1 : List Loc), WT Γ D A s (heirP P k i) (svS S) P H1 locs1 → W p l e R s m args below meth c H1 locs1 cells slots Q (F0 m (pc + 3) ls (.int (dn (P 1 k)) :: rest))) : W p l e R s m args below meth c H locs cells slots Q (F0 m pc ls (.int (dn i) :: .int (nI k) :: .ref D.1 :: rest)) := by
  obtain ⟨x, hP, hD, hS, hB⟩ := w
  obtain ⟨_, _, _, _, _, _, _, _, hR1, hR2⟩ := id C
  refine callW (n := 3) (As := [.ref D.1, .int (nI k), .int (dn i)]) C (W_heir hB h1 h2 h3 h4 h5) g rfl rfl rfl ⟨Nat.le_trans (Nat.le_of_ble_eq_true rfl) hR1, Nat.le_trans (Nat.le_of_ble_eq_true rfl) hR2⟩ (by decide +kernel) rfl hls hroom hdg hc hP hD hS (fun r u H1 locs1 hr hP hD hS => ?_)
  obtain ⟨rfl, hB, ht⟩ := hr
  exact kk H1 locs1 ⟨u, hP, hD, hS, hB, ht⟩
theorem n_quarrel (C : CX p R s m args c A Γ cc nL Ts) (g : GoodIn Ts (va_wsS RL idx yL_quarrel wsL_quarrel)) (w : WD Γ D A s P S H locs) {k i : Nat} (h1 : k < P 0 0) (h2 : i < P 0 0) (h3 : k ≠ i) (hls : ls.size = nL) (hroom : (rest.map fun v => v.category).sum ≤ 8) (hdg : decode cc pc = .ok (.invokestatic idx, 3)) (hc : cells ≤ R.cells ∧ slots ≤ R.slots)
    (kk : ∀ (H1 : Heap) (locs1 : List Loc), WT Γ D A s (togP P k i) (svS S) P H1 locs1 → W p l e R s m args below meth c H1 locs1 cells slots Q (F0 m (pc + 3) ls (.int (nI (pop (togP P k i 2 k))) :: rest))) : W p l e R s m args below meth c H locs cells slots Q (F0 m pc ls (.int (nI i) :: .int (nI k) :: .ref D.1 :: rest)) := by
  obtain ⟨x, hP, hD, hS, hB⟩ := w
  obtain ⟨_, _, _, _, _, _, _, _, hR1, hR2⟩ := id C
  refine callW (n := 3) (As := [.ref D.1, .int (nI k), .int (nI i)]) C (W_quarrel hB h1 h2 h3) g rfl rfl rfl ⟨Nat.le_trans (Nat.le_of_ble_eq_true rfl) hR1, Nat.le_trans (Nat.le_of_ble_eq_true rfl) hR2⟩ (by decide +kernel) rfl hls hroom hdg hc hP hD hS (fun r u H1 locs1 hr hP hD hS => ?_)
  obtain ⟨rfl, hB, ht⟩ := hr
  exact kk H1 locs1 ⟨u, hP, hD, hS, hB, ht⟩
theorem n_seal (C : CX p R s m args c A Γ cc nL Ts) (g : GoodIn Ts (va_wsS RL idx yL_seal wsL_seal)) (w : WD Γ D A s P S H locs) {k i d : Nat} (h1 : k < 251) (h2 : 1 ≤ i) (h3 : i ≤ 8) (h4 : d ≤ 9999) (h5 : i ≤ pop (P 0 1)) (hls : ls.size = nL) (hroom : (rest.map fun v => v.category).sum ≤ 8) (hdg : decode cc pc = .ok (.invokestatic idx, 3)) (hc : cells ≤ R.cells ∧ slots ≤ R.slots)
    (kk : ∀ (H1 : Heap) (locs1 : List Loc), WT Γ D A s (dealP (shutP P k i d) i) (svS S) P H1 locs1 → W p l e R s m args below meth c H1 locs1 cells slots Q (F0 m (pc + 3) ls (.int (nI (pop (P 0 1))) :: rest))) : W p l e R s m args below meth c H locs cells slots Q (F0 m pc ls (.int (nI d) :: .int (nI i) :: .int (nI k) :: .ref D.1 :: rest)) := by
  obtain ⟨x, hP, hD, hS, hB⟩ := w
  obtain ⟨_, _, _, _, _, _, _, _, hR1, hR2⟩ := id C
  refine callW (n := 4) (As := [.ref D.1, .int (nI k), .int (nI i), .int (nI d)]) C (W_seal hB h1 h2 h3 h4 h5) g rfl rfl rfl ⟨Nat.le_trans (Nat.le_of_ble_eq_true rfl) hR1, Nat.le_trans (Nat.le_of_ble_eq_true rfl) hR2⟩ (by decide +kernel) rfl hls hroom hdg hc hP hD hS (fun r u H1 locs1 hr hP hD hS => ?_)
  obtain ⟨rfl, hB, ht⟩ := hr
  exact kk H1 locs1 ⟨u, hP, hD, hS, hB, ht⟩
theorem n_renew (C : CX p R s m args c A Γ cc nL Ts) (g : GoodIn Ts (va_wsS RL idx yL_renew wsL_renew)) (w : WD Γ D A s P S H locs) (h1 : P 0 4 = 1) (h2 : P 0 6 ≤ pop (P 0 1)) (hls : ls.size = nL) (hroom : (rest.map fun v => v.category).sum ≤ 8) (hdg : decode cc pc = .ok (.invokestatic idx, 3)) (hc : cells ≤ R.cells ∧ slots ≤ R.slots)
    (kk : ∀ (H1 : Heap) (locs1 : List Loc), WT Γ D A s (dealP P (P 0 6)) (svS S) P H1 locs1 → W p l e R s m args below meth c H1 locs1 cells slots Q (F0 m (pc + 3) ls (.int (nI (pop (P 0 1))) :: rest))) : W p l e R s m args below meth c H locs cells slots Q (F0 m pc ls (.ref D.1 :: rest)) := by
  obtain ⟨x, hP, hD, hS, hB⟩ := w
  obtain ⟨_, _, _, _, _, _, _, _, hR1, hR2⟩ := id C
  refine callW (n := 1) (As := [.ref D.1]) C (W_renew hB h1 h2) g rfl rfl rfl ⟨Nat.le_trans (Nat.le_of_ble_eq_true rfl) hR1, Nat.le_trans (Nat.le_of_ble_eq_true rfl) hR2⟩ (by decide +kernel) rfl hls hroom hdg hc hP hD hS (fun r u H1 locs1 hr hP hD hS => ?_)
  obtain ⟨rfl, hB, ht⟩ := hr
  exact kk H1 locs1 ⟨u, hP, hD, hS, hB, ht⟩
theorem n_forge (C : CX p R s m args c A Γ cc nL Ts) (g : GoodIn Ts (va_wsS RL idx yL_forge wsL_forge)) (w : WD Γ D A s P S H locs) {k i : Nat} (h1 : k < 8) (h2 : i < 251) (h3 : P 4 k ≠ 0) (hls : ls.size = nL) (hroom : (rest.map fun v => v.category).sum ≤ 8) (hdg : decode cc pc = .ok (.invokestatic idx, 3)) (hc : cells ≤ R.cells ∧ slots ≤ R.slots)
    (kk : ∀ (H1 : Heap) (locs1 : List Loc), WT Γ D A s (forgeP P k i) (svS S) P H1 locs1 → W p l e R s m args below meth c H1 locs1 cells slots Q (F0 m (pc + 3) ls (.int (nI (P 5 k)) :: rest))) : W p l e R s m args below meth c H locs cells slots Q (F0 m pc ls (.int (nI i) :: .int (nI k) :: .ref D.1 :: rest)) := by
  obtain ⟨x, hP, hD, hS, hB⟩ := w
  obtain ⟨_, _, _, _, _, _, _, _, hR1, hR2⟩ := id C
  refine callW (n := 3) (As := [.ref D.1, .int (nI k), .int (nI i)]) C (W_forge hB h1 h2 h3) g rfl rfl rfl ⟨Nat.le_trans (Nat.le_of_ble_eq_true rfl) hR1, Nat.le_trans (Nat.le_of_ble_eq_true rfl) hR2⟩ (by decide +kernel) rfl hls hroom hdg hc hP hD hS (fun r u H1 locs1 hr hP hD hS => ?_)
  obtain ⟨rfl, hB, ht⟩ := hr
  exact kk H1 locs1 ⟨u, hP, hD, hS, hB, ht⟩
theorem n_pass (C : CX p R s m args c A Γ cc nL Ts) (g : GoodIn Ts (va_wsS RL idx yL_pass wsL_pass)) (w : WD Γ D A s P S H locs) {k : Nat} (h1 : 1 ≤ k) (h2 : k ≤ 999) (h3 : P 0 3 + k ≤ 99999) (hls : ls.size = nL) (hroom : (rest.map fun v => v.category).sum ≤ 8) (hdg : decode cc pc = .ok (.invokestatic idx, 3)) (hc : cells ≤ R.cells ∧ slots ≤ R.slots)
    (kk : ∀ (H1 : Heap) (locs1 : List Loc), WT Γ D A s (passP P k) (svS S) P H1 locs1 → W p l e R s m args below meth c H1 locs1 cells slots Q (F0 m (pc + 3) ls (.int (nI (P 0 3 + k)) :: rest))) : W p l e R s m args below meth c H locs cells slots Q (F0 m pc ls (.int (nI k) :: .ref D.1 :: rest)) := by
  obtain ⟨x, hP, hD, hS, hB⟩ := w
  obtain ⟨_, _, _, _, _, _, _, _, hR1, hR2⟩ := id C
  refine callW (n := 2) (As := [.ref D.1, .int (nI k)]) C (W_pass hB h1 h2 h3) g rfl rfl rfl ⟨Nat.le_trans (Nat.le_of_ble_eq_true rfl) hR1, Nat.le_trans (Nat.le_of_ble_eq_true rfl) hR2⟩ (by decide +kernel) rfl hls hroom hdg hc hP hD hS (fun r u H1 locs1 hr hP hD hS => ?_)
  obtain ⟨rfl, hB, ht⟩ := hr
  exact kk H1 locs1 ⟨u, hP, hD, hS, hB, ht⟩
theorem n_open (C : CX p R s m args c A Γ cc nL Ts) (g : GoodIn Ts (va_wsS RL idx yL_open wsL_open)) (w : WD Γ D A s P S H locs) {k : Nat} (h1 : k < 2 ^ P 0 0) (hls : ls.size = nL) (hroom : (rest.map fun v => v.category).sum ≤ 8) (hdg : decode cc pc = .ok (.invokestatic idx, 3)) (hc : cells ≤ R.cells ∧ slots ≤ R.slots)
    (kk : ∀ (H1 : Heap) (locs1 : List Loc), WT Γ D A s (tryP P k (decide (reaN P k false = 0))) (svS S) P H1 locs1 → W p l e R s m args below meth c H1 locs1 cells slots Q (F0 m (pc + 3) ls (.int (nI (reaN P k false)) :: rest))) : W p l e R s m args below meth c H locs cells slots Q (F0 m pc ls (.int (nI k) :: .ref D.1 :: rest)) := by
  obtain ⟨x, hP, hD, hS, hB⟩ := w
  obtain ⟨_, _, _, _, _, _, _, _, hR1, hR2⟩ := id C
  refine callW (n := 2) (As := [.ref D.1, .int (nI k)]) C (W_open hB h1) g rfl rfl rfl ⟨Nat.le_trans (Nat.le_of_ble_eq_true rfl) hR1, Nat.le_trans (Nat.le_of_ble_eq_true rfl) hR2⟩ (by decide +kernel) rfl hls hroom hdg hc hP hD hS (fun r u H1 locs1 hr hP hD hS => ?_)
  obtain ⟨rfl, hB, ht⟩ := hr
  exact kk H1 locs1 ⟨u, hP, hD, hS, hB, ht⟩
theorem n_undo {T : Nat → Nat → Nat} (C : CX p R s m args c A Γ cc nL Ts) (g : GoodIn Ts (va_wsS RL idx yL_undo wsL_undo)) (w : WT Γ D A s P S T H locs) (hls : ls.size = nL) (hroom : (rest.map fun v => v.category).sum ≤ 8) (hdg : decode cc pc = .ok (.invokestatic idx, 3)) (hc : cells ≤ R.cells ∧ slots ≤ R.slots)
    (kk : ∀ (H1 : Heap) (locs1 : List Loc), WD Γ D A s (T) (S - 1) H1 locs1 → W p l e R s m args below meth c H1 locs1 cells slots Q (F0 m (pc + 3) ls (.int (nI (S - 1)) :: rest))) : W p l e R s m args below meth c H locs cells slots Q (F0 m pc ls (.ref D.1 :: rest)) := by
  obtain ⟨x, hP, hD, hS, hB, ht⟩ := w
  obtain ⟨_, _, _, _, _, _, _, _, hR1, hR2⟩ := id C
  refine callW (n := 1) (As := [.ref D.1]) C (W_undo hB ht) g rfl rfl rfl ⟨Nat.le_trans (Nat.le_of_ble_eq_true rfl) hR1, Nat.le_trans (Nat.le_of_ble_eq_true rfl) hR2⟩ (by decide +kernel) rfl hls hroom hdg hc hP hD hS (fun r u H1 locs1 hr hP hD hS => ?_)
  obtain ⟨rfl, hB⟩ := hr
  exact kk H1 locs1 ⟨u, hP, hD, hS, hB⟩
theorem n_keeper1 (hfl : l.stackTraces = false) (C : CX p R s m args c A Γ cc nL Ts) (g : GoodIn Ts (va_wsS RL idx yL_keeper wsL_keeper)) (w : WD Γ D A s P S H locs) (h1 : ¬ P 0 0 < 8) (hls : ls.size = nL) (hroom : (rest.map fun v => v.category).sum ≤ 8) (hdg : decode cc pc = .ok (.invokestatic idx, 3)) (hc : cells + 1 ≤ R.cells ∧ slots + 6 ≤ R.slots)
    (kk : ∀ (H1 : Heap) (locs1 : List Loc), WD Γ D A s (P) (S) H1 locs1 → W p l e R s m args below meth c H1 locs1 (cells + 1) (slots + 6) Q (F0 m (pc + 3) ls (.int ((-2000001 : Int32)) :: rest))) : W p l e R s m args below meth c H locs cells slots Q (F0 m pc ls (.ref D.1 :: rest)) := by
  obtain ⟨x, hP, hD, hS, hB⟩ := w
  obtain ⟨_, _, _, _, _, _, _, _, hR1, hR2⟩ := id C
  refine callW (n := 1) (As := [.ref D.1]) C (X_keeper hfl hB h1) g rfl rfl rfl ⟨Nat.le_trans (Nat.le_of_ble_eq_true rfl) hR1, Nat.le_trans (Nat.le_of_ble_eq_true rfl) hR2⟩ (by decide +kernel) rfl hls hroom hdg hc hP hD hS (fun r u H1 locs1 hr hP hD hS => ?_)
  obtain ⟨rfl, hB⟩ := hr
  exact kk H1 locs1 ⟨u, hP, hD, hS, hB⟩
theorem n_die1 (hfl : l.stackTraces = false) (C : CX p R s m args c A Γ cc nL Ts) (g : GoodIn Ts (va_wsS RL idx yL_die wsL_die)) (w : WD Γ D A s P S H locs) {k : Nat} (h1 : ¬ k < P 0 0) (h2 : k < 2 ^ 31) (hls : ls.size = nL) (hroom : (rest.map fun v => v.category).sum ≤ 8) (hdg : decode cc pc = .ok (.invokestatic idx, 3)) (hc : cells + 1 ≤ R.cells ∧ slots + 6 ≤ R.slots)
    (kk : ∀ (H1 : Heap) (locs1 : List Loc), WD Γ D A s (P) (S) H1 locs1 → W p l e R s m args below meth c H1 locs1 (cells + 1) (slots + 6) Q (F0 m (pc + 3) ls (.int ((-2000001 : Int32)) :: rest))) : W p l e R s m args below meth c H locs cells slots Q (F0 m pc ls (.int (nI k) :: .ref D.1 :: rest)) := by
  obtain ⟨x, hP, hD, hS, hB⟩ := w
  obtain ⟨_, _, _, _, _, _, _, _, hR1, hR2⟩ := id C
  refine callW (n := 2) (As := [.ref D.1, .int (nI k)]) C (X_die1 hfl hB h1 h2) g rfl rfl rfl ⟨Nat.le_trans (Nat.le_of_ble_eq_true rfl) hR1, Nat.le_trans (Nat.le_of_ble_eq_true rfl) hR2⟩ (by decide +kernel) rfl hls hroom hdg hc hP hD hS (fun r u H1 locs1 hr hP hD hS => ?_)
  obtain ⟨rfl, hB⟩ := hr
  exact kk H1 locs1 ⟨u, hP, hD, hS, hB⟩
theorem n_die2 (hfl : l.stackTraces = false) (C : CX p R s m args c A Γ cc nL Ts) (g : GoodIn Ts (va_wsS RL idx yL_die wsL_die)) (w : WD Γ D A s P S H locs) {k : Nat} (h1 : k < P 0 0) (h2 : (P 0 1).testBit k = false) (hls : ls.size = nL) (hroom : (rest.map fun v => v.category).sum ≤ 8) (hdg : decode cc pc = .ok (.invokestatic idx, 3)) (hc : cells + 1 ≤ R.cells ∧ slots + 6 ≤ R.slots)
    (kk : ∀ (H1 : Heap) (locs1 : List Loc), WD Γ D A s (P) (S) H1 locs1 → W p l e R s m args below meth c H1 locs1 (cells + 1) (slots + 6) Q (F0 m (pc + 3) ls (.int ((-2000002 : Int32)) :: rest))) : W p l e R s m args below meth c H locs cells slots Q (F0 m pc ls (.int (nI k) :: .ref D.1 :: rest)) := by
  obtain ⟨x, hP, hD, hS, hB⟩ := w
  obtain ⟨_, _, _, _, _, _, _, _, hR1, hR2⟩ := id C
  refine callW (n := 2) (As := [.ref D.1, .int (nI k)]) C (X_die2 hfl hB h1 h2) g rfl rfl rfl ⟨Nat.le_trans (Nat.le_of_ble_eq_true rfl) hR1, Nat.le_trans (Nat.le_of_ble_eq_true rfl) hR2⟩ (by decide +kernel) rfl hls hroom hdg hc hP hD hS (fun r u H1 locs1 hr hP hD hS => ?_)
  obtain ⟨rfl, hB⟩ := hr
  exact kk H1 locs1 ⟨u, hP, hD, hS, hB⟩
theorem n_heir1 (hfl : l.stackTraces = false) (C : CX p R s m args c A Γ cc nL Ts) (g : GoodIn Ts (va_wsS RL idx yL_heir wsL_heir)) (w : WD Γ D A s P S H locs) {k : Nat} {y : Int32} (h1 : ¬ k < P 0 0) (h2 : k < 2 ^ 31) (hls : ls.size = nL) (hroom : (rest.map fun v => v.category).sum ≤ 8) (hdg : decode cc pc = .ok (.invokestatic idx, 3)) (hc : cells + 1 ≤ R.cells ∧ slots + 6 ≤ R.slots)
    (kk : ∀ (H1 : Heap) (locs1 : List Loc), WD Γ D A s (P) (S) H1 locs1 → W p l e R s m args below meth c H1 locs1 (cells + 1) (slots + 6) Q (F0 m (pc + 3) ls (.int ((-2000001 : Int32)) :: rest))) : W p l e R s m args below meth c H locs cells slots Q (F0 m pc ls (.int (y) :: .int (nI k) :: .ref D.1 :: rest)) := by
  obtain ⟨x, hP, hD, hS, hB⟩ := w
  obtain ⟨_, _, _, _, _, _, _, _, hR1, hR2⟩ := id C
  refine callW (n := 3) (As := [.ref D.1, .int (nI k), .int (y)]) C (X_heir1 hfl hB y h1 h2) g rfl rfl rfl ⟨Nat.le_trans (Nat.le_of_ble_eq_true rfl) hR1, Nat.le_trans (Nat.le_of_ble_eq_true rfl) hR2⟩ (by decide +kernel) rfl hls hroom hdg hc hP hD hS (fun r u H1 locs1 hr hP hD hS => ?_)
  obtain ⟨rfl, hB⟩ := hr
  exact kk H1 locs1 ⟨u, hP, hD, hS, hB⟩
theorem n_heir3 (hfl : l.stackTraces = false) (C : CX p R s m args c A Γ cc nL Ts) (g : GoodIn Ts (va_wsS RL idx yL_heir wsL_heir)) (w : WD Γ D A s P S H locs) {k : Nat} {y : Int32} (h1 : k < P 0 0) (h2 : ¬ y = (-1)) (h3 : ∀ v : Nat → Nat → Int32, v 0 0 = nI (P 0 0) → fX2_hasKeeper v y = 0) (hls : ls.size = nL) (hroom : (rest.map fun v => v.category).sum ≤ 8) (hdg : decode cc pc = .ok (.invokestatic idx, 3)) (hc : cells + 1 ≤ R.cells ∧ slots + 6 ≤ R.slots)
    (kk : ∀ (H1 : Heap) (locs1 : List Loc), WD Γ D A s (P) (S) H1 locs1 → W p l e R s m args below meth c H1 locs1 (cells + 1) (slots + 6) Q (F0 m (pc + 3) ls (.int ((-2000001 : Int32)) :: rest))) : W p l e R s m args below meth c H locs cells slots Q (F0 m pc ls (.int (y) :: .int (nI k) :: .ref D.1 :: rest)) := by
  obtain ⟨x, hP, hD, hS, hB⟩ := w
  obtain ⟨_, _, _, _, _, _, _, _, hR1, hR2⟩ := id C
  refine callW (n := 3) (As := [.ref D.1, .int (nI k), .int (y)]) C (X_heir3 hfl hB h1 h2 h3) g rfl rfl rfl ⟨Nat.le_trans (Nat.le_of_ble_eq_true rfl) hR1, Nat.le_trans (Nat.le_of_ble_eq_true rfl) hR2⟩ (by decide +kernel) rfl hls hroom hdg hc hP hD hS (fun r u H1 locs1 hr hP hD hS => ?_)
  obtain ⟨rfl, hB⟩ := hr
  exact kk H1 locs1 ⟨u, hP, hD, hS, hB⟩
theorem n_heir2 (hfl : l.stackTraces = false) (C : CX p R s m args c A Γ cc nL Ts) (g : GoodIn Ts (va_wsS RL idx yL_heir wsL_heir)) (w : WD Γ D A s P S H locs) {k i : Nat} (h1 : k < P 0 0) (h2 : i ≤ P 0 0) (h3 : (P 0 1).testBit k = false ∨ i = k + 1 ∨ (i ≠ 0 ∧ (P 0 1).testBit (i - 1) = false)) (hls : ls.size = nL) (hroom : (rest.map fun v => v.category).sum ≤ 8) (hdg : decode cc pc = .ok (.invokestatic idx, 3)) (hc : cells + 1 ≤ R.cells ∧ slots + 6 ≤ R.slots)
    (kk : ∀ (H1 : Heap) (locs1 : List Loc), WD Γ D A s (P) (S) H1 locs1 → W p l e R s m args below meth c H1 locs1 (cells + 1) (slots + 6) Q (F0 m (pc + 3) ls (.int ((-2000002 : Int32)) :: rest))) : W p l e R s m args below meth c H locs cells slots Q (F0 m pc ls (.int (dn i) :: .int (nI k) :: .ref D.1 :: rest)) := by
  obtain ⟨x, hP, hD, hS, hB⟩ := w
  obtain ⟨_, _, _, _, _, _, _, _, hR1, hR2⟩ := id C
  refine callW (n := 3) (As := [.ref D.1, .int (nI k), .int (dn i)]) C (X_heir2 hfl hB h1 h2 h3) g rfl rfl rfl ⟨Nat.le_trans (Nat.le_of_ble_eq_true rfl) hR1, Nat.le_trans (Nat.le_of_ble_eq_true rfl) hR2⟩ (by decide +kernel) rfl hls hroom hdg hc hP hD hS (fun r u H1 locs1 hr hP hD hS => ?_)
  obtain ⟨rfl, hB⟩ := hr
  exact kk H1 locs1 ⟨u, hP, hD, hS, hB⟩
theorem n_quarrel1 (hfl : l.stackTraces = false) (C : CX p R s m args c A Γ cc nL Ts) (g : GoodIn Ts (va_wsS RL idx yL_quarrel wsL_quarrel)) (w : WD Γ D A s P S H locs) {k : Nat} {y : Int32} (h1 : ¬ k < P 0 0) (h2 : k < 2 ^ 31) (hls : ls.size = nL) (hroom : (rest.map fun v => v.category).sum ≤ 8) (hdg : decode cc pc = .ok (.invokestatic idx, 3)) (hc : cells + 1 ≤ R.cells ∧ slots + 6 ≤ R.slots)
    (kk : ∀ (H1 : Heap) (locs1 : List Loc), WD Γ D A s (P) (S) H1 locs1 → W p l e R s m args below meth c H1 locs1 (cells + 1) (slots + 6) Q (F0 m (pc + 3) ls (.int ((-2000001 : Int32)) :: rest))) : W p l e R s m args below meth c H locs cells slots Q (F0 m pc ls (.int (y) :: .int (nI k) :: .ref D.1 :: rest)) := by
  obtain ⟨x, hP, hD, hS, hB⟩ := w
  obtain ⟨_, _, _, _, _, _, _, _, hR1, hR2⟩ := id C
  refine callW (n := 3) (As := [.ref D.1, .int (nI k), .int (y)]) C (X_quarrel1 hfl hB y h1 h2) g rfl rfl rfl ⟨Nat.le_trans (Nat.le_of_ble_eq_true rfl) hR1, Nat.le_trans (Nat.le_of_ble_eq_true rfl) hR2⟩ (by decide +kernel) rfl hls hroom hdg hc hP hD hS (fun r u H1 locs1 hr hP hD hS => ?_)
  obtain ⟨rfl, hB⟩ := hr
  exact kk H1 locs1 ⟨u, hP, hD, hS, hB⟩
theorem n_quarrel3 (hfl : l.stackTraces = false) (C : CX p R s m args c A Γ cc nL Ts) (g : GoodIn Ts (va_wsS RL idx yL_quarrel wsL_quarrel)) (w : WD Γ D A s P S H locs) {k i : Nat} (h1 : k < P 0 0) (h2 : ¬ i < P 0 0) (h3 : i < 2 ^ 31) (hls : ls.size = nL) (hroom : (rest.map fun v => v.category).sum ≤ 8) (hdg : decode cc pc = .ok (.invokestatic idx, 3)) (hc : cells + 1 ≤ R.cells ∧ slots + 6 ≤ R.slots)
    (kk : ∀ (H1 : Heap) (locs1 : List Loc), WD Γ D A s (P) (S) H1 locs1 → W p l e R s m args below meth c H1 locs1 (cells + 1) (slots + 6) Q (F0 m (pc + 3) ls (.int ((-2000001 : Int32)) :: rest))) : W p l e R s m args below meth c H locs cells slots Q (F0 m pc ls (.int (nI i) :: .int (nI k) :: .ref D.1 :: rest)) := by
  obtain ⟨x, hP, hD, hS, hB⟩ := w
  obtain ⟨_, _, _, _, _, _, _, _, hR1, hR2⟩ := id C
  refine callW (n := 3) (As := [.ref D.1, .int (nI k), .int (nI i)]) C (X_quarrel3 hfl hB h1 h2 h3) g rfl rfl rfl ⟨Nat.le_trans (Nat.le_of_ble_eq_true rfl) hR1, Nat.le_trans (Nat.le_of_ble_eq_true rfl) hR2⟩ (by decide +kernel) rfl hls hroom hdg hc hP hD hS (fun r u H1 locs1 hr hP hD hS => ?_)
  obtain ⟨rfl, hB⟩ := hr
  exact kk H1 locs1 ⟨u, hP, hD, hS, hB⟩
theorem n_quarrel2 (hfl : l.stackTraces = false) (C : CX p R s m args c A Γ cc nL Ts) (g : GoodIn Ts (va_wsS RL idx yL_quarrel wsL_quarrel)) (w : WD Γ D A s P S H locs) {k : Nat} (h1 : k < P 0 0) (hls : ls.size = nL) (hroom : (rest.map fun v => v.category).sum ≤ 8) (hdg : decode cc pc = .ok (.invokestatic idx, 3)) (hc : cells + 1 ≤ R.cells ∧ slots + 6 ≤ R.slots)
    (kk : ∀ (H1 : Heap) (locs1 : List Loc), WD Γ D A s (P) (S) H1 locs1 → W p l e R s m args below meth c H1 locs1 (cells + 1) (slots + 6) Q (F0 m (pc + 3) ls (.int ((-2000002 : Int32)) :: rest))) : W p l e R s m args below meth c H locs cells slots Q (F0 m pc ls (.int (nI k) :: .int (nI k) :: .ref D.1 :: rest)) := by
  obtain ⟨x, hP, hD, hS, hB⟩ := w
  obtain ⟨_, _, _, _, _, _, _, _, hR1, hR2⟩ := id C
  refine callW (n := 3) (As := [.ref D.1, .int (nI k), .int (nI k)]) C (X_quarrel2 hfl hB h1) g rfl rfl rfl ⟨Nat.le_trans (Nat.le_of_ble_eq_true rfl) hR1, Nat.le_trans (Nat.le_of_ble_eq_true rfl) hR2⟩ (by decide +kernel) rfl hls hroom hdg hc hP hD hS (fun r u H1 locs1 hr hP hD hS => ?_)
  obtain ⟨rfl, hB⟩ := hr
  exact kk H1 locs1 ⟨u, hP, hD, hS, hB⟩
theorem n_seal1 (hfl : l.stackTraces = false) (C : CX p R s m args c A Γ cc nL Ts) (g : GoodIn Ts (va_wsS RL idx yL_seal wsL_seal)) (w : WD Γ D A s P S H locs) {y z : Int32} (hls : ls.size = nL) (hroom : (rest.map fun v => v.category).sum ≤ 8) (hdg : decode cc pc = .ok (.invokestatic idx, 3)) (hc : cells + 1 ≤ R.cells ∧ slots + 6 ≤ R.slots)
    (kk : ∀ (H1 : Heap) (locs1 : List Loc), WD Γ D A s (P) (S) H1 locs1 → W p l e R s m args below meth c H1 locs1 (cells + 1) (slots + 6) Q (F0 m (pc + 3) ls (.int ((-2000001 : Int32)) :: rest))) : W p l e R s m args below meth c H locs cells slots Q (F0 m pc ls (.int (z) :: .int (y) :: .int (nI 251) :: .ref D.1 :: rest)) := by
  obtain ⟨x, hP, hD, hS, hB⟩ := w
  obtain ⟨_, _, _, _, _, _, _, _, hR1, hR2⟩ := id C
  refine callW (n := 4) (As := [.ref D.1, .int (nI 251), .int (y), .int (z)]) C (X_seal1 hfl hB y z) g rfl rfl rfl ⟨Nat.le_trans (Nat.le_of_ble_eq_true rfl) hR1, Nat.le_trans (Nat.le_of_ble_eq_true rfl) hR2⟩ (by decide +kernel) rfl hls hroom hdg hc hP hD hS (fun r u H1 locs1 hr hP hD hS => ?_)
  obtain ⟨rfl, hB⟩ := hr
  exact kk H1 locs1 ⟨u, hP, hD, hS, hB⟩
theorem n_seal2 (hfl : l.stackTraces = false) (C : CX p R s m args c A Γ cc nL Ts) (g : GoodIn Ts (va_wsS RL idx yL_seal wsL_seal)) (w : WD Γ D A s P S H locs) {k i d : Nat} (h1 : k < 251) (h2 : 1 ≤ i) (h3 : i ≤ 8) (h4 : d ≤ 9999) (h5 : ¬ i ≤ pop (P 0 1)) (hls : ls.size = nL) (hroom : (rest.map fun v => v.category).sum ≤ 8) (hdg : decode cc pc = .ok (.invokestatic idx, 3)) (hc : cells + 1 ≤ R.cells ∧ slots + 6 ≤ R.slots)
    (kk : ∀ (H1 : Heap) (locs1 : List Loc), WD Γ D A s (P) (S) H1 locs1 → W p l e R s m args below meth c H1 locs1 (cells + 1) (slots + 6) Q (F0 m (pc + 3) ls (.int ((-2000002 : Int32)) :: rest))) : W p l e R s m args below meth c H locs cells slots Q (F0 m pc ls (.int (nI d) :: .int (nI i) :: .int (nI k) :: .ref D.1 :: rest)) := by
  obtain ⟨x, hP, hD, hS, hB⟩ := w
  obtain ⟨_, _, _, _, _, _, _, _, hR1, hR2⟩ := id C
  refine callW (n := 4) (As := [.ref D.1, .int (nI k), .int (nI i), .int (nI d)]) C (X_seal2 hfl hB h1 h2 h3 h4 h5) g rfl rfl rfl ⟨Nat.le_trans (Nat.le_of_ble_eq_true rfl) hR1, Nat.le_trans (Nat.le_of_ble_eq_true rfl) hR2⟩ (by decide +kernel) rfl hls hroom hdg hc hP hD hS (fun r u H1 locs1 hr hP hD hS => ?_)
  obtain ⟨rfl, hB⟩ := hr
  exact kk H1 locs1 ⟨u, hP, hD, hS, hB⟩
theorem n_renew1 (hfl : l.stackTraces = false) (C : CX p R s m args c A Γ cc nL Ts) (g : GoodIn Ts (va_wsS RL idx yL_renew wsL_renew)) (w : WD Γ D A s P S H locs) (h1 : ¬ (P 0 4 = 1 ∧ P 0 6 ≤ pop (P 0 1))) (hls : ls.size = nL) (hroom : (rest.map fun v => v.category).sum ≤ 8) (hdg : decode cc pc = .ok (.invokestatic idx, 3)) (hc : cells + 1 ≤ R.cells ∧ slots + 6 ≤ R.slots)
    (kk : ∀ (H1 : Heap) (locs1 : List Loc), WD Γ D A s (P) (S) H1 locs1 → W p l e R s m args below meth c H1 locs1 (cells + 1) (slots + 6) Q (F0 m (pc + 3) ls (.int ((-2000001 : Int32)) :: rest))) : W p l e R s m args below meth c H locs cells slots Q (F0 m pc ls (.ref D.1 :: rest)) := by
  obtain ⟨x, hP, hD, hS, hB⟩ := w
  obtain ⟨_, _, _, _, _, _, _, _, hR1, hR2⟩ := id C
  refine callW (n := 1) (As := [.ref D.1]) C (X_renew hfl hB h1) g rfl rfl rfl ⟨Nat.le_trans (Nat.le_of_ble_eq_true rfl) hR1, Nat.le_trans (Nat.le_of_ble_eq_true rfl) hR2⟩ (by decide +kernel) rfl hls hroom hdg hc hP hD hS (fun r u H1 locs1 hr hP hD hS => ?_)
  obtain ⟨rfl, hB⟩ := hr
  exact kk H1 locs1 ⟨u, hP, hD, hS, hB⟩
theorem n_forge1 (hfl : l.stackTraces = false) (C : CX p R s m args c A Γ cc nL Ts) (g : GoodIn Ts (va_wsS RL idx yL_forge wsL_forge)) (w : WD Γ D A s P S H locs) {y : Int32} (hls : ls.size = nL) (hroom : (rest.map fun v => v.category).sum ≤ 8) (hdg : decode cc pc = .ok (.invokestatic idx, 3)) (hc : cells + 1 ≤ R.cells ∧ slots + 6 ≤ R.slots)
    (kk : ∀ (H1 : Heap) (locs1 : List Loc), WD Γ D A s (P) (S) H1 locs1 → W p l e R s m args below meth c H1 locs1 (cells + 1) (slots + 6) Q (F0 m (pc + 3) ls (.int ((-2000001 : Int32)) :: rest))) : W p l e R s m args below meth c H locs cells slots Q (F0 m pc ls (.int (y) :: .int (nI 8) :: .ref D.1 :: rest)) := by
  obtain ⟨x, hP, hD, hS, hB⟩ := w
  obtain ⟨_, _, _, _, _, _, _, _, hR1, hR2⟩ := id C
  refine callW (n := 3) (As := [.ref D.1, .int (nI 8), .int (y)]) C (X_forge1 hfl hB y) g rfl rfl rfl ⟨Nat.le_trans (Nat.le_of_ble_eq_true rfl) hR1, Nat.le_trans (Nat.le_of_ble_eq_true rfl) hR2⟩ (by decide +kernel) rfl hls hroom hdg hc hP hD hS (fun r u H1 locs1 hr hP hD hS => ?_)
  obtain ⟨rfl, hB⟩ := hr
  exact kk H1 locs1 ⟨u, hP, hD, hS, hB⟩
theorem n_forge2 (hfl : l.stackTraces = false) (C : CX p R s m args c A Γ cc nL Ts) (g : GoodIn Ts (va_wsS RL idx yL_forge wsL_forge)) (w : WD Γ D A s P S H locs) {k i : Nat} (h1 : k < 8) (h2 : i < 251) (h3 : P 4 k = 0) (hls : ls.size = nL) (hroom : (rest.map fun v => v.category).sum ≤ 8) (hdg : decode cc pc = .ok (.invokestatic idx, 3)) (hc : cells + 1 ≤ R.cells ∧ slots + 6 ≤ R.slots)
    (kk : ∀ (H1 : Heap) (locs1 : List Loc), WD Γ D A s (P) (S) H1 locs1 → W p l e R s m args below meth c H1 locs1 (cells + 1) (slots + 6) Q (F0 m (pc + 3) ls (.int ((-2000002 : Int32)) :: rest))) : W p l e R s m args below meth c H locs cells slots Q (F0 m pc ls (.int (nI i) :: .int (nI k) :: .ref D.1 :: rest)) := by
  obtain ⟨x, hP, hD, hS, hB⟩ := w
  obtain ⟨_, _, _, _, _, _, _, _, hR1, hR2⟩ := id C
  refine callW (n := 3) (As := [.ref D.1, .int (nI k), .int (nI i)]) C (X_forge2 hfl hB h1 h2 h3) g rfl rfl rfl ⟨Nat.le_trans (Nat.le_of_ble_eq_true rfl) hR1, Nat.le_trans (Nat.le_of_ble_eq_true rfl) hR2⟩ (by decide +kernel) rfl hls hroom hdg hc hP hD hS (fun r u H1 locs1 hr hP hD hS => ?_)
  obtain ⟨rfl, hB⟩ := hr
  exact kk H1 locs1 ⟨u, hP, hD, hS, hB⟩
theorem n_pass1 (hfl : l.stackTraces = false) (C : CX p R s m args c A Γ cc nL Ts) (g : GoodIn Ts (va_wsS RL idx yL_pass wsL_pass)) (w : WD Γ D A s P S H locs) (hls : ls.size = nL) (hroom : (rest.map fun v => v.category).sum ≤ 8) (hdg : decode cc pc = .ok (.invokestatic idx, 3)) (hc : cells + 1 ≤ R.cells ∧ slots + 6 ≤ R.slots)
    (kk : ∀ (H1 : Heap) (locs1 : List Loc), WD Γ D A s (P) (S) H1 locs1 → W p l e R s m args below meth c H1 locs1 (cells + 1) (slots + 6) Q (F0 m (pc + 3) ls (.int ((-2000001 : Int32)) :: rest))) : W p l e R s m args below meth c H locs cells slots Q (F0 m pc ls (.int (nI 0) :: .ref D.1 :: rest)) := by
  obtain ⟨x, hP, hD, hS, hB⟩ := w
  obtain ⟨_, _, _, _, _, _, _, _, hR1, hR2⟩ := id C
  refine callW (n := 2) (As := [.ref D.1, .int (nI 0)]) C (X_pass1 hfl hB) g rfl rfl rfl ⟨Nat.le_trans (Nat.le_of_ble_eq_true rfl) hR1, Nat.le_trans (Nat.le_of_ble_eq_true rfl) hR2⟩ (by decide +kernel) rfl hls hroom hdg hc hP hD hS (fun r u H1 locs1 hr hP hD hS => ?_)
  obtain ⟨rfl, hB⟩ := hr
  exact kk H1 locs1 ⟨u, hP, hD, hS, hB⟩
theorem n_pass2 (hfl : l.stackTraces = false) (C : CX p R s m args c A Γ cc nL Ts) (g : GoodIn Ts (va_wsS RL idx yL_pass wsL_pass)) (w : WD Γ D A s P S H locs) {k : Nat} (h1 : 1 ≤ k) (h2 : k ≤ 999) (h3 : ¬ P 0 3 + k ≤ 99999) (hls : ls.size = nL) (hroom : (rest.map fun v => v.category).sum ≤ 8) (hdg : decode cc pc = .ok (.invokestatic idx, 3)) (hc : cells + 1 ≤ R.cells ∧ slots + 6 ≤ R.slots)
    (kk : ∀ (H1 : Heap) (locs1 : List Loc), WD Γ D A s (P) (S) H1 locs1 → W p l e R s m args below meth c H1 locs1 (cells + 1) (slots + 6) Q (F0 m (pc + 3) ls (.int ((-2000002 : Int32)) :: rest))) : W p l e R s m args below meth c H locs cells slots Q (F0 m pc ls (.int (nI k) :: .ref D.1 :: rest)) := by
  obtain ⟨x, hP, hD, hS, hB⟩ := w
  obtain ⟨_, _, _, _, _, _, _, _, hR1, hR2⟩ := id C
  refine callW (n := 2) (As := [.ref D.1, .int (nI k)]) C (X_pass2 hfl hB h1 h2 h3) g rfl rfl rfl ⟨Nat.le_trans (Nat.le_of_ble_eq_true rfl) hR1, Nat.le_trans (Nat.le_of_ble_eq_true rfl) hR2⟩ (by decide +kernel) rfl hls hroom hdg hc hP hD hS (fun r u H1 locs1 hr hP hD hS => ?_)
  obtain ⟨rfl, hB⟩ := hr
  exact kk H1 locs1 ⟨u, hP, hD, hS, hB⟩
theorem n_open1 (hfl : l.stackTraces = false) (C : CX p R s m args c A Γ cc nL Ts) (g : GoodIn Ts (va_wsS RL idx yL_open wsL_open)) (w : WD Γ D A s P S H locs) (hls : ls.size = nL) (hroom : (rest.map fun v => v.category).sum ≤ 8) (hdg : decode cc pc = .ok (.invokestatic idx, 3)) (hc : cells + 1 ≤ R.cells ∧ slots + 6 ≤ R.slots)
    (kk : ∀ (H1 : Heap) (locs1 : List Loc), WD Γ D A s (P) (S) H1 locs1 → W p l e R s m args below meth c H1 locs1 (cells + 1) (slots + 6) Q (F0 m (pc + 3) ls (.int ((-2000001 : Int32)) :: rest))) : W p l e R s m args below meth c H locs cells slots Q (F0 m pc ls (.int (nI 256) :: .ref D.1 :: rest)) := by
  obtain ⟨x, hP, hD, hS, hB⟩ := w
  obtain ⟨_, _, _, _, _, _, _, _, hR1, hR2⟩ := id C
  refine callW (n := 2) (As := [.ref D.1, .int (nI 256)]) C (X_open1 hfl hB) g rfl rfl rfl ⟨Nat.le_trans (Nat.le_of_ble_eq_true rfl) hR1, Nat.le_trans (Nat.le_of_ble_eq_true rfl) hR2⟩ (by decide +kernel) rfl hls hroom hdg hc hP hD hS (fun r u H1 locs1 hr hP hD hS => ?_)
  obtain ⟨rfl, hB⟩ := hr
  exact kk H1 locs1 ⟨u, hP, hD, hS, hB⟩
theorem n_append1 (hfl : l.stackTraces = false) (C : CX p R s m args c A Γ cc nL Ts) (g : GoodIn Ts (va_wsS RL idx yL_append wsL_append)) (w : WD Γ D A s P S H locs) (hls : ls.size = nL) (hroom : (rest.map fun v => v.category).sum ≤ 8) (hdg : decode cc pc = .ok (.invokestatic idx, 3)) (hc : cells + 1 ≤ R.cells ∧ slots + 6 ≤ R.slots)
    (kk : ∀ (H1 : Heap) (locs1 : List Loc), WD Γ D A s (P) (S) H1 locs1 → W p l e R s m args below meth c H1 locs1 (cells + 1) (slots + 6) Q (F0 m (pc + 3) ls (.int ((-2000001 : Int32)) :: rest))) : W p l e R s m args below meth c H locs cells slots Q (F0 m pc ls (.int (nI 32) :: .ref D.1 :: rest)) := by
  obtain ⟨x, hP, hD, hS, hB⟩ := w
  obtain ⟨_, _, _, _, _, _, _, _, hR1, hR2⟩ := id C
  refine callW (n := 2) (As := [.ref D.1, .int (nI 32)]) C (X_append1 hfl hB) g rfl rfl rfl ⟨Nat.le_trans (Nat.le_of_ble_eq_true rfl) hR1, Nat.le_trans (Nat.le_of_ble_eq_true rfl) hR2⟩ (by decide +kernel) rfl hls hroom hdg hc hP hD hS (fun r u H1 locs1 hr hP hD hS => ?_)
  obtain ⟨rfl, hB⟩ := hr
  exact kk H1 locs1 ⟨u, hP, hD, hS, hB⟩
theorem n_live1 (hfl : l.stackTraces = false) (C : CX p R s m args c A Γ cc nL Ts) (g : GoodIn Ts (va_wsS RL idx yL_live wsL_live)) (w : WD Γ D A s P S H locs) (hls : ls.size = nL) (hroom : (rest.map fun v => v.category).sum ≤ 8) (hdg : decode cc pc = .ok (.invokestatic idx, 3)) (hc : cells + 1 ≤ R.cells ∧ slots + 6 ≤ R.slots)
    (kk : ∀ (H1 : Heap) (locs1 : List Loc), WD Γ D A s (P) (S) H1 locs1 → W p l e R s m args below meth c H1 locs1 (cells + 1) (slots + 6) Q (F0 m (pc + 3) ls (.int ((-2000001 : Int32)) :: rest))) : W p l e R s m args below meth c H locs cells slots Q (F0 m pc ls (.ref D.1 :: rest)) := by
  obtain ⟨x, hP, hD, hS, hB⟩ := w
  obtain ⟨_, _, _, _, _, _, _, _, hR1, hR2⟩ := id C
  refine callW (n := 1) (As := [.ref D.1]) C (X_live1 hfl hB) g rfl rfl rfl ⟨Nat.le_trans (Nat.le_of_ble_eq_true rfl) hR1, Nat.le_trans (Nat.le_of_ble_eq_true rfl) hR2⟩ (by decide +kernel) rfl hls hroom hdg hc hP hD hS (fun r u H1 locs1 hr hP hD hS => ?_)
  obtain ⟨rfl, hB⟩ := hr
  exact kk H1 locs1 ⟨u, hP, hD, hS, hB⟩
theorem n_keeperOf1 (hfl : l.stackTraces = false) (C : CX p R s m args c A Γ cc nL Ts) (g : GoodIn Ts (va_wsS RL idx yL_keeperOf wsL_keeperOf)) (w : WD Γ D A s P S H locs) {k : Nat} {y : Int32} (h1 : ¬ k < P 0 0) (h2 : k < 2 ^ 31) (hls : ls.size = nL) (hroom : (rest.map fun v => v.category).sum ≤ 8) (hdg : decode cc pc = .ok (.invokestatic idx, 3)) (hc : cells + 1 ≤ R.cells ∧ slots + 6 ≤ R.slots)
    (kk : ∀ (H1 : Heap) (locs1 : List Loc), WD Γ D A s (P) (S) H1 locs1 → W p l e R s m args below meth c H1 locs1 (cells + 1) (slots + 6) Q (F0 m (pc + 3) ls (.int ((-2000001 : Int32)) :: rest))) : W p l e R s m args below meth c H locs cells slots Q (F0 m pc ls (.int (y) :: .int (nI k) :: .ref D.1 :: rest)) := by
  obtain ⟨x, hP, hD, hS, hB⟩ := w
  obtain ⟨_, _, _, _, _, _, _, _, hR1, hR2⟩ := id C
  refine callW (n := 3) (As := [.ref D.1, .int (nI k), .int (y)]) C (X_keeperOf1 hfl hB y h1 h2) g rfl rfl rfl ⟨Nat.le_trans (Nat.le_of_ble_eq_true rfl) hR1, Nat.le_trans (Nat.le_of_ble_eq_true rfl) hR2⟩ (by decide +kernel) rfl hls hroom hdg hc hP hD hS (fun r u H1 locs1 hr hP hD hS => ?_)
  obtain ⟨rfl, hB⟩ := hr
  exact kk H1 locs1 ⟨u, hP, hD, hS, hB⟩
theorem n_keeperOf2 (hfl : l.stackTraces = false) (C : CX p R s m args c A Γ cc nL Ts) (g : GoodIn Ts (va_wsS RL idx yL_keeperOf wsL_keeperOf)) (w : WD Γ D A s P S H locs) {k : Nat} (h1 : k < P 0 0) (hls : ls.size = nL) (hroom : (rest.map fun v => v.category).sum ≤ 8) (hdg : decode cc pc = .ok (.invokestatic idx, 3)) (hc : cells + 1 ≤ R.cells ∧ slots + 6 ≤ R.slots)
    (kk : ∀ (H1 : Heap) (locs1 : List Loc), WD Γ D A s (P) (S) H1 locs1 → W p l e R s m args below meth c H1 locs1 (cells + 1) (slots + 6) Q (F0 m (pc + 3) ls (.int ((-2000002 : Int32)) :: rest))) : W p l e R s m args below meth c H locs cells slots Q (F0 m pc ls (.int (nI 5) :: .int (nI k) :: .ref D.1 :: rest)) := by
  obtain ⟨x, hP, hD, hS, hB⟩ := w
  obtain ⟨_, _, _, _, _, _, _, _, hR1, hR2⟩ := id C
  refine callW (n := 3) (As := [.ref D.1, .int (nI k), .int (nI 5)]) C (X_keeperOf2 hfl hB h1) g rfl rfl rfl ⟨Nat.le_trans (Nat.le_of_ble_eq_true rfl) hR1, Nat.le_trans (Nat.le_of_ble_eq_true rfl) hR2⟩ (by decide +kernel) rfl hls hroom hdg hc hP hD hS (fun r u H1 locs1 hr hP hD hS => ?_)
  obtain ⟨rfl, hB⟩ := hr
  exact kk H1 locs1 ⟨u, hP, hD, hS, hB⟩
theorem n_share1 (hfl : l.stackTraces = false) (C : CX p R s m args c A Γ cc nL Ts) (g : GoodIn Ts (va_wsS RL idx yL_share wsL_share)) (w : WD Γ D A s P S H locs) (hls : ls.size = nL) (hroom : (rest.map fun v => v.category).sum ≤ 8) (hdg : decode cc pc = .ok (.invokestatic idx, 3)) (hc : cells + 1 ≤ R.cells ∧ slots + 6 ≤ R.slots)
    (kk : ∀ (H1 : Heap) (locs1 : List Loc), WD Γ D A s (P) (S) H1 locs1 → W p l e R s m args below meth c H1 locs1 (cells + 1) (slots + 6) Q (F0 m (pc + 3) ls (.int ((-2000001 : Int32)) :: rest))) : W p l e R s m args below meth c H locs cells slots Q (F0 m pc ls (.int (nI 3) :: .int (nI 0) :: .ref D.1 :: rest)) := by
  obtain ⟨x, hP, hD, hS, hB⟩ := w
  obtain ⟨_, _, _, _, _, _, _, _, hR1, hR2⟩ := id C
  refine callW (n := 3) (As := [.ref D.1, .int (nI 0), .int (nI 3)]) C (X_share1 hfl hB) g rfl rfl rfl ⟨Nat.le_trans (Nat.le_of_ble_eq_true rfl) hR1, Nat.le_trans (Nat.le_of_ble_eq_true rfl) hR2⟩ (by decide +kernel) rfl hls hroom hdg hc hP hD hS (fun r u H1 locs1 hr hP hD hS => ?_)
  obtain ⟨rfl, hB⟩ := hr
  exact kk H1 locs1 ⟨u, hP, hD, hS, hB⟩
theorem n_count1 (hfl : l.stackTraces = false) (C : CX p R s m args c A Γ cc nL Ts) (g : GoodIn Ts (va_wsS RL idx yL_count wsL_count)) (w : WD Γ D A s P S H locs) (hls : ls.size = nL) (hroom : (rest.map fun v => v.category).sum ≤ 8) (hdg : decode cc pc = .ok (.invokestatic idx, 3)) (hc : cells + 1 ≤ R.cells ∧ slots + 6 ≤ R.slots)
    (kk : ∀ (H1 : Heap) (locs1 : List Loc), WD Γ D A s (P) (S) H1 locs1 → W p l e R s m args below meth c H1 locs1 (cells + 1) (slots + 6) Q (F0 m (pc + 3) ls (.int ((-2000001 : Int32)) :: rest))) : W p l e R s m args below meth c H locs cells slots Q (F0 m pc ls (.int (nI 12) :: .ref D.1 :: rest)) := by
  obtain ⟨x, hP, hD, hS, hB⟩ := w
  obtain ⟨_, _, _, _, _, _, _, _, hR1, hR2⟩ := id C
  refine callW (n := 2) (As := [.ref D.1, .int (nI 12)]) C (X_count1 hfl hB) g rfl rfl rfl ⟨Nat.le_trans (Nat.le_of_ble_eq_true rfl) hR1, Nat.le_trans (Nat.le_of_ble_eq_true rfl) hR2⟩ (by decide +kernel) rfl hls hroom hdg hc hP hD hS (fun r u H1 locs1 hr hP hD hS => ?_)
  obtain ⟨rfl, hB⟩ := hr
  exact kk H1 locs1 ⟨u, hP, hD, hS, hB⟩
theorem n_told1 (hfl : l.stackTraces = false) (C : CX p R s m args c A Γ cc nL Ts) (g : GoodIn Ts (va_wsS RL idx yL_told wsL_told)) (w : WD Γ D A s P S H locs) (hls : ls.size = nL) (hroom : (rest.map fun v => v.category).sum ≤ 8) (hdg : decode cc pc = .ok (.invokestatic idx, 3)) (hc : cells + 1 ≤ R.cells ∧ slots + 6 ≤ R.slots)
    (kk : ∀ (H1 : Heap) (locs1 : List Loc), WD Γ D A s (P) (S) H1 locs1 → W p l e R s m args below meth c H1 locs1 (cells + 1) (slots + 6) Q (F0 m (pc + 3) ls (.int ((-2000001 : Int32)) :: rest))) : W p l e R s m args below meth c H locs cells slots Q (F0 m pc ls (.int (nI 256) :: .ref D.1 :: rest)) := by
  obtain ⟨x, hP, hD, hS, hB⟩ := w
  obtain ⟨_, _, _, _, _, _, _, _, hR1, hR2⟩ := id C
  refine callW (n := 2) (As := [.ref D.1, .int (nI 256)]) C (X_told1 hfl hB) g rfl rfl rfl ⟨Nat.le_trans (Nat.le_of_ble_eq_true rfl) hR1, Nat.le_trans (Nat.le_of_ble_eq_true rfl) hR2⟩ (by decide +kernel) rfl hls hroom hdg hc hP hD hS (fun r u H1 locs1 hr hP hD hS => ?_)
  obtain ⟨rfl, hB⟩ := hr
  exact kk H1 locs1 ⟨u, hP, hD, hS, hB⟩
theorem n_possible1 (hfl : l.stackTraces = false) (C : CX p R s m args c A Γ cc nL Ts) (g : GoodIn Ts (va_wsS RL idx yL_possible wsL_possible)) (w : WD Γ D A s P S H locs) (hls : ls.size = nL) (hroom : (rest.map fun v => v.category).sum ≤ 8) (hdg : decode cc pc = .ok (.invokestatic idx, 3)) (hc : cells + 1 ≤ R.cells ∧ slots + 6 ≤ R.slots)
    (kk : ∀ (H1 : Heap) (locs1 : List Loc), WD Γ D A s (P) (S) H1 locs1 → W p l e R s m args below meth c H1 locs1 (cells + 1) (slots + 6) Q (F0 m (pc + 3) ls (.int ((-2000001 : Int32)) :: rest))) : W p l e R s m args below meth c H locs cells slots Q (F0 m pc ls (.int (-1) :: .ref D.1 :: rest)) := by
  obtain ⟨x, hP, hD, hS, hB⟩ := w
  obtain ⟨_, _, _, _, _, _, _, _, hR1, hR2⟩ := id C
  refine callW (n := 2) (As := [.ref D.1, .int (-1)]) C (X_possible1 hfl hB) g rfl rfl rfl ⟨Nat.le_trans (Nat.le_of_ble_eq_true rfl) hR1, Nat.le_trans (Nat.le_of_ble_eq_true rfl) hR2⟩ (by decide +kernel) rfl hls hroom hdg hc hP hD hS (fun r u H1 locs1 hr hP hD hS => ?_)
  obtain ⟨rfl, hB⟩ := hr
  exact kk H1 locs1 ⟨u, hP, hD, hS, hB⟩
theorem n_smallest1 (hfl : l.stackTraces = false) (C : CX p R s m args c A Γ cc nL Ts) (g : GoodIn Ts (va_wsS RL idx yL_smallest wsL_smallest)) (w : WD Γ D A s P S H locs) (hls : ls.size = nL) (hroom : (rest.map fun v => v.category).sum ≤ 8) (hdg : decode cc pc = .ok (.invokestatic idx, 3)) (hc : cells + 1 ≤ R.cells ∧ slots + 6 ≤ R.slots)
    (kk : ∀ (H1 : Heap) (locs1 : List Loc), WD Γ D A s (P) (S) H1 locs1 → W p l e R s m args below meth c H1 locs1 (cells + 1) (slots + 6) Q (F0 m (pc + 3) ls (.int ((-2000001 : Int32)) :: rest))) : W p l e R s m args below meth c H locs cells slots Q (F0 m pc ls (.int (nI 2) :: .ref D.1 :: rest)) := by
  obtain ⟨x, hP, hD, hS, hB⟩ := w
  obtain ⟨_, _, _, _, _, _, _, _, hR1, hR2⟩ := id C
  refine callW (n := 2) (As := [.ref D.1, .int (nI 2)]) C (X_smallest1 hfl hB) g rfl rfl rfl ⟨Nat.le_trans (Nat.le_of_ble_eq_true rfl) hR1, Nat.le_trans (Nat.le_of_ble_eq_true rfl) hR2⟩ (by decide +kernel) rfl hls hroom hdg hc hP hD hS (fun r u H1 locs1 hr hP hD hS => ?_)
  obtain ⟨rfl, hB⟩ := hr
  exact kk H1 locs1 ⟨u, hP, hD, hS, hB⟩
theorem n_undo1 (hfl : l.stackTraces = false) (C : CX p R s m args c A Γ cc nL Ts) (g : GoodIn Ts (va_wsS RL idx yL_undo wsL_undo)) (w : WD Γ D A s P 0 H locs) (hls : ls.size = nL) (hroom : (rest.map fun v => v.category).sum ≤ 8) (hdg : decode cc pc = .ok (.invokestatic idx, 3)) (hc : cells + 1 ≤ R.cells ∧ slots + 6 ≤ R.slots)
    (kk : ∀ (H1 : Heap) (locs1 : List Loc), WD Γ D A s P 0 H1 locs1 → W p l e R s m args below meth c H1 locs1 (cells + 1) (slots + 6) Q (F0 m (pc + 3) ls (.int ((-2000001 : Int32)) :: rest))) : W p l e R s m args below meth c H locs cells slots Q (F0 m pc ls (.ref D.1 :: rest)) := by
  obtain ⟨x, hP, hD, hS, hB⟩ := w
  obtain ⟨_, _, _, _, _, _, _, _, hR1, hR2⟩ := id C
  refine callW (n := 1) (As := [.ref D.1]) C (X_undo1 hfl hB) g rfl rfl rfl ⟨Nat.le_trans (Nat.le_of_ble_eq_true rfl) hR1, Nat.le_trans (Nat.le_of_ble_eq_true rfl) hR2⟩ (by decide +kernel) rfl hls hroom hdg hc hP hD hS (fun r u H1 locs1 hr hP hD hS => ?_)
  obtain ⟨rfl, hB⟩ := hr
  exact kk H1 locs1 ⟨u, hP, hD, hS, hB⟩
/-- x = y, as 1 or 0 -/
theorem eqB {x y : Int32} (hx : p.tables.exec = Jvm.exec) (hb : c.code = cc) (d0 : decode cc pc = .ok (.if_icmp .ne 7, 3)) (d1 : decode cc (pc + 3) = .ok (.iconst 1, 1)) (d2 : decode cc (pc + 4) = .ok (.goto 4, 3)) (d3 : decode cc (pc + 7) = .ok (.iconst 0, 1)) (k : W p l e R s m args below meth c H locs cells slots Q (F0 m (pc + 8) ls (.int (bI (decide (x = y))) :: rest))) : W p l e R s m args below meth c H locs cells slots Q (F0 m pc ls (.int y :: .int x :: rest)) := by
  refine lv_icmp_ne (tgt := pc + 7) hx hb d0 (by omega) (fun z => ?_) (fun z => ?_)
  · refine lv_iconst (v := nI 0) hx hb d3 (by decide) ?_
    have : bI (decide (x = y)) = nI 0 := by simp [bI, z]
    rw [this] at k
    exact k
  · refine lv_iconst (v := nI 1) hx hb d1 (by decide) ?_
    refine lv_goto (tgt := pc + 8) hx hb d2 (by omega) ?_
    have : bI (decide (x = y)) = nI 1 := by simp [bI, z]
    rw [this] at k
    exact k
theorem eqZ {x : Int32} (hx : p.tables.exec = Jvm.exec) (hb : c.code = cc) (d0 : decode cc pc = .ok (.ifCond .ne 7, 3)) (d1 : decode cc (pc + 3) = .ok (.iconst 1, 1)) (d2 : decode cc (pc + 4) = .ok (.goto 4, 3)) (d3 : decode cc (pc + 7) = .ok (.iconst 0, 1)) (k : W p l e R s m args below meth c H locs cells slots Q (F0 m (pc + 8) ls (.int (bI (decide (x = 0))) :: rest))) : W p l e R s m args below meth c H locs cells slots Q (F0 m pc ls (.int x :: rest)) := by
  refine lv_if_ne (tgt := pc + 7) hx hb d0 (by omega) (fun z => ?_) (fun z => ?_)
  · refine lv_iconst (v := nI 0) hx hb d3 (by decide) ?_
    have : bI (decide (x = 0)) = nI 0 := by simp [bI, z]
    rw [this] at k
    exact k
  · refine lv_iconst (v := nI 1) hx hb d1 (by decide) ?_
    refine lv_goto (tgt := pc + 8) hx hb d2 (by omega) ?_
    have : bI (decide (x = 0)) = nI 1 := by simp [bI, z]
    rw [this] at k
    exact k
end CL
