section DGL
variable {p : Program} {l : Launch} {e : Env} {R : Room} {s : State} {m : MethodId} {args : Array Value} {below : List Frame} {meth : Method} {c : Code} {H : Heap} {locs : List Loc} {cells slots : Nat} {Q : State → Prop}
variable {pc : Nat} {ls : Array Slot} {rest st0 : List Value} {cc : ByteArray} {A : Nat → Prop} {Γ : wG} {D : AD} {x : ST} {nL : Nat} {Ts : List Cond} {P : Nat → Nat → Nat} {S idx mc ms : Nat} {Post : Int32 → ST → Prop}
theorem n_lowest (C : CX p R s m args c A Γ cc nL Ts) (g : GoodIn Ts (va_wsS RL idx yL_lowest wsL_lowest)) (w : WD Γ D A s P S H locs) {k : Nat} (hk : k < 256) (h1 : 1 ≤ k) (hls : ls.size = nL) (hroom : (rest.map fun v => v.category).sum ≤ 8) (hdg : decode cc pc = .ok (.invokestatic idx, 3)) (hc : cells ≤ R.cells ∧ slots ≤ R.slots)
    (kk : ∀ (H1 : Heap) (locs1 : List Loc), WD Γ D A s P S H1 locs1 → W p l e R s m args below meth c H1 locs1 cells slots Q (F0 m (pc + 3) ls (.int (nI (lwN k)) :: rest))) : W p l e R s m args below meth c H locs cells slots Q (F0 m pc ls (.int (nI k) :: rest)) := by
  obtain ⟨_, _, _, _, _, _, _, _, hR1, hR2⟩ := id C
  exact callN (n := 1) (As := [.int (nI k)]) C (k_lowest l Γ hk h1) g rfl rfl rfl ⟨Nat.le_trans (Nat.le_of_ble_eq_true rfl) hR1, Nat.le_trans (Nat.le_of_ble_eq_true rfl) hR2⟩ (by decide +kernel) rfl hls hroom hdg hc w kk
theorem n_cell {b N : Nat} {xs : Nat → Int32} (C : CX p R s m args c A Γ cc nL Ts) (g : GoodIn Ts (va_wsS RL idx yL_cell wsL_cell)) (hX : va_X b N xs s s.heap) (hbl : b < s.heap.size) (hbA : ¬ A b) (hN : N < 2 ^ 31) (w : WD Γ D A s P S H locs) {k : Nat} (hk : k < 2 ^ 31) (hls : ls.size = nL) (hroom : (rest.map fun v => v.category).sum ≤ 8) (hdg : decode cc pc = .ok (.invokestatic idx, 3)) (hc : cells ≤ R.cells ∧ slots ≤ R.slots)
    (kk : ∀ (Y : Nat) (H1 : Heap) (locs1 : List Loc), Y < 2 ^ 31 → WD Γ D A s P S H1 locs1 → W p l e R s m args below meth c H1 locs1 cells slots Q (F0 m (pc + 3) ls (.int (nI Y) :: rest))) : W p l e R s m args below meth c H locs cells slots Q (F0 m pc ls (.int (nI k) :: .ref b :: rest)) := by
  obtain ⟨hx, hb, hml, hown, hts, hK, hAm, hA, hR1, hR2⟩ := C
  have hAB : ∀ q : Nat, A q → A q := fun _ h => h
  obtain ⟨x, hP, hD, hS, hB⟩ := w
  have hF : ∀ q, va_A [] H.size q → A q := fun q h => hA q (Nat.le_trans hS.1 (wnone h))
  have hXH : va_X b N xs s H := hX.kept (hS.2.1 b hbl hbA)
  have hr := va_runS (l := l) (e := e) (meth := meth) (below := below) (locs := locs) (g := F0 m pc ls (.int (nI k) :: .ref b :: rest)) (As := [.ref b, .int (nI k)]) (rest := rest) ⟨hx, hb, hml, hown, hts⟩ (k_cell l Γ (b := b) (xs := xs) hN hk H.size) (va_cwS 2 hts g rfl rfl rfl (by decide +kernel) ⟨Nat.le_trans (Nat.le_of_ble_eq_true rfl) hR1, Nat.le_trans (Nat.le_of_ble_eq_true rfl) hR2⟩) ⟨cell_blind, cell_mk hXH (Nat.lt_of_lt_of_le hbl hS.1) (wPre_mk hP hD hK hS hA hAB hAm [] rfl rfl)⟩ rfl rfl hls rfl (lv_room hroom) hdg hc
  refine va_calli hr hS (fun q _ h => hF q h) hF (fun r u t H1 locs1 ht hvm hw hB1 hz1 hk1 hS1 => ?_)
  obtain ⟨Y, hY, rfl⟩ := hw
  exact kk Y H1 locs1 hY ⟨x, wP_up hP hk1, hD, hS1, hB⟩
theorem n_hangs (hfl : l.stackTraces = false) (C : CX p room_1 s m args c A Γ cc nL Ts) (g : GoodIn Ts (va_wsS RL idx yL_hangs wsL_hangs)) (w : WD Γ D A s P S H locs) (hI : IV P) (hls : ls.size = nL) (hroom : (rest.map fun v => v.category).sum ≤ 8) (hdg : decode cc pc = .ok (.invokestatic idx, 3)) (hc : cells + 1 ≤ room_1.cells ∧ slots + 6 ≤ room_1.slots)
    (kk : ∀ (H1 : Heap) (locs1 : List Loc), WD Γ D A s P S H1 locs1 → W p l e room_1 s m args below meth c H1 locs1 (cells + 1) (slots + 6) Q (F0 m (pc + 3) ls (.int (nI 1) :: rest))) : W p l e room_1 s m args below meth c H locs cells slots Q (F0 m pc ls (.ref D.1 :: rest)) := by
  obtain ⟨x, hP, hD, hS, hB⟩ := w
  refine callS9 (n := 1) (As := [.ref D.1]) C (k_hangs l hfl Γ D hB hI) g rfl rfl rfl ⟨Nat.le_of_ble_eq_true rfl, Nat.le_of_ble_eq_true rfl⟩ (by decide +kernel) rfl hls hroom hdg hc hP hD hS (fun r u H1 locs1 hr hP hD hS => ?_)
  obtain ⟨rfl, hB⟩ := hr
  exact kk H1 locs1 ⟨u, hP, hD, hS, hB⟩
theorem n_acts (hfl : l.stackTraces = false) (C : CX p room_1 s m args c A Γ cc nL Ts) (g : GoodIn Ts (va_wsS RL idx yL_acts wsL_acts)) (w : WD Γ D A s P S H locs) {Y : Nat} (hY : Y < 2 ^ 31) (hls : ls.size = nL) (hroom : (rest.map fun v => v.category).sum ≤ 8) (hdg : decode cc pc = .ok (.invokestatic idx, 3)) (hc : cells + 1 ≤ room_1.cells ∧ slots + 6 ≤ room_1.slots)
    (kk : ∀ (r : Int32) (H1 : Heap) (locs1 : List Loc), WA Γ D A s P S Y r H1 locs1 → W p l e room_1 s m args below meth c H1 locs1 (cells + 1) (slots + 6) Q (F0 m (pc + 3) ls (.int r :: rest))) : W p l e room_1 s m args below meth c H locs cells slots Q (F0 m pc ls (.int (nI Y) :: .ref D.1 :: rest)) := by
  obtain ⟨x, hP, hD, hS, hB⟩ := w
  exact callS9 (n := 2) (As := [.ref D.1, .int (nI Y)]) C (k_acts l hfl Γ D hB hY) g rfl rfl rfl ⟨Nat.le_of_ble_eq_true rfl, Nat.le_of_ble_eq_true rfl⟩ (by decide +kernel) rfl hls hroom hdg hc hP hD hS (fun r u H1 locs1 hr hP hD hS => kk r H1 locs1 ⟨u, hP, hD, hS, hr⟩)
end DGL
