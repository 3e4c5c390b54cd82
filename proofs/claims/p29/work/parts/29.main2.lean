theorem arrV_congr {cA : ClassId} {n : Nat} {f g : Nat → Value} (h : ∀ j, j < n → f j = g j) : arrV cA n f = arrV cA n g := by
  unfold arrV
  congr 1
  congr 1
  funext j
  exact h j.val j.isLt
def agr (v w : Nat → Nat → Int32) : Prop := (∀ i, i < 11 → v 0 i = w 0 i) ∧ ∀ r, 1 ≤ r → r < 6 → ∀ j, j < 8 → v r j = w r j
theorem agr_at {Γ : wG} {a : Nat → Nat} {v w : Nat → Nat → Int32} {H : Heap} (h : agr v w) (hP : ∀ q ∈ plB Γ a v, va_at Γ.1 vwCl q H) : ∀ q ∈ plB Γ a w, va_at Γ.1 vwCl q H := by
  have e0 : plE a v = plE a w := by
    unfold plE
    rw [h.1 0 (by omega), h.1 1 (by omega), h.1 2 (by omega), h.1 3 (by omega), h.1 4 (by omega), h.1 5 (by omega), h.1 6 (by omega), h.1 7 (by omega), h.1 8 (by omega), h.1 9 (by omega), h.1 10 (by omega)]
  have er : ∀ r, 1 ≤ r → r < 6 → vp_cell (Γ.2 0) (8, .inl (v r)) = vp_cell (Γ.2 0) (8, .inl (w r)) := fun r h1 h2 => by
    rw [vp_cell_i, vp_cell_i]
    exact arrV_congr fun j hj => by rw [h.2 r h1 h2 j hj]
  intro q hq
  simp only [plB, List.mem_cons, List.not_mem_nil, or_false] at hq
  rcases hq with rfl | rfl | rfl | rfl | rfl | rfl
  · rw [← e0]; exact hP _ (by simp [plB])
  · show H[a 1]? = some (vp_cell _ _); rw [← er 1 (by omega) (by omega)]; exact hP (a 1, .inl (Γ.2 0, 8, .inl (v 1))) (by simp [plB])
  · show H[a 2]? = some (vp_cell _ _); rw [← er 2 (by omega) (by omega)]; exact hP (a 2, .inl (Γ.2 0, 8, .inl (v 2))) (by simp [plB])
  · show H[a 3]? = some (vp_cell _ _); rw [← er 3 (by omega) (by omega)]; exact hP (a 3, .inl (Γ.2 0, 8, .inl (v 3))) (by simp [plB])
  · show H[a 4]? = some (vp_cell _ _); rw [← er 4 (by omega) (by omega)]; exact hP (a 4, .inl (Γ.2 0, 8, .inl (v 4))) (by simp [plB])
  · show H[a 5]? = some (vp_cell _ _); rw [← er 5 (by omega) (by omega)]; exact hP (a 5, .inl (Γ.2 0, 8, .inl (v 5))) (by simp [plB])
theorem MV.conv {l : Launch} {Γ : wG} {y : MethodName} {ws : List Cond} {rm : Room} {av : List Value} {bs bs' bs2 : List va_W} (h : MV l Γ y ws rm av bs bs') (hc : ∀ H : Heap, va_P Γ.1 vwCl (wcat bs') H → va_P Γ.1 vwCl (wcat bs2) H) : MV l Γ y ws rm av bs bs2 := fun sz =>
  MetFree.mono (h sz) (fun _ _ h => h) (fun _ _ _ _ _ h => h) fun a s o s' _ h => ⟨⟨by obtain ⟨⟨u, h1, h2, h3⟩, h4⟩ := h.1; exact ⟨u, h1, h2, hc _ h3⟩, h.1.2⟩, h.2⟩
theorem MI.conv {l : Launch} {Γ : wG} {y : MethodName} {ws : List Cond} {rm : Room} {av : List Value} {bs bs' bs2 : List va_W} {f : Int32} (h : MI l Γ y ws rm av bs bs' f) (hc : ∀ H : Heap, va_P Γ.1 vwCl (wcat bs') H → va_P Γ.1 vwCl (wcat bs2) H) : MI l Γ y ws rm av bs bs2 f := fun sz =>
  MetFree.mono (h sz) (fun _ _ h => h) (fun _ _ _ _ _ h => h) fun a s o s' _ h => ⟨⟨by obtain ⟨⟨r, u, h1, h2, h3⟩, h4⟩ := h.1; exact ⟨r, u, h1, h2, hc _ h3⟩, h.1.2⟩, h.2⟩
theorem cp_s (v w : Nat → Nat → Int32) (k : Nat) (x : Int32) (r j : Nat) (hr : 1 ≤ r) : sS v k x r j = v r j := by
  simp only [sS, va_up]; rw [if_neg (by omega)]
theorem cp_0 (v : Nat → Nat → Int32) (k : Nat) (x : Int32) (i : Nat) : sS v k x 0 i = if i = k then x else v 0 i := by
  simp only [sS, va_up, upd, if_true]
theorem cp_r (v : Nat → Nat → Int32) (k : Nat) (f : Nat → Int32) (r j : Nat) : sR v k f r j = if r = k then f j else v r j := by
  simp only [sR, va_up]
  by_cases h : r = k
  · rw [if_pos h, if_pos h]
  · rw [if_neg h, if_neg h]
theorem cpL (w : Nat → Nat → Int32) : ∀ (n i : Nat) (v : Nat → Nat → Int32), i + n = 8 → v 0 0 = w 0 0 → v 0 1 = w 0 1 → (∀ r, 1 ≤ r → r < 6 → ∀ j, j < i → v r j = w r j) → agr (fX2_copyFrom_L18 w n i v) w := by
  intro n
  induction n with
  | zero =>
    intro i v hi h0 h1 hr
    refine ⟨fun k hk => ?_, fun r r1 r2 j hj => ?_⟩
    · simp only [fX2_copyFrom_L18, cp_0]
      have : k = 0 ∨ k = 1 ∨ k = 2 ∨ k = 3 ∨ k = 4 ∨ k = 5 ∨ k = 6 ∨ k = 7 ∨ k = 8 ∨ k = 9 ∨ k = 10 := by omega
      rcases this with rfl | rfl | rfl | rfl | rfl | rfl | rfl | rfl | rfl | rfl | rfl <;> simp [h0, h1]
    · simp only [fX2_copyFrom_L18]
      rw [cp_s _ w _ _ _ _ r1, cp_s _ w _ _ _ _ r1, cp_s _ w _ _ _ _ r1, cp_s _ w _ _ _ _ r1, cp_s _ w _ _ _ _ r1, cp_s _ w _ _ _ _ r1, cp_s _ w _ _ _ _ r1, cp_s _ w _ _ _ _ r1, cp_s _ w _ _ _ _ r1]
      exact hr r r1 r2 j (by omega)
  | succ n ih =>
    intro i v hi h0 h1 hr
    simp only [fX2_copyFrom_L18]
    refine ih _ _ (by omega) ?_ ?_ ?_
    · simp only [cp_r]; exact h0
    · simp only [cp_r]; exact h1
    · intro r r1 r2 j hj
      have : r = 1 ∨ r = 2 ∨ r = 3 ∨ r = 4 ∨ r = 5 := by omega
      rcases this with rfl | rfl | rfl | rfl | rfl <;> simp only [cp_r, upd] <;> by_cases e : j = i <;> simp [e] <;> exact hr _ (by omega) (by omega) j (by omega)
theorem cpF (v w : Nat → Nat → Int32) : agr (fX2_copyFrom v w) w := by
  refine cpL w 8 0 _ rfl ?_ ?_ (fun r _ _ j hj => by omega)
  · simp only [cp_0]; rfl
  · simp only [cp_0]; rfl
theorem ncpF (l : Launch) (Γ : wG) (a : Nat → Nat) (b : Nat → Nat) (v : Nat → Nat → Int32) (w : Nat → Nat → Int32) : MV l Γ yX2_copyFrom wsX2_copyFrom ({ frames := 0, cells := 0, slots := 0, locals := 0 }) [.ref (a 0), .ref (b 0)] [plB Γ a v, plB Γ b w] [plB Γ a w, plB Γ b w] :=
  (kX2_copyFrom l Γ a b v w).conv fun H h => wP_of fun q hq => by
    obtain ⟨x, hx, hqx⟩ := wcat_mem.mp hq
    simp only [List.mem_cons, List.not_mem_nil, or_false] at hx
    rcases hx with rfl | rfl
    · exact agr_at (cpF v w) (fun q hq => wP_mem h (wcat_mem.mpr ⟨_, List.mem_cons_self, hq⟩)) q hqx
    · exact wP_mem h (wcat_mem.mpr ⟨_, List.mem_cons_of_mem _ List.mem_cons_self, hqx⟩)
theorem homeL (v : Nat → Nat → Int32) : ∀ (n i x : Nat), x ≤ i → ∃ y, y ≤ i + n ∧ fX2_sharesAtHome_L4 v n i (nI x) = nI y := by
  intro n
  induction n with
  | zero => intro i x hx; exact ⟨x, hx, rfl⟩
  | succ n ih =>
    intro i x hx
    simp only [fX2_sharesAtHome_L4]
    split
    · obtain ⟨y, h1, h2⟩ := ih (i + 1) (x + 1) (by omega)
      exact ⟨y, by omega, by rw [nI_add]; exact h2⟩
    · obtain ⟨y, h1, h2⟩ := ih (i + 1) x (by omega)
      exact ⟨y, by omega, h2⟩
theorem homeB (v : Nat → Nat → Int32) : ∃ y, y < 9 ∧ fX2_sharesAtHome v = nI y := by
  obtain ⟨y, h1, h2⟩ := homeL v 8 0 0 (Nat.le_refl _)
  exact ⟨y, by omega, h2⟩
theorem thereL (v : Nat → Nat → Int32) : ∀ (n i x : Nat), i + n = 8 → x < 256 → ∃ y, y < 256 ∧ fX2_sharesThere_L4 v n i (nI x) = nI y := by
  intro n
  induction n with
  | zero => intro i x _ hx; exact ⟨x, hx, rfl⟩
  | succ n ih =>
    intro i x hi hx
    simp only [fX2_sharesThere_L4]
    split
    · exact ih (i + 1) x (by omega) hx
    · obtain ⟨y, h1, h2⟩ := ih (i + 1) (x ||| 2 ^ i) (by omega) (orlt hx (by have := p2le (show i < 8 by omega); omega))
      exact ⟨y, h1, by rw [shl1 (by omega), nI_or]; exact h2⟩
theorem thereB (v : Nat → Nat → Int32) : ∃ y, y < 256 ∧ fX2_sharesThere v = nI y := thereL v 8 0 0 rfl (by decide)
def pop (m : Nat) : Nat := m % 2 + m / 2 % 2 + m / 4 % 2 + m / 8 % 2 + m / 16 % 2 + m / 32 % 2 + m / 64 % 2 + m / 128 % 2
theorem fbit_pop : ∀ m, m < 256 → fbit (nI m) = nI (pop m) := by decide +kernel
theorem pop_le (m : Nat) : pop m < 9 := by unfold pop; omega
theorem bitsB (v : Nat → Nat → Int32) : ∃ y, y < 9 ∧ fbit (fX2_sharesThere v) = nI y := by
  obtain ⟨m, h1, h2⟩ := thereB v
  exact ⟨pop m, pop_le m, by rw [h2]; exact fbit_pop m h1⟩
def dS : List UInt64 := [0, 4593671619917905920, 4594314991293244562, 4595172819793696085, 4596373779694328218, 4598175219545276416, 4598818590920615058, 4599676419421066581, 4600427019358961664, 4600877379321698714, 4601392076421969627, 4602678819172646912, 4603322190547985554, 4603579539098121011, 4603804719079489536, 4604180019048437077, 4604608933298662839, 4604930618986332160, 4605380978949069210, 4605681218924227243, 4605895676049340123, 4606056518893174784, 4607182418800017408, 4607825790175356050, 4607933018737912491, 4608083138725491507, 4608308318706860032, 4608683618675807573, 4608983858650965606, 4609112532926033335, 4609434218613702656, 4609884578576439706, 4610184818551597739, 4610399275676710619, 4610560118520545280, 4611686018427387904, 4612436618365282987, 4612811918334230528, 4613187218303178069, 4613937818241073152, 4615063718147915776, 4616189618054758400, 4617315517961601024, 4618441417868443648, 4619567317775286272, 4620693217682128896]
theorem dS_all : ∀ d ∈ dS, (vf_n64 (FP.dmul d 4611686018427387904) ∧ vf_n64 (FP.dsub d FP.dconst1) ∧ vf_n64 (FP.dmul (FP.dsub d FP.dconst1) 4841369599423283200)) ∧ (¬ 0 ≤ Op.cmpValue (FP.dcmp d FP.dconst1) .g → FP.dmul d 4611686018427387904 ∈ dS) := by
  unfold vf_n64
  decide +kernel
theorem dS_quo : ∀ x, x < 9 → ∀ y, y < 9 → ¬ y = 0 → FP.ddiv (FP.i2d (nI x)) (FP.i2d (nI y)) ∈ dS := by decide +kernel
theorem dS_one : FP.dconst1 ∈ dS := by decide +kernel
theorem in5 : ∀ j, j < 5 → nI j ∈ [nI 0, nI 1, nI 2, nI 3, nI 4] := by decide
theorem in12 : ∀ j, j < 12 → nI j ∈ [nI 0, nI 1, nI 2, nI 3, nI 4, nI 5, nI 6, nI 7, nI 8, nI 9, nI 10, nI 11] := by decide
theorem hasK_of {v : Nat → Nat → Int32} {K i : Nat} (h : v 0 0 = nI K) (hK : K ≤ 8) (hi : i < K) : ¬ fX2_hasKeeper v (nI i) = 0 := by
  have h1 : ¬ nI 1 = 0 := by decide
  unfold fX2_hasKeeper
  have h2 : ¬ v 0 0 ≤ nI i := by rw [h, nI_leI (by omega) (by omega)]; omega
  have h3 : ¬ nI 8 ≤ nI i := by rw [nI_leI (by omega) (by omega)]; omega
  rw [if_neg (nI_pos (by omega)), if_neg h2, if_neg h3]
  exact h1
theorem vpR {k : Int32} (h0 : ¬ k < nI 0) (h7 : k ≤ nI 7) : vp_in k 8 := by
  have h0 : ¬ k < 0 := h0
  obtain ⟨j, hj, rfl⟩ := nI_of h0
  rw [nI_leI hj (by decide)] at h7
  exact vp_in_nI (by omega) (by decide)
theorem bX4_buryIfAlive (v : Nat → Nat → Int32) (k : Int32) : (fX4_buryIfAlive v k).1 = nI 0 ∨ (fX4_buryIfAlive v k).1 = nI 1 := by
  unfold fX4_buryIfAlive; split <;> simp
theorem bX4_toggleIfThere (v : Nat → Nat → Int32) (k o : Int32) : (fX4_toggleIfThere v k o).1 = nI 0 ∨ (fX4_toggleIfThere v k o).1 = nI 1 := by
  unfold fX4_toggleIfThere; (repeat' split) <;> simp
theorem bX4_nameIfFree (v : Nat → Nat → Int32) (k o : Int32) : (fX4_nameIfFree v k o).1 = nI 0 ∨ (fX4_nameIfFree v k o).1 = nI 1 := by
  unfold fX4_nameIfFree; split <;> simp
theorem bX4_passIfInTime (v : Nat → Nat → Int32) (k : Int32) : (fX4_passIfInTime v k).1 = nI 0 ∨ (fX4_passIfInTime v k).1 = nI 1 := by
  unfold fX4_passIfInTime; split <;> simp
theorem bX4_renewIfShut (Q : Nat) (v : Nat → Nat → Int32) (ck : Nat → Int32) : (fX4_renewIfShut Q v ck).1 = nI 0 ∨ (fX4_renewIfShut Q v ck).1 = nI 1 := by
  unfold fX4_renewIfShut; split <;> simp
def fX4_smallest_L21 (v : (Nat → Nat → Int32)) (ck : (Nat → Int32)) (w : Int32) (r_1 : (Nat → Int32) × (Nat → Int32)) : Nat → Nat → Int32 → Int32 × (Nat → Int32) × (Nat → Int32)
  | 0, i21, x2_21 => (if w = (nI 1) then (x2_21, r_1.1, r_1.2) else (if x2_21 = (-1) then (x2_21, r_1.1, r_1.2) else ((fbit x2_21), r_1.1, r_1.2)))
  | n21 + 1, i21, x2_21 => (if (fX4_couldOpen ck r_1.1 r_1.2 v (nI i21)) = 0 then (fX4_smallest_L21 v ck w r_1 n21 (i21 + 1) x2_21) else (if x2_21 = (-1) then (fX4_smallest_L21 v ck w r_1 n21 (i21 + 1) (nI i21)) else (if (fbit x2_21) ≤ (fbit (nI i21)) then (fX4_smallest_L21 v ck w r_1 n21 (i21 + 1) x2_21) else (fX4_smallest_L21 v ck w r_1 n21 (i21 + 1) (nI i21)))))
def fX4_smallest (v : (Nat → Nat → Int32)) (ck : (Nat → Int32)) (so : (Nat → Int32)) (sp : (Nat → Int32)) (w : Int32) : Int32 × (Nat → Int32) × (Nat → Int32) := (let r_1 := (fX3_look so sp v); (fX4_smallest_L21 v ck w r_1 (255) 1 (-1)))
set_option maxHeartbeats 4000000 in
set_option maxRecDepth 100000 in
theorem kX4_smallest (l : Launch) (Γ : wG) (q : Nat) (an : Nat → Nat) (ap : Nat → Nat) (qs : Nat) (ac : Nat → Nat) (au : Nat → Nat) (ax : Nat → Nat) (nn : Int32) (v : (Nat → Nat → Int32)) (ck : (Nat → Int32)) (so : (Nat → Int32)) (sp : (Nat → Int32)) (w : Int32) (hv : ¬ w < nI 0) (hw : w ≤ nI 1) : MI l Γ yX4_smallest wsX4_smallest ({ frames := 3, cells := 0, slots := 0, locals := 66 }) [.ref q, .int w] [mnC q an ap qs ac au ax nn, plB Γ an v, cuB Γ ac ck, suB Γ au so sp] [mnC q an ap qs ac au ax nn, plB Γ an v, cuB Γ ac ck, suB Γ au (fX4_smallest v ck so sp w).2.1 (fX4_smallest v ck so sp w).2.2] (fX4_smallest v ck so sp w).1 := by
  intro sz
  refine Met.ofW (cc := cX4_smallest) (maxL := 4) (ret := (some .int)) (by decide) rfl ?_
  intro p e s m args below meth c s₁ B hml hv
  obtain ⟨rfl, hsz, hP, hK, hD0, hAm⟩ := hv
  have hx := B.exec
  have hb := B.bytes
  have hr := B.returns
  have hts := atoms_spec (ws := wsX4_smallest) B.pre
  have hown : s.vm.findClass RX4 = some m.cls := findClass_of_methodNamed B.named
  have hlocks := B.notSynchronized
  subst hsz
  have hD := hD0.self (sz := s.heap.size)
  generalize hAe : va_A (wcat [mnC q an ap qs ac au ax nn, plB Γ an v, cuB Γ ac ck, suB Γ au so sp]) s.heap.size = A at hD hAm ⊢
  have hA : ∀ q : Nat, s.heap.size ≤ q → A q := fun q h => by rw [← hAe]; exact Or.inr h
  have hAB : ∀ q : Nat, A q → A q := fun _ h => h
  have hS : va_S A s.heap s.heap [] := va_S.rf
  have hl := lv_entry ([.ref q, .int w]) (n := 4) (Nat.le_of_ble_eq_true rfl)
  rw [lg_entry_eq]
  generalize (lg_sl ([.ref q, .int w]) ++ List.replicate (4 - (lg_sl ([.ref q, .int w])).length) Slot.unset).toArray = ls at hl ⊢
  have hl : lv_has ls 4 [(0, .ref q), (1, .int w)] := hl
  have hi4 : ∀ w ∈ wsX40, w ∈ wsX4_smallest := by decide +kernel
  have kf10 := hts (.fieldLink RX4 10 "CapsuleKeepers" "now" "LCapsuleKeepers$Place;") (by decide +kernel)
  have kf37 := hts (.fieldLink RX4 37 "CapsuleKeepers" "survey" "LCapsuleKeepers$Survey;") (by decide +kernel)
  have hq : (fX4_smallest v ck so sp w) = (let r_1 := (fX3_look so sp v); (fX4_smallest_L21 v ck w r_1 (255) 1 (-1))) := rfl
  refine lv_iload_n hx hb dX4_smallest_0 rfl (lv_at hl 1 rfl) ?_
  refine lv_iconst (v := (nI 0)) hx hb dX4_smallest_1 (by decide) ?_
  refine lv_iconst (v := (nI 1)) hx hb dX4_smallest_2 (by decide) ?_
  refine cLV (va_runS (As := [.int w, .int (nI 0), .int (nI 1)]) (rest := []) ⟨hx, hb, hml, hown, hts⟩ ((kX4_checkRange l Γ w (nI 0) (nI 1) (by first | assumption | omega | decide) (by first | assumption | omega | decide)) _) (va_cwS 3 hts gX4_smallest_X4_checkRange rfl rfl rfl (by decide +kernel) ⟨Nat.le_of_ble_eq_true rfl, Nat.le_of_ble_eq_true rfl⟩) ⟨wPre_blind, wPre_mk hP hD hK hS hA hAB hAm [] rfl rfl⟩ rfl rfl hl.1 rfl (lv_room (Nat.le_of_ble_eq_true rfl)) dX4_smallest_3 ⟨Nat.zero_le _, Nat.zero_le _⟩) hP hS hA (fun H locs hP hS => ?_)
  refine lv_aload_n hx hb dX4_smallest_6 rfl (lv_at hl 0 rfl) ?_
  refine va_get (D := Γ.1) (ci := 4) (v := .ref (au 0)) (C := RX4) (T := TX4) (N := 7) hx hb hts hi4 hown hK hP 0 rfl rfl 5 (by decide) kf37 (fun _ h9 => h9) rfl dX4_smallest_7 ?_
  refine lv_aload_n hx hb dX4_smallest_10 rfl (lv_at hl 0 rfl) ?_
  refine va_get (D := Γ.1) (ci := 4) (v := .ref (an 0)) (C := RX4) (T := TX4) (N := 7) hx hb hts hi4 hown hK hP 0 rfl rfl 0 (by decide) kf10 (fun _ h9 => h9) rfl dX4_smallest_11 ?_
  refine cMV (bc' := [suB Γ au (fX3_look so sp v).1 (fX3_look so sp v).2, plB Γ an v]) (va_runV (As := [.ref (an 0)]) (rest := []) ⟨hx, hb, hml, hown, hts⟩ ((kX3_look l Γ au an so sp v) _) (cwV 1 hts gX4_smallest_X3_look rfl rfl rfl (by decide +kernel) ⟨Nat.le_of_ble_eq_true rfl, Nat.le_of_ble_eq_true rfl⟩) ⟨wPre_blind, va_recv hK hP (ci := 3) (q0 := 9) rfl rfl, wPre_mk hP hD hK hS hA hAB hAm [3, 1] rfl rfl⟩ rfl rfl hl.1 rfl (lv_room (Nat.le_of_ble_eq_true rfl)) dX4_smallest_14 ⟨Nat.zero_le _, Nat.zero_le _⟩) hP hD hS hA [3, 1] rfl rfl (bs' := [mnC q an ap qs ac au ax nn, plB Γ an v, cuB Γ ac ck, suB Γ au (fX3_look so sp v).1 (fX3_look so sp v).2]) rfl (fun H locs hP hD hS => ?_)
  generalize hr_1 : (fX3_look so sp v) = r_1 at hP hD hq
  replace hq : (fX4_smallest v ck so sp w) = (fX4_smallest_L21 v ck w r_1 (255) 1 (-1)) := hq
  refine lv_iconst (v := (-1)) hx hb dX4_smallest_17 (by decide) ?_
  refine lv_istore_n (lv' := [(2, .int (-1)), (0, .ref q), (1, .int w)]) hx hb dX4_smallest_18 rfl hl (by decide) rfl (fun ls hl => ?_)
  refine lv_iconst (v := (nI 1)) hx hb dX4_smallest_19 (by decide) ?_
  refine lv_istore_n (lv' := [(3, .int (nI 1)), (2, .int (-1)), (0, .ref q), (1, .int w)]) hx hb dX4_smallest_20 rfl hl (by decide) rfl (fun ls hl => ?_)
  refine wl (pc := 21) (σ := Nat × Int32) (fun n (i21, x2_21) H locs ls => (i21 + n = 256) ∧ (fX4_smallest v ck so sp w) = fX4_smallest_L21 v ck w r_1 n i21 x2_21 ∧ va_P Γ.1 vwCl (wcat [mnC q an ap qs ac au ax nn, plB Γ an v, cuB Γ ac ck, suB Γ au r_1.1 r_1.2]) H ∧ va_D A (wcat [mnC q an ap qs ac au ax nn, plB Γ an v, cuB Γ ac ck, suB Γ au r_1.1 r_1.2]) ∧ va_S A s.heap H locs ∧ lv_has ls 4 [(3, .int (nI i21)), (2, .int x2_21), (0, .ref q), (1, .int w)]) ?_ ?_ (255) (1, (-1)) _ _ _ ⟨by omega, hq, hP, hD, hS, lv_sub hl [0, 1, 2, 3] rfl⟩
  · intro ⟨i21, x2_21⟩ H locs ls h
    obtain ⟨hn21, hq, hP, hD, hS, hl⟩ := h
    try dsimp only at hn21 hq hP hD hl
    replace hq : (fX4_smallest v ck so sp w) = (if w = (nI 1) then (x2_21, r_1.1, r_1.2) else (if x2_21 = (-1) then (x2_21, r_1.1, r_1.2) else ((fbit x2_21), r_1.1, r_1.2))) := hq
    refine lv_iload_n hx hb dX4_smallest_21 rfl (lv_at hl 0 rfl) ?_
    refine lv_sipush (v := (nI 256)) hx hb dX4_smallest_22 (by decide) ?_
    refine lv_icmp_ge (tgt := 64) hx hb dX4_smallest_25 (by decide) (fun c_25 => ?_) (fun c_25 => absurd (nI_le (by omega) (by omega)) c_25)
    refine lv_iload_n hx hb dX4_smallest_64 rfl (lv_at hl 3 rfl) ?_
    refine lv_iconst (v := (nI 1)) hx hb dX4_smallest_65 (by decide) ?_
    refine lv_icmp_eq (tgt := 74) hx hb dX4_smallest_66 (by decide) (fun c_2 => ?_) (fun c_2 => ?_)
    · have hq := hq.trans (if_pos c_2)
      refine lv_iload_n hx hb dX4_smallest_74 rfl (lv_at hl 1 rfl) ?_
      refine lv_goto (tgt := 82) hx hb dX4_smallest_75 (by decide) ?_
      exact W.iret (v := x2_21) hx hb hr (fun t ht hW => eMI (by rw [hq]; exact hP) hS ht (by rw [hq])) hS.2.2 dX4_smallest_82
    · have hq := hq.trans (if_neg c_2)
      refine lv_iload_n hx hb dX4_smallest_69 rfl (lv_at hl 1 rfl) ?_
      refine lv_iconst (v := (-1)) hx hb dX4_smallest_70 (by decide) ?_
      refine lv_icmp_ne (tgt := 78) hx hb dX4_smallest_71 (by decide) (fun c_3 => ?_) (fun c_3 => ?_)
      · have hq := hq.trans (if_neg c_3)
        refine lv_iload_n hx hb dX4_smallest_78 rfl (lv_at hl 1 rfl) ?_
        refine cLI (va_runS (As := [.int x2_21]) (rest := []) ⟨hx, hb, hml, hown, hts⟩ ((kJ6_bitCount_0f7a4 l Γ x2_21) _) (va_cwS 1 hts gX4_smallest_J6_bitCount_0f7a4 rfl rfl rfl (by decide +kernel) ⟨Nat.le_of_ble_eq_true rfl, Nat.le_of_ble_eq_true rfl⟩) ⟨wPre_blind, wPre_mk hP hD hK hS hA hAB hAm [] rfl rfl⟩ rfl rfl hl.1 rfl (lv_room (Nat.le_of_ble_eq_true rfl)) dX4_smallest_79 ⟨Nat.zero_le _, Nat.zero_le _⟩) hP hS hA (fun H locs hP hS => ?_)
        exact W.iret (v := (fbit x2_21)) hx hb hr (fun t ht hW => eMI (by rw [hq]; exact hP) hS ht (by rw [hq])) hS.2.2 dX4_smallest_82
      · have hq := hq.trans (if_pos c_3)
        refine lv_iload_n hx hb dX4_smallest_74 rfl (lv_at hl 1 rfl) ?_
        refine lv_goto (tgt := 82) hx hb dX4_smallest_75 (by decide) ?_
        exact W.iret (v := x2_21) hx hb hr (fun t ht hW => eMI (by rw [hq]; exact hP) hS ht (by rw [hq])) hS.2.2 dX4_smallest_82
  · intro n21 ih21 ⟨i21, x2_21⟩ H locs ls h
    obtain ⟨hn21, hq, hP, hD, hS, hl⟩ := h
    try dsimp only at hn21 hq hP hD hl
    replace hq : (fX4_smallest v ck so sp w) = (if (fX4_couldOpen ck r_1.1 r_1.2 v (nI i21)) = 0 then (fX4_smallest_L21 v ck w r_1 n21 (i21 + 1) x2_21) else (if x2_21 = (-1) then (fX4_smallest_L21 v ck w r_1 n21 (i21 + 1) (nI i21)) else (if (fbit x2_21) ≤ (fbit (nI i21)) then (fX4_smallest_L21 v ck w r_1 n21 (i21 + 1) x2_21) else (fX4_smallest_L21 v ck w r_1 n21 (i21 + 1) (nI i21))))) := hq
    refine lv_iload_n hx hb dX4_smallest_21 rfl (lv_at hl 0 rfl) ?_
    refine lv_sipush (v := (nI 256)) hx hb dX4_smallest_22 (by decide) ?_
    refine lv_icmp_ge (tgt := 64) hx hb dX4_smallest_25 (by decide) (fun c_25 => absurd c_25 (nI_ge (by omega) (by omega))) (fun c_25 => ?_)
    refine lv_aload_n hx hb dX4_smallest_28 rfl (lv_at hl 2 rfl) ?_
    refine lv_aload_n hx hb dX4_smallest_29 rfl (lv_at hl 2 rfl) ?_
    refine va_get (D := Γ.1) (ci := 4) (v := .ref (an 0)) (C := RX4) (T := TX4) (N := 7) hx hb hts hi4 hown hK hP 0 rfl rfl 0 (by decide) kf10 (fun _ h9 => h9) rfl dX4_smallest_30 ?_
    refine lv_iload_n hx hb dX4_smallest_33 rfl (lv_at hl 0 rfl) ?_
    refine cLI (va_runV (As := [.ref (an 0), .int (nI i21)]) (rest := []) ⟨hx, hb, hml, hown, hts⟩ ((kX4_couldOpen l Γ q an ap qs ac au ax an nn ck r_1.1 r_1.2 v (nI i21)) _) (cwV 2 hts gX4_smallest_X4_couldOpen rfl rfl rfl (by decide +kernel) ⟨Nat.le_of_ble_eq_true rfl, Nat.le_of_ble_eq_true rfl⟩) ⟨wPre_blind, va_recv hK hP (ci := 4) (q0 := 0) rfl rfl, wPre_mk hP hD hK hS hA hAB hAm [0, 2, 3, 1] rfl rfl⟩ rfl rfl hl.1 rfl (lv_room (Nat.le_of_ble_eq_true rfl)) dX4_smallest_34 ⟨Nat.zero_le _, Nat.zero_le _⟩) hP hS hA (fun H locs hP hS => ?_)
    refine lv_if_eq (tgt := 58) hx hb dX4_smallest_37 (by decide) (fun c_4 => ?_) (fun c_4 => ?_)
    · have hq := hq.trans (if_pos c_4)
      refine lv_iinc (v := (nI (i21 + 1))) (lv' := [(3, .int (nI (i21 + 1))), (2, .int x2_21), (0, .ref q), (1, .int w)]) hx hb dX4_smallest_58 hl (k := 0) rfl (nI_1 _) (by decide) rfl (fun ls hl => ?_)
      refine lv_goto (tgt := 21) hx hb dX4_smallest_61 (by decide) ?_
      exact ih21 ((i21 + 1), x2_21) H locs ls ⟨by omega, hq, hP, hD, hS, lv_sub hl [0, 1, 2, 3] rfl⟩
    · have hq := hq.trans (if_neg c_4)
      refine lv_iload_n hx hb dX4_smallest_40 rfl (lv_at hl 1 rfl) ?_
      refine lv_iconst (v := (-1)) hx hb dX4_smallest_41 (by decide) ?_
      refine lv_icmp_eq (tgt := 56) hx hb dX4_smallest_42 (by decide) (fun c_5 => ?_) (fun c_5 => ?_)
      · have hq := hq.trans (if_pos c_5)
        refine lv_iload_n hx hb dX4_smallest_56 rfl (lv_at hl 0 rfl) ?_
        refine lv_istore_n (lv' := [(2, .int (nI i21)), (3, .int (nI i21)), (0, .ref q), (1, .int w)]) hx hb dX4_smallest_57 rfl hl (by decide) rfl (fun ls hl => ?_)
        refine lv_iinc (v := (nI (i21 + 1))) (lv' := [(3, .int (nI (i21 + 1))), (2, .int (nI i21)), (0, .ref q), (1, .int w)]) hx hb dX4_smallest_58 hl (k := 1) rfl (nI_1 _) (by decide) rfl (fun ls hl => ?_)
        refine lv_goto (tgt := 21) hx hb dX4_smallest_61 (by decide) ?_
        exact ih21 ((i21 + 1), (nI i21)) H locs ls ⟨by omega, hq, hP, hD, hS, lv_sub hl [0, 1, 2, 3] rfl⟩
      · have hq := hq.trans (if_neg c_5)
        refine lv_iload_n hx hb dX4_smallest_45 rfl (lv_at hl 0 rfl) ?_
        refine cLI (va_runS (As := [.int (nI i21)]) (rest := []) ⟨hx, hb, hml, hown, hts⟩ ((kJ6_bitCount_0f7a4 l Γ (nI i21)) _) (va_cwS 1 hts gX4_smallest_J6_bitCount_0f7a4 rfl rfl rfl (by decide +kernel) ⟨Nat.le_of_ble_eq_true rfl, Nat.le_of_ble_eq_true rfl⟩) ⟨wPre_blind, wPre_mk hP hD hK hS hA hAB hAm [] rfl rfl⟩ rfl rfl hl.1 rfl (lv_room (Nat.le_of_ble_eq_true rfl)) dX4_smallest_46 ⟨Nat.zero_le _, Nat.zero_le _⟩) hP hS hA (fun H locs hP hS => ?_)
        refine lv_iload_n hx hb dX4_smallest_49 rfl (lv_at hl 1 rfl) ?_
        refine cLI (va_runS (As := [.int x2_21]) (rest := [.int (fbit (nI i21))]) ⟨hx, hb, hml, hown, hts⟩ ((kJ6_bitCount_0f7a4 l Γ x2_21) _) (va_cwS 1 hts gX4_smallest_J6_bitCount_0f7a4 rfl rfl rfl (by decide +kernel) ⟨Nat.le_of_ble_eq_true rfl, Nat.le_of_ble_eq_true rfl⟩) ⟨wPre_blind, wPre_mk hP hD hK hS hA hAB hAm [] rfl rfl⟩ rfl rfl hl.1 rfl (lv_room (Nat.le_of_ble_eq_true rfl)) dX4_smallest_50 ⟨Nat.zero_le _, Nat.zero_le _⟩) hP hS hA (fun H locs hP hS => ?_)
        refine lv_icmp_ge (tgt := 58) hx hb dX4_smallest_53 (by decide) (fun c_6 => ?_) (fun c_6 => ?_)
        · have hq := hq.trans (if_pos c_6)
          refine lv_iinc (v := (nI (i21 + 1))) (lv' := [(3, .int (nI (i21 + 1))), (2, .int x2_21), (0, .ref q), (1, .int w)]) hx hb dX4_smallest_58 hl (k := 0) rfl (nI_1 _) (by decide) rfl (fun ls hl => ?_)
          refine lv_goto (tgt := 21) hx hb dX4_smallest_61 (by decide) ?_
          exact ih21 ((i21 + 1), x2_21) H locs ls ⟨by omega, hq, hP, hD, hS, lv_sub hl [0, 1, 2, 3] rfl⟩
        · have hq := hq.trans (if_neg c_6)
          refine lv_iload_n hx hb dX4_smallest_56 rfl (lv_at hl 0 rfl) ?_
          refine lv_istore_n (lv' := [(2, .int (nI i21)), (3, .int (nI i21)), (0, .ref q), (1, .int w)]) hx hb dX4_smallest_57 rfl hl (by decide) rfl (fun ls hl => ?_)
          refine lv_iinc (v := (nI (i21 + 1))) (lv' := [(3, .int (nI (i21 + 1))), (2, .int (nI i21)), (0, .ref q), (1, .int w)]) hx hb dX4_smallest_58 hl (k := 1) rfl (nI_1 _) (by decide) rfl (fun ls hl => ?_)
          refine lv_goto (tgt := 21) hx hb dX4_smallest_61 (by decide) ?_
          exact ih21 ((i21 + 1), (nI i21)) H locs ls ⟨by omega, hq, hP, hD, hS, lv_sub hl [0, 1, 2, 3] rfl⟩
set_option maxHeartbeats 4000000 in
set_option maxRecDepth 100000 in
theorem tX4_smallest_a3 (l : Launch) (hfl : l.stackTraces = false) (Γ : wG) (q : Nat) (an : Nat → Nat) (ap : Nat → Nat) (qs : Nat) (ac : Nat → Nat) (au : Nat → Nat) (ax : Nat → Nat) (nn : Int32) (v : (Nat → Nat → Int32)) (ck : (Nat → Int32)) (so : (Nat → Int32)) (sp : (Nat → Int32)) (w : Int32) (hv : w < nI 0) : TX l Γ yX4_smallest wsX4_smallest ({ frames := 7, cells := 1, slots := 6, locals := 112 }) [.ref q, .int w] [mnC q an ap qs ac au ax nn, plB Γ an v, cuB Γ ac ck, suB Γ au so sp] "java/lang/IllegalArgumentException" := by
  intro sz
  refine vx_ofW (cc := cX4_smallest) (maxL := 4) (ret := (some .int)) (by decide) rfl ?_
  intro p e s m args below meth c s₁ B hml hnt hv
  obtain ⟨rfl, hsz, hP, hK, hD0, hAm⟩ := hv
  have hx := B.exec
  have hb := B.bytes
  have hr := B.returns
  have hts := atoms_spec (ws := wsX4_smallest) B.pre
  have hown : s.vm.findClass RX4 = some m.cls := findClass_of_methodNamed B.named
  have hlocks := B.notSynchronized
  subst hsz
  have hD := hD0.self (sz := s.heap.size)
  generalize hBe : va_A (wcat [mnC q an ap qs ac au ax nn, plB Γ an v, cuB Γ ac ck, suB Γ au so sp]) s.heap.size = B0 at hD hAm
  obtain ⟨A, hAe⟩ : ∃ A, A = va_A [] s.heap.size := ⟨_, rfl⟩
  rw [← hAe]
  have hA : ∀ q : Nat, s.heap.size ≤ q → A q := fun q h => by rw [hAe]; exact Or.inr h
  have hAB : ∀ q : Nat, A q → B0 q := fun q h => by rw [hAe] at h; rw [← hBe]; exact Or.inr (wnone h)
  have hS : va_S A s.heap s.heap [] := va_S.rf
  have hl := lv_entry ([.ref q, .int w]) (n := 4) (Nat.le_of_ble_eq_true rfl)
  rw [lg_entry_eq]
  generalize (lg_sl ([.ref q, .int w]) ++ List.replicate (4 - (lg_sl ([.ref q, .int w])).length) Slot.unset).toArray = ls at hl ⊢
  have hl : lv_has ls 4 [(0, .ref q), (1, .int w)] := hl
  refine lv_iload_n hx hb dX4_smallest_0 rfl (lv_at hl 1 rfl) ?_
  refine lv_iconst (v := (nI 0)) hx hb dX4_smallest_1 (by decide) ?_
  refine lv_iconst (v := (nI 1)) hx hb dX4_smallest_2 (by decide) ?_
  exact tTX (E := "java/lang/IllegalArgumentException") (vx_runS (As := [.int w, .int (nI 0), .int (nI 1)]) (rest := []) ⟨hx, hb, hml, hown, hts⟩ ((tX4_checkRange_a l hfl Γ w (nI 0) (nI 1) (by first | assumption | omega | decide)) _) (va_cwS 3 hts gX4_smallest_X4_checkRange rfl rfl rfl (by decide +kernel) ⟨Nat.le_of_ble_eq_true rfl, Nat.le_of_ble_eq_true rfl⟩) ⟨wPre_blind, wPre_mk hP hD hK hS hA hAB hAm [] rfl rfl⟩ rfl rfl hl.1 rfl (lv_room (Nat.le_of_ble_eq_true rfl)) dX4_smallest_3 ⟨Nat.le_of_ble_eq_true rfl, Nat.le_of_ble_eq_true rfl⟩) hS hA (fun ce q9 H1 locs1 h1 h2 hS hc hv hcl => vx_out (fun x hx => (hnt x hx).elim) hlocks hc hv hcl (fun t ht ha => ⟨(), trivial, rfl, hS.F ht⟩) hS.2.2 (Nat.le_of_ble_eq_true rfl) (Nat.le_of_ble_eq_true rfl))
set_option maxHeartbeats 4000000 in
set_option maxRecDepth 100000 in
theorem tX4_smallest_b3 (l : Launch) (hfl : l.stackTraces = false) (Γ : wG) (q : Nat) (an : Nat → Nat) (ap : Nat → Nat) (qs : Nat) (ac : Nat → Nat) (au : Nat → Nat) (ax : Nat → Nat) (nn : Int32) (v : (Nat → Nat → Int32)) (ck : (Nat → Int32)) (so : (Nat → Int32)) (sp : (Nat → Int32)) (w : Int32) (hv : ¬ w < nI 0) (hw : ¬ w ≤ nI 1) : TX l Γ yX4_smallest wsX4_smallest ({ frames := 7, cells := 1, slots := 6, locals := 112 }) [.ref q, .int w] [mnC q an ap qs ac au ax nn, plB Γ an v, cuB Γ ac ck, suB Γ au so sp] "java/lang/IllegalArgumentException" := by
  intro sz
  refine vx_ofW (cc := cX4_smallest) (maxL := 4) (ret := (some .int)) (by decide) rfl ?_
  intro p e s m args below meth c s₁ B hml hnt hv
  obtain ⟨rfl, hsz, hP, hK, hD0, hAm⟩ := hv
  have hx := B.exec
  have hb := B.bytes
  have hr := B.returns
  have hts := atoms_spec (ws := wsX4_smallest) B.pre
  have hown : s.vm.findClass RX4 = some m.cls := findClass_of_methodNamed B.named
  have hlocks := B.notSynchronized
  subst hsz
  have hD := hD0.self (sz := s.heap.size)
  generalize hBe : va_A (wcat [mnC q an ap qs ac au ax nn, plB Γ an v, cuB Γ ac ck, suB Γ au so sp]) s.heap.size = B0 at hD hAm
  obtain ⟨A, hAe⟩ : ∃ A, A = va_A [] s.heap.size := ⟨_, rfl⟩
  rw [← hAe]
  have hA : ∀ q : Nat, s.heap.size ≤ q → A q := fun q h => by rw [hAe]; exact Or.inr h
  have hAB : ∀ q : Nat, A q → B0 q := fun q h => by rw [hAe] at h; rw [← hBe]; exact Or.inr (wnone h)
  have hS : va_S A s.heap s.heap [] := va_S.rf
  have hl := lv_entry ([.ref q, .int w]) (n := 4) (Nat.le_of_ble_eq_true rfl)
  rw [lg_entry_eq]
  generalize (lg_sl ([.ref q, .int w]) ++ List.replicate (4 - (lg_sl ([.ref q, .int w])).length) Slot.unset).toArray = ls at hl ⊢
  have hl : lv_has ls 4 [(0, .ref q), (1, .int w)] := hl
  refine lv_iload_n hx hb dX4_smallest_0 rfl (lv_at hl 1 rfl) ?_
  refine lv_iconst (v := (nI 0)) hx hb dX4_smallest_1 (by decide) ?_
  refine lv_iconst (v := (nI 1)) hx hb dX4_smallest_2 (by decide) ?_
  exact tTX (E := "java/lang/IllegalArgumentException") (vx_runS (As := [.int w, .int (nI 0), .int (nI 1)]) (rest := []) ⟨hx, hb, hml, hown, hts⟩ ((tX4_checkRange_b l hfl Γ w (nI 0) (nI 1) (by first | assumption | omega | decide) (by first | assumption | omega | decide)) _) (va_cwS 3 hts gX4_smallest_X4_checkRange rfl rfl rfl (by decide +kernel) ⟨Nat.le_of_ble_eq_true rfl, Nat.le_of_ble_eq_true rfl⟩) ⟨wPre_blind, wPre_mk hP hD hK hS hA hAB hAm [] rfl rfl⟩ rfl rfl hl.1 rfl (lv_room (Nat.le_of_ble_eq_true rfl)) dX4_smallest_3 ⟨Nat.le_of_ble_eq_true rfl, Nat.le_of_ble_eq_true rfl⟩) hS hA (fun ce q9 H1 locs1 h1 h2 hS hc hv hcl => vx_out (fun x hx => (hnt x hx).elim) hlocks hc hv hcl (fun t ht ha => ⟨(), trivial, rfl, hS.F ht⟩) hS.2.2 (Nat.le_of_ble_eq_true rfl) (Nat.le_of_ble_eq_true rfl))
def fX4_peace_L31 (k18 : Nat → Int32 → Int32 → Int32 × (Nat → Int32) × (Nat → Int32)) (v : (Nat → Nat → Int32)) (ck : (Nat → Int32)) (la : Int32) (r_1 : (Nat → Int32) × (Nat → Int32)) (i18 : Nat) : Nat → Nat → Int32 → Int32 → Int32 × (Nat → Int32) × (Nat → Int32)
  | 0, i31, x2_31, x3_31 => (k18 (i18 + 1) x2_31 x3_31)
  | n31 + 1, i31, x2_31, x3_31 => (let y_2 := (fX4_gainOfPeace v ck r_1.1 r_1.2 (i18) (i31)); (if y_2 ≤ x3_31 then (fX4_peace_L31 k18 v ck la r_1 i18 n31 (i31 + 1) x2_31 x3_31) else (if la = 0 then (fX4_peace_L31 k18 v ck la r_1 i18 n31 (i31 + 1) (nI i18) y_2) else (fX4_peace_L31 k18 v ck la r_1 i18 n31 (i31 + 1) (nI i31) y_2))))
def fX4_peace_L18 (v : (Nat → Nat → Int32)) (ck : (Nat → Int32)) (la : Int32) (r_1 : (Nat → Int32) × (Nat → Int32)) : Nat → Nat → Int32 → Int32 → Int32 × (Nat → Int32) × (Nat → Int32)
  | 0, i18, x2_18, x3_18 => (x2_18, r_1.1, r_1.2)
  | n18 + 1, i18, x2_18, x3_18 => (fX4_peace_L31 (fX4_peace_L18 v ck la r_1 n18) v ck la r_1 i18 (8 - (i18 + 1)) (i18 + 1) x2_18 x3_18)
def fX4_peace (v : (Nat → Nat → Int32)) (ck : (Nat → Int32)) (so : (Nat → Int32)) (sp : (Nat → Int32)) (la : Int32) : Int32 × (Nat → Int32) × (Nat → Int32) := (let r_1 := (fX3_look so sp v); (fX4_peace_L18 v ck la r_1 (8) 0 (-1) (nI 0)))
set_option maxHeartbeats 4000000 in
set_option maxRecDepth 100000 in
theorem kX4_peace (l : Launch) (Γ : wG) (q : Nat) (an : Nat → Nat) (ap : Nat → Nat) (qs : Nat) (ac : Nat → Nat) (au : Nat → Nat) (ax : Nat → Nat) (nn : Int32) (v : (Nat → Nat → Int32)) (ck : (Nat → Int32)) (so : (Nat → Int32)) (sp : (Nat → Int32)) (la : Int32) : MI l Γ yX4_peace wsX4_peace ({ frames := 3, cells := 0, slots := 0, locals := 69 }) [.ref q, .int la] [mnC q an ap qs ac au ax nn, plB Γ an v, cuB Γ ac ck, suB Γ au so sp] [mnC q an ap qs ac au ax nn, plB Γ an v, cuB Γ ac ck, suB Γ au (fX4_peace v ck so sp la).2.1 (fX4_peace v ck so sp la).2.2] (fX4_peace v ck so sp la).1 := by
  intro sz
  refine Met.ofW (cc := cX4_peace) (maxL := 7) (ret := (some .int)) (by decide) rfl ?_
  intro p e s m args below meth c s₁ B hml hv
  obtain ⟨rfl, hsz, hP, hK, hD0, hAm⟩ := hv
  have hx := B.exec
  have hb := B.bytes
  have hr := B.returns
  have hts := atoms_spec (ws := wsX4_peace) B.pre
  have hown : s.vm.findClass RX4 = some m.cls := findClass_of_methodNamed B.named
  have hlocks := B.notSynchronized
  subst hsz
  have hD := hD0.self (sz := s.heap.size)
  generalize hAe : va_A (wcat [mnC q an ap qs ac au ax nn, plB Γ an v, cuB Γ ac ck, suB Γ au so sp]) s.heap.size = A at hD hAm ⊢
  have hA : ∀ q : Nat, s.heap.size ≤ q → A q := fun q h => by rw [← hAe]; exact Or.inr h
  have hAB : ∀ q : Nat, A q → A q := fun _ h => h
  have hS : va_S A s.heap s.heap [] := va_S.rf
  have hl := lv_entry ([.ref q, .int la]) (n := 7) (Nat.le_of_ble_eq_true rfl)
  rw [lg_entry_eq]
  generalize (lg_sl ([.ref q, .int la]) ++ List.replicate (7 - (lg_sl ([.ref q, .int la])).length) Slot.unset).toArray = ls at hl ⊢
  have hl : lv_has ls 7 [(0, .ref q), (1, .int la)] := hl
  have hi4 : ∀ w ∈ wsX40, w ∈ wsX4_peace := by decide +kernel
  have kf10 := hts (.fieldLink RX4 10 "CapsuleKeepers" "now" "LCapsuleKeepers$Place;") (by decide +kernel)
  have kf37 := hts (.fieldLink RX4 37 "CapsuleKeepers" "survey" "LCapsuleKeepers$Survey;") (by decide +kernel)
  have hq : (fX4_peace v ck so sp la) = (let r_1 := (fX3_look so sp v); (fX4_peace_L18 v ck la r_1 (8) 0 (-1) (nI 0))) := rfl
  refine lv_aload_n hx hb dX4_peace_0 rfl (lv_at hl 0 rfl) ?_
  refine va_get (D := Γ.1) (ci := 4) (v := .ref (au 0)) (C := RX4) (T := TX4) (N := 7) hx hb hts hi4 hown hK hP 0 rfl rfl 5 (by decide) kf37 (fun _ h9 => h9) rfl dX4_peace_1 ?_
  refine lv_aload_n hx hb dX4_peace_4 rfl (lv_at hl 0 rfl) ?_
  refine va_get (D := Γ.1) (ci := 4) (v := .ref (an 0)) (C := RX4) (T := TX4) (N := 7) hx hb hts hi4 hown hK hP 0 rfl rfl 0 (by decide) kf10 (fun _ h9 => h9) rfl dX4_peace_5 ?_
  refine cMV (bc' := [suB Γ au (fX3_look so sp v).1 (fX3_look so sp v).2, plB Γ an v]) (va_runV (As := [.ref (an 0)]) (rest := []) ⟨hx, hb, hml, hown, hts⟩ ((kX3_look l Γ au an so sp v) _) (cwV 1 hts gX4_peace_X3_look rfl rfl rfl (by decide +kernel) ⟨Nat.le_of_ble_eq_true rfl, Nat.le_of_ble_eq_true rfl⟩) ⟨wPre_blind, va_recv hK hP (ci := 3) (q0 := 9) rfl rfl, wPre_mk hP hD hK hS hA hAB hAm [3, 1] rfl rfl⟩ rfl rfl hl.1 rfl (lv_room (Nat.le_of_ble_eq_true rfl)) dX4_peace_8 ⟨Nat.zero_le _, Nat.zero_le _⟩) hP hD hS hA [3, 1] rfl rfl (bs' := [mnC q an ap qs ac au ax nn, plB Γ an v, cuB Γ ac ck, suB Γ au (fX3_look so sp v).1 (fX3_look so sp v).2]) rfl (fun H locs hP hD hS => ?_)
  generalize hr_1 : (fX3_look so sp v) = r_1 at hP hD hq
  replace hq : (fX4_peace v ck so sp la) = (fX4_peace_L18 v ck la r_1 (8) 0 (-1) (nI 0)) := hq
  refine lv_iconst (v := (-1)) hx hb dX4_peace_11 (by decide) ?_
  refine lv_istore_n (lv' := [(2, .int (-1)), (0, .ref q), (1, .int la)]) hx hb dX4_peace_12 rfl hl (by decide) rfl (fun ls hl => ?_)
  refine lv_iconst (v := (nI 0)) hx hb dX4_peace_13 (by decide) ?_
  refine lv_istore_n (lv' := [(3, .int (nI 0)), (2, .int (-1)), (0, .ref q), (1, .int la)]) hx hb dX4_peace_14 rfl hl (by decide) rfl (fun ls hl => ?_)
  refine lv_iconst (v := (nI 0)) hx hb dX4_peace_15 (by decide) ?_
  refine lv_istore (lv' := [(4, .int (nI 0)), (3, .int (nI 0)), (2, .int (-1)), (0, .ref q), (1, .int la)]) hx hb dX4_peace_16 hl (by decide) rfl (fun ls hl => ?_)
  refine wl (pc := 18) (σ := Nat × Int32 × Int32) (fun n (i18, x2_18, x3_18) H locs ls => (i18 + n = 8) ∧ (fX4_peace v ck so sp la) = fX4_peace_L18 v ck la r_1 n i18 x2_18 x3_18 ∧ va_P Γ.1 vwCl (wcat [mnC q an ap qs ac au ax nn, plB Γ an v, cuB Γ ac ck, suB Γ au r_1.1 r_1.2]) H ∧ va_D A (wcat [mnC q an ap qs ac au ax nn, plB Γ an v, cuB Γ ac ck, suB Γ au r_1.1 r_1.2]) ∧ va_S A s.heap H locs ∧ lv_has ls 7 [(4, .int (nI i18)), (3, .int x3_18), (2, .int x2_18), (0, .ref q), (1, .int la)]) ?_ ?_ (8) (0, (-1), (nI 0)) _ _ _ ⟨by omega, hq, hP, hD, hS, lv_sub hl [0, 1, 2, 3, 4] rfl⟩
  · intro ⟨i18, x2_18, x3_18⟩ H locs ls h
    obtain ⟨hn18, hq, hP, hD, hS, hl⟩ := h
    try dsimp only at hn18 hq hP hD hl
    replace hq : (fX4_peace v ck so sp la) = (x2_18, r_1.1, r_1.2) := hq
    refine lv_iload hx hb dX4_peace_18 (lv_at hl 0 rfl) ?_
    refine lv_bipush (v := (nI 8)) hx hb dX4_peace_20 (by decide) ?_
    refine lv_icmp_ge (tgt := 81) hx hb dX4_peace_22 (by decide) (fun c_22 => ?_) (fun c_22 => absurd (nI_le (by omega) (by omega)) c_22)
    refine lv_iload_n hx hb dX4_peace_81 rfl (lv_at hl 2 rfl) ?_
    exact W.iret (v := x2_18) hx hb hr (fun t ht hW => eMI (by rw [hq]; exact hP) hS ht (by rw [hq])) hS.2.2 dX4_peace_82
  · intro n18 ih18 ⟨i18, x2_18, x3_18⟩ H locs ls h
    obtain ⟨hn18, hq, hP, hD, hS, hl⟩ := h
    try dsimp only at hn18 hq hP hD hl
    replace hq : (fX4_peace v ck so sp la) = (fX4_peace_L31 (fX4_peace_L18 v ck la r_1 n18) v ck la r_1 i18 (8 - (i18 + 1)) (i18 + 1) x2_18 x3_18) := hq
    refine lv_iload hx hb dX4_peace_18 (lv_at hl 0 rfl) ?_
    refine lv_bipush (v := (nI 8)) hx hb dX4_peace_20 (by decide) ?_
    refine lv_icmp_ge (tgt := 81) hx hb dX4_peace_22 (by decide) (fun c_22 => absurd c_22 (nI_ge (by omega) (by omega))) (fun c_22 => ?_)
    refine lv_iload hx hb dX4_peace_25 (lv_at hl 0 rfl) ?_
    refine lv_iconst (v := (nI 1)) hx hb dX4_peace_27 (by decide) ?_
    refine lv_iadd hx hb dX4_peace_28 ?_
    refine lv_eqi (y := (nI (i18 + 1))) (nI_add _ _) ?_
    refine lv_istore (lv' := [(5, .int (nI (i18 + 1))), (4, .int (nI i18)), (3, .int x3_18), (2, .int x2_18), (0, .ref q), (1, .int la)]) hx hb dX4_peace_29 hl (by decide) rfl (fun ls hl => ?_)
    obtain ⟨k18, ek18⟩ : ∃ k, k = (fX4_peace_L18 v ck la r_1 n18) := ⟨_, rfl⟩
    replace hq : (fX4_peace v ck so sp la) = (fX4_peace_L31 k18 v ck la r_1 i18 (8 - (i18 + 1)) (i18 + 1) x2_18 x3_18) := hq.trans (by rw [ek18])
    refine wl (pc := 31) (σ := Nat × Int32 × Int32) (fun n (i31, x2_31, x3_31) H locs ls => (i31 + n = 8) ∧ (fX4_peace v ck so sp la) = fX4_peace_L31 k18 v ck la r_1 i18 n i31 x2_31 x3_31 ∧ va_P Γ.1 vwCl (wcat [mnC q an ap qs ac au ax nn, plB Γ an v, cuB Γ ac ck, suB Γ au r_1.1 r_1.2]) H ∧ va_D A (wcat [mnC q an ap qs ac au ax nn, plB Γ an v, cuB Γ ac ck, suB Γ au r_1.1 r_1.2]) ∧ va_S A s.heap H locs ∧ lv_has ls 7 [(5, .int (nI i31)), (4, .int (nI i18)), (3, .int x3_31), (2, .int x2_31), (0, .ref q), (1, .int la)]) ?_ ?_ (8 - (i18 + 1)) ((i18 + 1), x2_18, x3_18) _ _ _ ⟨by omega, hq, hP, hD, hS, lv_sub hl [0, 1, 2, 3, 4, 5] rfl⟩
    · intro ⟨i31, x2_31, x3_31⟩ H locs ls h
      obtain ⟨hn31, hq, hP, hD, hS, hl⟩ := h
      try dsimp only at hn31 hq hP hD hl
      replace hq : (fX4_peace v ck so sp la) = (k18 (i18 + 1) x2_31 x3_31) := hq
      refine lv_iload hx hb dX4_peace_31 (lv_at hl 0 rfl) ?_
      refine lv_bipush (v := (nI 8)) hx hb dX4_peace_33 (by decide) ?_
      refine lv_icmp_ge (tgt := 75) hx hb dX4_peace_35 (by decide) (fun c_35 => ?_) (fun c_35 => absurd (nI_le (by omega) (by omega)) c_35)
      refine lv_iinc (v := (nI (i18 + 1))) (lv' := [(4, .int (nI (i18 + 1))), (5, .int (nI i31)), (3, .int x3_31), (2, .int x2_31), (0, .ref q), (1, .int la)]) hx hb dX4_peace_75 hl (k := 1) rfl (nI_1 _) (by decide) rfl (fun ls hl => ?_)
      refine lv_goto (tgt := 18) hx hb dX4_peace_78 (by decide) ?_
      exact ih18 ((i18 + 1), x2_31, x3_31) H locs ls ⟨by omega, (hq.trans (by rw [ek18])), hP, hD, hS, lv_sub hl [0, 2, 3, 4, 5] rfl⟩
    · intro n31 ih31 ⟨i31, x2_31, x3_31⟩ H locs ls h
      obtain ⟨hn31, hq, hP, hD, hS, hl⟩ := h
      try dsimp only at hn31 hq hP hD hl
      replace hq : (fX4_peace v ck so sp la) = (let y_2 := (fX4_gainOfPeace v ck r_1.1 r_1.2 (i18) (i31)); (if y_2 ≤ x3_31 then (fX4_peace_L31 k18 v ck la r_1 i18 n31 (i31 + 1) x2_31 x3_31) else (if la = 0 then (fX4_peace_L31 k18 v ck la r_1 i18 n31 (i31 + 1) (nI i18) y_2) else (fX4_peace_L31 k18 v ck la r_1 i18 n31 (i31 + 1) (nI i31) y_2)))) := hq
      refine lv_iload hx hb dX4_peace_31 (lv_at hl 0 rfl) ?_
      refine lv_bipush (v := (nI 8)) hx hb dX4_peace_33 (by decide) ?_
      refine lv_icmp_ge (tgt := 75) hx hb dX4_peace_35 (by decide) (fun c_35 => absurd c_35 (nI_ge (by omega) (by omega))) (fun c_35 => ?_)
      refine lv_aload_n hx hb dX4_peace_38 rfl (lv_at hl 4 rfl) ?_
      refine lv_iload hx hb dX4_peace_39 (lv_at hl 1 rfl) ?_
      refine lv_iload hx hb dX4_peace_41 (lv_at hl 0 rfl) ?_
      refine cLI (va_runV (As := [.int (nI i18), .int (nI i31)]) (rest := []) ⟨hx, hb, hml, hown, hts⟩ ((kX4_gainOfPeace l Γ q an ap qs ac au ax nn v ck r_1.1 r_1.2 (i18) (i31) (by first | assumption | omega | decide) (by first | assumption | omega | decide)) _) (cwV 2 hts gX4_peace_X4_gainOfPeace rfl rfl rfl (by decide +kernel) ⟨Nat.le_of_ble_eq_true rfl, Nat.le_of_ble_eq_true rfl⟩) ⟨wPre_blind, va_recv hK hP (ci := 4) (q0 := 0) rfl rfl, wPre_mk hP hD hK hS hA hAB hAm [0, 1, 2, 3] rfl rfl⟩ rfl rfl hl.1 rfl (lv_room (Nat.le_of_ble_eq_true rfl)) dX4_peace_43 ⟨Nat.zero_le _, Nat.zero_le _⟩) hP hS hA (fun H locs hP hS => ?_)
      refine lv_topi (fun y_2 ey_2 => ?_)
      replace hq : (fX4_peace v ck so sp la) = (if y_2 ≤ x3_31 then (fX4_peace_L31 k18 v ck la r_1 i18 n31 (i31 + 1) x2_31 x3_31) else (if la = 0 then (fX4_peace_L31 k18 v ck la r_1 i18 n31 (i31 + 1) (nI i18) y_2) else (fX4_peace_L31 k18 v ck la r_1 i18 n31 (i31 + 1) (nI i31) y_2))) := hq.trans (by first | rw [ey_2] | rfl)
      refine lv_istore (lv' := [(6, .int y_2), (5, .int (nI i31)), (4, .int (nI i18)), (3, .int x3_31), (2, .int x2_31), (0, .ref q), (1, .int la)]) hx hb dX4_peace_46 hl (by decide) rfl (fun ls hl => ?_)
      refine lv_iload hx hb dX4_peace_48 (lv_at hl 0 rfl) ?_
      refine lv_iload_n hx hb dX4_peace_50 rfl (lv_at hl 3 rfl) ?_
      refine lv_icmp_le (tgt := 69) hx hb dX4_peace_51 (by decide) (fun c_3 => ?_) (fun c_3 => ?_)
      · have hq := hq.trans (if_pos c_3)
        refine lv_iinc (v := (nI (i31 + 1))) (lv' := [(5, .int (nI (i31 + 1))), (6, .int y_2), (4, .int (nI i18)), (3, .int x3_31), (2, .int x2_31), (0, .ref q), (1, .int la)]) hx hb dX4_peace_69 hl (k := 1) rfl (nI_1 _) (by decide) rfl (fun ls hl => ?_)
        refine lv_goto (tgt := 31) hx hb dX4_peace_72 (by decide) ?_
        exact ih31 ((i31 + 1), x2_31, x3_31) H locs ls ⟨by omega, hq, hP, hD, hS, lv_sub hl [0, 2, 3, 4, 5, 6] rfl⟩
      · have hq := hq.trans (if_neg c_3)
        refine lv_iload hx hb dX4_peace_54 (lv_at hl 0 rfl) ?_
        refine lv_istore_n (lv' := [(3, .int y_2), (6, .int y_2), (5, .int (nI i31)), (4, .int (nI i18)), (2, .int x2_31), (0, .ref q), (1, .int la)]) hx hb dX4_peace_56 rfl hl (by decide) rfl (fun ls hl => ?_)
        refine lv_iload_n hx hb dX4_peace_57 rfl (lv_at hl 6 rfl) ?_
        refine lv_if_eq (tgt := 66) hx hb dX4_peace_58 (by decide) (fun c_4 => ?_) (fun c_4 => ?_)
        · have hq := hq.trans (if_pos c_4)
          refine lv_iload hx hb dX4_peace_66 (lv_at hl 3 rfl) ?_
          refine lv_istore_n (lv' := [(2, .int (nI i18)), (3, .int y_2), (6, .int y_2), (5, .int (nI i31)), (4, .int (nI i18)), (0, .ref q), (1, .int la)]) hx hb dX4_peace_68 rfl hl (by decide) rfl (fun ls hl => ?_)
          refine lv_iinc (v := (nI (i31 + 1))) (lv' := [(5, .int (nI (i31 + 1))), (2, .int (nI i18)), (3, .int y_2), (6, .int y_2), (4, .int (nI i18)), (0, .ref q), (1, .int la)]) hx hb dX4_peace_69 hl (k := 3) rfl (nI_1 _) (by decide) rfl (fun ls hl => ?_)
          refine lv_goto (tgt := 31) hx hb dX4_peace_72 (by decide) ?_
          exact ih31 ((i31 + 1), (nI i18), y_2) H locs ls ⟨by omega, hq, hP, hD, hS, lv_sub hl [0, 4, 2, 1, 5, 6] rfl⟩
        · have hq := hq.trans (if_neg c_4)
          refine lv_iload hx hb dX4_peace_61 (lv_at hl 2 rfl) ?_
          refine lv_goto (tgt := 68) hx hb dX4_peace_63 (by decide) ?_
          refine lv_istore_n (lv' := [(2, .int (nI i31)), (3, .int y_2), (6, .int y_2), (5, .int (nI i31)), (4, .int (nI i18)), (0, .ref q), (1, .int la)]) hx hb dX4_peace_68 rfl hl (by decide) rfl (fun ls hl => ?_)
          refine lv_iinc (v := (nI (i31 + 1))) (lv' := [(5, .int (nI (i31 + 1))), (2, .int (nI i31)), (3, .int y_2), (6, .int y_2), (4, .int (nI i18)), (0, .ref q), (1, .int la)]) hx hb dX4_peace_69 hl (k := 3) rfl (nI_1 _) (by decide) rfl (fun ls hl => ?_)
          refine lv_goto (tgt := 31) hx hb dX4_peace_72 (by decide) ?_
          exact ih31 ((i31 + 1), (nI i31), y_2) H locs ls ⟨by omega, hq, hP, hD, hS, lv_sub hl [0, 4, 2, 1, 5, 6] rfl⟩
def fX4_told (v : (Nat → Nat → Int32)) (ck : (Nat → Int32)) (g : Int32) : Int32 := (if (fX2_hasCapsuleWith v g) = 0 then ((-1)) else (if (v 0 6) ≤ (fbit g) then ((fX0_keyOf ck g)) else ((-1))))
set_option maxHeartbeats 4000000 in
set_option maxRecDepth 100000 in
theorem kX4_told (l : Launch) (Γ : wG) (q : Nat) (an : Nat → Nat) (ap : Nat → Nat) (qs : Nat) (ac : Nat → Nat) (au : Nat → Nat) (ax : Nat → Nat) (nn : Int32) (v : (Nat → Nat → Int32)) (ck : (Nat → Int32)) (g : Int32) (hv : ¬ g < nI 0) (hw : g ≤ nI 255) : LI l Γ yX4_told wsX4_told ({ frames := 2, cells := 0, slots := 0, locals := 43 }) [.ref q, .int g] [mnC q an ap qs ac au ax nn, plB Γ an v, cuB Γ ac ck] (fX4_told v ck g) := by
  intro sz
  refine Met.ofW (cc := cX4_told) (maxL := 2) (ret := (some .int)) (by decide) rfl ?_
  intro p e s m args below meth c s₁ B hml hv
  obtain ⟨rfl, hsz, hP, hK, hD0, hAm⟩ := hv
  have hx := B.exec
  have hb := B.bytes
  have hr := B.returns
  have hts := atoms_spec (ws := wsX4_told) B.pre
  have hown : s.vm.findClass RX4 = some m.cls := findClass_of_methodNamed B.named
  have hlocks := B.notSynchronized
  subst hsz
  have hD := hD0.self (sz := s.heap.size)
  generalize hBe : va_A (wcat [mnC q an ap qs ac au ax nn, plB Γ an v, cuB Γ ac ck]) s.heap.size = B0 at hD hAm
  obtain ⟨A, hAe⟩ : ∃ A, A = va_A [] s.heap.size := ⟨_, rfl⟩
  rw [← hAe]
  have hA : ∀ q : Nat, s.heap.size ≤ q → A q := fun q h => by rw [hAe]; exact Or.inr h
  have hAB : ∀ q : Nat, A q → B0 q := fun q h => by rw [hAe] at h; rw [← hBe]; exact Or.inr (wnone h)
  have hS : va_S A s.heap s.heap [] := va_S.rf
  have hl := lv_entry ([.ref q, .int g]) (n := 2) (Nat.le_of_ble_eq_true rfl)
  rw [lg_entry_eq]
  generalize (lg_sl ([.ref q, .int g]) ++ List.replicate (2 - (lg_sl ([.ref q, .int g])).length) Slot.unset).toArray = ls at hl ⊢
  have hl : lv_has ls 2 [(0, .ref q), (1, .int g)] := hl
  have hi2 : ∀ w ∈ wsX20, w ∈ wsX4_told := by decide +kernel
  have hi4 : ∀ w ∈ wsX40, w ∈ wsX4_told := by decide +kernel
  have kf10 := hts (.fieldLink RX4 10 "CapsuleKeepers" "now" "LCapsuleKeepers$Place;") (by decide +kernel)
  have kf205 := hts (.fieldLink RX4 205 "CapsuleKeepers$Place" "quorum" "I") (by decide +kernel)
  have kf30 := hts (.fieldLink RX4 30 "CapsuleKeepers" "curves" "LCapsuleKeepers$Curves;") (by decide +kernel)
  have hq : (fX4_told v ck g) = (if (fX2_hasCapsuleWith v g) = 0 then ((-1)) else (if (v 0 6) ≤ (fbit g) then ((fX0_keyOf ck g)) else ((-1)))) := rfl
  refine lv_iload_n hx hb dX4_told_0 rfl (lv_at hl 1 rfl) ?_
  refine lv_iconst (v := (nI 0)) hx hb dX4_told_1 (by decide) ?_
  refine lv_sipush (v := (nI 255)) hx hb dX4_told_2 (by decide) ?_
  refine cLV (va_runS (As := [.int g, .int (nI 0), .int (nI 255)]) (rest := []) ⟨hx, hb, hml, hown, hts⟩ ((kX4_checkRange l Γ g (nI 0) (nI 255) (by first | assumption | omega | decide) (by first | assumption | omega | decide)) _) (va_cwS 3 hts gX4_told_X4_checkRange rfl rfl rfl (by decide +kernel) ⟨Nat.le_of_ble_eq_true rfl, Nat.le_of_ble_eq_true rfl⟩) ⟨wPre_blind, wPre_mk hP hD hK hS hA hAB hAm [] rfl rfl⟩ rfl rfl hl.1 rfl (lv_room (Nat.le_of_ble_eq_true rfl)) dX4_told_5 ⟨Nat.zero_le _, Nat.zero_le _⟩) hP hS hA (fun H locs hP hS => ?_)
  refine lv_aload_n hx hb dX4_told_8 rfl (lv_at hl 0 rfl) ?_
  refine va_get (D := Γ.1) (ci := 4) (v := .ref (an 0)) (C := RX4) (T := TX4) (N := 7) hx hb hts hi4 hown hK hP 0 rfl rfl 0 (by decide) kf10 (fun _ h9 => h9) rfl dX4_told_9 ?_
  refine lv_iload_n hx hb dX4_told_12 rfl (lv_at hl 1 rfl) ?_
  refine cLI (va_runV (As := [.int g]) (rest := []) ⟨hx, hb, hml, hown, hts⟩ ((kX2_hasCapsuleWith l Γ an v g) _) (cwV 1 hts gX4_told_X2_hasCapsuleWith rfl rfl rfl (by decide +kernel) ⟨Nat.le_of_ble_eq_true rfl, Nat.le_of_ble_eq_true rfl⟩) ⟨wPre_blind, va_recv hK hP (ci := 2) (q0 := 1) rfl rfl, wPre_mk hP hD hK hS hA hAB hAm [1] rfl rfl⟩ rfl rfl hl.1 rfl (lv_room (Nat.le_of_ble_eq_true rfl)) dX4_told_13 ⟨Nat.zero_le _, Nat.zero_le _⟩) hP hS hA (fun H locs hP hS => ?_)
  refine lv_if_eq (tgt := 33) hx hb dX4_told_16 (by decide) (fun c_1 => ?_) (fun c_1 => ?_)
  · have hq := hq.trans (if_pos c_1)
    refine lv_iconst (v := (-1)) hx hb dX4_told_33 (by decide) ?_
    exact W.iret (v := (-1)) hx hb hr (fun t ht hW => eLI hS ht (by rw [hq])) hS.2.2 dX4_told_34
  · have hq := hq.trans (if_neg c_1)
    refine lv_iload_n hx hb dX4_told_19 rfl (lv_at hl 1 rfl) ?_
    refine cLI (va_runS (As := [.int g]) (rest := []) ⟨hx, hb, hml, hown, hts⟩ ((kJ6_bitCount_0f7a4 l Γ g) _) (va_cwS 1 hts gX4_told_J6_bitCount_0f7a4 rfl rfl rfl (by decide +kernel) ⟨Nat.le_of_ble_eq_true rfl, Nat.le_of_ble_eq_true rfl⟩) ⟨wPre_blind, wPre_mk hP hD hK hS hA hAB hAm [] rfl rfl⟩ rfl rfl hl.1 rfl (lv_room (Nat.le_of_ble_eq_true rfl)) dX4_told_20 ⟨Nat.zero_le _, Nat.zero_le _⟩) hP hS hA (fun H locs hP hS => ?_)
    refine lv_aload_n hx hb dX4_told_23 rfl (lv_at hl 0 rfl) ?_
    refine va_get (D := Γ.1) (ci := 4) (v := .ref (an 0)) (C := RX4) (T := TX4) (N := 7) hx hb hts hi4 hown hK hP 0 rfl rfl 0 (by decide) kf10 (fun _ h9 => h9) rfl dX4_told_24 ?_
    refine va_get (D := Γ.1) (ci := 2) (v := .int (v 0 6)) (C := RX2) (T := TX2) (N := 16) hx hb hts hi2 hown hK hP 1 rfl rfl 11 (by decide) kf205 (fun _ h9 => h9) rfl dX4_told_27 ?_
    refine lv_icmp_ge (tgt := 35) hx hb dX4_told_30 (by decide) (fun c_2 => ?_) (fun c_2 => ?_)
    · have hq := hq.trans (if_pos c_2)
      refine lv_aload_n hx hb dX4_told_35 rfl (lv_at hl 0 rfl) ?_
      refine va_get (D := Γ.1) (ci := 4) (v := .ref (ac 0)) (C := RX4) (T := TX4) (N := 7) hx hb hts hi4 hown hK hP 0 rfl rfl 4 (by decide) kf30 (fun _ h9 => h9) rfl dX4_told_36 ?_
      refine lv_iload_n hx hb dX4_told_39 rfl (lv_at hl 1 rfl) ?_
      refine cLI (va_runV (As := [.int g]) (rest := []) ⟨hx, hb, hml, hown, hts⟩ ((kX0_keyOf l Γ ac ck g) _) (cwV 1 hts gX4_told_X0_keyOf rfl rfl rfl (by decide +kernel) ⟨Nat.le_of_ble_eq_true rfl, Nat.le_of_ble_eq_true rfl⟩) ⟨wPre_blind, va_recv hK hP (ci := 0) (q0 := 7) rfl rfl, wPre_mk hP hD hK hS hA hAB hAm [2] rfl rfl⟩ rfl rfl hl.1 rfl (lv_room (Nat.le_of_ble_eq_true rfl)) dX4_told_40 ⟨Nat.zero_le _, Nat.zero_le _⟩) hP hS hA (fun H locs hP hS => ?_)
      exact W.iret (v := (fX0_keyOf ck g)) hx hb hr (fun t ht hW => eLI hS ht (by rw [hq])) hS.2.2 dX4_told_43
    · have hq := hq.trans (if_neg c_2)
      refine lv_iconst (v := (-1)) hx hb dX4_told_33 (by decide) ?_
      exact W.iret (v := (-1)) hx hb hr (fun t ht hW => eLI hS ht (by rw [hq])) hS.2.2 dX4_told_34
set_option maxHeartbeats 4000000 in
set_option maxRecDepth 100000 in
theorem tX4_told_a5 (l : Launch) (hfl : l.stackTraces = false) (Γ : wG) (q : Nat) (an : Nat → Nat) (ap : Nat → Nat) (qs : Nat) (ac : Nat → Nat) (au : Nat → Nat) (ax : Nat → Nat) (nn : Int32) (v : (Nat → Nat → Int32)) (ck : (Nat → Int32)) (g : Int32) (hv : g < nI 0) : TX l Γ yX4_told wsX4_told ({ frames := 7, cells := 1, slots := 6, locals := 112 }) [.ref q, .int g] [mnC q an ap qs ac au ax nn, plB Γ an v, cuB Γ ac ck] "java/lang/IllegalArgumentException" := by
  intro sz
  refine vx_ofW (cc := cX4_told) (maxL := 2) (ret := (some .int)) (by decide) rfl ?_
  intro p e s m args below meth c s₁ B hml hnt hv
  obtain ⟨rfl, hsz, hP, hK, hD0, hAm⟩ := hv
  have hx := B.exec
  have hb := B.bytes
  have hr := B.returns
  have hts := atoms_spec (ws := wsX4_told) B.pre
  have hown : s.vm.findClass RX4 = some m.cls := findClass_of_methodNamed B.named
  have hlocks := B.notSynchronized
  subst hsz
  have hD := hD0.self (sz := s.heap.size)
  generalize hBe : va_A (wcat [mnC q an ap qs ac au ax nn, plB Γ an v, cuB Γ ac ck]) s.heap.size = B0 at hD hAm
  obtain ⟨A, hAe⟩ : ∃ A, A = va_A [] s.heap.size := ⟨_, rfl⟩
  rw [← hAe]
  have hA : ∀ q : Nat, s.heap.size ≤ q → A q := fun q h => by rw [hAe]; exact Or.inr h
  have hAB : ∀ q : Nat, A q → B0 q := fun q h => by rw [hAe] at h; rw [← hBe]; exact Or.inr (wnone h)
  have hS : va_S A s.heap s.heap [] := va_S.rf
  have hl := lv_entry ([.ref q, .int g]) (n := 2) (Nat.le_of_ble_eq_true rfl)
  rw [lg_entry_eq]
  generalize (lg_sl ([.ref q, .int g]) ++ List.replicate (2 - (lg_sl ([.ref q, .int g])).length) Slot.unset).toArray = ls at hl ⊢
  have hl : lv_has ls 2 [(0, .ref q), (1, .int g)] := hl
  refine lv_iload_n hx hb dX4_told_0 rfl (lv_at hl 1 rfl) ?_
  refine lv_iconst (v := (nI 0)) hx hb dX4_told_1 (by decide) ?_
  refine lv_sipush (v := (nI 255)) hx hb dX4_told_2 (by decide) ?_
  exact tTX (E := "java/lang/IllegalArgumentException") (vx_runS (As := [.int g, .int (nI 0), .int (nI 255)]) (rest := []) ⟨hx, hb, hml, hown, hts⟩ ((tX4_checkRange_a l hfl Γ g (nI 0) (nI 255) (by first | assumption | omega | decide)) _) (va_cwS 3 hts gX4_told_X4_checkRange rfl rfl rfl (by decide +kernel) ⟨Nat.le_of_ble_eq_true rfl, Nat.le_of_ble_eq_true rfl⟩) ⟨wPre_blind, wPre_mk hP hD hK hS hA hAB hAm [] rfl rfl⟩ rfl rfl hl.1 rfl (lv_room (Nat.le_of_ble_eq_true rfl)) dX4_told_5 ⟨Nat.le_of_ble_eq_true rfl, Nat.le_of_ble_eq_true rfl⟩) hS hA (fun ce q9 H1 locs1 h1 h2 hS hc hv hcl => vx_out (fun x hx => (hnt x hx).elim) hlocks hc hv hcl (fun t ht ha => ⟨(), trivial, rfl, hS.F ht⟩) hS.2.2 (Nat.le_of_ble_eq_true rfl) (Nat.le_of_ble_eq_true rfl))
set_option maxHeartbeats 4000000 in
set_option maxRecDepth 100000 in
theorem tX4_told_b5 (l : Launch) (hfl : l.stackTraces = false) (Γ : wG) (q : Nat) (an : Nat → Nat) (ap : Nat → Nat) (qs : Nat) (ac : Nat → Nat) (au : Nat → Nat) (ax : Nat → Nat) (nn : Int32) (v : (Nat → Nat → Int32)) (ck : (Nat → Int32)) (g : Int32) (hv : ¬ g < nI 0) (hw : ¬ g ≤ nI 255) : TX l Γ yX4_told wsX4_told ({ frames := 7, cells := 1, slots := 6, locals := 112 }) [.ref q, .int g] [mnC q an ap qs ac au ax nn, plB Γ an v, cuB Γ ac ck] "java/lang/IllegalArgumentException" := by
  intro sz
  refine vx_ofW (cc := cX4_told) (maxL := 2) (ret := (some .int)) (by decide) rfl ?_
  intro p e s m args below meth c s₁ B hml hnt hv
  obtain ⟨rfl, hsz, hP, hK, hD0, hAm⟩ := hv
  have hx := B.exec
  have hb := B.bytes
  have hr := B.returns
  have hts := atoms_spec (ws := wsX4_told) B.pre
  have hown : s.vm.findClass RX4 = some m.cls := findClass_of_methodNamed B.named
  have hlocks := B.notSynchronized
  subst hsz
  have hD := hD0.self (sz := s.heap.size)
  generalize hBe : va_A (wcat [mnC q an ap qs ac au ax nn, plB Γ an v, cuB Γ ac ck]) s.heap.size = B0 at hD hAm
  obtain ⟨A, hAe⟩ : ∃ A, A = va_A [] s.heap.size := ⟨_, rfl⟩
  rw [← hAe]
  have hA : ∀ q : Nat, s.heap.size ≤ q → A q := fun q h => by rw [hAe]; exact Or.inr h
  have hAB : ∀ q : Nat, A q → B0 q := fun q h => by rw [hAe] at h; rw [← hBe]; exact Or.inr (wnone h)
  have hS : va_S A s.heap s.heap [] := va_S.rf
  have hl := lv_entry ([.ref q, .int g]) (n := 2) (Nat.le_of_ble_eq_true rfl)
  rw [lg_entry_eq]
  generalize (lg_sl ([.ref q, .int g]) ++ List.replicate (2 - (lg_sl ([.ref q, .int g])).length) Slot.unset).toArray = ls at hl ⊢
  have hl : lv_has ls 2 [(0, .ref q), (1, .int g)] := hl
  refine lv_iload_n hx hb dX4_told_0 rfl (lv_at hl 1 rfl) ?_
  refine lv_iconst (v := (nI 0)) hx hb dX4_told_1 (by decide) ?_
  refine lv_sipush (v := (nI 255)) hx hb dX4_told_2 (by decide) ?_
  exact tTX (E := "java/lang/IllegalArgumentException") (vx_runS (As := [.int g, .int (nI 0), .int (nI 255)]) (rest := []) ⟨hx, hb, hml, hown, hts⟩ ((tX4_checkRange_b l hfl Γ g (nI 0) (nI 255) (by first | assumption | omega | decide) (by first | assumption | omega | decide)) _) (va_cwS 3 hts gX4_told_X4_checkRange rfl rfl rfl (by decide +kernel) ⟨Nat.le_of_ble_eq_true rfl, Nat.le_of_ble_eq_true rfl⟩) ⟨wPre_blind, wPre_mk hP hD hK hS hA hAB hAm [] rfl rfl⟩ rfl rfl hl.1 rfl (lv_room (Nat.le_of_ble_eq_true rfl)) dX4_told_5 ⟨Nat.le_of_ble_eq_true rfl, Nat.le_of_ble_eq_true rfl⟩) hS hA (fun ce q9 H1 locs1 h1 h2 hS hc hv hcl => vx_out (fun x hx => (hnt x hx).elim) hlocks hc hv hcl (fun t ht ha => ⟨(), trivial, rfl, hS.F ht⟩) hS.2.2 (Nat.le_of_ble_eq_true rfl) (Nat.le_of_ble_eq_true rfl))
def fX4_possible (v : (Nat → Nat → Int32)) (ck : (Nat → Int32)) (g : Int32) : Int32 := (if (fX2_hasCapsuleWith v g) = 0 then ((-1)) else (if (v 0 6) ≤ (fbit g) then (if (fX0_isOneCurve ck g (v 0 6)) = 0 then ((nI 0)) else ((nI 1))) else ((nI 251))))
set_option maxHeartbeats 4000000 in
set_option maxRecDepth 100000 in
theorem kX4_possible (l : Launch) (Γ : wG) (q : Nat) (an : Nat → Nat) (ap : Nat → Nat) (qs : Nat) (ac : Nat → Nat) (au : Nat → Nat) (ax : Nat → Nat) (nn : Int32) (v : (Nat → Nat → Int32)) (ck : (Nat → Int32)) (g : Int32) (hv : ¬ g < nI 0) (hw : g ≤ nI 255) : LI l Γ yX4_possible wsX4_possible ({ frames := 2, cells := 0, slots := 0, locals := 46 }) [.ref q, .int g] [mnC q an ap qs ac au ax nn, plB Γ an v, cuB Γ ac ck] (fX4_possible v ck g) := by
  intro sz
  refine Met.ofW (cc := cX4_possible) (maxL := 2) (ret := (some .int)) (by decide) rfl ?_
  intro p e s m args below meth c s₁ B hml hv
  obtain ⟨rfl, hsz, hP, hK, hD0, hAm⟩ := hv
  have hx := B.exec
  have hb := B.bytes
  have hr := B.returns
  have hts := atoms_spec (ws := wsX4_possible) B.pre
  have hown : s.vm.findClass RX4 = some m.cls := findClass_of_methodNamed B.named
  have hlocks := B.notSynchronized
  subst hsz
  have hD := hD0.self (sz := s.heap.size)
  generalize hBe : va_A (wcat [mnC q an ap qs ac au ax nn, plB Γ an v, cuB Γ ac ck]) s.heap.size = B0 at hD hAm
  obtain ⟨A, hAe⟩ : ∃ A, A = va_A [] s.heap.size := ⟨_, rfl⟩
  rw [← hAe]
  have hA : ∀ q : Nat, s.heap.size ≤ q → A q := fun q h => by rw [hAe]; exact Or.inr h
  have hAB : ∀ q : Nat, A q → B0 q := fun q h => by rw [hAe] at h; rw [← hBe]; exact Or.inr (wnone h)
  have hS : va_S A s.heap s.heap [] := va_S.rf
  have hl := lv_entry ([.ref q, .int g]) (n := 2) (Nat.le_of_ble_eq_true rfl)
  rw [lg_entry_eq]
  generalize (lg_sl ([.ref q, .int g]) ++ List.replicate (2 - (lg_sl ([.ref q, .int g])).length) Slot.unset).toArray = ls at hl ⊢
  have hl : lv_has ls 2 [(0, .ref q), (1, .int g)] := hl
  have hi2 : ∀ w ∈ wsX20, w ∈ wsX4_possible := by decide +kernel
  have hi4 : ∀ w ∈ wsX40, w ∈ wsX4_possible := by decide +kernel
  have kf10 := hts (.fieldLink RX4 10 "CapsuleKeepers" "now" "LCapsuleKeepers$Place;") (by decide +kernel)
  have kf205 := hts (.fieldLink RX4 205 "CapsuleKeepers$Place" "quorum" "I") (by decide +kernel)
  have kf30 := hts (.fieldLink RX4 30 "CapsuleKeepers" "curves" "LCapsuleKeepers$Curves;") (by decide +kernel)
  have hq : (fX4_possible v ck g) = (if (fX2_hasCapsuleWith v g) = 0 then ((-1)) else (if (v 0 6) ≤ (fbit g) then (if (fX0_isOneCurve ck g (v 0 6)) = 0 then ((nI 0)) else ((nI 1))) else ((nI 251)))) := rfl
  refine lv_iload_n hx hb dX4_possible_0 rfl (lv_at hl 1 rfl) ?_
  refine lv_iconst (v := (nI 0)) hx hb dX4_possible_1 (by decide) ?_
  refine lv_sipush (v := (nI 255)) hx hb dX4_possible_2 (by decide) ?_
  refine cLV (va_runS (As := [.int g, .int (nI 0), .int (nI 255)]) (rest := []) ⟨hx, hb, hml, hown, hts⟩ ((kX4_checkRange l Γ g (nI 0) (nI 255) (by first | assumption | omega | decide) (by first | assumption | omega | decide)) _) (va_cwS 3 hts gX4_possible_X4_checkRange rfl rfl rfl (by decide +kernel) ⟨Nat.le_of_ble_eq_true rfl, Nat.le_of_ble_eq_true rfl⟩) ⟨wPre_blind, wPre_mk hP hD hK hS hA hAB hAm [] rfl rfl⟩ rfl rfl hl.1 rfl (lv_room (Nat.le_of_ble_eq_true rfl)) dX4_possible_5 ⟨Nat.zero_le _, Nat.zero_le _⟩) hP hS hA (fun H locs hP hS => ?_)
  refine lv_aload_n hx hb dX4_possible_8 rfl (lv_at hl 0 rfl) ?_
  refine va_get (D := Γ.1) (ci := 4) (v := .ref (an 0)) (C := RX4) (T := TX4) (N := 7) hx hb hts hi4 hown hK hP 0 rfl rfl 0 (by decide) kf10 (fun _ h9 => h9) rfl dX4_possible_9 ?_
  refine lv_iload_n hx hb dX4_possible_12 rfl (lv_at hl 1 rfl) ?_
  refine cLI (va_runV (As := [.int g]) (rest := []) ⟨hx, hb, hml, hown, hts⟩ ((kX2_hasCapsuleWith l Γ an v g) _) (cwV 1 hts gX4_possible_X2_hasCapsuleWith rfl rfl rfl (by decide +kernel) ⟨Nat.le_of_ble_eq_true rfl, Nat.le_of_ble_eq_true rfl⟩) ⟨wPre_blind, va_recv hK hP (ci := 2) (q0 := 1) rfl rfl, wPre_mk hP hD hK hS hA hAB hAm [1] rfl rfl⟩ rfl rfl hl.1 rfl (lv_room (Nat.le_of_ble_eq_true rfl)) dX4_possible_13 ⟨Nat.zero_le _, Nat.zero_le _⟩) hP hS hA (fun H locs hP hS => ?_)
  refine lv_if_ne (tgt := 21) hx hb dX4_possible_16 (by decide) (fun c_1 => ?_) (fun c_1 => ?_)
  · have hq := hq.trans (if_neg c_1)
    refine lv_iload_n hx hb dX4_possible_21 rfl (lv_at hl 1 rfl) ?_
    refine cLI (va_runS (As := [.int g]) (rest := []) ⟨hx, hb, hml, hown, hts⟩ ((kJ6_bitCount_0f7a4 l Γ g) _) (va_cwS 1 hts gX4_possible_J6_bitCount_0f7a4 rfl rfl rfl (by decide +kernel) ⟨Nat.le_of_ble_eq_true rfl, Nat.le_of_ble_eq_true rfl⟩) ⟨wPre_blind, wPre_mk hP hD hK hS hA hAB hAm [] rfl rfl⟩ rfl rfl hl.1 rfl (lv_room (Nat.le_of_ble_eq_true rfl)) dX4_possible_22 ⟨Nat.zero_le _, Nat.zero_le _⟩) hP hS hA (fun H locs hP hS => ?_)
    refine lv_aload_n hx hb dX4_possible_25 rfl (lv_at hl 0 rfl) ?_
    refine va_get (D := Γ.1) (ci := 4) (v := .ref (an 0)) (C := RX4) (T := TX4) (N := 7) hx hb hts hi4 hown hK hP 0 rfl rfl 0 (by decide) kf10 (fun _ h9 => h9) rfl dX4_possible_26 ?_
    refine va_get (D := Γ.1) (ci := 2) (v := .int (v 0 6)) (C := RX2) (T := TX2) (N := 16) hx hb hts hi2 hown hK hP 1 rfl rfl 11 (by decide) kf205 (fun _ h9 => h9) rfl dX4_possible_29 ?_
    refine lv_icmp_ge (tgt := 39) hx hb dX4_possible_32 (by decide) (fun c_2 => ?_) (fun c_2 => ?_)
    · have hq := hq.trans (if_pos c_2)
      refine lv_aload_n hx hb dX4_possible_39 rfl (lv_at hl 0 rfl) ?_
      refine va_get (D := Γ.1) (ci := 4) (v := .ref (ac 0)) (C := RX4) (T := TX4) (N := 7) hx hb hts hi4 hown hK hP 0 rfl rfl 4 (by decide) kf30 (fun _ h9 => h9) rfl dX4_possible_40 ?_
      refine lv_iload_n hx hb dX4_possible_43 rfl (lv_at hl 1 rfl) ?_
      refine lv_aload_n hx hb dX4_possible_44 rfl (lv_at hl 0 rfl) ?_
      refine va_get (D := Γ.1) (ci := 4) (v := .ref (an 0)) (C := RX4) (T := TX4) (N := 7) hx hb hts hi4 hown hK hP 0 rfl rfl 0 (by decide) kf10 (fun _ h9 => h9) rfl dX4_possible_45 ?_
      refine va_get (D := Γ.1) (ci := 2) (v := .int (v 0 6)) (C := RX2) (T := TX2) (N := 16) hx hb hts hi2 hown hK hP 1 rfl rfl 11 (by decide) kf205 (fun _ h9 => h9) rfl dX4_possible_48 ?_
      refine cLI (va_runV (As := [.int g, .int (v 0 6)]) (rest := []) ⟨hx, hb, hml, hown, hts⟩ ((kX0_isOneCurve l Γ ac ck g (v 0 6)) _) (cwV 2 hts gX4_possible_X0_isOneCurve rfl rfl rfl (by decide +kernel) ⟨Nat.le_of_ble_eq_true rfl, Nat.le_of_ble_eq_true rfl⟩) ⟨wPre_blind, va_recv hK hP (ci := 0) (q0 := 7) rfl rfl, wPre_mk hP hD hK hS hA hAB hAm [2] rfl rfl⟩ rfl rfl hl.1 rfl (lv_room (Nat.le_of_ble_eq_true rfl)) dX4_possible_51 ⟨Nat.zero_le _, Nat.zero_le _⟩) hP hS hA (fun H locs hP hS => ?_)
      refine lv_if_eq (tgt := 61) hx hb dX4_possible_54 (by decide) (fun c_3 => ?_) (fun c_3 => ?_)
      · have hq := hq.trans (if_pos c_3)
        refine lv_iconst (v := (nI 0)) hx hb dX4_possible_61 (by decide) ?_
        exact W.iret (v := (nI 0)) hx hb hr (fun t ht hW => eLI hS ht (by rw [hq])) hS.2.2 dX4_possible_62
      · have hq := hq.trans (if_neg c_3)
        refine lv_iconst (v := (nI 1)) hx hb dX4_possible_57 (by decide) ?_
        refine lv_goto (tgt := 62) hx hb dX4_possible_58 (by decide) ?_
        exact W.iret (v := (nI 1)) hx hb hr (fun t ht hW => eLI hS ht (by rw [hq])) hS.2.2 dX4_possible_62
    · have hq := hq.trans (if_neg c_2)
      refine lv_sipush (v := (nI 251)) hx hb dX4_possible_35 (by decide) ?_
      exact W.iret (v := (nI 251)) hx hb hr (fun t ht hW => eLI hS ht (by rw [hq])) hS.2.2 dX4_possible_38
  · have hq := hq.trans (if_pos c_1)
    refine lv_iconst (v := (-1)) hx hb dX4_possible_19 (by decide) ?_
    exact W.iret (v := (-1)) hx hb hr (fun t ht hW => eLI hS ht (by rw [hq])) hS.2.2 dX4_possible_20
set_option maxHeartbeats 4000000 in
set_option maxRecDepth 100000 in
theorem tX4_possible_a5 (l : Launch) (hfl : l.stackTraces = false) (Γ : wG) (q : Nat) (an : Nat → Nat) (ap : Nat → Nat) (qs : Nat) (ac : Nat → Nat) (au : Nat → Nat) (ax : Nat → Nat) (nn : Int32) (v : (Nat → Nat → Int32)) (ck : (Nat → Int32)) (g : Int32) (hv : g < nI 0) : TX l Γ yX4_possible wsX4_possible ({ frames := 7, cells := 1, slots := 6, locals := 112 }) [.ref q, .int g] [mnC q an ap qs ac au ax nn, plB Γ an v, cuB Γ ac ck] "java/lang/IllegalArgumentException" := by
  intro sz
  refine vx_ofW (cc := cX4_possible) (maxL := 2) (ret := (some .int)) (by decide) rfl ?_
  intro p e s m args below meth c s₁ B hml hnt hv
  obtain ⟨rfl, hsz, hP, hK, hD0, hAm⟩ := hv
  have hx := B.exec
  have hb := B.bytes
  have hr := B.returns
  have hts := atoms_spec (ws := wsX4_possible) B.pre
  have hown : s.vm.findClass RX4 = some m.cls := findClass_of_methodNamed B.named
  have hlocks := B.notSynchronized
  subst hsz
  have hD := hD0.self (sz := s.heap.size)
  generalize hBe : va_A (wcat [mnC q an ap qs ac au ax nn, plB Γ an v, cuB Γ ac ck]) s.heap.size = B0 at hD hAm
  obtain ⟨A, hAe⟩ : ∃ A, A = va_A [] s.heap.size := ⟨_, rfl⟩
  rw [← hAe]
  have hA : ∀ q : Nat, s.heap.size ≤ q → A q := fun q h => by rw [hAe]; exact Or.inr h
  have hAB : ∀ q : Nat, A q → B0 q := fun q h => by rw [hAe] at h; rw [← hBe]; exact Or.inr (wnone h)
  have hS : va_S A s.heap s.heap [] := va_S.rf
  have hl := lv_entry ([.ref q, .int g]) (n := 2) (Nat.le_of_ble_eq_true rfl)
  rw [lg_entry_eq]
  generalize (lg_sl ([.ref q, .int g]) ++ List.replicate (2 - (lg_sl ([.ref q, .int g])).length) Slot.unset).toArray = ls at hl ⊢
  have hl : lv_has ls 2 [(0, .ref q), (1, .int g)] := hl
  refine lv_iload_n hx hb dX4_possible_0 rfl (lv_at hl 1 rfl) ?_
  refine lv_iconst (v := (nI 0)) hx hb dX4_possible_1 (by decide) ?_
  refine lv_sipush (v := (nI 255)) hx hb dX4_possible_2 (by decide) ?_
  exact tTX (E := "java/lang/IllegalArgumentException") (vx_runS (As := [.int g, .int (nI 0), .int (nI 255)]) (rest := []) ⟨hx, hb, hml, hown, hts⟩ ((tX4_checkRange_a l hfl Γ g (nI 0) (nI 255) (by first | assumption | omega | decide)) _) (va_cwS 3 hts gX4_possible_X4_checkRange rfl rfl rfl (by decide +kernel) ⟨Nat.le_of_ble_eq_true rfl, Nat.le_of_ble_eq_true rfl⟩) ⟨wPre_blind, wPre_mk hP hD hK hS hA hAB hAm [] rfl rfl⟩ rfl rfl hl.1 rfl (lv_room (Nat.le_of_ble_eq_true rfl)) dX4_possible_5 ⟨Nat.le_of_ble_eq_true rfl, Nat.le_of_ble_eq_true rfl⟩) hS hA (fun ce q9 H1 locs1 h1 h2 hS hc hv hcl => vx_out (fun x hx => (hnt x hx).elim) hlocks hc hv hcl (fun t ht ha => ⟨(), trivial, rfl, hS.F ht⟩) hS.2.2 (Nat.le_of_ble_eq_true rfl) (Nat.le_of_ble_eq_true rfl))
set_option maxHeartbeats 4000000 in
set_option maxRecDepth 100000 in
theorem tX4_possible_b5 (l : Launch) (hfl : l.stackTraces = false) (Γ : wG) (q : Nat) (an : Nat → Nat) (ap : Nat → Nat) (qs : Nat) (ac : Nat → Nat) (au : Nat → Nat) (ax : Nat → Nat) (nn : Int32) (v : (Nat → Nat → Int32)) (ck : (Nat → Int32)) (g : Int32) (hv : ¬ g < nI 0) (hw : ¬ g ≤ nI 255) : TX l Γ yX4_possible wsX4_possible ({ frames := 7, cells := 1, slots := 6, locals := 112 }) [.ref q, .int g] [mnC q an ap qs ac au ax nn, plB Γ an v, cuB Γ ac ck] "java/lang/IllegalArgumentException" := by
  intro sz
  refine vx_ofW (cc := cX4_possible) (maxL := 2) (ret := (some .int)) (by decide) rfl ?_
  intro p e s m args below meth c s₁ B hml hnt hv
  obtain ⟨rfl, hsz, hP, hK, hD0, hAm⟩ := hv
  have hx := B.exec
  have hb := B.bytes
  have hr := B.returns
  have hts := atoms_spec (ws := wsX4_possible) B.pre
  have hown : s.vm.findClass RX4 = some m.cls := findClass_of_methodNamed B.named
  have hlocks := B.notSynchronized
  subst hsz
  have hD := hD0.self (sz := s.heap.size)
  generalize hBe : va_A (wcat [mnC q an ap qs ac au ax nn, plB Γ an v, cuB Γ ac ck]) s.heap.size = B0 at hD hAm
  obtain ⟨A, hAe⟩ : ∃ A, A = va_A [] s.heap.size := ⟨_, rfl⟩
  rw [← hAe]
  have hA : ∀ q : Nat, s.heap.size ≤ q → A q := fun q h => by rw [hAe]; exact Or.inr h
  have hAB : ∀ q : Nat, A q → B0 q := fun q h => by rw [hAe] at h; rw [← hBe]; exact Or.inr (wnone h)
  have hS : va_S A s.heap s.heap [] := va_S.rf
  have hl := lv_entry ([.ref q, .int g]) (n := 2) (Nat.le_of_ble_eq_true rfl)
  rw [lg_entry_eq]
  generalize (lg_sl ([.ref q, .int g]) ++ List.replicate (2 - (lg_sl ([.ref q, .int g])).length) Slot.unset).toArray = ls at hl ⊢
  have hl : lv_has ls 2 [(0, .ref q), (1, .int g)] := hl
  refine lv_iload_n hx hb dX4_possible_0 rfl (lv_at hl 1 rfl) ?_
  refine lv_iconst (v := (nI 0)) hx hb dX4_possible_1 (by decide) ?_
  refine lv_sipush (v := (nI 255)) hx hb dX4_possible_2 (by decide) ?_
  exact tTX (E := "java/lang/IllegalArgumentException") (vx_runS (As := [.int g, .int (nI 0), .int (nI 255)]) (rest := []) ⟨hx, hb, hml, hown, hts⟩ ((tX4_checkRange_b l hfl Γ g (nI 0) (nI 255) (by first | assumption | omega | decide) (by first | assumption | omega | decide)) _) (va_cwS 3 hts gX4_possible_X4_checkRange rfl rfl rfl (by decide +kernel) ⟨Nat.le_of_ble_eq_true rfl, Nat.le_of_ble_eq_true rfl⟩) ⟨wPre_blind, wPre_mk hP hD hK hS hA hAB hAm [] rfl rfl⟩ rfl rfl hl.1 rfl (lv_room (Nat.le_of_ble_eq_true rfl)) dX4_possible_5 ⟨Nat.le_of_ble_eq_true rfl, Nat.le_of_ble_eq_true rfl⟩) hS hA (fun ce q9 H1 locs1 h1 h2 hS hc hv hcl => vx_out (fun x hx => (hnt x hx).elim) hlocks hc hv hcl (fun t ht ha => ⟨(), trivial, rfl, hS.F ht⟩) hS.2.2 (Nat.le_of_ble_eq_true rfl) (Nat.le_of_ble_eq_true rfl))
def fX4_why (v : (Nat → Nat → Int32)) (ck : (Nat → Int32)) (so : (Nat → Int32)) (sp : (Nat → Int32)) (g : Int32) : Int32 × (Nat → Int32) × (Nat → Int32) := ((fX4_refusal v ck so sp g).1, (fX4_refusal v ck so sp g).2.1, (fX4_refusal v ck so sp g).2.2)
set_option maxHeartbeats 4000000 in
set_option maxRecDepth 100000 in
theorem kX4_why (l : Launch) (Γ : wG) (q : Nat) (an : Nat → Nat) (ap : Nat → Nat) (qs : Nat) (ac : Nat → Nat) (au : Nat → Nat) (ax : Nat → Nat) (nn : Int32) (v : (Nat → Nat → Int32)) (ck : (Nat → Int32)) (so : (Nat → Int32)) (sp : (Nat → Int32)) (g : Int32) (hv : ¬ g < 0) (hv2 : g ≤ fX2_everybody v) : MI l Γ yX4_why wsX4_why ({ frames := 3, cells := 0, slots := 0, locals := 69 }) [.ref q, .int g] [mnC q an ap qs ac au ax nn, plB Γ an v, cuB Γ ac ck, suB Γ au so sp] [mnC q an ap qs ac au ax nn, plB Γ an v, cuB Γ ac ck, suB Γ au (fX4_why v ck so sp g).2.1 (fX4_why v ck so sp g).2.2] (fX4_why v ck so sp g).1 := by
  intro sz
  refine Met.ofW (cc := cX4_why) (maxL := 2) (ret := (some .int)) (by decide) rfl ?_
  intro p e s m args below meth c s₁ B hml hv
  obtain ⟨rfl, hsz, hP, hK, hD0, hAm⟩ := hv
  have hx := B.exec
  have hb := B.bytes
  have hr := B.returns
  have hts := atoms_spec (ws := wsX4_why) B.pre
  have hown : s.vm.findClass RX4 = some m.cls := findClass_of_methodNamed B.named
  have hlocks := B.notSynchronized
  subst hsz
  have hD := hD0.self (sz := s.heap.size)
  generalize hAe : va_A (wcat [mnC q an ap qs ac au ax nn, plB Γ an v, cuB Γ ac ck, suB Γ au so sp]) s.heap.size = A at hD hAm ⊢
  have hA : ∀ q : Nat, s.heap.size ≤ q → A q := fun q h => by rw [← hAe]; exact Or.inr h
  have hAB : ∀ q : Nat, A q → A q := fun _ h => h
  have hS : va_S A s.heap s.heap [] := va_S.rf
  have hl := lv_entry ([.ref q, .int g]) (n := 2) (Nat.le_of_ble_eq_true rfl)
  rw [lg_entry_eq]
  generalize (lg_sl ([.ref q, .int g]) ++ List.replicate (2 - (lg_sl ([.ref q, .int g])).length) Slot.unset).toArray = ls at hl ⊢
  have hl : lv_has ls 2 [(0, .ref q), (1, .int g)] := hl
  have hq : (fX4_why v ck so sp g) = ((fX4_refusal v ck so sp g).1, (fX4_refusal v ck so sp g).2.1, (fX4_refusal v ck so sp g).2.2) := rfl
  refine lv_aload_n hx hb dX4_why_0 rfl (lv_at hl 0 rfl) ?_
  refine lv_iload_n hx hb dX4_why_1 rfl (lv_at hl 1 rfl) ?_
  refine cLV (va_runV (As := [.int g]) (rest := []) ⟨hx, hb, hml, hown, hts⟩ ((kX4_checkGroup l Γ q an ap qs ac au ax nn v g (by first | assumption | omega | decide) (by first | assumption | omega | decide)) _) (cwV 1 hts gX4_why_X4_checkGroup rfl rfl rfl (by decide +kernel) ⟨Nat.le_of_ble_eq_true rfl, Nat.le_of_ble_eq_true rfl⟩) ⟨wPre_blind, va_recv hK hP (ci := 4) (q0 := 0) rfl rfl, wPre_mk hP hD hK hS hA hAB hAm [0, 1] rfl rfl⟩ rfl rfl hl.1 rfl (lv_room (Nat.le_of_ble_eq_true rfl)) dX4_why_2 ⟨Nat.zero_le _, Nat.zero_le _⟩) hP hS hA (fun H locs hP hS => ?_)
  refine lv_aload_n hx hb dX4_why_5 rfl (lv_at hl 0 rfl) ?_
  refine lv_iload_n hx hb dX4_why_6 rfl (lv_at hl 1 rfl) ?_
  refine cMI (bc' := [mnC q an ap qs ac au ax nn, plB Γ an v, cuB Γ ac ck, suB Γ au (fX4_refusal v ck so sp g).2.1 (fX4_refusal v ck so sp g).2.2]) (va_runV (As := [.int g]) (rest := []) ⟨hx, hb, hml, hown, hts⟩ ((kX4_refusal l Γ q an ap qs ac au ax nn v ck so sp g) _) (cwV 1 hts gX4_why_X4_refusal rfl rfl rfl (by decide +kernel) ⟨Nat.le_of_ble_eq_true rfl, Nat.le_of_ble_eq_true rfl⟩) ⟨wPre_blind, va_recv hK hP (ci := 4) (q0 := 0) rfl rfl, wPre_mk hP hD hK hS hA hAB hAm [0, 1, 2, 3] rfl rfl⟩ rfl rfl hl.1 rfl (lv_room (Nat.le_of_ble_eq_true rfl)) dX4_why_7 ⟨Nat.zero_le _, Nat.zero_le _⟩) hP hD hS hA [0, 1, 2, 3] rfl rfl (bs' := [mnC q an ap qs ac au ax nn, plB Γ an v, cuB Γ ac ck, suB Γ au (fX4_refusal v ck so sp g).2.1 (fX4_refusal v ck so sp g).2.2]) rfl (fun H locs hP hD hS => ?_)
  exact W.iret (v := (fX4_refusal v ck so sp g).1) hx hb hr (fun t ht hW => eMI (by rw [hq]; exact hP) hS ht (by rw [hq])) hS.2.2 dX4_why_10
set_option maxHeartbeats 4000000 in
set_option maxRecDepth 100000 in
theorem tX4_why_a (l : Launch) (hfl : l.stackTraces = false) (Γ : wG) (q : Nat) (an : Nat → Nat) (ap : Nat → Nat) (qs : Nat) (ac : Nat → Nat) (au : Nat → Nat) (ax : Nat → Nat) (nn : Int32) (v : (Nat → Nat → Int32)) (ck : (Nat → Int32)) (so : (Nat → Int32)) (sp : (Nat → Int32)) (g : Int32) (hv : g < 0) : TX l Γ yX4_why wsX4_why ({ frames := 7, cells := 1, slots := 6, locals := 111 }) [.ref q, .int g] [mnC q an ap qs ac au ax nn, plB Γ an v, cuB Γ ac ck, suB Γ au so sp] "java/lang/IllegalArgumentException" := by
  intro sz
  refine vx_ofW (cc := cX4_why) (maxL := 2) (ret := (some .int)) (by decide) rfl ?_
  intro p e s m args below meth c s₁ B hml hnt hv
  obtain ⟨rfl, hsz, hP, hK, hD0, hAm⟩ := hv
  have hx := B.exec
  have hb := B.bytes
  have hr := B.returns
  have hts := atoms_spec (ws := wsX4_why) B.pre
  have hown : s.vm.findClass RX4 = some m.cls := findClass_of_methodNamed B.named
  have hlocks := B.notSynchronized
  subst hsz
  have hD := hD0.self (sz := s.heap.size)
  generalize hBe : va_A (wcat [mnC q an ap qs ac au ax nn, plB Γ an v, cuB Γ ac ck, suB Γ au so sp]) s.heap.size = B0 at hD hAm
  obtain ⟨A, hAe⟩ : ∃ A, A = va_A [] s.heap.size := ⟨_, rfl⟩
  rw [← hAe]
  have hA : ∀ q : Nat, s.heap.size ≤ q → A q := fun q h => by rw [hAe]; exact Or.inr h
  have hAB : ∀ q : Nat, A q → B0 q := fun q h => by rw [hAe] at h; rw [← hBe]; exact Or.inr (wnone h)
  have hS : va_S A s.heap s.heap [] := va_S.rf
  have hl := lv_entry ([.ref q, .int g]) (n := 2) (Nat.le_of_ble_eq_true rfl)
  rw [lg_entry_eq]
  generalize (lg_sl ([.ref q, .int g]) ++ List.replicate (2 - (lg_sl ([.ref q, .int g])).length) Slot.unset).toArray = ls at hl ⊢
  have hl : lv_has ls 2 [(0, .ref q), (1, .int g)] := hl
  refine lv_aload_n hx hb dX4_why_0 rfl (lv_at hl 0 rfl) ?_
  refine lv_iload_n hx hb dX4_why_1 rfl (lv_at hl 1 rfl) ?_
  exact tTX (E := "java/lang/IllegalArgumentException") (vx_runV (As := [.int g]) (rest := []) ⟨hx, hb, hml, hown, hts⟩ ((tX4_checkGroup_a l hfl Γ q an ap qs ac au ax nn v g (by first | assumption | omega | decide)) _) (cwV 1 hts gX4_why_X4_checkGroup rfl rfl rfl (by decide +kernel) ⟨Nat.le_of_ble_eq_true rfl, Nat.le_of_ble_eq_true rfl⟩) ⟨wPre_blind, va_recv hK hP (ci := 4) (q0 := 0) rfl rfl, wPre_mk hP hD hK hS hA hAB hAm [0, 1] rfl rfl⟩ rfl rfl hl.1 rfl (lv_room (Nat.le_of_ble_eq_true rfl)) dX4_why_2 ⟨Nat.le_of_ble_eq_true rfl, Nat.le_of_ble_eq_true rfl⟩) hS hA (fun ce q9 H1 locs1 h1 h2 hS hc hv hcl => vx_out (fun x hx => (hnt x hx).elim) hlocks hc hv hcl (fun t ht ha => ⟨(), trivial, rfl, hS.F ht⟩) hS.2.2 (Nat.le_of_ble_eq_true rfl) (Nat.le_of_ble_eq_true rfl))
set_option maxHeartbeats 4000000 in
set_option maxRecDepth 100000 in
theorem tX4_why_b (l : Launch) (hfl : l.stackTraces = false) (Γ : wG) (q : Nat) (an : Nat → Nat) (ap : Nat → Nat) (qs : Nat) (ac : Nat → Nat) (au : Nat → Nat) (ax : Nat → Nat) (nn : Int32) (v : (Nat → Nat → Int32)) (ck : (Nat → Int32)) (so : (Nat → Int32)) (sp : (Nat → Int32)) (g : Int32) (hv : ¬ g < 0) (hv2 : ¬ g ≤ fX2_everybody v) : TX l Γ yX4_why wsX4_why ({ frames := 7, cells := 1, slots := 6, locals := 111 }) [.ref q, .int g] [mnC q an ap qs ac au ax nn, plB Γ an v, cuB Γ ac ck, suB Γ au so sp] "java/lang/IllegalArgumentException" := by
  intro sz
  refine vx_ofW (cc := cX4_why) (maxL := 2) (ret := (some .int)) (by decide) rfl ?_
  intro p e s m args below meth c s₁ B hml hnt hv
  obtain ⟨rfl, hsz, hP, hK, hD0, hAm⟩ := hv
  have hx := B.exec
  have hb := B.bytes
  have hr := B.returns
  have hts := atoms_spec (ws := wsX4_why) B.pre
  have hown : s.vm.findClass RX4 = some m.cls := findClass_of_methodNamed B.named
  have hlocks := B.notSynchronized
  subst hsz
  have hD := hD0.self (sz := s.heap.size)
  generalize hBe : va_A (wcat [mnC q an ap qs ac au ax nn, plB Γ an v, cuB Γ ac ck, suB Γ au so sp]) s.heap.size = B0 at hD hAm
  obtain ⟨A, hAe⟩ : ∃ A, A = va_A [] s.heap.size := ⟨_, rfl⟩
  rw [← hAe]
  have hA : ∀ q : Nat, s.heap.size ≤ q → A q := fun q h => by rw [hAe]; exact Or.inr h
  have hAB : ∀ q : Nat, A q → B0 q := fun q h => by rw [hAe] at h; rw [← hBe]; exact Or.inr (wnone h)
  have hS : va_S A s.heap s.heap [] := va_S.rf
  have hl := lv_entry ([.ref q, .int g]) (n := 2) (Nat.le_of_ble_eq_true rfl)
  rw [lg_entry_eq]
  generalize (lg_sl ([.ref q, .int g]) ++ List.replicate (2 - (lg_sl ([.ref q, .int g])).length) Slot.unset).toArray = ls at hl ⊢
  have hl : lv_has ls 2 [(0, .ref q), (1, .int g)] := hl
  refine lv_aload_n hx hb dX4_why_0 rfl (lv_at hl 0 rfl) ?_
  refine lv_iload_n hx hb dX4_why_1 rfl (lv_at hl 1 rfl) ?_
  exact tTX (E := "java/lang/IllegalArgumentException") (vx_runV (As := [.int g]) (rest := []) ⟨hx, hb, hml, hown, hts⟩ ((tX4_checkGroup_b l hfl Γ q an ap qs ac au ax nn v g (by first | assumption | omega | decide) (by first | assumption | omega | decide)) _) (cwV 1 hts gX4_why_X4_checkGroup rfl rfl rfl (by decide +kernel) ⟨Nat.le_of_ble_eq_true rfl, Nat.le_of_ble_eq_true rfl⟩) ⟨wPre_blind, va_recv hK hP (ci := 4) (q0 := 0) rfl rfl, wPre_mk hP hD hK hS hA hAB hAm [0, 1] rfl rfl⟩ rfl rfl hl.1 rfl (lv_room (Nat.le_of_ble_eq_true rfl)) dX4_why_2 ⟨Nat.le_of_ble_eq_true rfl, Nat.le_of_ble_eq_true rfl⟩) hS hA (fun ce q9 H1 locs1 h1 h2 hS hc hv hcl => vx_out (fun x hx => (hnt x hx).elim) hlocks hc hv hcl (fun t ht ha => ⟨(), trivial, rfl, hS.F ht⟩) hS.2.2 (Nat.le_of_ble_eq_true rfl) (Nat.le_of_ble_eq_true rfl))
def fX4_share (v : (Nat → Nat → Int32)) (k : Int32) (w : Int32) : Int32 := (if (fX2_hasShare v k) = 0 then ((-1)) else (if w = 0 then (((v 5) k.toNatClampNeg)) else (if w = (nI 1) then (((v 4) k.toNatClampNeg)) else ((((v 0 2) >>> (k &&& 31)) &&& (nI 1))))))
set_option maxHeartbeats 4000000 in
set_option maxRecDepth 100000 in
theorem kX4_share (l : Launch) (Γ : wG) (q : Nat) (an : Nat → Nat) (ap : Nat → Nat) (qs : Nat) (ac : Nat → Nat) (au : Nat → Nat) (ax : Nat → Nat) (nn : Int32) (v : (Nat → Nat → Int32)) (k : Int32) (w : Int32) (hv1 : ¬ k < nI 0) (hw1 : k ≤ nI 7) (hv2 : ¬ w < nI 0) (hw2 : w ≤ nI 2) : LI l Γ yX4_share wsX4_share ({ frames := 1, cells := 0, slots := 0, locals := 22 }) [.ref q, .int k, .int w] [mnC q an ap qs ac au ax nn, plB Γ an v] (fX4_share v k w) := by
  intro sz
  refine Met.ofW (cc := cX4_share) (maxL := 3) (ret := (some .int)) (by decide) rfl ?_
  intro p e s m args below meth c s₁ B hml hv
  obtain ⟨rfl, hsz, hP, hK, hD0, hAm⟩ := hv
  have hx := B.exec
  have hb := B.bytes
  have hr := B.returns
  have hts := atoms_spec (ws := wsX4_share) B.pre
  have hown : s.vm.findClass RX4 = some m.cls := findClass_of_methodNamed B.named
  have hlocks := B.notSynchronized
  subst hsz
  have hD := hD0.self (sz := s.heap.size)
  generalize hBe : va_A (wcat [mnC q an ap qs ac au ax nn, plB Γ an v]) s.heap.size = B0 at hD hAm
  obtain ⟨A, hAe⟩ : ∃ A, A = va_A [] s.heap.size := ⟨_, rfl⟩
  rw [← hAe]
  have hA : ∀ q : Nat, s.heap.size ≤ q → A q := fun q h => by rw [hAe]; exact Or.inr h
  have hAB : ∀ q : Nat, A q → B0 q := fun q h => by rw [hAe] at h; rw [← hBe]; exact Or.inr (wnone h)
  have hS : va_S A s.heap s.heap [] := va_S.rf
  have hl := lv_entry ([.ref q, .int k, .int w]) (n := 3) (Nat.le_of_ble_eq_true rfl)
  rw [lg_entry_eq]
  generalize (lg_sl ([.ref q, .int k, .int w]) ++ List.replicate (3 - (lg_sl ([.ref q, .int k, .int w])).length) Slot.unset).toArray = ls at hl ⊢
  have hl : lv_has ls 3 [(0, .ref q), (1, .int k), (2, .int w)] := hl
  have hi2 : ∀ w ∈ wsX20, w ∈ wsX4_share := by decide +kernel
  have hi4 : ∀ w ∈ wsX40, w ∈ wsX4_share := by decide +kernel
  have kf10 := hts (.fieldLink RX4 10 "CapsuleKeepers" "now" "LCapsuleKeepers$Place;") (by decide +kernel)
  have kf193 := hts (.fieldLink RX4 193 "CapsuleKeepers$Place" "values" "[I") (by decide +kernel)
  have kf196 := hts (.fieldLink RX4 196 "CapsuleKeepers$Place" "owners" "[I") (by decide +kernel)
  have kf199 := hts (.fieldLink RX4 199 "CapsuleKeepers$Place" "forged" "I") (by decide +kernel)
  have hq : (fX4_share v k w) = (if (fX2_hasShare v k) = 0 then ((-1)) else (if w = 0 then (((v 5) k.toNatClampNeg)) else (if w = (nI 1) then (((v 4) k.toNatClampNeg)) else ((((v 0 2) >>> (k &&& 31)) &&& (nI 1)))))) := rfl
  refine lv_iload_n hx hb dX4_share_0 rfl (lv_at hl 1 rfl) ?_
  refine lv_iconst (v := (nI 0)) hx hb dX4_share_1 (by decide) ?_
  refine lv_bipush (v := (nI 7)) hx hb dX4_share_2 (by decide) ?_
  refine cLV (va_runS (As := [.int k, .int (nI 0), .int (nI 7)]) (rest := []) ⟨hx, hb, hml, hown, hts⟩ ((kX4_checkRange l Γ k (nI 0) (nI 7) (by first | assumption | omega | decide) (by first | assumption | omega | decide)) _) (va_cwS 3 hts gX4_share_X4_checkRange rfl rfl rfl (by decide +kernel) ⟨Nat.le_of_ble_eq_true rfl, Nat.le_of_ble_eq_true rfl⟩) ⟨wPre_blind, wPre_mk hP hD hK hS hA hAB hAm [] rfl rfl⟩ rfl rfl hl.1 rfl (lv_room (Nat.le_of_ble_eq_true rfl)) dX4_share_4 ⟨Nat.zero_le _, Nat.zero_le _⟩) hP hS hA (fun H locs hP hS => ?_)
  refine lv_iload_n hx hb dX4_share_7 rfl (lv_at hl 2 rfl) ?_
  refine lv_iconst (v := (nI 0)) hx hb dX4_share_8 (by decide) ?_
  refine lv_iconst (v := (nI 2)) hx hb dX4_share_9 (by decide) ?_
  refine cLV (va_runS (As := [.int w, .int (nI 0), .int (nI 2)]) (rest := []) ⟨hx, hb, hml, hown, hts⟩ ((kX4_checkRange l Γ w (nI 0) (nI 2) (by first | assumption | omega | decide) (by first | assumption | omega | decide)) _) (va_cwS 3 hts gX4_share_X4_checkRange rfl rfl rfl (by decide +kernel) ⟨Nat.le_of_ble_eq_true rfl, Nat.le_of_ble_eq_true rfl⟩) ⟨wPre_blind, wPre_mk hP hD hK hS hA hAB hAm [] rfl rfl⟩ rfl rfl hl.1 rfl (lv_room (Nat.le_of_ble_eq_true rfl)) dX4_share_10 ⟨Nat.zero_le _, Nat.zero_le _⟩) hP hS hA (fun H locs hP hS => ?_)
  refine lv_aload_n hx hb dX4_share_13 rfl (lv_at hl 0 rfl) ?_
  refine va_get (D := Γ.1) (ci := 4) (v := .ref (an 0)) (C := RX4) (T := TX4) (N := 7) hx hb hts hi4 hown hK hP 0 rfl rfl 0 (by decide) kf10 (fun _ h9 => h9) rfl dX4_share_14 ?_
  refine lv_iload_n hx hb dX4_share_17 rfl (lv_at hl 1 rfl) ?_
  refine cLI (va_runV (As := [.int k]) (rest := []) ⟨hx, hb, hml, hown, hts⟩ ((kX2_hasShare l Γ an v k) _) (cwV 1 hts gX4_share_X2_hasShare rfl rfl rfl (by decide +kernel) ⟨Nat.le_of_ble_eq_true rfl, Nat.le_of_ble_eq_true rfl⟩) ⟨wPre_blind, va_recv hK hP (ci := 2) (q0 := 1) rfl rfl, wPre_mk hP hD hK hS hA hAB hAm [1] rfl rfl⟩ rfl rfl hl.1 rfl (lv_room (Nat.le_of_ble_eq_true rfl)) dX4_share_18 ⟨Nat.zero_le _, Nat.zero_le _⟩) hP hS hA (fun H locs hP hS => ?_)
  refine lv_if_ne (tgt := 26) hx hb dX4_share_21 (by decide) (fun c_1 => ?_) (fun c_1 => ?_)
  · have hq := hq.trans (if_neg c_1)
    refine lv_iload_n hx hb dX4_share_26 rfl (lv_at hl 2 rfl) ?_
    refine lv_if_ne (tgt := 40) hx hb dX4_share_27 (by decide) (fun c_2 => ?_) (fun c_2 => ?_)
    · have hq := hq.trans (if_neg c_2)
      refine lv_iload_n hx hb dX4_share_40 rfl (lv_at hl 2 rfl) ?_
      refine lv_iconst (v := (nI 1)) hx hb dX4_share_41 (by decide) ?_
      refine lv_icmp_ne (tgt := 57) hx hb dX4_share_42 (by decide) (fun c_3 => ?_) (fun c_3 => ?_)
      · have hq := hq.trans (if_neg c_3)
        refine lv_aload_n hx hb dX4_share_57 rfl (lv_at hl 0 rfl) ?_
        refine va_get (D := Γ.1) (ci := 4) (v := .ref (an 0)) (C := RX4) (T := TX4) (N := 7) hx hb hts hi4 hown hK hP 0 rfl rfl 0 (by decide) kf10 (fun _ h9 => h9) rfl dX4_share_58 ?_
        refine va_get (D := Γ.1) (ci := 2) (v := .int (v 0 2)) (C := RX2) (T := TX2) (N := 16) hx hb hts hi2 hown hK hP 1 rfl rfl 7 (by decide) kf199 (fun _ h9 => h9) rfl dX4_share_61 ?_
        refine lv_iload_n hx hb dX4_share_64 rfl (lv_at hl 1 rfl) ?_
        refine lv_ishr hx hb dX4_share_65 ?_
        refine lv_iconst (v := (nI 1)) hx hb dX4_share_66 (by decide) ?_
        refine lv_iand hx hb dX4_share_67 ?_
        exact W.iret (v := (((v 0 2) >>> (k &&& 31)) &&& (nI 1))) hx hb hr (fun t ht hW => eLI hS ht (by rw [hq])) hS.2.2 dX4_share_68
      · have hq := hq.trans (if_pos c_3)
        refine lv_aload_n hx hb dX4_share_45 rfl (lv_at hl 0 rfl) ?_
        refine va_get (D := Γ.1) (ci := 4) (v := .ref (an 0)) (C := RX4) (T := TX4) (N := 7) hx hb hts hi4 hown hK hP 0 rfl rfl 0 (by decide) kf10 (fun _ h9 => h9) rfl dX4_share_46 ?_
        refine va_get (D := Γ.1) (ci := 2) (v := .ref (an 4)) (C := RX2) (T := TX2) (N := 16) hx hb hts hi2 hown hK hP 1 rfl rfl 5 (by decide) kf196 (fun _ h9 => h9) rfl dX4_share_49 ?_
        refine lv_iload_n hx hb dX4_share_52 rfl (lv_at hl 1 rfl) ?_
        refine va_iald (f := (v 4)) hx hb hK hP 5 0 rfl rfl (vpR hv1 hw1) dX4_share_53 ?_
        refine lv_goto (tgt := 68) hx hb dX4_share_54 (by decide) ?_
        exact W.iret (v := ((v 4) k.toNatClampNeg)) hx hb hr (fun t ht hW => eLI hS ht (by rw [hq])) hS.2.2 dX4_share_68
    · have hq := hq.trans (if_pos c_2)
      refine lv_aload_n hx hb dX4_share_30 rfl (lv_at hl 0 rfl) ?_
      refine va_get (D := Γ.1) (ci := 4) (v := .ref (an 0)) (C := RX4) (T := TX4) (N := 7) hx hb hts hi4 hown hK hP 0 rfl rfl 0 (by decide) kf10 (fun _ h9 => h9) rfl dX4_share_31 ?_
      refine va_get (D := Γ.1) (ci := 2) (v := .ref (an 5)) (C := RX2) (T := TX2) (N := 16) hx hb hts hi2 hown hK hP 1 rfl rfl 6 (by decide) kf193 (fun _ h9 => h9) rfl dX4_share_34 ?_
      refine lv_iload_n hx hb dX4_share_37 rfl (lv_at hl 1 rfl) ?_
      refine va_iald (f := (v 5)) hx hb hK hP 6 0 rfl rfl (vpR hv1 hw1) dX4_share_38 ?_
      exact W.iret (v := ((v 5) k.toNatClampNeg)) hx hb hr (fun t ht hW => eLI hS ht (by rw [hq])) hS.2.2 dX4_share_39
  · have hq := hq.trans (if_pos c_1)
    refine lv_iconst (v := (-1)) hx hb dX4_share_24 (by decide) ?_
    exact W.iret (v := (-1)) hx hb hr (fun t ht hW => eLI hS ht (by rw [hq])) hS.2.2 dX4_share_25
set_option maxHeartbeats 4000000 in
set_option maxRecDepth 100000 in
theorem tX4_share_a4 (l : Launch) (hfl : l.stackTraces = false) (Γ : wG) (q : Nat) (an : Nat → Nat) (ap : Nat → Nat) (qs : Nat) (ac : Nat → Nat) (au : Nat → Nat) (ax : Nat → Nat) (nn : Int32) (v : (Nat → Nat → Int32)) (k : Int32) (w : Int32) (hv : k < nI 0) : TX l Γ yX4_share wsX4_share ({ frames := 7, cells := 1, slots := 6, locals := 112 }) [.ref q, .int k, .int w] [mnC q an ap qs ac au ax nn, plB Γ an v] "java/lang/IllegalArgumentException" := by
  intro sz
  refine vx_ofW (cc := cX4_share) (maxL := 3) (ret := (some .int)) (by decide) rfl ?_
  intro p e s m args below meth c s₁ B hml hnt hv
  obtain ⟨rfl, hsz, hP, hK, hD0, hAm⟩ := hv
  have hx := B.exec
  have hb := B.bytes
  have hr := B.returns
  have hts := atoms_spec (ws := wsX4_share) B.pre
  have hown : s.vm.findClass RX4 = some m.cls := findClass_of_methodNamed B.named
  have hlocks := B.notSynchronized
  subst hsz
  have hD := hD0.self (sz := s.heap.size)
  generalize hBe : va_A (wcat [mnC q an ap qs ac au ax nn, plB Γ an v]) s.heap.size = B0 at hD hAm
  obtain ⟨A, hAe⟩ : ∃ A, A = va_A [] s.heap.size := ⟨_, rfl⟩
  rw [← hAe]
  have hA : ∀ q : Nat, s.heap.size ≤ q → A q := fun q h => by rw [hAe]; exact Or.inr h
  have hAB : ∀ q : Nat, A q → B0 q := fun q h => by rw [hAe] at h; rw [← hBe]; exact Or.inr (wnone h)
  have hS : va_S A s.heap s.heap [] := va_S.rf
  have hl := lv_entry ([.ref q, .int k, .int w]) (n := 3) (Nat.le_of_ble_eq_true rfl)
  rw [lg_entry_eq]
  generalize (lg_sl ([.ref q, .int k, .int w]) ++ List.replicate (3 - (lg_sl ([.ref q, .int k, .int w])).length) Slot.unset).toArray = ls at hl ⊢
  have hl : lv_has ls 3 [(0, .ref q), (1, .int k), (2, .int w)] := hl
  refine lv_iload_n hx hb dX4_share_0 rfl (lv_at hl 1 rfl) ?_
  refine lv_iconst (v := (nI 0)) hx hb dX4_share_1 (by decide) ?_
  refine lv_bipush (v := (nI 7)) hx hb dX4_share_2 (by decide) ?_
  exact tTX (E := "java/lang/IllegalArgumentException") (vx_runS (As := [.int k, .int (nI 0), .int (nI 7)]) (rest := []) ⟨hx, hb, hml, hown, hts⟩ ((tX4_checkRange_a l hfl Γ k (nI 0) (nI 7) (by first | assumption | omega | decide)) _) (va_cwS 3 hts gX4_share_X4_checkRange rfl rfl rfl (by decide +kernel) ⟨Nat.le_of_ble_eq_true rfl, Nat.le_of_ble_eq_true rfl⟩) ⟨wPre_blind, wPre_mk hP hD hK hS hA hAB hAm [] rfl rfl⟩ rfl rfl hl.1 rfl (lv_room (Nat.le_of_ble_eq_true rfl)) dX4_share_4 ⟨Nat.le_of_ble_eq_true rfl, Nat.le_of_ble_eq_true rfl⟩) hS hA (fun ce q9 H1 locs1 h1 h2 hS hc hv hcl => vx_out (fun x hx => (hnt x hx).elim) hlocks hc hv hcl (fun t ht ha => ⟨(), trivial, rfl, hS.F ht⟩) hS.2.2 (Nat.le_of_ble_eq_true rfl) (Nat.le_of_ble_eq_true rfl))
set_option maxHeartbeats 4000000 in
set_option maxRecDepth 100000 in
theorem tX4_share_b4 (l : Launch) (hfl : l.stackTraces = false) (Γ : wG) (q : Nat) (an : Nat → Nat) (ap : Nat → Nat) (qs : Nat) (ac : Nat → Nat) (au : Nat → Nat) (ax : Nat → Nat) (nn : Int32) (v : (Nat → Nat → Int32)) (k : Int32) (w : Int32) (hv : ¬ k < nI 0) (hw : ¬ k ≤ nI 7) : TX l Γ yX4_share wsX4_share ({ frames := 7, cells := 1, slots := 6, locals := 112 }) [.ref q, .int k, .int w] [mnC q an ap qs ac au ax nn, plB Γ an v] "java/lang/IllegalArgumentException" := by
  intro sz
  refine vx_ofW (cc := cX4_share) (maxL := 3) (ret := (some .int)) (by decide) rfl ?_
  intro p e s m args below meth c s₁ B hml hnt hv
  obtain ⟨rfl, hsz, hP, hK, hD0, hAm⟩ := hv
  have hx := B.exec
  have hb := B.bytes
  have hr := B.returns
  have hts := atoms_spec (ws := wsX4_share) B.pre
  have hown : s.vm.findClass RX4 = some m.cls := findClass_of_methodNamed B.named
  have hlocks := B.notSynchronized
  subst hsz
  have hD := hD0.self (sz := s.heap.size)
  generalize hBe : va_A (wcat [mnC q an ap qs ac au ax nn, plB Γ an v]) s.heap.size = B0 at hD hAm
  obtain ⟨A, hAe⟩ : ∃ A, A = va_A [] s.heap.size := ⟨_, rfl⟩
  rw [← hAe]
  have hA : ∀ q : Nat, s.heap.size ≤ q → A q := fun q h => by rw [hAe]; exact Or.inr h
  have hAB : ∀ q : Nat, A q → B0 q := fun q h => by rw [hAe] at h; rw [← hBe]; exact Or.inr (wnone h)
  have hS : va_S A s.heap s.heap [] := va_S.rf
  have hl := lv_entry ([.ref q, .int k, .int w]) (n := 3) (Nat.le_of_ble_eq_true rfl)
  rw [lg_entry_eq]
  generalize (lg_sl ([.ref q, .int k, .int w]) ++ List.replicate (3 - (lg_sl ([.ref q, .int k, .int w])).length) Slot.unset).toArray = ls at hl ⊢
  have hl : lv_has ls 3 [(0, .ref q), (1, .int k), (2, .int w)] := hl
  refine lv_iload_n hx hb dX4_share_0 rfl (lv_at hl 1 rfl) ?_
  refine lv_iconst (v := (nI 0)) hx hb dX4_share_1 (by decide) ?_
  refine lv_bipush (v := (nI 7)) hx hb dX4_share_2 (by decide) ?_
  exact tTX (E := "java/lang/IllegalArgumentException") (vx_runS (As := [.int k, .int (nI 0), .int (nI 7)]) (rest := []) ⟨hx, hb, hml, hown, hts⟩ ((tX4_checkRange_b l hfl Γ k (nI 0) (nI 7) (by first | assumption | omega | decide) (by first | assumption | omega | decide)) _) (va_cwS 3 hts gX4_share_X4_checkRange rfl rfl rfl (by decide +kernel) ⟨Nat.le_of_ble_eq_true rfl, Nat.le_of_ble_eq_true rfl⟩) ⟨wPre_blind, wPre_mk hP hD hK hS hA hAB hAm [] rfl rfl⟩ rfl rfl hl.1 rfl (lv_room (Nat.le_of_ble_eq_true rfl)) dX4_share_4 ⟨Nat.le_of_ble_eq_true rfl, Nat.le_of_ble_eq_true rfl⟩) hS hA (fun ce q9 H1 locs1 h1 h2 hS hc hv hcl => vx_out (fun x hx => (hnt x hx).elim) hlocks hc hv hcl (fun t ht ha => ⟨(), trivial, rfl, hS.F ht⟩) hS.2.2 (Nat.le_of_ble_eq_true rfl) (Nat.le_of_ble_eq_true rfl))
set_option maxHeartbeats 4000000 in
set_option maxRecDepth 100000 in
theorem tX4_share_a10 (l : Launch) (hfl : l.stackTraces = false) (Γ : wG) (q : Nat) (an : Nat → Nat) (ap : Nat → Nat) (qs : Nat) (ac : Nat → Nat) (au : Nat → Nat) (ax : Nat → Nat) (nn : Int32) (v : (Nat → Nat → Int32)) (k : Int32) (w : Int32) (hv1 : ¬ k < nI 0) (hw1 : k ≤ nI 7) (hv : w < nI 0) : TX l Γ yX4_share wsX4_share ({ frames := 7, cells := 1, slots := 6, locals := 112 }) [.ref q, .int k, .int w] [mnC q an ap qs ac au ax nn, plB Γ an v] "java/lang/IllegalArgumentException" := by
  intro sz
  refine vx_ofW (cc := cX4_share) (maxL := 3) (ret := (some .int)) (by decide) rfl ?_
  intro p e s m args below meth c s₁ B hml hnt hv
  obtain ⟨rfl, hsz, hP, hK, hD0, hAm⟩ := hv
  have hx := B.exec
  have hb := B.bytes
  have hr := B.returns
  have hts := atoms_spec (ws := wsX4_share) B.pre
  have hown : s.vm.findClass RX4 = some m.cls := findClass_of_methodNamed B.named
  have hlocks := B.notSynchronized
  subst hsz
  have hD := hD0.self (sz := s.heap.size)
  generalize hBe : va_A (wcat [mnC q an ap qs ac au ax nn, plB Γ an v]) s.heap.size = B0 at hD hAm
  obtain ⟨A, hAe⟩ : ∃ A, A = va_A [] s.heap.size := ⟨_, rfl⟩
  rw [← hAe]
  have hA : ∀ q : Nat, s.heap.size ≤ q → A q := fun q h => by rw [hAe]; exact Or.inr h
  have hAB : ∀ q : Nat, A q → B0 q := fun q h => by rw [hAe] at h; rw [← hBe]; exact Or.inr (wnone h)
  have hS : va_S A s.heap s.heap [] := va_S.rf
  have hl := lv_entry ([.ref q, .int k, .int w]) (n := 3) (Nat.le_of_ble_eq_true rfl)
  rw [lg_entry_eq]
  generalize (lg_sl ([.ref q, .int k, .int w]) ++ List.replicate (3 - (lg_sl ([.ref q, .int k, .int w])).length) Slot.unset).toArray = ls at hl ⊢
  have hl : lv_has ls 3 [(0, .ref q), (1, .int k), (2, .int w)] := hl
  refine lv_iload_n hx hb dX4_share_0 rfl (lv_at hl 1 rfl) ?_
  refine lv_iconst (v := (nI 0)) hx hb dX4_share_1 (by decide) ?_
  refine lv_bipush (v := (nI 7)) hx hb dX4_share_2 (by decide) ?_
  refine cLV (va_runS (As := [.int k, .int (nI 0), .int (nI 7)]) (rest := []) ⟨hx, hb, hml, hown, hts⟩ ((kX4_checkRange l Γ k (nI 0) (nI 7) (by first | assumption | omega | decide) (by first | assumption | omega | decide)) _) (va_cwS 3 hts gX4_share_X4_checkRange rfl rfl rfl (by decide +kernel) ⟨Nat.le_of_ble_eq_true rfl, Nat.le_of_ble_eq_true rfl⟩) ⟨wPre_blind, wPre_mk hP hD hK hS hA hAB hAm [] rfl rfl⟩ rfl rfl hl.1 rfl (lv_room (Nat.le_of_ble_eq_true rfl)) dX4_share_4 ⟨Nat.zero_le _, Nat.zero_le _⟩) hP hS hA (fun H locs hP hS => ?_)
  refine lv_iload_n hx hb dX4_share_7 rfl (lv_at hl 2 rfl) ?_
  refine lv_iconst (v := (nI 0)) hx hb dX4_share_8 (by decide) ?_
  refine lv_iconst (v := (nI 2)) hx hb dX4_share_9 (by decide) ?_
  exact tTX (E := "java/lang/IllegalArgumentException") (vx_runS (As := [.int w, .int (nI 0), .int (nI 2)]) (rest := []) ⟨hx, hb, hml, hown, hts⟩ ((tX4_checkRange_a l hfl Γ w (nI 0) (nI 2) (by first | assumption | omega | decide)) _) (va_cwS 3 hts gX4_share_X4_checkRange rfl rfl rfl (by decide +kernel) ⟨Nat.le_of_ble_eq_true rfl, Nat.le_of_ble_eq_true rfl⟩) ⟨wPre_blind, wPre_mk hP hD hK hS hA hAB hAm [] rfl rfl⟩ rfl rfl hl.1 rfl (lv_room (Nat.le_of_ble_eq_true rfl)) dX4_share_10 ⟨Nat.le_of_ble_eq_true rfl, Nat.le_of_ble_eq_true rfl⟩) hS hA (fun ce q9 H1 locs1 h1 h2 hS hc hv hcl => vx_out (fun x hx => (hnt x hx).elim) hlocks hc hv hcl (fun t ht ha => ⟨(), trivial, rfl, hS.F ht⟩) hS.2.2 (Nat.le_of_ble_eq_true rfl) (Nat.le_of_ble_eq_true rfl))
set_option maxHeartbeats 4000000 in
set_option maxRecDepth 100000 in
theorem tX4_share_b10 (l : Launch) (hfl : l.stackTraces = false) (Γ : wG) (q : Nat) (an : Nat → Nat) (ap : Nat → Nat) (qs : Nat) (ac : Nat → Nat) (au : Nat → Nat) (ax : Nat → Nat) (nn : Int32) (v : (Nat → Nat → Int32)) (k : Int32) (w : Int32) (hv1 : ¬ k < nI 0) (hw1 : k ≤ nI 7) (hv : ¬ w < nI 0) (hw : ¬ w ≤ nI 2) : TX l Γ yX4_share wsX4_share ({ frames := 7, cells := 1, slots := 6, locals := 112 }) [.ref q, .int k, .int w] [mnC q an ap qs ac au ax nn, plB Γ an v] "java/lang/IllegalArgumentException" := by
  intro sz
  refine vx_ofW (cc := cX4_share) (maxL := 3) (ret := (some .int)) (by decide) rfl ?_
  intro p e s m args below meth c s₁ B hml hnt hv
  obtain ⟨rfl, hsz, hP, hK, hD0, hAm⟩ := hv
  have hx := B.exec
  have hb := B.bytes
  have hr := B.returns
  have hts := atoms_spec (ws := wsX4_share) B.pre
  have hown : s.vm.findClass RX4 = some m.cls := findClass_of_methodNamed B.named
  have hlocks := B.notSynchronized
  subst hsz
  have hD := hD0.self (sz := s.heap.size)
  generalize hBe : va_A (wcat [mnC q an ap qs ac au ax nn, plB Γ an v]) s.heap.size = B0 at hD hAm
  obtain ⟨A, hAe⟩ : ∃ A, A = va_A [] s.heap.size := ⟨_, rfl⟩
  rw [← hAe]
  have hA : ∀ q : Nat, s.heap.size ≤ q → A q := fun q h => by rw [hAe]; exact Or.inr h
  have hAB : ∀ q : Nat, A q → B0 q := fun q h => by rw [hAe] at h; rw [← hBe]; exact Or.inr (wnone h)
  have hS : va_S A s.heap s.heap [] := va_S.rf
  have hl := lv_entry ([.ref q, .int k, .int w]) (n := 3) (Nat.le_of_ble_eq_true rfl)
  rw [lg_entry_eq]
  generalize (lg_sl ([.ref q, .int k, .int w]) ++ List.replicate (3 - (lg_sl ([.ref q, .int k, .int w])).length) Slot.unset).toArray = ls at hl ⊢
  have hl : lv_has ls 3 [(0, .ref q), (1, .int k), (2, .int w)] := hl
  refine lv_iload_n hx hb dX4_share_0 rfl (lv_at hl 1 rfl) ?_
  refine lv_iconst (v := (nI 0)) hx hb dX4_share_1 (by decide) ?_
  refine lv_bipush (v := (nI 7)) hx hb dX4_share_2 (by decide) ?_
  refine cLV (va_runS (As := [.int k, .int (nI 0), .int (nI 7)]) (rest := []) ⟨hx, hb, hml, hown, hts⟩ ((kX4_checkRange l Γ k (nI 0) (nI 7) (by first | assumption | omega | decide) (by first | assumption | omega | decide)) _) (va_cwS 3 hts gX4_share_X4_checkRange rfl rfl rfl (by decide +kernel) ⟨Nat.le_of_ble_eq_true rfl, Nat.le_of_ble_eq_true rfl⟩) ⟨wPre_blind, wPre_mk hP hD hK hS hA hAB hAm [] rfl rfl⟩ rfl rfl hl.1 rfl (lv_room (Nat.le_of_ble_eq_true rfl)) dX4_share_4 ⟨Nat.zero_le _, Nat.zero_le _⟩) hP hS hA (fun H locs hP hS => ?_)
  refine lv_iload_n hx hb dX4_share_7 rfl (lv_at hl 2 rfl) ?_
  refine lv_iconst (v := (nI 0)) hx hb dX4_share_8 (by decide) ?_
  refine lv_iconst (v := (nI 2)) hx hb dX4_share_9 (by decide) ?_
  exact tTX (E := "java/lang/IllegalArgumentException") (vx_runS (As := [.int w, .int (nI 0), .int (nI 2)]) (rest := []) ⟨hx, hb, hml, hown, hts⟩ ((tX4_checkRange_b l hfl Γ w (nI 0) (nI 2) (by first | assumption | omega | decide) (by first | assumption | omega | decide)) _) (va_cwS 3 hts gX4_share_X4_checkRange rfl rfl rfl (by decide +kernel) ⟨Nat.le_of_ble_eq_true rfl, Nat.le_of_ble_eq_true rfl⟩) ⟨wPre_blind, wPre_mk hP hD hK hS hA hAB hAm [] rfl rfl⟩ rfl rfl hl.1 rfl (lv_room (Nat.le_of_ble_eq_true rfl)) dX4_share_10 ⟨Nat.le_of_ble_eq_true rfl, Nat.le_of_ble_eq_true rfl⟩) hS hA (fun ce q9 H1 locs1 h1 h2 hS hc hv hcl => vx_out (fun x hx => (hnt x hx).elim) hlocks hc hv hcl (fun t ht ha => ⟨(), trivial, rfl, hS.F ht⟩) hS.2.2 (Nat.le_of_ble_eq_true rfl) (Nat.le_of_ble_eq_true rfl))
def fX4_keeperOf (v : (Nat → Nat → Int32)) (k : Int32) (w : Int32) : Int32 := (if w = (nI 0) then (if (fX2_lives v k) = 0 then ((nI 0)) else ((nI 1))) else (if w = (nI 1) then (((v 1) k.toNatClampNeg)) else (if w = (nI 2) then ((fX2_ownedBy v k)) else (if w = (nI 3) then (((v 2) k.toNatClampNeg)) else (if w = (nI 4) then (((v 3) k.toNatClampNeg)) else ((nI 0)))))))
set_option maxHeartbeats 4000000 in
set_option maxRecDepth 100000 in
theorem kX4_keeperOf (l : Launch) (Γ : wG) (q : Nat) (an : Nat → Nat) (ap : Nat → Nat) (qs : Nat) (ac : Nat → Nat) (au : Nat → Nat) (ax : Nat → Nat) (nn : Int32) (v : (Nat → Nat → Int32)) (k : Int32) (w : Int32) (hv : ¬ fX2_hasKeeper v k = 0) (hw : w ∈ [nI 0, nI 1, nI 2, nI 3, nI 4]) : LI l Γ yX4_keeperOf wsX4_keeperOf ({ frames := 2, cells := 0, slots := 0, locals := 42 }) [.ref q, .int k, .int w] [mnC q an ap qs ac au ax nn, plB Γ an v] (fX4_keeperOf v k w) := by
  intro sz
  refine Met.ofW (cc := cX4_keeperOf) (maxL := 3) (ret := (some .int)) (by decide) rfl ?_
  intro p e s m args below meth c s₁ B hml hv
  obtain ⟨rfl, hsz, hP, hK, hD0, hAm⟩ := hv
  have hx := B.exec
  have hb := B.bytes
  have hr := B.returns
  have hts := atoms_spec (ws := wsX4_keeperOf) B.pre
  have hown : s.vm.findClass RX4 = some m.cls := findClass_of_methodNamed B.named
  have hlocks := B.notSynchronized
  subst hsz
  have hD := hD0.self (sz := s.heap.size)
  generalize hBe : va_A (wcat [mnC q an ap qs ac au ax nn, plB Γ an v]) s.heap.size = B0 at hD hAm
  obtain ⟨A, hAe⟩ : ∃ A, A = va_A [] s.heap.size := ⟨_, rfl⟩
  rw [← hAe]
  have hA : ∀ q : Nat, s.heap.size ≤ q → A q := fun q h => by rw [hAe]; exact Or.inr h
  have hAB : ∀ q : Nat, A q → B0 q := fun q h => by rw [hAe] at h; rw [← hBe]; exact Or.inr (wnone h)
  have hS : va_S A s.heap s.heap [] := va_S.rf
  have hl := lv_entry ([.ref q, .int k, .int w]) (n := 3) (Nat.le_of_ble_eq_true rfl)
  rw [lg_entry_eq]
  generalize (lg_sl ([.ref q, .int k, .int w]) ++ List.replicate (3 - (lg_sl ([.ref q, .int k, .int w])).length) Slot.unset).toArray = ls at hl ⊢
  have hl : lv_has ls 3 [(0, .ref q), (1, .int k), (2, .int w)] := hl
  have hi2 : ∀ w ∈ wsX20, w ∈ wsX4_keeperOf := by decide +kernel
  have hi4 : ∀ w ∈ wsX40, w ∈ wsX4_keeperOf := by decide +kernel
  have kf10 := hts (.fieldLink RX4 10 "CapsuleKeepers" "now" "LCapsuleKeepers$Place;") (by decide +kernel)
  have kf178 := hts (.fieldLink RX4 178 "CapsuleKeepers$Place" "heirs" "[I") (by decide +kernel)
  have kf185 := hts (.fieldLink RX4 185 "CapsuleKeepers$Place" "quarrels" "[I") (by decide +kernel)
  have kf188 := hts (.fieldLink RX4 188 "CapsuleKeepers$Place" "tries" "[I") (by decide +kernel)
  have hq : (fX4_keeperOf v k w) = (if w = (nI 0) then (if (fX2_lives v k) = 0 then ((nI 0)) else ((nI 1))) else (if w = (nI 1) then (((v 1) k.toNatClampNeg)) else (if w = (nI 2) then ((fX2_ownedBy v k)) else (if w = (nI 3) then (((v 2) k.toNatClampNeg)) else (if w = (nI 4) then (((v 3) k.toNatClampNeg)) else ((nI 0))))))) := rfl
  refine lv_aload_n hx hb dX4_keeperOf_0 rfl (lv_at hl 0 rfl) ?_
  refine lv_iload_n hx hb dX4_keeperOf_1 rfl (lv_at hl 1 rfl) ?_
  refine cLV (va_runV (As := [.int k]) (rest := []) ⟨hx, hb, hml, hown, hts⟩ ((kX4_checkKeeper l Γ q an ap qs ac au ax nn v k (by first | assumption | omega | decide)) _) (cwV 1 hts gX4_keeperOf_X4_checkKeeper rfl rfl rfl (by decide +kernel) ⟨Nat.le_of_ble_eq_true rfl, Nat.le_of_ble_eq_true rfl⟩) ⟨wPre_blind, va_recv hK hP (ci := 4) (q0 := 0) rfl rfl, wPre_mk hP hD hK hS hA hAB hAm [0, 1] rfl rfl⟩ rfl rfl hl.1 rfl (lv_room (Nat.le_of_ble_eq_true rfl)) dX4_keeperOf_2 ⟨Nat.zero_le _, Nat.zero_le _⟩) hP hS hA (fun H locs hP hS => ?_)
  refine lv_iload_n hx hb dX4_keeperOf_5 rfl (lv_at hl 2 rfl) ?_
  by_cases c_1 : w = (nI 0)
  · have hq := hq.trans (if_pos c_1)
    refine lv_tableIn (off := 34) (tgt := 40) hx hb dX4_keeperOf_6 (by rw [c_1]; decide) (by rw [c_1]; decide) (by rw [c_1]; decide +kernel) (by decide) ?_
    refine lv_aload_n hx hb dX4_keeperOf_40 rfl (lv_at hl 0 rfl) ?_
    refine va_get (D := Γ.1) (ci := 4) (v := .ref (an 0)) (C := RX4) (T := TX4) (N := 7) hx hb hts hi4 hown hK hP 0 rfl rfl 0 (by decide) kf10 (fun _ h9 => h9) rfl dX4_keeperOf_41 ?_
    refine lv_iload_n hx hb dX4_keeperOf_44 rfl (lv_at hl 1 rfl) ?_
    refine cLI (va_runV (As := [.int k]) (rest := []) ⟨hx, hb, hml, hown, hts⟩ ((kX2_lives l Γ an v k) _) (cwV 1 hts gX4_keeperOf_X2_lives rfl rfl rfl (by decide +kernel) ⟨Nat.le_of_ble_eq_true rfl, Nat.le_of_ble_eq_true rfl⟩) ⟨wPre_blind, va_recv hK hP (ci := 2) (q0 := 1) rfl rfl, wPre_mk hP hD hK hS hA hAB hAm [1] rfl rfl⟩ rfl rfl hl.1 rfl (lv_room (Nat.le_of_ble_eq_true rfl)) dX4_keeperOf_45 ⟨Nat.zero_le _, Nat.zero_le _⟩) hP hS hA (fun H locs hP hS => ?_)
    refine lv_if_eq (tgt := 55) hx hb dX4_keeperOf_48 (by decide) (fun c_2 => ?_) (fun c_2 => ?_)
    · have hq := hq.trans (if_pos c_2)
      refine lv_iconst (v := (nI 0)) hx hb dX4_keeperOf_55 (by decide) ?_
      exact W.iret (v := (nI 0)) hx hb hr (fun t ht hW => eLI hS ht (by rw [hq])) hS.2.2 dX4_keeperOf_56
    · have hq := hq.trans (if_neg c_2)
      refine lv_iconst (v := (nI 1)) hx hb dX4_keeperOf_51 (by decide) ?_
      refine lv_goto (tgt := 56) hx hb dX4_keeperOf_52 (by decide) ?_
      exact W.iret (v := (nI 1)) hx hb hr (fun t ht hW => eLI hS ht (by rw [hq])) hS.2.2 dX4_keeperOf_56
  replace hq := hq.trans (if_neg c_1)
  by_cases c_3 : w = (nI 1)
  · have hq := hq.trans (if_pos c_3)
    refine lv_tableIn (off := 51) (tgt := 57) hx hb dX4_keeperOf_6 (by rw [c_3]; decide) (by rw [c_3]; decide) (by rw [c_3]; decide +kernel) (by decide) ?_
    refine lv_aload_n hx hb dX4_keeperOf_57 rfl (lv_at hl 0 rfl) ?_
    refine va_get (D := Γ.1) (ci := 4) (v := .ref (an 0)) (C := RX4) (T := TX4) (N := 7) hx hb hts hi4 hown hK hP 0 rfl rfl 0 (by decide) kf10 (fun _ h9 => h9) rfl dX4_keeperOf_58 ?_
    refine va_get (D := Γ.1) (ci := 2) (v := .ref (an 1)) (C := RX2) (T := TX2) (N := 16) hx hb hts hi2 hown hK hP 1 rfl rfl 2 (by decide) kf178 (fun _ h9 => h9) rfl dX4_keeperOf_61 ?_
    refine lv_iload_n hx hb dX4_keeperOf_64 rfl (lv_at hl 1 rfl) ?_
    refine va_iald (f := (v 1)) hx hb hK hP 2 0 rfl rfl (hasK_in hv) dX4_keeperOf_65 ?_
    exact W.iret (v := ((v 1) k.toNatClampNeg)) hx hb hr (fun t ht hW => eLI hS ht (by rw [hq])) hS.2.2 dX4_keeperOf_66
  replace hq := hq.trans (if_neg c_3)
  by_cases c_4 : w = (nI 2)
  · have hq := hq.trans (if_pos c_4)
    refine lv_tableIn (off := 61) (tgt := 67) hx hb dX4_keeperOf_6 (by rw [c_4]; decide) (by rw [c_4]; decide) (by rw [c_4]; decide +kernel) (by decide) ?_
    refine lv_aload_n hx hb dX4_keeperOf_67 rfl (lv_at hl 0 rfl) ?_
    refine va_get (D := Γ.1) (ci := 4) (v := .ref (an 0)) (C := RX4) (T := TX4) (N := 7) hx hb hts hi4 hown hK hP 0 rfl rfl 0 (by decide) kf10 (fun _ h9 => h9) rfl dX4_keeperOf_68 ?_
    refine lv_iload_n hx hb dX4_keeperOf_71 rfl (lv_at hl 1 rfl) ?_
    refine cLI (va_runV (As := [.int k]) (rest := []) ⟨hx, hb, hml, hown, hts⟩ ((kX2_ownedBy l Γ an v k) _) (cwV 1 hts gX4_keeperOf_X2_ownedBy rfl rfl rfl (by decide +kernel) ⟨Nat.le_of_ble_eq_true rfl, Nat.le_of_ble_eq_true rfl⟩) ⟨wPre_blind, va_recv hK hP (ci := 2) (q0 := 1) rfl rfl, wPre_mk hP hD hK hS hA hAB hAm [1] rfl rfl⟩ rfl rfl hl.1 rfl (lv_room (Nat.le_of_ble_eq_true rfl)) dX4_keeperOf_72 ⟨Nat.zero_le _, Nat.zero_le _⟩) hP hS hA (fun H locs hP hS => ?_)
    exact W.iret (v := (fX2_ownedBy v k)) hx hb hr (fun t ht hW => eLI hS ht (by rw [hq])) hS.2.2 dX4_keeperOf_75
  replace hq := hq.trans (if_neg c_4)
  by_cases c_5 : w = (nI 3)
  · have hq := hq.trans (if_pos c_5)
    refine lv_tableIn (off := 70) (tgt := 76) hx hb dX4_keeperOf_6 (by rw [c_5]; decide) (by rw [c_5]; decide) (by rw [c_5]; decide +kernel) (by decide) ?_
    refine lv_aload_n hx hb dX4_keeperOf_76 rfl (lv_at hl 0 rfl) ?_
    refine va_get (D := Γ.1) (ci := 4) (v := .ref (an 0)) (C := RX4) (T := TX4) (N := 7) hx hb hts hi4 hown hK hP 0 rfl rfl 0 (by decide) kf10 (fun _ h9 => h9) rfl dX4_keeperOf_77 ?_
    refine va_get (D := Γ.1) (ci := 2) (v := .ref (an 2)) (C := RX2) (T := TX2) (N := 16) hx hb hts hi2 hown hK hP 1 rfl rfl 3 (by decide) kf185 (fun _ h9 => h9) rfl dX4_keeperOf_80 ?_
    refine lv_iload_n hx hb dX4_keeperOf_83 rfl (lv_at hl 1 rfl) ?_
    refine va_iald (f := (v 2)) hx hb hK hP 3 0 rfl rfl (hasK_in hv) dX4_keeperOf_84 ?_
    exact W.iret (v := ((v 2) k.toNatClampNeg)) hx hb hr (fun t ht hW => eLI hS ht (by rw [hq])) hS.2.2 dX4_keeperOf_85
  replace hq := hq.trans (if_neg c_5)
  by_cases c_6 : w = (nI 4)
  · have hq := hq.trans (if_pos c_6)
    refine lv_tableIn (off := 80) (tgt := 86) hx hb dX4_keeperOf_6 (by rw [c_6]; decide) (by rw [c_6]; decide) (by rw [c_6]; decide +kernel) (by decide) ?_
    refine lv_aload_n hx hb dX4_keeperOf_86 rfl (lv_at hl 0 rfl) ?_
    refine va_get (D := Γ.1) (ci := 4) (v := .ref (an 0)) (C := RX4) (T := TX4) (N := 7) hx hb hts hi4 hown hK hP 0 rfl rfl 0 (by decide) kf10 (fun _ h9 => h9) rfl dX4_keeperOf_87 ?_
    refine va_get (D := Γ.1) (ci := 2) (v := .ref (an 3)) (C := RX2) (T := TX2) (N := 16) hx hb hts hi2 hown hK hP 1 rfl rfl 4 (by decide) kf188 (fun _ h9 => h9) rfl dX4_keeperOf_90 ?_
    refine lv_iload_n hx hb dX4_keeperOf_93 rfl (lv_at hl 1 rfl) ?_
    refine va_iald (f := (v 3)) hx hb hK hP 4 0 rfl rfl (hasK_in hv) dX4_keeperOf_94 ?_
    exact W.iret (v := ((v 3) k.toNatClampNeg)) hx hb hr (fun t ht hW => eLI hS ht (by rw [hq])) hS.2.2 dX4_keeperOf_95
  replace hq := hq.trans (if_neg c_6)
  exfalso
  simp only [List.mem_cons, List.not_mem_nil, or_false] at hw; rcases hw with h | h | h | h | h <;> contradiction
set_option maxHeartbeats 4000000 in
set_option maxRecDepth 100000 in
theorem tX4_keeperOf_a (l : Launch) (hfl : l.stackTraces = false) (Γ : wG) (q : Nat) (an : Nat → Nat) (ap : Nat → Nat) (qs : Nat) (ac : Nat → Nat) (au : Nat → Nat) (ax : Nat → Nat) (nn : Int32) (v : (Nat → Nat → Int32)) (k : Int32) (w : Int32) (hv : fX2_hasKeeper v k = 0) : TX l Γ yX4_keeperOf wsX4_keeperOf ({ frames := 7, cells := 1, slots := 6, locals := 111 }) [.ref q, .int k, .int w] [mnC q an ap qs ac au ax nn, plB Γ an v] "java/lang/IndexOutOfBoundsException" := by
  intro sz
  refine vx_ofW (cc := cX4_keeperOf) (maxL := 3) (ret := (some .int)) (by decide) rfl ?_
  intro p e s m args below meth c s₁ B hml hnt hv
  obtain ⟨rfl, hsz, hP, hK, hD0, hAm⟩ := hv
  have hx := B.exec
  have hb := B.bytes
  have hr := B.returns
  have hts := atoms_spec (ws := wsX4_keeperOf) B.pre
  have hown : s.vm.findClass RX4 = some m.cls := findClass_of_methodNamed B.named
  have hlocks := B.notSynchronized
  subst hsz
  have hD := hD0.self (sz := s.heap.size)
  generalize hBe : va_A (wcat [mnC q an ap qs ac au ax nn, plB Γ an v]) s.heap.size = B0 at hD hAm
  obtain ⟨A, hAe⟩ : ∃ A, A = va_A [] s.heap.size := ⟨_, rfl⟩
  rw [← hAe]
  have hA : ∀ q : Nat, s.heap.size ≤ q → A q := fun q h => by rw [hAe]; exact Or.inr h
  have hAB : ∀ q : Nat, A q → B0 q := fun q h => by rw [hAe] at h; rw [← hBe]; exact Or.inr (wnone h)
  have hS : va_S A s.heap s.heap [] := va_S.rf
  have hl := lv_entry ([.ref q, .int k, .int w]) (n := 3) (Nat.le_of_ble_eq_true rfl)
  rw [lg_entry_eq]
  generalize (lg_sl ([.ref q, .int k, .int w]) ++ List.replicate (3 - (lg_sl ([.ref q, .int k, .int w])).length) Slot.unset).toArray = ls at hl ⊢
  have hl : lv_has ls 3 [(0, .ref q), (1, .int k), (2, .int w)] := hl
  refine lv_aload_n hx hb dX4_keeperOf_0 rfl (lv_at hl 0 rfl) ?_
  refine lv_iload_n hx hb dX4_keeperOf_1 rfl (lv_at hl 1 rfl) ?_
  exact tTX (E := "java/lang/IndexOutOfBoundsException") (vx_runV (As := [.int k]) (rest := []) ⟨hx, hb, hml, hown, hts⟩ ((tX4_checkKeeper l hfl Γ q an ap qs ac au ax nn v k (by first | assumption | omega | decide)) _) (cwV 1 hts gX4_keeperOf_X4_checkKeeper rfl rfl rfl (by decide +kernel) ⟨Nat.le_of_ble_eq_true rfl, Nat.le_of_ble_eq_true rfl⟩) ⟨wPre_blind, va_recv hK hP (ci := 4) (q0 := 0) rfl rfl, wPre_mk hP hD hK hS hA hAB hAm [0, 1] rfl rfl⟩ rfl rfl hl.1 rfl (lv_room (Nat.le_of_ble_eq_true rfl)) dX4_keeperOf_2 ⟨Nat.le_of_ble_eq_true rfl, Nat.le_of_ble_eq_true rfl⟩) hS hA (fun ce q9 H1 locs1 h1 h2 hS hc hv hcl => vx_out (fun x hx => (hnt x hx).elim) hlocks hc hv hcl (fun t ht ha => ⟨(), trivial, rfl, hS.F ht⟩) hS.2.2 (Nat.le_of_ble_eq_true rfl) (Nat.le_of_ble_eq_true rfl))
set_option maxHeartbeats 4000000 in
set_option maxRecDepth 100000 in
theorem tX4_keeperOf_b (l : Launch) (hfl : l.stackTraces = false) (Γ : wG) (q : Nat) (an : Nat → Nat) (ap : Nat → Nat) (qs : Nat) (ac : Nat → Nat) (au : Nat → Nat) (ax : Nat → Nat) (nn : Int32) (v : (Nat → Nat → Int32)) (k : Int32) (w : Int32) (hv : ¬ fX2_hasKeeper v k = 0) (hw0 : ¬ w = nI 0) (hw1 : ¬ w = nI 1) (hw2 : ¬ w = nI 2) (hw3 : ¬ w = nI 3) (hw4 : ¬ w = nI 4) : TX l Γ yX4_keeperOf wsX4_keeperOf ({ frames := 6, cells := 1, slots := 6, locals := 90 }) [.ref q, .int k, .int w] [mnC q an ap qs ac au ax nn, plB Γ an v] "java/lang/IllegalArgumentException" := by
  intro sz
  refine vx_ofW (cc := cX4_keeperOf) (maxL := 3) (ret := (some .int)) (by decide) rfl ?_
  intro p e s m args below meth c s₁ B hml hnt hv
  obtain ⟨rfl, hsz, hP, hK, hD0, hAm⟩ := hv
  have hx := B.exec
  have hb := B.bytes
  have hr := B.returns
  have hts := atoms_spec (ws := wsX4_keeperOf) B.pre
  have hown : s.vm.findClass RX4 = some m.cls := findClass_of_methodNamed B.named
  have hlocks := B.notSynchronized
  subst hsz
  have hD := hD0.self (sz := s.heap.size)
  generalize hBe : va_A (wcat [mnC q an ap qs ac au ax nn, plB Γ an v]) s.heap.size = B0 at hD hAm
  obtain ⟨A, hAe⟩ : ∃ A, A = va_A [] s.heap.size := ⟨_, rfl⟩
  rw [← hAe]
  have hA : ∀ q : Nat, s.heap.size ≤ q → A q := fun q h => by rw [hAe]; exact Or.inr h
  have hAB : ∀ q : Nat, A q → B0 q := fun q h => by rw [hAe] at h; rw [← hBe]; exact Or.inr (wnone h)
  have hS : va_S A s.heap s.heap [] := va_S.rf
  have hl := lv_entry ([.ref q, .int k, .int w]) (n := 3) (Nat.le_of_ble_eq_true rfl)
  rw [lg_entry_eq]
  generalize (lg_sl ([.ref q, .int k, .int w]) ++ List.replicate (3 - (lg_sl ([.ref q, .int k, .int w])).length) Slot.unset).toArray = ls at hl ⊢
  have hl : lv_has ls 3 [(0, .ref q), (1, .int k), (2, .int w)] := hl
  refine lv_aload_n hx hb dX4_keeperOf_0 rfl (lv_at hl 0 rfl) ?_
  refine lv_iload_n hx hb dX4_keeperOf_1 rfl (lv_at hl 1 rfl) ?_
  refine cLV (va_runV (As := [.int k]) (rest := []) ⟨hx, hb, hml, hown, hts⟩ ((kX4_checkKeeper l Γ q an ap qs ac au ax nn v k (by first | assumption | omega | decide)) _) (cwV 1 hts gX4_keeperOf_X4_checkKeeper rfl rfl rfl (by decide +kernel) ⟨Nat.le_of_ble_eq_true rfl, Nat.le_of_ble_eq_true rfl⟩) ⟨wPre_blind, va_recv hK hP (ci := 4) (q0 := 0) rfl rfl, wPre_mk hP hD hK hS hA hAB hAm [0, 1] rfl rfl⟩ rfl rfl hl.1 rfl (lv_room (Nat.le_of_ble_eq_true rfl)) dX4_keeperOf_2 ⟨Nat.zero_le _, Nat.zero_le _⟩) hP hS hA (fun H locs hP hS => ?_)
  refine lv_iload_n hx hb dX4_keeperOf_5 rfl (lv_at hl 2 rfl) ?_
  by_cases c_1 : w = (nI 0)
  · exact absurd c_1 hw0
  by_cases c_2 : w = (nI 1)
  · exact absurd c_2 hw1
  by_cases c_3 : w = (nI 2)
  · exact absurd c_3 hw2
  by_cases c_4 : w = (nI 3)
  · exact absurd c_4 hw3
  by_cases c_5 : w = (nI 4)
  · exact absurd c_5 hw4
  have tc_1 := lv_neT (a := 0) c_1 (by decide)
  have tc_2 := lv_neT (a := 1) c_2 (by decide)
  have tc_3 := lv_neT (a := 2) c_3 (by decide)
  have tc_4 := lv_neT (a := 3) c_4 (by decide)
  have tc_5 := lv_neT (a := 4) c_5 (by decide)
  refine lv_tableOut (tgt := 96) hx hb dX4_keeperOf_6 (by omega) (by decide) ?_
  obtain ⟨sx, hstr⟩ := hAm.2.2.2.2.1 (191, "what is not 0 to 4") (by decide +kernel)
  exact vx_throwS (names := nm2) (A := A) hx hb hfl hown (by decide +kernel) (by decide +kernel) (hts (.classLink RX4 162 "java/lang/IllegalArgumentException") (by decide +kernel)) (hts (.initialized "java/lang/IllegalArgumentException") (by decide +kernel)) hstr (thr_hat hAm (by decide +kernel) (by decide +kernel) (fun w hw => hts w ((by decide +kernel : ∀ w ∈ (vx_atS RX4 166 "java/lang/IllegalArgumentException" nm2).filter goodWord, w ∈ wsX4_keeperOf) w hw))) (by decide +kernel) ((hAm.narrow hAB).2.2.1) ((hAm.narrow hAB).2.2.2.1) hS (by rw [hml]; exact hl.1) dX4_keeperOf_96 dX4_keeperOf_99 dX4_keeperOf_100 dX4_keeperOf_102 dX4_keeperOf_105 (fun x hx => (hnt x hx).elim) (Nat.le_of_ble_eq_true rfl) (Nat.le_of_ble_eq_true rfl) (Nat.le_of_ble_eq_true rfl) (Nat.le_of_ble_eq_true rfl) hlocks (fun t _ h1 h2 => ⟨(), trivial, rfl, xF hS h1 h2⟩) hS.2.2 (Nat.le_of_ble_eq_true rfl) (Nat.le_of_ble_eq_true rfl)
def fX4_count (nn : Int32) (v : (Nat → Nat → Int32)) (w : Int32) : Int32 := (if w = (nI 0) then ((v 0 0)) else (if w = (nI 1) then ((fX2_livingCount v)) else (if w = (nI 2) then ((v 0 3)) else (if w = (nI 3) then ((v 0 4)) else (if w = (nI 4) then (if (v 0 4) = 0 then ((-1)) else ((v 0 6))) else (if w = (nI 5) then (if (v 0 4) = 0 then ((-1)) else ((v 0 7))) else (if w = (nI 6) then ((fbit (fX2_sharesThere v))) else (if w = (nI 7) then ((fX2_quarrellingPairs v)) else (if w = (nI 8) then ((v 0 8)) else (if w = (nI 9) then ((v 0 9)) else (if w = (nI 10) then ((v 0 10)) else (if w = (nI 11) then (nn) else ((nI 0))))))))))))))
set_option maxHeartbeats 4000000 in
set_option maxRecDepth 100000 in
theorem kX4_count (l : Launch) (Γ : wG) (q : Nat) (an : Nat → Nat) (ap : Nat → Nat) (qs : Nat) (ac : Nat → Nat) (au : Nat → Nat) (ax : Nat → Nat) (nn : Int32) (v : (Nat → Nat → Int32)) (w : Int32) (hw : w ∈ [nI 0, nI 1, nI 2, nI 3, nI 4, nI 5, nI 6, nI 7, nI 8, nI 9, nI 10, nI 11]) : LI l Γ yX4_count wsX4_count ({ frames := 2, cells := 0, slots := 0, locals := 42 }) [.ref q, .int w] [mnC q an ap qs ac au ax nn, plB Γ an v] (fX4_count nn v w) := by
  intro sz
  refine Met.ofW (cc := cX4_count) (maxL := 2) (ret := (some .int)) (by decide) rfl ?_
  intro p e s m args below meth c s₁ B hml hv
  obtain ⟨rfl, hsz, hP, hK, hD0, hAm⟩ := hv
  have hx := B.exec
  have hb := B.bytes
  have hr := B.returns
  have hts := atoms_spec (ws := wsX4_count) B.pre
  have hown : s.vm.findClass RX4 = some m.cls := findClass_of_methodNamed B.named
  have hlocks := B.notSynchronized
  subst hsz
  have hD := hD0.self (sz := s.heap.size)
  generalize hBe : va_A (wcat [mnC q an ap qs ac au ax nn, plB Γ an v]) s.heap.size = B0 at hD hAm
  obtain ⟨A, hAe⟩ : ∃ A, A = va_A [] s.heap.size := ⟨_, rfl⟩
  rw [← hAe]
  have hA : ∀ q : Nat, s.heap.size ≤ q → A q := fun q h => by rw [hAe]; exact Or.inr h
  have hAB : ∀ q : Nat, A q → B0 q := fun q h => by rw [hAe] at h; rw [← hBe]; exact Or.inr (wnone h)
  have hS : va_S A s.heap s.heap [] := va_S.rf
  have hl := lv_entry ([.ref q, .int w]) (n := 2) (Nat.le_of_ble_eq_true rfl)
  rw [lg_entry_eq]
  generalize (lg_sl ([.ref q, .int w]) ++ List.replicate (2 - (lg_sl ([.ref q, .int w])).length) Slot.unset).toArray = ls at hl ⊢
  have hl : lv_has ls 2 [(0, .ref q), (1, .int w)] := hl
  have hi2 : ∀ w ∈ wsX20, w ∈ wsX4_count := by decide +kernel
  have hi4 : ∀ w ∈ wsX40, w ∈ wsX4_count := by decide +kernel
  have kf10 := hts (.fieldLink RX4 10 "CapsuleKeepers" "now" "LCapsuleKeepers$Place;") (by decide +kernel)
  have kf132 := hts (.fieldLink RX4 132 "CapsuleKeepers$Place" "day" "I") (by decide +kernel)
  have kf202 := hts (.fieldLink RX4 202 "CapsuleKeepers$Place" "stage" "I") (by decide +kernel)
  have kf205 := hts (.fieldLink RX4 205 "CapsuleKeepers$Place" "quorum" "I") (by decide +kernel)
  have kf208 := hts (.fieldLink RX4 208 "CapsuleKeepers$Place" "date" "I") (by decide +kernel)
  have kf222 := hts (.fieldLink RX4 222 "CapsuleKeepers$Place" "dealings" "I") (by decide +kernel)
  have kf225 := hts (.fieldLink RX4 225 "CapsuleKeepers$Place" "refusals" "I") (by decide +kernel)
  have kf228 := hts (.fieldLink RX4 228 "CapsuleKeepers$Place" "x" "I") (by decide +kernel)
  have kf23 := hts (.fieldLink RX4 23 "CapsuleKeepers" "savedCount" "I") (by decide +kernel)
  have kf48 := hts (.fieldLink RX4 48 "CapsuleKeepers$Place" "keepers" "I") (by decide +kernel)
  have hq : (fX4_count nn v w) = (if w = (nI 0) then ((v 0 0)) else (if w = (nI 1) then ((fX2_livingCount v)) else (if w = (nI 2) then ((v 0 3)) else (if w = (nI 3) then ((v 0 4)) else (if w = (nI 4) then (if (v 0 4) = 0 then ((-1)) else ((v 0 6))) else (if w = (nI 5) then (if (v 0 4) = 0 then ((-1)) else ((v 0 7))) else (if w = (nI 6) then ((fbit (fX2_sharesThere v))) else (if w = (nI 7) then ((fX2_quarrellingPairs v)) else (if w = (nI 8) then ((v 0 8)) else (if w = (nI 9) then ((v 0 9)) else (if w = (nI 10) then ((v 0 10)) else (if w = (nI 11) then (nn) else ((nI 0)))))))))))))) := rfl
  refine lv_iload_n hx hb dX4_count_0 rfl (lv_at hl 1 rfl) ?_
  by_cases c_1 : w = (nI 0)
  · have hq := hq.trans (if_pos c_1)
    refine lv_tableIn (off := 63) (tgt := 64) hx hb dX4_count_1 (by rw [c_1]; decide) (by rw [c_1]; decide) (by rw [c_1]; decide +kernel) (by decide) ?_
    refine lv_aload_n hx hb dX4_count_64 rfl (lv_at hl 0 rfl) ?_
    refine va_get (D := Γ.1) (ci := 4) (v := .ref (an 0)) (C := RX4) (T := TX4) (N := 7) hx hb hts hi4 hown hK hP 0 rfl rfl 0 (by decide) kf10 (fun _ h9 => h9) rfl dX4_count_65 ?_
    refine va_get (D := Γ.1) (ci := 2) (v := .int (v 0 0)) (C := RX2) (T := TX2) (N := 16) hx hb hts hi2 hown hK hP 1 rfl rfl 0 (by decide) kf48 (fun _ h9 => h9) rfl dX4_count_68 ?_
    exact W.iret (v := (v 0 0)) hx hb hr (fun t ht hW => eLI hS ht (by rw [hq])) hS.2.2 dX4_count_71
  replace hq := hq.trans (if_neg c_1)
  by_cases c_2 : w = (nI 1)
  · have hq := hq.trans (if_pos c_2)
    refine lv_tableIn (off := 71) (tgt := 72) hx hb dX4_count_1 (by rw [c_2]; decide) (by rw [c_2]; decide) (by rw [c_2]; decide +kernel) (by decide) ?_
    refine lv_aload_n hx hb dX4_count_72 rfl (lv_at hl 0 rfl) ?_
    refine va_get (D := Γ.1) (ci := 4) (v := .ref (an 0)) (C := RX4) (T := TX4) (N := 7) hx hb hts hi4 hown hK hP 0 rfl rfl 0 (by decide) kf10 (fun _ h9 => h9) rfl dX4_count_73 ?_
    refine cLI (va_runV (As := []) (rest := []) ⟨hx, hb, hml, hown, hts⟩ ((kX2_livingCount l Γ an v) _) (cwV 0 hts gX4_count_X2_livingCount rfl rfl rfl (by decide +kernel) ⟨Nat.le_of_ble_eq_true rfl, Nat.le_of_ble_eq_true rfl⟩) ⟨wPre_blind, va_recv hK hP (ci := 2) (q0 := 1) rfl rfl, wPre_mk hP hD hK hS hA hAB hAm [1] rfl rfl⟩ rfl rfl hl.1 rfl (lv_room (Nat.le_of_ble_eq_true rfl)) dX4_count_76 ⟨Nat.zero_le _, Nat.zero_le _⟩) hP hS hA (fun H locs hP hS => ?_)
    exact W.iret (v := (fX2_livingCount v)) hx hb hr (fun t ht hW => eLI hS ht (by rw [hq])) hS.2.2 dX4_count_79
  replace hq := hq.trans (if_neg c_2)
  by_cases c_3 : w = (nI 2)
  · have hq := hq.trans (if_pos c_3)
    refine lv_tableIn (off := 79) (tgt := 80) hx hb dX4_count_1 (by rw [c_3]; decide) (by rw [c_3]; decide) (by rw [c_3]; decide +kernel) (by decide) ?_
    refine lv_aload_n hx hb dX4_count_80 rfl (lv_at hl 0 rfl) ?_
    refine va_get (D := Γ.1) (ci := 4) (v := .ref (an 0)) (C := RX4) (T := TX4) (N := 7) hx hb hts hi4 hown hK hP 0 rfl rfl 0 (by decide) kf10 (fun _ h9 => h9) rfl dX4_count_81 ?_
    refine va_get (D := Γ.1) (ci := 2) (v := .int (v 0 3)) (C := RX2) (T := TX2) (N := 16) hx hb hts hi2 hown hK hP 1 rfl rfl 8 (by decide) kf132 (fun _ h9 => h9) rfl dX4_count_84 ?_
    exact W.iret (v := (v 0 3)) hx hb hr (fun t ht hW => eLI hS ht (by rw [hq])) hS.2.2 dX4_count_87
  replace hq := hq.trans (if_neg c_3)
  by_cases c_4 : w = (nI 3)
  · have hq := hq.trans (if_pos c_4)
    refine lv_tableIn (off := 87) (tgt := 88) hx hb dX4_count_1 (by rw [c_4]; decide) (by rw [c_4]; decide) (by rw [c_4]; decide +kernel) (by decide) ?_
    refine lv_aload_n hx hb dX4_count_88 rfl (lv_at hl 0 rfl) ?_
    refine va_get (D := Γ.1) (ci := 4) (v := .ref (an 0)) (C := RX4) (T := TX4) (N := 7) hx hb hts hi4 hown hK hP 0 rfl rfl 0 (by decide) kf10 (fun _ h9 => h9) rfl dX4_count_89 ?_
    refine va_get (D := Γ.1) (ci := 2) (v := .int (v 0 4)) (C := RX2) (T := TX2) (N := 16) hx hb hts hi2 hown hK hP 1 rfl rfl 9 (by decide) kf202 (fun _ h9 => h9) rfl dX4_count_92 ?_
    exact W.iret (v := (v 0 4)) hx hb hr (fun t ht hW => eLI hS ht (by rw [hq])) hS.2.2 dX4_count_95
  replace hq := hq.trans (if_neg c_4)
  by_cases c_5 : w = (nI 4)
  · have hq := hq.trans (if_pos c_5)
    refine lv_tableIn (off := 95) (tgt := 96) hx hb dX4_count_1 (by rw [c_5]; decide) (by rw [c_5]; decide) (by rw [c_5]; decide +kernel) (by decide) ?_
    refine lv_aload_n hx hb dX4_count_96 rfl (lv_at hl 0 rfl) ?_
    refine va_get (D := Γ.1) (ci := 4) (v := .ref (an 0)) (C := RX4) (T := TX4) (N := 7) hx hb hts hi4 hown hK hP 0 rfl rfl 0 (by decide) kf10 (fun _ h9 => h9) rfl dX4_count_97 ?_
    refine va_get (D := Γ.1) (ci := 2) (v := .int (v 0 4)) (C := RX2) (T := TX2) (N := 16) hx hb hts hi2 hown hK hP 1 rfl rfl 9 (by decide) kf202 (fun _ h9 => h9) rfl dX4_count_100 ?_
    refine lv_if_ne (tgt := 110) hx hb dX4_count_103 (by decide) (fun c_6 => ?_) (fun c_6 => ?_)
    · have hq := hq.trans (if_neg c_6)
      refine lv_aload_n hx hb dX4_count_110 rfl (lv_at hl 0 rfl) ?_
      refine va_get (D := Γ.1) (ci := 4) (v := .ref (an 0)) (C := RX4) (T := TX4) (N := 7) hx hb hts hi4 hown hK hP 0 rfl rfl 0 (by decide) kf10 (fun _ h9 => h9) rfl dX4_count_111 ?_
      refine va_get (D := Γ.1) (ci := 2) (v := .int (v 0 6)) (C := RX2) (T := TX2) (N := 16) hx hb hts hi2 hown hK hP 1 rfl rfl 11 (by decide) kf205 (fun _ h9 => h9) rfl dX4_count_114 ?_
      exact W.iret (v := (v 0 6)) hx hb hr (fun t ht hW => eLI hS ht (by rw [hq])) hS.2.2 dX4_count_117
    · have hq := hq.trans (if_pos c_6)
      refine lv_iconst (v := (-1)) hx hb dX4_count_106 (by decide) ?_
      refine lv_goto (tgt := 117) hx hb dX4_count_107 (by decide) ?_
      exact W.iret (v := (-1)) hx hb hr (fun t ht hW => eLI hS ht (by rw [hq])) hS.2.2 dX4_count_117
  replace hq := hq.trans (if_neg c_5)
  by_cases c_7 : w = (nI 5)
  · have hq := hq.trans (if_pos c_7)
    refine lv_tableIn (off := 117) (tgt := 118) hx hb dX4_count_1 (by rw [c_7]; decide) (by rw [c_7]; decide) (by rw [c_7]; decide +kernel) (by decide) ?_
    refine lv_aload_n hx hb dX4_count_118 rfl (lv_at hl 0 rfl) ?_
    refine va_get (D := Γ.1) (ci := 4) (v := .ref (an 0)) (C := RX4) (T := TX4) (N := 7) hx hb hts hi4 hown hK hP 0 rfl rfl 0 (by decide) kf10 (fun _ h9 => h9) rfl dX4_count_119 ?_
    refine va_get (D := Γ.1) (ci := 2) (v := .int (v 0 4)) (C := RX2) (T := TX2) (N := 16) hx hb hts hi2 hown hK hP 1 rfl rfl 9 (by decide) kf202 (fun _ h9 => h9) rfl dX4_count_122 ?_
    refine lv_if_ne (tgt := 132) hx hb dX4_count_125 (by decide) (fun c_8 => ?_) (fun c_8 => ?_)
    · have hq := hq.trans (if_neg c_8)
      refine lv_aload_n hx hb dX4_count_132 rfl (lv_at hl 0 rfl) ?_
      refine va_get (D := Γ.1) (ci := 4) (v := .ref (an 0)) (C := RX4) (T := TX4) (N := 7) hx hb hts hi4 hown hK hP 0 rfl rfl 0 (by decide) kf10 (fun _ h9 => h9) rfl dX4_count_133 ?_
      refine va_get (D := Γ.1) (ci := 2) (v := .int (v 0 7)) (C := RX2) (T := TX2) (N := 16) hx hb hts hi2 hown hK hP 1 rfl rfl 12 (by decide) kf208 (fun _ h9 => h9) rfl dX4_count_136 ?_
      exact W.iret (v := (v 0 7)) hx hb hr (fun t ht hW => eLI hS ht (by rw [hq])) hS.2.2 dX4_count_139
    · have hq := hq.trans (if_pos c_8)
      refine lv_iconst (v := (-1)) hx hb dX4_count_128 (by decide) ?_
      refine lv_goto (tgt := 139) hx hb dX4_count_129 (by decide) ?_
      exact W.iret (v := (-1)) hx hb hr (fun t ht hW => eLI hS ht (by rw [hq])) hS.2.2 dX4_count_139
  replace hq := hq.trans (if_neg c_7)
  by_cases c_9 : w = (nI 6)
  · have hq := hq.trans (if_pos c_9)
    refine lv_tableIn (off := 139) (tgt := 140) hx hb dX4_count_1 (by rw [c_9]; decide) (by rw [c_9]; decide) (by rw [c_9]; decide +kernel) (by decide) ?_
    refine lv_aload_n hx hb dX4_count_140 rfl (lv_at hl 0 rfl) ?_
    refine va_get (D := Γ.1) (ci := 4) (v := .ref (an 0)) (C := RX4) (T := TX4) (N := 7) hx hb hts hi4 hown hK hP 0 rfl rfl 0 (by decide) kf10 (fun _ h9 => h9) rfl dX4_count_141 ?_
    refine cLI (va_runV (As := []) (rest := []) ⟨hx, hb, hml, hown, hts⟩ ((kX2_sharesThere l Γ an v) _) (cwV 0 hts gX4_count_X2_sharesThere rfl rfl rfl (by decide +kernel) ⟨Nat.le_of_ble_eq_true rfl, Nat.le_of_ble_eq_true rfl⟩) ⟨wPre_blind, va_recv hK hP (ci := 2) (q0 := 1) rfl rfl, wPre_mk hP hD hK hS hA hAB hAm [1] rfl rfl⟩ rfl rfl hl.1 rfl (lv_room (Nat.le_of_ble_eq_true rfl)) dX4_count_144 ⟨Nat.zero_le _, Nat.zero_le _⟩) hP hS hA (fun H locs hP hS => ?_)
    refine cLI (va_runS (As := [.int (fX2_sharesThere v)]) (rest := []) ⟨hx, hb, hml, hown, hts⟩ ((kJ6_bitCount_0f7a4 l Γ (fX2_sharesThere v)) _) (va_cwS 1 hts gX4_count_J6_bitCount_0f7a4 rfl rfl rfl (by decide +kernel) ⟨Nat.le_of_ble_eq_true rfl, Nat.le_of_ble_eq_true rfl⟩) ⟨wPre_blind, wPre_mk hP hD hK hS hA hAB hAm [] rfl rfl⟩ rfl rfl hl.1 rfl (lv_room (Nat.le_of_ble_eq_true rfl)) dX4_count_147 ⟨Nat.zero_le _, Nat.zero_le _⟩) hP hS hA (fun H locs hP hS => ?_)
    exact W.iret (v := (fbit (fX2_sharesThere v))) hx hb hr (fun t ht hW => eLI hS ht (by rw [hq])) hS.2.2 dX4_count_150
  replace hq := hq.trans (if_neg c_9)
  by_cases c_10 : w = (nI 7)
  · have hq := hq.trans (if_pos c_10)
    refine lv_tableIn (off := 150) (tgt := 151) hx hb dX4_count_1 (by rw [c_10]; decide) (by rw [c_10]; decide) (by rw [c_10]; decide +kernel) (by decide) ?_
    refine lv_aload_n hx hb dX4_count_151 rfl (lv_at hl 0 rfl) ?_
    refine va_get (D := Γ.1) (ci := 4) (v := .ref (an 0)) (C := RX4) (T := TX4) (N := 7) hx hb hts hi4 hown hK hP 0 rfl rfl 0 (by decide) kf10 (fun _ h9 => h9) rfl dX4_count_152 ?_
    refine cLI (va_runV (As := []) (rest := []) ⟨hx, hb, hml, hown, hts⟩ ((kX2_quarrellingPairs l Γ an v) _) (cwV 0 hts gX4_count_X2_quarrellingPairs rfl rfl rfl (by decide +kernel) ⟨Nat.le_of_ble_eq_true rfl, Nat.le_of_ble_eq_true rfl⟩) ⟨wPre_blind, va_recv hK hP (ci := 2) (q0 := 1) rfl rfl, wPre_mk hP hD hK hS hA hAB hAm [1] rfl rfl⟩ rfl rfl hl.1 rfl (lv_room (Nat.le_of_ble_eq_true rfl)) dX4_count_155 ⟨Nat.zero_le _, Nat.zero_le _⟩) hP hS hA (fun H locs hP hS => ?_)
    exact W.iret (v := (fX2_quarrellingPairs v)) hx hb hr (fun t ht hW => eLI hS ht (by rw [hq])) hS.2.2 dX4_count_158
  replace hq := hq.trans (if_neg c_10)
  by_cases c_11 : w = (nI 8)
  · have hq := hq.trans (if_pos c_11)
    refine lv_tableIn (off := 158) (tgt := 159) hx hb dX4_count_1 (by rw [c_11]; decide) (by rw [c_11]; decide) (by rw [c_11]; decide +kernel) (by decide) ?_
    refine lv_aload_n hx hb dX4_count_159 rfl (lv_at hl 0 rfl) ?_
    refine va_get (D := Γ.1) (ci := 4) (v := .ref (an 0)) (C := RX4) (T := TX4) (N := 7) hx hb hts hi4 hown hK hP 0 rfl rfl 0 (by decide) kf10 (fun _ h9 => h9) rfl dX4_count_160 ?_
    refine va_get (D := Γ.1) (ci := 2) (v := .int (v 0 8)) (C := RX2) (T := TX2) (N := 16) hx hb hts hi2 hown hK hP 1 rfl rfl 13 (by decide) kf222 (fun _ h9 => h9) rfl dX4_count_163 ?_
    exact W.iret (v := (v 0 8)) hx hb hr (fun t ht hW => eLI hS ht (by rw [hq])) hS.2.2 dX4_count_166
  replace hq := hq.trans (if_neg c_11)
  by_cases c_12 : w = (nI 9)
  · have hq := hq.trans (if_pos c_12)
    refine lv_tableIn (off := 166) (tgt := 167) hx hb dX4_count_1 (by rw [c_12]; decide) (by rw [c_12]; decide) (by rw [c_12]; decide +kernel) (by decide) ?_
    refine lv_aload_n hx hb dX4_count_167 rfl (lv_at hl 0 rfl) ?_
    refine va_get (D := Γ.1) (ci := 4) (v := .ref (an 0)) (C := RX4) (T := TX4) (N := 7) hx hb hts hi4 hown hK hP 0 rfl rfl 0 (by decide) kf10 (fun _ h9 => h9) rfl dX4_count_168 ?_
    refine va_get (D := Γ.1) (ci := 2) (v := .int (v 0 9)) (C := RX2) (T := TX2) (N := 16) hx hb hts hi2 hown hK hP 1 rfl rfl 14 (by decide) kf225 (fun _ h9 => h9) rfl dX4_count_171 ?_
    exact W.iret (v := (v 0 9)) hx hb hr (fun t ht hW => eLI hS ht (by rw [hq])) hS.2.2 dX4_count_174
  replace hq := hq.trans (if_neg c_12)
  by_cases c_13 : w = (nI 10)
  · have hq := hq.trans (if_pos c_13)
    refine lv_tableIn (off := 174) (tgt := 175) hx hb dX4_count_1 (by rw [c_13]; decide) (by rw [c_13]; decide) (by rw [c_13]; decide +kernel) (by decide) ?_
    refine lv_aload_n hx hb dX4_count_175 rfl (lv_at hl 0 rfl) ?_
    refine va_get (D := Γ.1) (ci := 4) (v := .ref (an 0)) (C := RX4) (T := TX4) (N := 7) hx hb hts hi4 hown hK hP 0 rfl rfl 0 (by decide) kf10 (fun _ h9 => h9) rfl dX4_count_176 ?_
    refine va_get (D := Γ.1) (ci := 2) (v := .int (v 0 10)) (C := RX2) (T := TX2) (N := 16) hx hb hts hi2 hown hK hP 1 rfl rfl 15 (by decide) kf228 (fun _ h9 => h9) rfl dX4_count_179 ?_
    exact W.iret (v := (v 0 10)) hx hb hr (fun t ht hW => eLI hS ht (by rw [hq])) hS.2.2 dX4_count_182
  replace hq := hq.trans (if_neg c_13)
  by_cases c_14 : w = (nI 11)
  · have hq := hq.trans (if_pos c_14)
    refine lv_tableIn (off := 182) (tgt := 183) hx hb dX4_count_1 (by rw [c_14]; decide) (by rw [c_14]; decide) (by rw [c_14]; decide +kernel) (by decide) ?_
    refine lv_aload_n hx hb dX4_count_183 rfl (lv_at hl 0 rfl) ?_
    refine va_get (D := Γ.1) (ci := 4) (v := .int nn) (C := RX4) (T := TX4) (N := 7) hx hb hts hi4 hown hK hP 0 rfl rfl 3 (by decide) kf23 (fun _ h9 => h9) rfl dX4_count_184 ?_
    exact W.iret (v := nn) hx hb hr (fun t ht hW => eLI hS ht (by rw [hq])) hS.2.2 dX4_count_187
  replace hq := hq.trans (if_neg c_14)
  exfalso
  simp only [List.mem_cons, List.not_mem_nil, or_false] at hw; rcases hw with h | h | h | h | h | h | h | h | h | h | h | h <;> contradiction
set_option maxHeartbeats 4000000 in
set_option maxRecDepth 100000 in
theorem tX4_count_a (l : Launch) (hfl : l.stackTraces = false) (Γ : wG) (q : Nat) (an : Nat → Nat) (ap : Nat → Nat) (qs : Nat) (ac : Nat → Nat) (au : Nat → Nat) (ax : Nat → Nat) (nn : Int32) (v : (Nat → Nat → Int32)) (w : Int32) (hw0 : ¬ w = nI 0) (hw1 : ¬ w = nI 1) (hw2 : ¬ w = nI 2) (hw3 : ¬ w = nI 3) (hw4 : ¬ w = nI 4) (hw5 : ¬ w = nI 5) (hw6 : ¬ w = nI 6) (hw7 : ¬ w = nI 7) (hw8 : ¬ w = nI 8) (hw9 : ¬ w = nI 9) (hw10 : ¬ w = nI 10) (hw11 : ¬ w = nI 11) : TX l Γ yX4_count wsX4_count ({ frames := 6, cells := 1, slots := 6, locals := 90 }) [.ref q, .int w] [mnC q an ap qs ac au ax nn, plB Γ an v] "java/lang/IllegalArgumentException" := by
  intro sz
  refine vx_ofW (cc := cX4_count) (maxL := 2) (ret := (some .int)) (by decide) rfl ?_
  intro p e s m args below meth c s₁ B hml hnt hv
  obtain ⟨rfl, hsz, hP, hK, hD0, hAm⟩ := hv
  have hx := B.exec
  have hb := B.bytes
  have hr := B.returns
  have hts := atoms_spec (ws := wsX4_count) B.pre
  have hown : s.vm.findClass RX4 = some m.cls := findClass_of_methodNamed B.named
  have hlocks := B.notSynchronized
  subst hsz
  have hD := hD0.self (sz := s.heap.size)
  generalize hBe : va_A (wcat [mnC q an ap qs ac au ax nn, plB Γ an v]) s.heap.size = B0 at hD hAm
  obtain ⟨A, hAe⟩ : ∃ A, A = va_A [] s.heap.size := ⟨_, rfl⟩
  rw [← hAe]
  have hA : ∀ q : Nat, s.heap.size ≤ q → A q := fun q h => by rw [hAe]; exact Or.inr h
  have hAB : ∀ q : Nat, A q → B0 q := fun q h => by rw [hAe] at h; rw [← hBe]; exact Or.inr (wnone h)
  have hS : va_S A s.heap s.heap [] := va_S.rf
  have hl := lv_entry ([.ref q, .int w]) (n := 2) (Nat.le_of_ble_eq_true rfl)
  rw [lg_entry_eq]
  generalize (lg_sl ([.ref q, .int w]) ++ List.replicate (2 - (lg_sl ([.ref q, .int w])).length) Slot.unset).toArray = ls at hl ⊢
  have hl : lv_has ls 2 [(0, .ref q), (1, .int w)] := hl
  refine lv_iload_n hx hb dX4_count_0 rfl (lv_at hl 1 rfl) ?_
  by_cases c_1 : w = (nI 0)
  · exact absurd c_1 hw0
  by_cases c_2 : w = (nI 1)
  · exact absurd c_2 hw1
  by_cases c_3 : w = (nI 2)
  · exact absurd c_3 hw2
  by_cases c_4 : w = (nI 3)
  · exact absurd c_4 hw3
  by_cases c_5 : w = (nI 4)
  · exact absurd c_5 hw4
  by_cases c_6 : w = (nI 5)
  · exact absurd c_6 hw5
  by_cases c_7 : w = (nI 6)
  · exact absurd c_7 hw6
  by_cases c_8 : w = (nI 7)
  · exact absurd c_8 hw7
  by_cases c_9 : w = (nI 8)
  · exact absurd c_9 hw8
  by_cases c_10 : w = (nI 9)
  · exact absurd c_10 hw9
  by_cases c_11 : w = (nI 10)
  · exact absurd c_11 hw10
  by_cases c_12 : w = (nI 11)
  · exact absurd c_12 hw11
  have tc_1 := lv_neT (a := 0) c_1 (by decide)
  have tc_2 := lv_neT (a := 1) c_2 (by decide)
  have tc_3 := lv_neT (a := 2) c_3 (by decide)
  have tc_4 := lv_neT (a := 3) c_4 (by decide)
  have tc_5 := lv_neT (a := 4) c_5 (by decide)
  have tc_6 := lv_neT (a := 5) c_6 (by decide)
  have tc_7 := lv_neT (a := 6) c_7 (by decide)
  have tc_8 := lv_neT (a := 7) c_8 (by decide)
  have tc_9 := lv_neT (a := 8) c_9 (by decide)
  have tc_10 := lv_neT (a := 9) c_10 (by decide)
  have tc_11 := lv_neT (a := 10) c_11 (by decide)
  have tc_12 := lv_neT (a := 11) c_12 (by decide)
  refine lv_tableOut (tgt := 188) hx hb dX4_count_1 (by omega) (by decide) ?_
  obtain ⟨sx, hstr⟩ := hAm.2.2.2.2.1 (231, "what is not 0 to 11") (by decide +kernel)
  exact vx_throwS (names := nm2) (A := A) hx hb hfl hown (by decide +kernel) (by decide +kernel) (hts (.classLink RX4 162 "java/lang/IllegalArgumentException") (by decide +kernel)) (hts (.initialized "java/lang/IllegalArgumentException") (by decide +kernel)) hstr (thr_hat hAm (by decide +kernel) (by decide +kernel) (fun w hw => hts w ((by decide +kernel : ∀ w ∈ (vx_atS RX4 166 "java/lang/IllegalArgumentException" nm2).filter goodWord, w ∈ wsX4_count) w hw))) (by decide +kernel) ((hAm.narrow hAB).2.2.1) ((hAm.narrow hAB).2.2.2.1) hS (by rw [hml]; exact hl.1) dX4_count_188 dX4_count_191 dX4_count_192 dX4_count_194 dX4_count_197 (fun x hx => (hnt x hx).elim) (Nat.le_of_ble_eq_true rfl) (Nat.le_of_ble_eq_true rfl) (Nat.le_of_ble_eq_true rfl) (Nat.le_of_ble_eq_true rfl) hlocks (fun t _ h1 h2 => ⟨(), trivial, rfl, xF hS h1 h2⟩) hS.2.2 (Nat.le_of_ble_eq_true rfl) (Nat.le_of_ble_eq_true rfl)
