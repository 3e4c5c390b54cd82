/-! ===== groups, the smallest one ===== -/
def cntF (C : Nat → Bool) : Nat → Nat → Nat
  | 0, _ => 0
  | n + 1, i => (if C i then 1 else 0) + cntF C n (i + 1)
theorem cntF_le (C : Nat → Bool) : ∀ n i, cntF C n i ≤ n := by
  intro n
  induction n with
  | zero => intro i; simp [cntF]
  | succ n ih => intro i; simp only [cntF]; have := ih (i + 1); split <;> omega
theorem cntF_pos (C : Nat → Bool) : ∀ n i, 0 < cntF C n i ↔ anyF C n i = true := by
  intro n
  induction n with
  | zero => intro i; simp [cntF, anyF]
  | succ n ih =>
    intro i
    simp only [cntF, anyF, Bool.or_eq_true]
    rw [← ih (i + 1)]
    by_cases h : C i = true
    · simp [h]; omega
    · simp [h]
theorem cntF_congr {C D : Nat → Bool} : ∀ {n i : Nat}, (∀ k, i ≤ k → k < i + n → C k = D k) → cntF C n i = cntF D n i := by
  intro n
  induction n with
  | zero => intro i _; rfl
  | succ n ih =>
    intro i h
    simp only [cntF]
    rw [h i (by omega) (by omega), ih (fun k h1 h2 => h k (by omega) (by omega))]
theorem cntF_add {C D E : Nat → Bool} : ∀ {n i : Nat}, (∀ k, i ≤ k → k < i + n → ((if E k then 1 else 0) = (if C k then 1 else 0) + (if D k then 1 else 0 : Nat))) → cntF E n i = cntF C n i + cntF D n i := by
  intro n
  induction n with
  | zero => intro i _; rfl
  | succ n ih =>
    intro i h
    simp only [cntF]
    rw [h i (by omega) (by omega), ih (fun k h1 h2 => h k (by omega) (by omega))]
    omega
def bI (c : Bool) : Int32 := nI (if c then 1 else 0)
theorem bI0 (c : Bool) : bI c = 0 ↔ c = false := b01z c
def grN (P : Nat → Nat → Nat) : Nat := cntF (opB P) 255 1
theorem grN_le (P : Nat → Nat → Nat) : grN P ≤ 255 := cntF_le _ _ _
theorem cond_b {c : Bool} {x y : Nat} : (if c = true then x else y) = (if c then x else y) := rfl
theorem groups_n {v : Nat → Nat → Int32} {P : Nat → Nat → Nat} (hC : CV v P) (hW : WF P) {ck : Nat → Int32} (hK : CK ck P) {o p : Nat → Int32} (ho : o 0 = 0) (hp : p 0 = 0) :
    (fX4_groups v ck o p).1 = nI (grN P) ∧ (fX4_groups v ck o p).2 = fX3_look o p v := by
  have hL := look_n hC hW ho hp
  unfold fX4_groups
  simp only []
  generalize fX3_look o p v = L at hL ⊢
  have key : ∀ n i x, i + n = 256 → 1 ≤ i → fX4_groups_L15 v ck L n i (nI x) = (nI (x + cntF (opB P) n i), L.1, L.2) := by
    intro n
    induction n with
    | zero => intro i x _ _; rfl
    | succ n ih =>
      intro i x hi h1
      simp only [fX4_groups_L15, cntF]
      by_cases c : opB P i = false
      · rw [if_pos ((couldOpen_n hC hW hK hL h1 (by omega)).mpr c), ih (i + 1) _ (by omega) (by omega), c]
        simp
      · have c' : opB P i = true := by simpa using c
        rw [if_neg (fun z => c ((couldOpen_n hC hW hK hL h1 (by omega)).mp z)), nI_add, ih (i + 1) _ (by omega) (by omega), c']
        simp [Nat.add_assoc]
  have h := key 255 1 0 rfl (by decide)
  rw [Nat.zero_add] at h
  rw [show (nI 0) = nI 0 from rfl, h]
  exact ⟨rfl, rfl⟩
theorem anyCould_n {v : Nat → Nat → Int32} {P : Nat → Nat → Nat} (hC : CV v P) (hW : WF P) {ck : Nat → Int32} (hK : CK ck P) {o p : Nat → Int32} (ho : o 0 = 0) (hp : p 0 = 0) :
    ((fX4_anyCouldOpen ck o p v).1 = 0 ↔ grN P = 0) ∧ (fX4_anyCouldOpen ck o p v).2 = fX3_look o p v := by
  have hL := look_n hC hW ho hp
  unfold fX4_anyCouldOpen
  simp only []
  generalize fX3_look o p v = L at hL ⊢
  have key : ∀ n i, i + n = 256 → 1 ≤ i → fX4_anyCouldOpen_L10 ck v L n i = (bI (anyF (opB P) n i), L.1, L.2) := by
    intro n
    induction n with
    | zero => intro i _ _; rfl
    | succ n ih =>
      intro i hi h1
      simp only [fX4_anyCouldOpen_L10, anyF]
      by_cases c : opB P i = false
      · rw [if_pos ((couldOpen_n hC hW hK hL h1 (by omega)).mpr c), ih (i + 1) (by omega) (by omega), c, Bool.false_or]
      · have c' : opB P i = true := by simpa using c
        rw [if_neg (fun z => c ((couldOpen_n hC hW hK hL h1 (by omega)).mp z)), c', Bool.true_or]
        rfl
  have h := key 255 1 rfl (by decide)
  rw [h]
  refine ⟨?_, rfl⟩
  show bI (anyF (opB P) 255 1) = 0 ↔ _
  rw [bI0]
  have h2 := cntF_pos (opB P) 255 1
  show _ ↔ cntF (opB P) 255 1 = 0
  cases hc : anyF (opB P) 255 1 with
  | false => rw [hc] at h2; simp only [true_iff]; have : ¬ 0 < cntF (opB P) 255 1 := fun z => absurd (h2.mp z) (by decide); omega
  | true => have := h2.mpr hc; constructor
            · intro z; cases z
            · intro z; omega
/-- the smallest: 0 stands for none -/
def smR (C : Nat → Bool) (lo hi b : Nat) : Prop := (b = 0 ∧ ∀ g, lo ≤ g → g < hi → C g = false) ∨ (lo ≤ b ∧ b < hi ∧ C b = true ∧ ∀ g, lo ≤ g → g < hi → C g = true → pop b < pop g ∨ (pop b = pop g ∧ b ≤ g))
theorem smR_uniq {C : Nat → Bool} {lo hi b d : Nat} (hlo : 1 ≤ lo) (h1 : smR C lo hi b) (h2 : smR C lo hi d) : b = d := by
  rcases h1 with ⟨e1, f1⟩ | ⟨a1, a2, a3, a4⟩ <;> rcases h2 with ⟨e2, f2⟩ | ⟨b1, b2, b3, b4⟩
  · omega
  · rw [f1 d b1 b2] at b3; cases b3
  · rw [f2 b a1 a2] at a3; cases a3
  · have x1 := a4 d b1 b2 b3
    have x2 := b4 b a1 a2 a3
    omega
def upS (C : Nat → Bool) : Nat → Nat → Nat → Nat
  | 0, _, b => b
  | n + 1, i, b => upS C n (i + 1) (if C i then (if b = 0 then i else if pop b ≤ pop i then b else i) else b)
def doS (C : Nat → Bool) : Nat → Nat → Nat
  | 0, b => b
  | n + 1, b => doS C n (if C (n + 1) then (if b = 0 then n + 1 else if pop b < pop (n + 1) then b else n + 1) else b)
theorem upS_r (C : Nat → Bool) : ∀ n i b, i + n = 256 → 1 ≤ i → smR C 1 i b → smR C 1 256 (upS C n i b) := by
  intro n
  induction n with
  | zero => intro i b hi h1 hb; have : i = 256 := by omega
            subst this; exact hb
  | succ n ih =>
    intro i b hi h1 hb
    simp only [upS]
    refine ih (i + 1) _ (by omega) (by omega) ?_
    by_cases c : C i = true
    · rw [if_pos c]
      rcases hb with ⟨e1, f1⟩ | ⟨a1, a2, a3, a4⟩
      · rw [if_pos e1]
        refine Or.inr ⟨h1, by omega, c, fun g g1 g2 g3 => ?_⟩
        by_cases e : g = i
        · subst e; omega
        · rw [f1 g g1 (by omega)] at g3; cases g3
      · rw [if_neg (by omega)]
        by_cases hp : pop b ≤ pop i
        · rw [if_pos hp]
          refine Or.inr ⟨a1, by omega, a3, fun g g1 g2 g3 => ?_⟩
          by_cases e : g = i
          · subst e; omega
          · exact a4 g g1 (by omega) g3
        · rw [if_neg hp]
          refine Or.inr ⟨h1, by omega, c, fun g g1 g2 g3 => ?_⟩
          by_cases e : g = i
          · subst e; omega
          · have := a4 g g1 (by omega) g3; omega
    · rw [if_neg c]
      have c' : C i = false := by simpa using c
      rcases hb with ⟨e1, f1⟩ | ⟨a1, a2, a3, a4⟩
      · refine Or.inl ⟨e1, fun g g1 g2 => ?_⟩
        by_cases e : g = i
        · subst e; exact c'
        · exact f1 g g1 (by omega)
      · refine Or.inr ⟨a1, by omega, a3, fun g g1 g2 g3 => ?_⟩
        by_cases e : g = i
        · subst e; rw [c'] at g3; cases g3
        · exact a4 g g1 (by omega) g3
theorem doS_r (C : Nat → Bool) : ∀ n b, n ≤ 255 → smR C (n + 1) 256 b → smR C 1 256 (doS C n b) := by
  intro n
  induction n with
  | zero => intro b _ hb; exact hb
  | succ n ih =>
    intro b hn hb
    simp only [doS]
    refine ih _ (by omega) ?_
    by_cases c : C (n + 1) = true
    · rw [if_pos c]
      rcases hb with ⟨e1, f1⟩ | ⟨a1, a2, a3, a4⟩
      · rw [if_pos e1]
        refine Or.inr ⟨by omega, by omega, c, fun g g1 g2 g3 => ?_⟩
        by_cases e : g = n + 1
        · subst e; omega
        · rw [f1 g (by omega) g2] at g3; cases g3
      · rw [if_neg (by omega)]
        by_cases hp : pop b < pop (n + 1)
        · rw [if_pos hp]
          refine Or.inr ⟨by omega, by omega, a3, fun g g1 g2 g3 => ?_⟩
          by_cases e : g = n + 1
          · subst e; omega
          · exact a4 g (by omega) g2 g3
        · rw [if_neg hp]
          refine Or.inr ⟨by omega, by omega, c, fun g g1 g2 g3 => ?_⟩
          by_cases e : g = n + 1
          · subst e; omega
          · have := a4 g (by omega) g2 g3; omega
    · rw [if_neg c]
      have c' : C (n + 1) = false := by simpa using c
      rcases hb with ⟨e1, f1⟩ | ⟨a1, a2, a3, a4⟩
      · refine Or.inl ⟨e1, fun g g1 g2 => ?_⟩
        by_cases e : g = n + 1
        · subst e; exact c'
        · exact f1 g (by omega) g2
      · refine Or.inr ⟨by omega, a2, a3, fun g g1 g2 g3 => ?_⟩
        by_cases e : g = n + 1
        · subst e; rw [c'] at g3; cases g3
        · exact a4 g (by omega) g2 g3
theorem sm_same (C : Nat → Bool) : upS C 255 1 0 = doS C 255 0 :=
  smR_uniq (Nat.le_refl 1) (upS_r C 255 1 0 rfl (Nat.le_refl 1) (Or.inl ⟨rfl, fun g h1 h2 => by omega⟩)) (doS_r C 255 0 (Nat.le_refl _) (Or.inl ⟨rfl, fun g h1 h2 => by omega⟩))
def maskI (b : Nat) : Int32 := if b = 0 then -1 else nI b
theorem maskI_neg : ∀ b, b < 256 → (maskI b < 0 ↔ b = 0) ∧ (maskI b = -1 ↔ b = 0) ∧ (0 ≤ maskI b ↔ b ≠ 0) := by decide +kernel
theorem maskI_s {b : Nat} (h : b ≠ 0) : maskI b = nI b := by unfold maskI; rw [if_neg h]
theorem upS_lt (C : Nat → Bool) : ∀ n i b, i + n = 256 → b < 256 → upS C n i b < 256 := by
  intro n
  induction n with
  | zero => intro i b _ hb; exact hb
  | succ n ih =>
    intro i b hi hb
    simp only [upS]
    refine ih (i + 1) _ (by omega) ?_
    (repeat' split) <;> omega
theorem doS_lt (C : Nat → Bool) : ∀ n b, n < 256 → b < 256 → doS C n b < 256 := by
  intro n
  induction n with
  | zero => intro b _ hb; exact hb
  | succ n ih =>
    intro b hi hb
    simp only [doS]
    refine ih _ (by omega) ?_
    (repeat' split) <;> omega
def smN (P : Nat → Nat → Nat) : Nat := upS (opB P) 255 1 0
theorem smN_lt (P : Nat → Nat → Nat) : smN P < 256 := upS_lt _ 255 1 0 rfl (by decide)
def smO (b : Nat) (w : Int32) : Int32 := if b = 0 then -1 else if w = 0 then nI (pop b) else nI b
def smA (P : Nat → Nat → Nat) (w : Int32) : Int32 := smO (smN P) w
theorem smallest_n {v : Nat → Nat → Int32} {P : Nat → Nat → Nat} (hC : CV v P) (hW : WF P) {ck : Nat → Int32} (hK : CK ck P) {o p : Nat → Int32} (ho : o 0 = 0) (hp : p 0 = 0) {w : Int32} (hw : w = nI 0 ∨ w = nI 1) :
    (fX4_smallest v ck o p w).1 = smA P w ∧ (fX4_smallest v ck o p w).2 = fX3_look o p v := by
  have hL := look_n hC hW ho hp
  unfold fX4_smallest smA smN
  simp only []
  generalize fX3_look o p v = L at hL ⊢
  have key : ∀ n i b, i + n = 256 → 1 ≤ i → b < 256 → fX4_smallest_L21 v ck w L n i (maskI b) = (smO (upS (opB P) n i b) w, L.1, L.2) := by
    intro n
    induction n with
    | zero =>
      intro i b _ _ hb
      simp only [fX4_smallest_L21, upS]
      obtain ⟨m1, m2, m3⟩ := maskI_neg b hb
      unfold smO
      rcases hw with rfl | rfl
      · rw [if_neg (by decide)]
        by_cases e : b = 0
        · rw [if_pos (m2.mpr e), if_pos e, e]; rfl
        · rw [if_neg (fun z => e (m2.mp z)), if_neg e, if_pos (by decide), maskI_s e, fbit_pop b hb]
      · rw [if_pos rfl]
        by_cases e : b = 0
        · rw [if_pos e, e]; rfl
        · rw [if_neg e, if_neg (by decide), maskI_s e]
    | succ n ih =>
      intro i b hi h1 hb
      simp only [fX4_smallest_L21, upS]
      obtain ⟨m1, m2, m3⟩ := maskI_neg b hb
      have en : nI i = maskI i := by rw [maskI_s (by omega)]
      by_cases c : opB P i = false
      · rw [if_pos ((couldOpen_n hC hW hK hL h1 (by omega)).mpr c), c, if_neg (by decide)]
        exact ih (i + 1) b (by omega) (by omega) hb
      · have c' : opB P i = true := by simpa using c
        rw [if_neg (fun z => c ((couldOpen_n hC hW hK hL h1 (by omega)).mp z)), c', if_pos rfl]
        by_cases e : b = 0
        · rw [if_pos (m2.mpr e), if_pos e, en]; exact ih (i + 1) i (by omega) (by omega) (by omega)
        · have p1 := pop_le b
          have p2 := pop_le i
          rw [if_neg (fun z => e (m2.mp z)), if_neg e, fbit_pop i (by omega)]
          have eb : fbit (maskI b) = nI (pop b) := by rw [maskI_s e, fbit_pop b hb]
          rw [eb]
          by_cases hp : pop b ≤ pop i
          · rw [if_pos ((nI_leI (by omega) (by omega)).mpr hp), if_pos hp]; exact ih (i + 1) b (by omega) (by omega) hb
          · rw [if_neg (fun z => hp ((nI_leI (by omega) (by omega)).mp z)), if_neg hp, en]; exact ih (i + 1) i (by omega) (by omega) (by omega)
  have h := key 255 1 0 rfl (by decide) (by decide)
  rw [show (-1 : Int32) = maskI 0 from rfl, h]
  exact ⟨rfl, rfl⟩
