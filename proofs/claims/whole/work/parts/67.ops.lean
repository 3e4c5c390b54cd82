/-! ===== one number put anew ===== -/
def pU (P : Nat → Nat → Nat) (r i x : Nat) : Nat → Nat → Nat := fun c d => if c = r ∧ d = i then x else P c d
theorem pU_eq (P : Nat → Nat → Nat) (r i x : Nat) : pU P r i x r i = x := by unfold pU; rw [if_pos ⟨rfl, rfl⟩]
theorem pU_ne {P : Nat → Nat → Nat} {r i x c d : Nat} (h : ¬ (c = r ∧ d = i)) : pU P r i x c d = P c d := by unfold pU; rw [if_neg h]
theorem upd_eq (f : Nat → Int32) (i : Nat) (x : Int32) : upd f i x i = x := by unfold upd; rw [if_pos rfl]
theorem upd_ne {f : Nat → Int32} {i j : Nat} {x : Int32} (h : j ≠ i) : upd f i x j = f j := by unfold upd; rw [if_neg h]
theorem CV.num {v : Nat → Nat → Int32} {P : Nat → Nat → Nat} (h : CV v P) {i n : Nat} {x : Int32} (hx : x = nI n) : CV (sS v i x) (pU P 0 i n) := by
  refine ⟨fun j hj => ?_, fun k hk => ?_⟩
  · rw [cp_0]
    by_cases e : j = i
    · subst e; rw [if_pos rfl, pU_eq]; exact hx
    · rw [if_neg e, pU_ne (fun z => e z.2)]; exact h.1 j hj
  · rw [cp_s _ v _ _ _ _ (by decide), cp_s _ v _ _ _ _ (by decide), cp_s _ v _ _ _ _ (by decide), cp_s _ v _ _ _ _ (by decide), cp_s _ v _ _ _ _ (by decide), pU_ne (by omega), pU_ne (by omega), pU_ne (by omega), pU_ne (by omega), pU_ne (by omega)]
    exact h.2 k hk
theorem CV.r1 {v : Nat → Nat → Int32} {P : Nat → Nat → Nat} (h : CV v P) {i n : Nat} {x : Int32} (hx : x = dn n) : CV (sR v 1 (upd (v 1) i x)) (pU P 1 i n) := by
  refine ⟨fun j hj => ?_, fun k hk => ⟨?_, ?_, ?_, ?_, ?_⟩⟩
  · rw [cp_r, if_neg (by decide), pU_ne (by omega)]; exact h.1 j hj
  · rw [cp_r, if_pos rfl]
    unfold upd
    by_cases e : k = i
    · subst e; rw [if_pos rfl, pU_eq]; exact hx
    · rw [if_neg e, pU_ne (fun z => e z.2)]; exact (h.2 k hk).1
  · rw [cp_r, if_neg (by decide), pU_ne (by omega)]; exact (h.2 k hk).2.1
  · rw [cp_r, if_neg (by decide), pU_ne (by omega)]; exact (h.2 k hk).2.2.1
  · rw [cp_r, if_neg (by decide), pU_ne (by omega)]; exact (h.2 k hk).2.2.2.1
  · rw [cp_r, if_neg (by decide), pU_ne (by omega)]; exact (h.2 k hk).2.2.2.2
theorem CV.r2 {v : Nat → Nat → Int32} {P : Nat → Nat → Nat} (h : CV v P) {i n : Nat} {x : Int32} (hx : x = nI n) : CV (sR v 2 (upd (v 2) i x)) (pU P 2 i n) := by
  refine ⟨fun j hj => ?_, fun k hk => ⟨?_, ?_, ?_, ?_, ?_⟩⟩
  · rw [cp_r, if_neg (by decide), pU_ne (by omega)]; exact h.1 j hj
  · rw [cp_r, if_neg (by decide), pU_ne (by omega)]; exact (h.2 k hk).1
  · rw [cp_r, if_pos rfl]
    unfold upd
    by_cases e : k = i
    · subst e; rw [if_pos rfl, pU_eq]; exact hx
    · rw [if_neg e, pU_ne (fun z => e z.2)]; exact (h.2 k hk).2.1
  · rw [cp_r, if_neg (by decide), pU_ne (by omega)]; exact (h.2 k hk).2.2.1
  · rw [cp_r, if_neg (by decide), pU_ne (by omega)]; exact (h.2 k hk).2.2.2.1
  · rw [cp_r, if_neg (by decide), pU_ne (by omega)]; exact (h.2 k hk).2.2.2.2
theorem CV.r3 {v : Nat → Nat → Int32} {P : Nat → Nat → Nat} (h : CV v P) {i n : Nat} {x : Int32} (hx : x = nI n) : CV (sR v 3 (upd (v 3) i x)) (pU P 3 i n) := by
  refine ⟨fun j hj => ?_, fun k hk => ⟨?_, ?_, ?_, ?_, ?_⟩⟩
  · rw [cp_r, if_neg (by decide), pU_ne (by omega)]; exact h.1 j hj
  · rw [cp_r, if_neg (by decide), pU_ne (by omega)]; exact (h.2 k hk).1
  · rw [cp_r, if_neg (by decide), pU_ne (by omega)]; exact (h.2 k hk).2.1
  · rw [cp_r, if_pos rfl]
    unfold upd
    by_cases e : k = i
    · subst e; rw [if_pos rfl, pU_eq]; exact hx
    · rw [if_neg e, pU_ne (fun z => e z.2)]; exact (h.2 k hk).2.2.1
  · rw [cp_r, if_neg (by decide), pU_ne (by omega)]; exact (h.2 k hk).2.2.2.1
  · rw [cp_r, if_neg (by decide), pU_ne (by omega)]; exact (h.2 k hk).2.2.2.2
theorem CV.r4 {v : Nat → Nat → Int32} {P : Nat → Nat → Nat} (h : CV v P) {i n : Nat} {x : Int32} (hx : x = dn n) : CV (sR v 4 (upd (v 4) i x)) (pU P 4 i n) := by
  refine ⟨fun j hj => ?_, fun k hk => ⟨?_, ?_, ?_, ?_, ?_⟩⟩
  · rw [cp_r, if_neg (by decide), pU_ne (by omega)]; exact h.1 j hj
  · rw [cp_r, if_neg (by decide), pU_ne (by omega)]; exact (h.2 k hk).1
  · rw [cp_r, if_neg (by decide), pU_ne (by omega)]; exact (h.2 k hk).2.1
  · rw [cp_r, if_neg (by decide), pU_ne (by omega)]; exact (h.2 k hk).2.2.1
  · rw [cp_r, if_pos rfl]
    unfold upd
    by_cases e : k = i
    · subst e; rw [if_pos rfl, pU_eq]; exact hx
    · rw [if_neg e, pU_ne (fun z => e z.2)]; exact (h.2 k hk).2.2.2.1
  · rw [cp_r, if_neg (by decide), pU_ne (by omega)]; exact (h.2 k hk).2.2.2.2
theorem CV.r5 {v : Nat → Nat → Int32} {P : Nat → Nat → Nat} (h : CV v P) {i n : Nat} {x : Int32} (hx : x = nI n) : CV (sR v 5 (upd (v 5) i x)) (pU P 5 i n) := by
  refine ⟨fun j hj => ?_, fun k hk => ⟨?_, ?_, ?_, ?_, ?_⟩⟩
  · rw [cp_r, if_neg (by decide), pU_ne (by omega)]; exact h.1 j hj
  · rw [cp_r, if_neg (by decide), pU_ne (by omega)]; exact (h.2 k hk).1
  · rw [cp_r, if_neg (by decide), pU_ne (by omega)]; exact (h.2 k hk).2.1
  · rw [cp_r, if_neg (by decide), pU_ne (by omega)]; exact (h.2 k hk).2.2.1
  · rw [cp_r, if_neg (by decide), pU_ne (by omega)]; exact (h.2 k hk).2.2.2.1
  · rw [cp_r, if_pos rfl]
    unfold upd
    by_cases e : k = i
    · subst e; rw [if_pos rfl, pU_eq]; exact hx
    · rw [if_neg e, pU_ne (fun z => e z.2)]; exact (h.2 k hk).2.2.2.2
theorem RV.congr {ms ms' : Nat → Int32} {b : Nat} {P : Nat → Nat → Nat} (h : RV ms b P) (e : ∀ j, b ≤ j → j < b + 58 → ms' j = ms j) : RV ms' b P := by
  obtain ⟨⟨h0, h1, h2, h3, h4, h5, h6, h7, h8, h9⟩, hk⟩ := h
  refine ⟨⟨(e _ (by omega) (by omega)).trans h0, (e _ (by omega) (by omega)).trans h1, (e _ (by omega) (by omega)).trans h2, (e _ (by omega) (by omega)).trans h3, (e _ (by omega) (by omega)).trans h4, (e _ (by omega) (by omega)).trans h5, (e _ (by omega) (by omega)).trans h6, (e _ (by omega) (by omega)).trans h7, (e _ (by omega) (by omega)).trans h8, (e _ (by omega) (by omega)).trans h9⟩, fun k hk8 => ?_⟩
  obtain ⟨g1, g2, g3, g4, g5, g6⟩ := hk k hk8
  exact ⟨(e _ (by omega) (by omega)).trans g1, (e _ (by omega) (by omega)).trans g2, (e _ (by omega) (by omega)).trans g3, fun z => (e _ (by omega) (by omega)).trans (g4 z), (e _ (by omega) (by omega)).trans g5, (e _ (by omega) (by omega)).trans g6⟩
theorem RV.off {ms : Nat → Int32} {b j : Nat} {x : Int32} {P : Nat → Nat → Nat} (h : RV ms b P) (hj : j < b ∨ b + 58 ≤ j) : RV (upd ms j x) b P := h.congr fun i h1 h2 => upd_ne (by omega)
theorem RV.n10 {ms : Nat → Int32} {b : Nat} {P : Nat → Nat → Nat} (h : RV ms b P) {n : Nat} {x : Int32} (hx : x = nI n) : RV (upd ms (b) x) b (pU P 0 10 n) := by
  obtain ⟨⟨h0, h1, h2, h3, h4, h5, h6, h7, h8, h9⟩, hk⟩ := h
  refine ⟨⟨?_, ?_, ?_, ?_, ?_, ?_, ?_, ?_, ?_, ?_⟩, fun k hk8 => ?_⟩
  · rw [upd_eq, pU_eq]; exact hx
  · rw [upd_ne (by omega), pU_ne (by omega)]; exact h1
  · rw [upd_ne (by omega), pU_ne (by omega)]; exact h2
  · rw [upd_ne (by omega), pU_ne (by omega)]; exact h3
  · rw [upd_ne (by omega), pU_ne (by omega)]; exact h4
  · rw [upd_ne (by omega), pU_ne (by omega)]; exact h5
  · rw [upd_ne (by omega), pU_ne (by omega)]; exact h6
  · rw [upd_ne (by omega), pU_ne (by omega)]; exact h7
  · rw [upd_ne (by omega), pU_ne (by omega)]; exact h8
  · rw [upd_ne (by omega), pU_ne (by omega)]; exact h9
  obtain ⟨g1, g2, g3, g4, g5, g6⟩ := hk k hk8
  refine ⟨?_, ?_, ?_, ?_, ?_, ?_⟩
  · rw [upd_ne (by omega), pU_ne (by omega)]; exact g1
  · rw [upd_ne (by omega), pU_ne (by omega)]; exact g2
  · rw [upd_ne (by omega), pU_ne (by omega)]; exact g3
  · intro z
    rw [pU_ne (by omega)] at z
    rw [upd_ne (by omega), pU_ne (by omega)]; exact g4 z
  · rw [upd_ne (by omega), pU_ne (by omega)]; exact g5
  · rw [upd_ne (by omega), pU_ne (by omega)]; exact g6
theorem RV.n0 {ms : Nat → Int32} {b : Nat} {P : Nat → Nat → Nat} (h : RV ms b P) {n : Nat} {x : Int32} (hx : x = nI n) : RV (upd ms (b + 1) x) b (pU P 0 0 n) := by
  obtain ⟨⟨h0, h1, h2, h3, h4, h5, h6, h7, h8, h9⟩, hk⟩ := h
  refine ⟨⟨?_, ?_, ?_, ?_, ?_, ?_, ?_, ?_, ?_, ?_⟩, fun k hk8 => ?_⟩
  · rw [upd_ne (by omega), pU_ne (by omega)]; exact h0
  · rw [upd_eq, pU_eq]; exact hx
  · rw [upd_ne (by omega), pU_ne (by omega)]; exact h2
  · rw [upd_ne (by omega), pU_ne (by omega)]; exact h3
  · rw [upd_ne (by omega), pU_ne (by omega)]; exact h4
  · rw [upd_ne (by omega), pU_ne (by omega)]; exact h5
  · rw [upd_ne (by omega), pU_ne (by omega)]; exact h6
  · rw [upd_ne (by omega), pU_ne (by omega)]; exact h7
  · rw [upd_ne (by omega), pU_ne (by omega)]; exact h8
  · rw [upd_ne (by omega), pU_ne (by omega)]; exact h9
  obtain ⟨g1, g2, g3, g4, g5, g6⟩ := hk k hk8
  refine ⟨?_, ?_, ?_, ?_, ?_, ?_⟩
  · rw [upd_ne (by omega), pU_ne (by omega)]; exact g1
  · rw [upd_ne (by omega), pU_ne (by omega)]; exact g2
  · rw [upd_ne (by omega), pU_ne (by omega)]; exact g3
  · intro z
    rw [pU_ne (by omega)] at z
    rw [upd_ne (by omega), pU_ne (by omega)]; exact g4 z
  · rw [upd_ne (by omega), pU_ne (by omega)]; exact g5
  · rw [upd_ne (by omega), pU_ne (by omega)]; exact g6
theorem RV.n1 {ms : Nat → Int32} {b : Nat} {P : Nat → Nat → Nat} (h : RV ms b P) {n : Nat} {x : Int32} (hx : x = nI n) : RV (upd ms (b + 2) x) b (pU P 0 1 n) := by
  obtain ⟨⟨h0, h1, h2, h3, h4, h5, h6, h7, h8, h9⟩, hk⟩ := h
  refine ⟨⟨?_, ?_, ?_, ?_, ?_, ?_, ?_, ?_, ?_, ?_⟩, fun k hk8 => ?_⟩
  · rw [upd_ne (by omega), pU_ne (by omega)]; exact h0
  · rw [upd_ne (by omega), pU_ne (by omega)]; exact h1
  · rw [upd_eq, pU_eq]; exact hx
  · rw [upd_ne (by omega), pU_ne (by omega)]; exact h3
  · rw [upd_ne (by omega), pU_ne (by omega)]; exact h4
  · rw [upd_ne (by omega), pU_ne (by omega)]; exact h5
  · rw [upd_ne (by omega), pU_ne (by omega)]; exact h6
  · rw [upd_ne (by omega), pU_ne (by omega)]; exact h7
  · rw [upd_ne (by omega), pU_ne (by omega)]; exact h8
  · rw [upd_ne (by omega), pU_ne (by omega)]; exact h9
  obtain ⟨g1, g2, g3, g4, g5, g6⟩ := hk k hk8
  refine ⟨?_, ?_, ?_, ?_, ?_, ?_⟩
  · rw [upd_ne (by omega), pU_ne (by omega)]; exact g1
  · rw [upd_ne (by omega), pU_ne (by omega)]; exact g2
  · rw [upd_ne (by omega), pU_ne (by omega)]; exact g3
  · intro z
    rw [pU_ne (by omega)] at z
    rw [upd_ne (by omega), pU_ne (by omega)]; exact g4 z
  · rw [upd_ne (by omega), pU_ne (by omega)]; exact g5
  · rw [upd_ne (by omega), pU_ne (by omega)]; exact g6
theorem RV.n4 {ms : Nat → Int32} {b : Nat} {P : Nat → Nat → Nat} (h : RV ms b P) {n : Nat} {x : Int32} (hx : x = nI n) : RV (upd ms (b + 27) x) b (pU P 0 4 n) := by
  obtain ⟨⟨h0, h1, h2, h3, h4, h5, h6, h7, h8, h9⟩, hk⟩ := h
  refine ⟨⟨?_, ?_, ?_, ?_, ?_, ?_, ?_, ?_, ?_, ?_⟩, fun k hk8 => ?_⟩
  · rw [upd_ne (by omega), pU_ne (by omega)]; exact h0
  · rw [upd_ne (by omega), pU_ne (by omega)]; exact h1
  · rw [upd_ne (by omega), pU_ne (by omega)]; exact h2
  · rw [upd_eq, pU_eq]; exact hx
  · rw [upd_ne (by omega), pU_ne (by omega)]; exact h4
  · rw [upd_ne (by omega), pU_ne (by omega)]; exact h5
  · rw [upd_ne (by omega), pU_ne (by omega)]; exact h6
  · rw [upd_ne (by omega), pU_ne (by omega)]; exact h7
  · rw [upd_ne (by omega), pU_ne (by omega)]; exact h8
  · rw [upd_ne (by omega), pU_ne (by omega)]; exact h9
  obtain ⟨g1, g2, g3, g4, g5, g6⟩ := hk k hk8
  refine ⟨?_, ?_, ?_, ?_, ?_, ?_⟩
  · rw [upd_ne (by omega), pU_ne (by omega)]; exact g1
  · rw [upd_ne (by omega), pU_ne (by omega)]; exact g2
  · rw [upd_ne (by omega), pU_ne (by omega)]; exact g3
  · intro z
    rw [pU_ne (by omega)] at z
    rw [upd_ne (by omega), pU_ne (by omega)]; exact g4 z
  · rw [upd_ne (by omega), pU_ne (by omega)]; exact g5
  · rw [upd_ne (by omega), pU_ne (by omega)]; exact g6
theorem RV.n5 {ms : Nat → Int32} {b : Nat} {P : Nat → Nat → Nat} (h : RV ms b P) {n : Nat} {x : Int32} (hx : x = nI n) : RV (upd ms (b + 28) x) b (pU P 0 5 n) := by
  obtain ⟨⟨h0, h1, h2, h3, h4, h5, h6, h7, h8, h9⟩, hk⟩ := h
  refine ⟨⟨?_, ?_, ?_, ?_, ?_, ?_, ?_, ?_, ?_, ?_⟩, fun k hk8 => ?_⟩
  · rw [upd_ne (by omega), pU_ne (by omega)]; exact h0
  · rw [upd_ne (by omega), pU_ne (by omega)]; exact h1
  · rw [upd_ne (by omega), pU_ne (by omega)]; exact h2
  · rw [upd_ne (by omega), pU_ne (by omega)]; exact h3
  · rw [upd_eq, pU_eq]; exact hx
  · rw [upd_ne (by omega), pU_ne (by omega)]; exact h5
  · rw [upd_ne (by omega), pU_ne (by omega)]; exact h6
  · rw [upd_ne (by omega), pU_ne (by omega)]; exact h7
  · rw [upd_ne (by omega), pU_ne (by omega)]; exact h8
  · rw [upd_ne (by omega), pU_ne (by omega)]; exact h9
  obtain ⟨g1, g2, g3, g4, g5, g6⟩ := hk k hk8
  refine ⟨?_, ?_, ?_, ?_, ?_, ?_⟩
  · rw [upd_ne (by omega), pU_ne (by omega)]; exact g1
  · rw [upd_ne (by omega), pU_ne (by omega)]; exact g2
  · rw [upd_ne (by omega), pU_ne (by omega)]; exact g3
  · intro z
    rw [pU_ne (by omega)] at z
    rw [upd_ne (by omega), pU_ne (by omega)]; exact g4 z
  · rw [upd_ne (by omega), pU_ne (by omega)]; exact g5
  · rw [upd_ne (by omega), pU_ne (by omega)]; exact g6
theorem RV.n6 {ms : Nat → Int32} {b : Nat} {P : Nat → Nat → Nat} (h : RV ms b P) {n : Nat} {x : Int32} (hx : x = nI n) : RV (upd ms (b + 29) x) b (pU P 0 6 n) := by
  obtain ⟨⟨h0, h1, h2, h3, h4, h5, h6, h7, h8, h9⟩, hk⟩ := h
  refine ⟨⟨?_, ?_, ?_, ?_, ?_, ?_, ?_, ?_, ?_, ?_⟩, fun k hk8 => ?_⟩
  · rw [upd_ne (by omega), pU_ne (by omega)]; exact h0
  · rw [upd_ne (by omega), pU_ne (by omega)]; exact h1
  · rw [upd_ne (by omega), pU_ne (by omega)]; exact h2
  · rw [upd_ne (by omega), pU_ne (by omega)]; exact h3
  · rw [upd_ne (by omega), pU_ne (by omega)]; exact h4
  · rw [upd_eq, pU_eq]; exact hx
  · rw [upd_ne (by omega), pU_ne (by omega)]; exact h6
  · rw [upd_ne (by omega), pU_ne (by omega)]; exact h7
  · rw [upd_ne (by omega), pU_ne (by omega)]; exact h8
  · rw [upd_ne (by omega), pU_ne (by omega)]; exact h9
  obtain ⟨g1, g2, g3, g4, g5, g6⟩ := hk k hk8
  refine ⟨?_, ?_, ?_, ?_, ?_, ?_⟩
  · rw [upd_ne (by omega), pU_ne (by omega)]; exact g1
  · rw [upd_ne (by omega), pU_ne (by omega)]; exact g2
  · rw [upd_ne (by omega), pU_ne (by omega)]; exact g3
  · intro z
    rw [pU_ne (by omega)] at z
    rw [upd_ne (by omega), pU_ne (by omega)]; exact g4 z
  · rw [upd_ne (by omega), pU_ne (by omega)]; exact g5
  · rw [upd_ne (by omega), pU_ne (by omega)]; exact g6
theorem RV.n7 {ms : Nat → Int32} {b : Nat} {P : Nat → Nat → Nat} (h : RV ms b P) {n : Nat} {x : Int32} (hx : x = nI n) : RV (upd ms (b + 30) x) b (pU P 0 7 n) := by
  obtain ⟨⟨h0, h1, h2, h3, h4, h5, h6, h7, h8, h9⟩, hk⟩ := h
  refine ⟨⟨?_, ?_, ?_, ?_, ?_, ?_, ?_, ?_, ?_, ?_⟩, fun k hk8 => ?_⟩
  · rw [upd_ne (by omega), pU_ne (by omega)]; exact h0
  · rw [upd_ne (by omega), pU_ne (by omega)]; exact h1
  · rw [upd_ne (by omega), pU_ne (by omega)]; exact h2
  · rw [upd_ne (by omega), pU_ne (by omega)]; exact h3
  · rw [upd_ne (by omega), pU_ne (by omega)]; exact h4
  · rw [upd_ne (by omega), pU_ne (by omega)]; exact h5
  · rw [upd_eq, pU_eq]; exact hx
  · rw [upd_ne (by omega), pU_ne (by omega)]; exact h7
  · rw [upd_ne (by omega), pU_ne (by omega)]; exact h8
  · rw [upd_ne (by omega), pU_ne (by omega)]; exact h9
  obtain ⟨g1, g2, g3, g4, g5, g6⟩ := hk k hk8
  refine ⟨?_, ?_, ?_, ?_, ?_, ?_⟩
  · rw [upd_ne (by omega), pU_ne (by omega)]; exact g1
  · rw [upd_ne (by omega), pU_ne (by omega)]; exact g2
  · rw [upd_ne (by omega), pU_ne (by omega)]; exact g3
  · intro z
    rw [pU_ne (by omega)] at z
    rw [upd_ne (by omega), pU_ne (by omega)]; exact g4 z
  · rw [upd_ne (by omega), pU_ne (by omega)]; exact g5
  · rw [upd_ne (by omega), pU_ne (by omega)]; exact g6
theorem RV.n3 {ms : Nat → Int32} {b : Nat} {P : Nat → Nat → Nat} (h : RV ms b P) {n : Nat} {x : Int32} (hx : x = nI n) : RV (upd ms (b + 31) x) b (pU P 0 3 n) := by
  obtain ⟨⟨h0, h1, h2, h3, h4, h5, h6, h7, h8, h9⟩, hk⟩ := h
  refine ⟨⟨?_, ?_, ?_, ?_, ?_, ?_, ?_, ?_, ?_, ?_⟩, fun k hk8 => ?_⟩
  · rw [upd_ne (by omega), pU_ne (by omega)]; exact h0
  · rw [upd_ne (by omega), pU_ne (by omega)]; exact h1
  · rw [upd_ne (by omega), pU_ne (by omega)]; exact h2
  · rw [upd_ne (by omega), pU_ne (by omega)]; exact h3
  · rw [upd_ne (by omega), pU_ne (by omega)]; exact h4
  · rw [upd_ne (by omega), pU_ne (by omega)]; exact h5
  · rw [upd_ne (by omega), pU_ne (by omega)]; exact h6
  · rw [upd_eq, pU_eq]; exact hx
  · rw [upd_ne (by omega), pU_ne (by omega)]; exact h8
  · rw [upd_ne (by omega), pU_ne (by omega)]; exact h9
  obtain ⟨g1, g2, g3, g4, g5, g6⟩ := hk k hk8
  refine ⟨?_, ?_, ?_, ?_, ?_, ?_⟩
  · rw [upd_ne (by omega), pU_ne (by omega)]; exact g1
  · rw [upd_ne (by omega), pU_ne (by omega)]; exact g2
  · rw [upd_ne (by omega), pU_ne (by omega)]; exact g3
  · intro z
    rw [pU_ne (by omega)] at z
    rw [upd_ne (by omega), pU_ne (by omega)]; exact g4 z
  · rw [upd_ne (by omega), pU_ne (by omega)]; exact g5
  · rw [upd_ne (by omega), pU_ne (by omega)]; exact g6
theorem RV.n8 {ms : Nat → Int32} {b : Nat} {P : Nat → Nat → Nat} (h : RV ms b P) {n : Nat} {x : Int32} (hx : x = nI n) : RV (upd ms (b + 56) x) b (pU P 0 8 n) := by
  obtain ⟨⟨h0, h1, h2, h3, h4, h5, h6, h7, h8, h9⟩, hk⟩ := h
  refine ⟨⟨?_, ?_, ?_, ?_, ?_, ?_, ?_, ?_, ?_, ?_⟩, fun k hk8 => ?_⟩
  · rw [upd_ne (by omega), pU_ne (by omega)]; exact h0
  · rw [upd_ne (by omega), pU_ne (by omega)]; exact h1
  · rw [upd_ne (by omega), pU_ne (by omega)]; exact h2
  · rw [upd_ne (by omega), pU_ne (by omega)]; exact h3
  · rw [upd_ne (by omega), pU_ne (by omega)]; exact h4
  · rw [upd_ne (by omega), pU_ne (by omega)]; exact h5
  · rw [upd_ne (by omega), pU_ne (by omega)]; exact h6
  · rw [upd_ne (by omega), pU_ne (by omega)]; exact h7
  · rw [upd_eq, pU_eq]; exact hx
  · rw [upd_ne (by omega), pU_ne (by omega)]; exact h9
  obtain ⟨g1, g2, g3, g4, g5, g6⟩ := hk k hk8
  refine ⟨?_, ?_, ?_, ?_, ?_, ?_⟩
  · rw [upd_ne (by omega), pU_ne (by omega)]; exact g1
  · rw [upd_ne (by omega), pU_ne (by omega)]; exact g2
  · rw [upd_ne (by omega), pU_ne (by omega)]; exact g3
  · intro z
    rw [pU_ne (by omega)] at z
    rw [upd_ne (by omega), pU_ne (by omega)]; exact g4 z
  · rw [upd_ne (by omega), pU_ne (by omega)]; exact g5
  · rw [upd_ne (by omega), pU_ne (by omega)]; exact g6
theorem RV.n9 {ms : Nat → Int32} {b : Nat} {P : Nat → Nat → Nat} (h : RV ms b P) {n : Nat} {x : Int32} (hx : x = nI n) : RV (upd ms (b + 57) x) b (pU P 0 9 n) := by
  obtain ⟨⟨h0, h1, h2, h3, h4, h5, h6, h7, h8, h9⟩, hk⟩ := h
  refine ⟨⟨?_, ?_, ?_, ?_, ?_, ?_, ?_, ?_, ?_, ?_⟩, fun k hk8 => ?_⟩
  · rw [upd_ne (by omega), pU_ne (by omega)]; exact h0
  · rw [upd_ne (by omega), pU_ne (by omega)]; exact h1
  · rw [upd_ne (by omega), pU_ne (by omega)]; exact h2
  · rw [upd_ne (by omega), pU_ne (by omega)]; exact h3
  · rw [upd_ne (by omega), pU_ne (by omega)]; exact h4
  · rw [upd_ne (by omega), pU_ne (by omega)]; exact h5
  · rw [upd_ne (by omega), pU_ne (by omega)]; exact h6
  · rw [upd_ne (by omega), pU_ne (by omega)]; exact h7
  · rw [upd_ne (by omega), pU_ne (by omega)]; exact h8
  · rw [upd_eq, pU_eq]; exact hx
  obtain ⟨g1, g2, g3, g4, g5, g6⟩ := hk k hk8
  refine ⟨?_, ?_, ?_, ?_, ?_, ?_⟩
  · rw [upd_ne (by omega), pU_ne (by omega)]; exact g1
  · rw [upd_ne (by omega), pU_ne (by omega)]; exact g2
  · rw [upd_ne (by omega), pU_ne (by omega)]; exact g3
  · intro z
    rw [pU_ne (by omega)] at z
    rw [upd_ne (by omega), pU_ne (by omega)]; exact g4 z
  · rw [upd_ne (by omega), pU_ne (by omega)]; exact g5
  · rw [upd_ne (by omega), pU_ne (by omega)]; exact g6
theorem RV.r1 {ms : Nat → Int32} {b : Nat} {P : Nat → Nat → Nat} (h : RV ms b P) {n i : Nat} (hi : i < 8) {x : Int32} (hx : x = dn n) : RV (upd ms (b + 3 + i) x) b (pU P 1 i n) := by
  obtain ⟨⟨h0, h1, h2, h3, h4, h5, h6, h7, h8, h9⟩, hk⟩ := h
  refine ⟨⟨?_, ?_, ?_, ?_, ?_, ?_, ?_, ?_, ?_, ?_⟩, fun k hk8 => ?_⟩
  · rw [upd_ne (by omega), pU_ne (by omega)]; exact h0
  · rw [upd_ne (by omega), pU_ne (by omega)]; exact h1
  · rw [upd_ne (by omega), pU_ne (by omega)]; exact h2
  · rw [upd_ne (by omega), pU_ne (by omega)]; exact h3
  · rw [upd_ne (by omega), pU_ne (by omega)]; exact h4
  · rw [upd_ne (by omega), pU_ne (by omega)]; exact h5
  · rw [upd_ne (by omega), pU_ne (by omega)]; exact h6
  · rw [upd_ne (by omega), pU_ne (by omega)]; exact h7
  · rw [upd_ne (by omega), pU_ne (by omega)]; exact h8
  · rw [upd_ne (by omega), pU_ne (by omega)]; exact h9
  obtain ⟨g1, g2, g3, g4, g5, g6⟩ := hk k hk8
  refine ⟨?_, ?_, ?_, ?_, ?_, ?_⟩
  · by_cases e : k = i
    · subst e; rw [upd_eq, pU_eq]; exact hx
    · rw [upd_ne (by omega), pU_ne (by omega)]; exact g1
  · rw [upd_ne (by omega), pU_ne (by omega)]; exact g2
  · rw [upd_ne (by omega), pU_ne (by omega)]; exact g3
  · intro z
    rw [pU_ne (by omega)] at z
    rw [upd_ne (by omega), pU_ne (by omega)]; exact g4 z
  · rw [upd_ne (by omega), pU_ne (by omega)]; exact g5
  · rw [upd_ne (by omega), pU_ne (by omega)]; exact g6
theorem RV.r2 {ms : Nat → Int32} {b : Nat} {P : Nat → Nat → Nat} (h : RV ms b P) {n i : Nat} (hi : i < 8) {x : Int32} (hx : x = nI n) : RV (upd ms (b + 11 + i) x) b (pU P 2 i n) := by
  obtain ⟨⟨h0, h1, h2, h3, h4, h5, h6, h7, h8, h9⟩, hk⟩ := h
  refine ⟨⟨?_, ?_, ?_, ?_, ?_, ?_, ?_, ?_, ?_, ?_⟩, fun k hk8 => ?_⟩
  · rw [upd_ne (by omega), pU_ne (by omega)]; exact h0
  · rw [upd_ne (by omega), pU_ne (by omega)]; exact h1
  · rw [upd_ne (by omega), pU_ne (by omega)]; exact h2
  · rw [upd_ne (by omega), pU_ne (by omega)]; exact h3
  · rw [upd_ne (by omega), pU_ne (by omega)]; exact h4
  · rw [upd_ne (by omega), pU_ne (by omega)]; exact h5
  · rw [upd_ne (by omega), pU_ne (by omega)]; exact h6
  · rw [upd_ne (by omega), pU_ne (by omega)]; exact h7
  · rw [upd_ne (by omega), pU_ne (by omega)]; exact h8
  · rw [upd_ne (by omega), pU_ne (by omega)]; exact h9
  obtain ⟨g1, g2, g3, g4, g5, g6⟩ := hk k hk8
  refine ⟨?_, ?_, ?_, ?_, ?_, ?_⟩
  · rw [upd_ne (by omega), pU_ne (by omega)]; exact g1
  · by_cases e : k = i
    · subst e; rw [upd_eq, pU_eq]; exact hx
    · rw [upd_ne (by omega), pU_ne (by omega)]; exact g2
  · rw [upd_ne (by omega), pU_ne (by omega)]; exact g3
  · intro z
    rw [pU_ne (by omega)] at z
    rw [upd_ne (by omega), pU_ne (by omega)]; exact g4 z
  · rw [upd_ne (by omega), pU_ne (by omega)]; exact g5
  · rw [upd_ne (by omega), pU_ne (by omega)]; exact g6
theorem RV.r3 {ms : Nat → Int32} {b : Nat} {P : Nat → Nat → Nat} (h : RV ms b P) {n i : Nat} (hi : i < 8) {x : Int32} (hx : x = nI n) : RV (upd ms (b + 19 + i) x) b (pU P 3 i n) := by
  obtain ⟨⟨h0, h1, h2, h3, h4, h5, h6, h7, h8, h9⟩, hk⟩ := h
  refine ⟨⟨?_, ?_, ?_, ?_, ?_, ?_, ?_, ?_, ?_, ?_⟩, fun k hk8 => ?_⟩
  · rw [upd_ne (by omega), pU_ne (by omega)]; exact h0
  · rw [upd_ne (by omega), pU_ne (by omega)]; exact h1
  · rw [upd_ne (by omega), pU_ne (by omega)]; exact h2
  · rw [upd_ne (by omega), pU_ne (by omega)]; exact h3
  · rw [upd_ne (by omega), pU_ne (by omega)]; exact h4
  · rw [upd_ne (by omega), pU_ne (by omega)]; exact h5
  · rw [upd_ne (by omega), pU_ne (by omega)]; exact h6
  · rw [upd_ne (by omega), pU_ne (by omega)]; exact h7
  · rw [upd_ne (by omega), pU_ne (by omega)]; exact h8
  · rw [upd_ne (by omega), pU_ne (by omega)]; exact h9
  obtain ⟨g1, g2, g3, g4, g5, g6⟩ := hk k hk8
  refine ⟨?_, ?_, ?_, ?_, ?_, ?_⟩
  · rw [upd_ne (by omega), pU_ne (by omega)]; exact g1
  · rw [upd_ne (by omega), pU_ne (by omega)]; exact g2
  · by_cases e : k = i
    · subst e; rw [upd_eq, pU_eq]; exact hx
    · rw [upd_ne (by omega), pU_ne (by omega)]; exact g3
  · intro z
    rw [pU_ne (by omega)] at z
    rw [upd_ne (by omega), pU_ne (by omega)]; exact g4 z
  · rw [upd_ne (by omega), pU_ne (by omega)]; exact g5
  · rw [upd_ne (by omega), pU_ne (by omega)]; exact g6
theorem RV.r5 {ms : Nat → Int32} {b : Nat} {P : Nat → Nat → Nat} (h : RV ms b P) {n i : Nat} (hi : i < 8) {x : Int32} (hx : x = nI n) : RV (upd ms (b + 32 + i) x) b (pU P 5 i n) := by
  obtain ⟨⟨h0, h1, h2, h3, h4, h5, h6, h7, h8, h9⟩, hk⟩ := h
  refine ⟨⟨?_, ?_, ?_, ?_, ?_, ?_, ?_, ?_, ?_, ?_⟩, fun k hk8 => ?_⟩
  · rw [upd_ne (by omega), pU_ne (by omega)]; exact h0
  · rw [upd_ne (by omega), pU_ne (by omega)]; exact h1
  · rw [upd_ne (by omega), pU_ne (by omega)]; exact h2
  · rw [upd_ne (by omega), pU_ne (by omega)]; exact h3
  · rw [upd_ne (by omega), pU_ne (by omega)]; exact h4
  · rw [upd_ne (by omega), pU_ne (by omega)]; exact h5
  · rw [upd_ne (by omega), pU_ne (by omega)]; exact h6
  · rw [upd_ne (by omega), pU_ne (by omega)]; exact h7
  · rw [upd_ne (by omega), pU_ne (by omega)]; exact h8
  · rw [upd_ne (by omega), pU_ne (by omega)]; exact h9
  obtain ⟨g1, g2, g3, g4, g5, g6⟩ := hk k hk8
  refine ⟨?_, ?_, ?_, ?_, ?_, ?_⟩
  · rw [upd_ne (by omega), pU_ne (by omega)]; exact g1
  · rw [upd_ne (by omega), pU_ne (by omega)]; exact g2
  · rw [upd_ne (by omega), pU_ne (by omega)]; exact g3
  · intro z
    rw [pU_ne (by omega)] at z
    by_cases e : k = i
    · subst e; rw [upd_eq, pU_eq]; exact hx
    · rw [upd_ne (by omega), pU_ne (by omega)]; exact g4 z
  · rw [upd_ne (by omega), pU_ne (by omega)]; exact g5
  · rw [upd_ne (by omega), pU_ne (by omega)]; exact g6
theorem RV.r4 {ms : Nat → Int32} {b : Nat} {P : Nat → Nat → Nat} (h : RV ms b P) {n i : Nat} (hi : i < 8) (hv : ∀ k, k = i → n ≠ 0 → ms (b + 32 + k) = nI (P 5 k)) {x : Int32} (hx : x = dn n) : RV (upd ms (b + 40 + i) x) b (pU P 4 i n) := by
  obtain ⟨⟨h0, h1, h2, h3, h4, h5, h6, h7, h8, h9⟩, hk⟩ := h
  refine ⟨⟨?_, ?_, ?_, ?_, ?_, ?_, ?_, ?_, ?_, ?_⟩, fun k hk8 => ?_⟩
  · rw [upd_ne (by omega), pU_ne (by omega)]; exact h0
  · rw [upd_ne (by omega), pU_ne (by omega)]; exact h1
  · rw [upd_ne (by omega), pU_ne (by omega)]; exact h2
  · rw [upd_ne (by omega), pU_ne (by omega)]; exact h3
  · rw [upd_ne (by omega), pU_ne (by omega)]; exact h4
  · rw [upd_ne (by omega), pU_ne (by omega)]; exact h5
  · rw [upd_ne (by omega), pU_ne (by omega)]; exact h6
  · rw [upd_ne (by omega), pU_ne (by omega)]; exact h7
  · rw [upd_ne (by omega), pU_ne (by omega)]; exact h8
  · rw [upd_ne (by omega), pU_ne (by omega)]; exact h9
  obtain ⟨g1, g2, g3, g4, g5, g6⟩ := hk k hk8
  refine ⟨?_, ?_, ?_, ?_, ?_, ?_⟩
  · rw [upd_ne (by omega), pU_ne (by omega)]; exact g1
  · rw [upd_ne (by omega), pU_ne (by omega)]; exact g2
  · rw [upd_ne (by omega), pU_ne (by omega)]; exact g3
  · intro z
    rw [upd_ne (by omega), pU_ne (by omega)]
    by_cases e : k = i
    · exact hv k e (by rw [e, pU_eq] at z; exact z)
    · rw [pU_ne (by omega)] at z; exact g4 z
  · by_cases e : k = i
    · subst e; rw [upd_eq, pU_eq]; exact hx
    · rw [upd_ne (by omega), pU_ne (by omega)]; exact g5
  · rw [upd_ne (by omega), pU_ne (by omega)]; exact g6
/-- the forged shares: a cell each in the reference, a bit each in the class -/
theorem RV.fg {ms : Nat → Int32} {b : Nat} {P : Nat → Nat → Nat} (h : RV ms b P) {i n : Nat} (hi : i < 8) {x : Int32} (hn : ∀ k, k < 8 → n.testBit k = if k = i then decide (x = nI 1) else (P 0 2).testBit k) (hx : x = nI 0 ∨ x = nI 1) : RV (upd ms (b + 48 + i) x) b (pU P 0 2 n) := by
  obtain ⟨⟨h0, h1, h2, h3, h4, h5, h6, h7, h8, h9⟩, hk⟩ := h
  refine ⟨⟨?_, ?_, ?_, ?_, ?_, ?_, ?_, ?_, ?_, ?_⟩, fun k hk8 => ?_⟩
  · rw [upd_ne (by omega), pU_ne (by omega)]; exact h0
  · rw [upd_ne (by omega), pU_ne (by omega)]; exact h1
  · rw [upd_ne (by omega), pU_ne (by omega)]; exact h2
  · rw [upd_ne (by omega), pU_ne (by omega)]; exact h3
  · rw [upd_ne (by omega), pU_ne (by omega)]; exact h4
  · rw [upd_ne (by omega), pU_ne (by omega)]; exact h5
  · rw [upd_ne (by omega), pU_ne (by omega)]; exact h6
  · rw [upd_ne (by omega), pU_ne (by omega)]; exact h7
  · rw [upd_ne (by omega), pU_ne (by omega)]; exact h8
  · rw [upd_ne (by omega), pU_ne (by omega)]; exact h9
  obtain ⟨g1, g2, g3, g4, g5, g6⟩ := hk k hk8
  refine ⟨?_, ?_, ?_, ?_, ?_, ?_⟩
  · rw [upd_ne (by omega), pU_ne (by omega)]; exact g1
  · rw [upd_ne (by omega), pU_ne (by omega)]; exact g2
  · rw [upd_ne (by omega), pU_ne (by omega)]; exact g3
  · intro z
    rw [pU_ne (by omega)] at z
    rw [upd_ne (by omega), pU_ne (by omega)]; exact g4 z
  · rw [upd_ne (by omega), pU_ne (by omega)]; exact g5
  · rw [pU_eq, hn k hk8]
    by_cases e : k = i
    · subst e
      rw [upd_eq, if_pos rfl]
      rcases hx with rfl | rfl <;> decide
    · rw [upd_ne (by omega), if_neg e]; exact g6
