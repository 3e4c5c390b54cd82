/-! ===== one number put anew ===== -/
def pU (P : Nat → Nat → Nat) (r i x : Nat) : Nat → Nat → Nat := fun c d => if c = r ∧ d = i then x else P c d
theorem pU_eq (P : Nat → Nat → Nat) (r i x : Nat) : pU P r i x r i = x := by unfold pU; rw [if_pos ⟨rfl, rfl⟩]
theorem pU_ne {P : Nat → Nat → Nat} {r i x c d : Nat} (h : ¬ (c = r ∧ d = i)) : pU P r i x c d = P c d := by unfold pU; rw [if_neg h]
theorem upd_eq (f : Nat → Int32) (i : Nat) (x : Int32) : upd f i x i = x := by unfold upd; rw [if_pos rfl]
theorem upd_ne {f : Nat → Int32} {i j : Nat} {x : Int32} (h : j ≠ i) : upd f i x j = f j := by unfold upd; rw [if_neg h]
theorem CV.num {v : Nat → Nat → Int32} {P : Nat → Nat → Nat} (h : CV v P) {i n : Nat} {x : Int32} (hx : x = nI n) : CV (sS v i x) (pU P 0 i n) := by
  refine ⟨fun j hj => ?_, fun k hk => ?_⟩
  · rw [cp_0]
    by_cases e : j = i
    · subst e; rw [if_pos rfl, pU_eq]; exact hx
    · rw [if_neg e, pU_ne (fun z => e z.2)]; exact h.1 j hj
  · rw [cp_s _ v _ _ _ _ (by decide), cp_s _ v _ _ _ _ (by decide), cp_s _ v _ _ _ _ (by decide), cp_s _ v _ _ _ _ (by decide), cp_s _ v _ _ _ _ (by decide), pU_ne (by omega), pU_ne (by omega), pU_ne (by omega), pU_ne (by omega), pU_ne (by omega)]
    exact h.2 k hk
theorem CV.r1 {v : Nat → Nat → Int32} {P : Nat → Nat → Nat} (h : CV v P) {i n : Nat} {x : Int32} (hx : x = dn n) : CV (sR v 1 (upd (v 1) i x)) (pU P 1 i n) := by
  refine ⟨fun j hj => ?_, fun k hk => ⟨?_, ?_, ?_, ?_, ?_⟩⟩
  · rw [cp_r, if_neg (by decide), pU_ne (by omega)]; exact h.1 j hj
  · rw [cp_r, if_pos rfl]
    unfold upd
    by_cases e : k = i
    · subst e; rw [if_pos rfl, pU_eq]; exact hx
    · rw [if_neg e, pU_ne (fun z => e z.2)]; exact (h.2 k hk).1
  · rw [cp_r, if_neg (by decide), pU_ne (by omega)]; exact (h.2 k hk).2.1
  · rw [cp_r, if_neg (by decide), pU_ne (by omega)]; exact (h.2 k hk).2.2.1
  · rw [cp_r, if_neg (by decide), pU_ne (by omega)]; exact (h.2 k hk).2.2.2.1
  · rw [cp_r, if_neg (by decide), pU_ne (by omega)]; exact (h.2 k hk).2.2.2.2
theorem CV.r2 {v : Nat → Nat → Int32} {P : Nat → Nat → Nat} (h : CV v P) {i n : Nat} {x : Int32} (hx : x = nI n) : CV (sR v 2 (upd (v 2) i x)) (pU P 2 i n) := by
  refine ⟨fun j hj => ?_, fun k hk => ⟨?_, ?_, ?_, ?_, ?_⟩⟩
  · rw [cp_r, if_neg (by decide), pU_ne (by omega)]; exact h.1 j hj
  · rw [cp_r, if_neg (by decide), pU_ne (by omega)]; exact (h.2 k hk).1
  · rw [cp_r, if_pos rfl]
    unfold upd
    by_cases e : k = i
    · subst e; rw [if_pos rfl, pU_eq]; exact hx
    · rw [if_neg e, pU_ne (fun z => e z.2)]; exact (h.2 k hk).2.1
  · rw [cp_r, if_neg (by decide), pU_ne (by omega)]; exact (h.2 k hk).2.2.1
  · rw [cp_r, if_neg (by decide), pU_ne (by omega)]; exact (h.2 k hk).2.2.2.1
  · rw [cp_r, if_neg (by decide), pU_ne (by omega)]; exact (h.2 k hk).2.2.2.2
theorem CV.r3 {v : Nat → Nat → Int32} {P : Nat → Nat → Nat} (h : CV v P) {i n : Nat} {x : Int32} (hx : x = nI n) : CV (sR v 3 (upd (v 3) i x)) (pU P 3 i n) := by
  refine ⟨fun j hj => ?_, fun k hk => ⟨?_, ?_, ?_, ?_, ?_⟩⟩
  · rw [cp_r, if_neg (by decide), pU_ne (by omega)]; exact h.1 j hj
  · rw [cp_r, if_neg (by decide), pU_ne (by omega)]; exact (h.2 k hk).1
  · rw [cp_r, if_neg (by decide), pU_ne (by omega)]; exact (h.2 k hk).2.1
  · rw [cp_r, if_pos rfl]
    unfold upd
    by_cases e : k = i
    · subst e; rw [if_pos rfl, pU_eq]; exact hx
    · rw [if_neg e, pU_ne (fun z => e z.2)]; exact (h.2 k hk).2.2.1
  · rw [cp_r, if_neg (by decide), pU_ne (by omega)]; exact (h.2 k hk).2.2.2.1
  · rw [cp_r, if_neg (by decide), pU_ne (by omega)]; exact (h.2 k hk).2.2.2.2
theorem CV.r4 {v : Nat → Nat → Int32} {P : Nat → Nat → Nat} (h : CV v P) {i n : Nat} {x : Int32} (hx : x = dn n) : CV (sR v 4 (upd (v 4) i x)) (pU P 4 i n) := by
  refine ⟨fun j hj => ?_, fun k hk => ⟨?_, ?_, ?_, ?_, ?_⟩⟩
  · rw [cp_r, if_neg (by decide), pU_ne (by omega)]; exact h.1 j hj
  · rw [cp_r, if_neg (by decide), pU_ne (by omega)]; exact (h.2 k hk).1
  · rw [cp_r, if_neg (by decide), pU_ne (by omega)]; exact (h.2 k hk).2.1
  · rw [cp_r, if_neg (by decide), pU_ne (by omega)]; exact (h.2 k hk).2.2.1
  · rw [cp_r, if_pos rfl]
    unfold upd
    by_cases e : k = i
    · subst e; rw [if_pos rfl, pU_eq]; exact hx
    · rw [if_neg e, pU_ne (fun z => e z.2)]; exact (h.2 k hk).2.2.2.1
  · rw [cp_r, if_neg (by decide), pU_ne (by omega)]; exact (h.2 k hk).2.2.2.2
theorem CV.r5 {v : Nat → Nat → Int32} {P : Nat → Nat → Nat} (h : CV v P) {i n : Nat} {x : Int32} (hx : x = nI n) : CV (sR v 5 (upd (v 5) i x)) (pU P 5 i n) := by
  refine ⟨fun j hj => ?_, fun k hk => ⟨?_, ?_, ?_, ?_, ?_⟩⟩
  · rw [cp_r, if_neg (by decide), pU_ne (by omega)]; exact h.1 j hj
  · rw [cp_r, if_neg (by decide), pU_ne (by omega)]; exact (h.2 k hk).1
  · rw [cp_r, if_neg (by decide), pU_ne (by omega)]; exact (h.2 k hk).2.1
  · rw [cp_r, if_neg (by decide), pU_ne (by omega)]; exact (h.2 k hk).2.2.1
  · rw [cp_r, if_neg (by decide), pU_ne (by omega)]; exact (h.2 k hk).2.2.2.1
  · rw [cp_r, if_pos rfl]
    unfold upd
    by_cases e : k = i
    · subst e; rw [if_pos rfl, pU_eq]; exact hx
    · rw [if_neg e, pU_ne (fun z => e z.2)]; exact (h.2 k hk).2.2.2.2
