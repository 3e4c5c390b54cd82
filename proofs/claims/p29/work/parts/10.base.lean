/-! ===== worlds as lists of blocks; contracts with explicit answers ===== -/
abbrev wG : Type := va_G × (Nat → ClassId)
def wtys (Γ : wG) : List (ClassId × FieldType) := [(Γ.2 0, .int), (Γ.2 1, .int), (Γ.2 2, .object RX2)]
def wcat : List va_W → va_W
  | [] => []
  | b :: bs => b ++ wcat bs
def wset : List va_W → List Nat → List va_W → List va_W
  | bs, [], _ => bs
  | bs, _ :: _, [] => bs
  | bs, i :: is, b :: bc => wset (bs.set i b) is bc
def wad (b : va_W) : List Nat := b.map Prod.fst
theorem wP_mem {D : va_G} {cl : List vw_C} {ws : va_W} {H : Heap} (h : va_P D cl ws H) {q : Nat × va_E} (hq : q ∈ ws) : va_at D cl q H := by
  obtain ⟨k, hk⟩ := List.getElem?_of_mem hq
  exact h k q hk
theorem wP_of {D : va_G} {cl : List vw_C} {ws : va_W} {H : Heap} (h : ∀ q ∈ ws, va_at D cl q H) : va_P D cl ws H := fun _ q hk => h q (List.mem_of_getElem? hk)
theorem wcat_mem {bs : List va_W} {q : Nat × va_E} : q ∈ wcat bs ↔ ∃ b ∈ bs, q ∈ b := by
  induction bs with
  | nil => simp [wcat]
  | cons b bs ih => simp [wcat, ih]
theorem wD_app {A : Nat → Prop} {a b : va_W} (h : va_D A (a ++ b)) : va_D A a ∧ va_D A b ∧ ∀ p ∈ a, ∀ q ∈ b, p.1 ≠ q.1 := by
  have ha : ∀ (k : Nat) (q : Nat × va_E), a[k]? = some q → (a ++ b)[k]? = some q := fun k q hk => by
    rw [List.getElem?_append_left (List.getElem?_eq_some_iff.mp hk).1]; exact hk
  have hb : ∀ (k : Nat) (q : Nat × va_E), b[k]? = some q → (a ++ b)[a.length + k]? = some q := fun k q hk => by
    rw [List.getElem?_append_right (by omega)]; simpa using hk
  refine ⟨⟨fun i j p q hi hj e => h.1 i j p q (ha i p hi) (ha j q hj) e, fun k q hk => h.2 k q (ha k q hk)⟩, ⟨fun i j p q hi hj e => ?_, fun k q hk => h.2 _ q (hb k q hk)⟩, fun p hp q hq e => ?_⟩
  · have := h.1 _ _ p q (hb i p hi) (hb j q hj) e
    omega
  · obtain ⟨i, hi⟩ := List.getElem?_of_mem hp
    obtain ⟨j, hj⟩ := List.getElem?_of_mem hq
    have h1 := h.1 _ _ p q (ha i p hi) (hb j q hj) e
    have h2 := (List.getElem?_eq_some_iff.mp hi).1
    omega
theorem wD_mem {A : Nat → Prop} {ws : va_W} (h : va_D A ws) {q : Nat × va_E} (hq : q ∈ ws) : A q.1 := by
  obtain ⟨k, hk⟩ := List.getElem?_of_mem hq
  exact h.2 k q hk
theorem wD_join {A : Nat → Prop} {a b : va_W} (h1 : va_D A a) (h2 : va_D A b) (h : ∀ p ∈ a, ∀ q ∈ b, p.1 ≠ q.1) : va_D A (a ++ b) :=
  va_D.app h1 h2 (fun _ _ p q hi hj => h p (List.mem_of_getElem? hi) q (List.mem_of_getElem? hj))
theorem wD_nil {A : Nat → Prop} : va_D A [] := ⟨fun i j p q h => by simp at h, fun k q h => by simp at h⟩
theorem wD_addr {A : Nat → Prop} {ws ws' : va_W} (h : va_D A ws) (e : wad ws' = wad ws) : va_D A ws' := by
  have key : ∀ (k : Nat) (q : Nat × va_E), ws'[k]? = some q → ∃ q0, ws[k]? = some q0 ∧ q0.1 = q.1 := by
    intro k q hk
    have h1 : (wad ws')[k]? = some q.1 := by unfold wad; rw [List.getElem?_map, hk]; rfl
    rw [e] at h1
    unfold wad at h1
    rw [List.getElem?_map] at h1
    cases hq : ws[k]? with
    | none => rw [hq] at h1; cases h1
    | some q0 => rw [hq] at h1; exact ⟨q0, rfl, Option.some.inj h1⟩
  refine ⟨fun i j p q hi hj hpq => ?_, fun k q hk => ?_⟩
  · obtain ⟨p0, a1, a2⟩ := key i p hi
    obtain ⟨q0, b1, b2⟩ := key j q hj
    exact h.1 i j p0 q0 a1 b1 (by rw [a2, b2]; exact hpq)
  · obtain ⟨q0, b1, b2⟩ := key k q hk
    rw [← b2]; exact h.2 k q0 b1
theorem wapart {A : Nat → Prop} : ∀ {bs : List va_W}, va_D A (wcat bs) → ∀ {i j : Nat}, i ≠ j → ∀ {bi bj : va_W}, bs[i]? = some bi → bs[j]? = some bj → ∀ p ∈ bi, ∀ q ∈ bj, p.1 ≠ q.1
  | [], _, i, j, _, bi, bj, h1, _ => by simp at h1
  | b :: bs, hD, i, j, hij, bi, bj, h1, h2 => by
    obtain ⟨d1, d2, d3⟩ := wD_app (a := b) (b := wcat bs) hD
    intro p hp q hq
    cases i with
    | zero =>
      cases j with
      | zero => exact absurd rfl hij
      | succ j =>
        simp only [List.getElem?_cons_zero, Option.some.injEq] at h1
        rw [List.getElem?_cons_succ] at h2
        subst h1
        exact d3 p hp q (wcat_mem.mpr ⟨bj, List.mem_of_getElem? h2, hq⟩)
    | succ i =>
      rw [List.getElem?_cons_succ] at h1
      cases j with
      | zero =>
        simp only [List.getElem?_cons_zero, Option.some.injEq] at h2
        subst h2
        exact fun e => d3 q hq p (wcat_mem.mpr ⟨bi, List.mem_of_getElem? h1, hp⟩) e.symm
      | succ j =>
        rw [List.getElem?_cons_succ] at h2
        exact wapart d2 (fun e => hij (by rw [e])) h1 h2 p hp q hq
theorem wD_blk {A : Nat → Prop} : ∀ {bs : List va_W}, va_D A (wcat bs) → ∀ {i : Nat} {b : va_W}, bs[i]? = some b → va_D A b
  | [], _, i, b, h => by simp at h
  | b0 :: bs, hD, i, b, h => by
    obtain ⟨d1, d2, d3⟩ := wD_app (a := b0) (b := wcat bs) hD
    cases i with
    | zero => simp only [List.getElem?_cons_zero, Option.some.injEq] at h; subst h; exact d1
    | succ i => rw [List.getElem?_cons_succ] at h; exact wD_blk d2 h
theorem wsel_mem {bs bc : List va_W} {is : List Nat} (his : is.map (fun i => bs[i]?) = bc.map some) {b : va_W} (hb : b ∈ bc) : ∃ i ∈ is, bs[i]? = some b := by
  have h1 : some b ∈ bc.map some := List.mem_map.mpr ⟨b, hb, rfl⟩
  rw [← his] at h1
  obtain ⟨i, h2, h3⟩ := List.mem_map.mp h1
  exact ⟨i, h2, h3⟩
theorem wP_sel {D : va_G} {cl : List vw_C} {bs bc : List va_W} {H : Heap} {is : List Nat} (hP : va_P D cl (wcat bs) H) (his : is.map (fun i => bs[i]?) = bc.map some) : va_P D cl (wcat bc) H := by
  refine wP_of fun q hq => ?_
  obtain ⟨b, hb, hqb⟩ := wcat_mem.mp hq
  obtain ⟨i, -, hi⟩ := wsel_mem his hb
  exact wP_mem hP (wcat_mem.mpr ⟨b, List.mem_of_getElem? hi, hqb⟩)
theorem wD_sel {A : Nat → Prop} {bs : List va_W} (hD : va_D A (wcat bs)) : ∀ {is : List Nat} {bc : List va_W}, va_nd is = true → is.map (fun i => bs[i]?) = bc.map some → va_D A (wcat bc)
  | [], [], _, _ => wD_nil
  | [], b :: bc, _, h => by simp at h
  | i :: is, [], _, h => by simp at h
  | i :: is, b :: bc, hn, h => by
    simp only [va_nd, Bool.and_eq_true, decide_eq_true_eq] at hn
    simp only [List.map_cons, List.cons.injEq] at h
    refine wD_join (wD_blk hD h.1) (wD_sel hD hn.2 h.2) fun p hp q hq => ?_
    obtain ⟨b2, hb2, hq2⟩ := wcat_mem.mp hq
    obtain ⟨j, hj, hbj⟩ := wsel_mem h.2 hb2
    exact wapart hD (fun e => hn.1 (by rw [e]; exact hj)) h.1 hbj p hp q hq2
theorem wset_get : ∀ {is : List Nat} {bs bc : List va_W}, is.length = bc.length → ∀ {j : Nat} {b : va_W}, (wset bs is bc)[j]? = some b → b ∈ bc ∨ (j ∉ is ∧ bs[j]? = some b)
  | [], bs, bc, _, j, b, h => Or.inr ⟨by simp, by cases bc <;> exact h⟩
  | i :: is, bs, [], hl, j, b, h => by simp at hl
  | i :: is, bs, b0 :: bc, hl, j, b, h => by
    have hl' : is.length = bc.length := by simpa using hl
    rcases wset_get (bs := bs.set i b0) hl' (j := j) (b := b) h with h1 | ⟨h1, h2⟩
    · exact Or.inl (List.mem_cons_of_mem _ h1)
    · by_cases hij : j = i
      · subst hij
        have hlt : j < (bs.set j b0).length := (List.getElem?_eq_some_iff.mp h2).1
        rw [List.length_set] at hlt
        rw [List.getElem?_set_self hlt] at h2
        cases h2
        exact Or.inl List.mem_cons_self
      · rw [List.getElem?_set_ne (Ne.symm hij)] at h2
        exact Or.inr ⟨fun hm => (List.mem_cons.mp hm).elim hij h1, h2⟩
theorem wset_ad : ∀ {is : List Nat} {bs bc : List va_W}, is.map (fun i => (bs.map wad)[i]?) = bc.map (fun b => some (wad b)) → (wset bs is bc).map wad = bs.map wad
  | [], bs, bc, _ => by cases bc <;> rfl
  | i :: is, bs, [], h => by simp at h
  | i :: is, bs, b0 :: bc, h => by
    simp only [List.map_cons, List.cons.injEq] at h
    have e : (bs.set i b0).map wad = bs.map wad := by
      rw [List.map_set]
      obtain ⟨hlt, he⟩ := List.getElem?_eq_some_iff.mp h.1
      rw [← he]
      exact List.set_getElem_self hlt
    show (wset (bs.set i b0) is bc).map wad = bs.map wad
    rw [wset_ad (by rw [e]; exact h.2), e]
theorem wcat_ad {bs bs' : List va_W} (h : bs'.map wad = bs.map wad) : wad (wcat bs') = wad (wcat bs) := by
  have key : ∀ l : List va_W, wad (wcat l) = (l.map wad).flatten := by
    intro l
    induction l with
    | nil => rfl
    | cons b l ih => simp only [wcat, wad, List.map_append, List.map_cons, List.flatten_cons] at *; rw [ih]
  rw [key, key, h]
theorem wjoin {A0 : Nat → Prop} {D : va_G} {cl : List vw_C} {bs bs' bc bc' : List va_W} {H H1 : Heap} {is : List Nat} (hP : va_P D cl (wcat bs) H) (hD : va_D A0 (wcat bs)) (his : is.map (fun i => bs[i]?) = bc.map some) (had : bc'.map wad = bc.map wad) (hset : wset bs is bc' = bs')
    (hk : ∀ q : Nat, q < H.size → ¬ va_A (wcat bc) H.size q → H1[q]? = H[q]?) (hP1 : va_P D cl (wcat bc') H1) : va_P D cl (wcat bs') H1 ∧ va_D A0 (wcat bs') := by
  have hlen : is.length = bc'.length := by
    have h1 := congrArg List.length his
    have h2 := congrArg List.length had
    simp only [List.length_map] at h1 h2
    omega
  subst hset
  refine ⟨wP_of fun q hq => ?_, wD_addr hD (wcat_ad (wset_ad ?_))⟩
  · obtain ⟨b, hb, hqb⟩ := wcat_mem.mp hq
    obtain ⟨j, hj⟩ := List.getElem?_of_mem hb
    rcases wset_get hlen hj with h1 | ⟨h1, h2⟩
    · exact wP_mem hP1 (wcat_mem.mpr ⟨b, h1, hqb⟩)
    · have hat := wP_mem hP (wcat_mem.mpr ⟨b, List.mem_of_getElem? h2, hqb⟩)
      refine hat.kept (hk q.1 hat.lt fun hA => ?_)
      rcases hA with ⟨k, e, hke⟩ | hA
      · obtain ⟨b2, hb2, hq2⟩ := wcat_mem.mp (List.mem_of_getElem? hke)
        obtain ⟨i, hi, hbi⟩ := wsel_mem his hb2
        exact wapart hD (fun e => h1 (by rw [e]; exact hi)) h2 hbi q hqb _ hq2 rfl
      · exact absurd hat.lt (Nat.not_lt.mpr hA)
  · have h1 : (is.map (fun i => bs[i]?)).map (Option.map wad) = (bc.map some).map (Option.map wad) := by rw [his]
    have h2 : is.map (fun i => (bs.map wad)[i]?) = bc.map (fun b => some (wad b)) := by
      simpa [List.map_map, Function.comp_def] using h1
    rw [h2]
    have h3 := congrArg (List.map some) had
    simpa [List.map_map, Function.comp_def] using h3.symm
theorem wfree {A0 : Nat → Prop} {bs bc : List va_W} {is : List Nat} {H0 H : Heap} {locs : List Loc} (hD : va_D A0 (wcat bs)) (hS : va_S A0 H0 H locs) (hA : ∀ q, H0.size ≤ q → A0 q) (his : is.map (fun i => bs[i]?) = bc.map some) : ∀ q, va_A (wcat bc) H.size q → A0 q := by
  intro q h
  rcases h with ⟨k, e, h⟩ | h
  · obtain ⟨b2, hb2, hq2⟩ := wcat_mem.mp (List.mem_of_getElem? h)
    obtain ⟨i, hi, hbi⟩ := wsel_mem his hb2
    exact wD_mem hD (q := (q, e)) (wcat_mem.mpr ⟨b2, List.mem_of_getElem? hbi, hq2⟩)
  · exact hA q (Nat.le_trans hS.1 h)
/-- what holds of the machine around every call: the nest's links, the static row INVERSES, what a throw needs -/
def wInv (j : Nat) : Int32 := [0, 1, 126, 84, 63, 201, 42, 36].getD j 0
def wStr : List (Nat × String) := [(53, "there are 8 keepers"), (73, "this keeper is dead"), (83, "both are the same, or one is dead"), (89, "both are the same"), (101, "fewer keepers live than the quorum"), (113, "no shut capsule, or fewer keepers live than the quorum"), (118, "there is no such share"), (130, "the day would be above 99999"), (148, "the buffer has 60 characters"), (164, "the buffer does not tell days as a text"), (173, "there is no saved state"), (191, "what is not 0 to 4"), (231, "what is not 0 to 11"), (297, "there is no such keeper"), (303, "the group has a keeper who is not there"), (305, "an argument is out of range")]
def wX : List String := ["java/lang/IllegalStateException", "java/lang/IllegalArgumentException", "java/lang/IndexOutOfBoundsException"]
def wY : List String := ["java/lang/RuntimeException", "java/lang/Exception", "java/lang/Throwable"]
def Amb (A : Nat → Prop) (U : State) : Prop :=
  (va_Nw (.methodLinkNest RX4 29 yX0_init RX4) U ∧ va_Nw (.methodLinkNest RX4 36 yX3_init RX4) U ∧ va_Nw (.methodLinkNest RX4 43 yX1_init RX4) U ∧ va_Nw (.methodLinkNest RX1 34 yX4_mix RX4) U ∧ va_Nw (.fieldLinkNest RX4 145 "CapsuleKeepers$DaysText" "length" "I" RX4) U) ∧
  (∃ t : Nat, va_Z "CapsuleKeepers$Curves" "INVERSES" "[I" (.ref t) A U U.heap ∧ va_T .int t 8 (fun j => .int (wInv j)) A U U.heap) ∧
  vx_Zq Bundle.tN "UNASSIGNED_STACK" Bundle.steD A U U.heap ∧ vx_Zq Bundle.tN "SUPPRESSED_SENTINEL" Bundle.listD A U U.heap ∧
  (∀ q ∈ wStr, ∃ sa : Nat, vk_R RX4 q.1 q.2 sa U) ∧
  (∀ X ∈ wX, va_Nw (.castable X X) U) ∧ (∀ Y ∈ wY, va_Nw (.declares (Bundle.initS Y)) U) ∧ ∀ E ∈ wX, ∀ F ∈ wX, E ≠ F → va_Nc E F U
theorem Amb.go {A B C : Nat → Prop} {s U : State} {H : Heap} {locs : List Loc} (h : Amb B s) (hS : va_S A s.heap H locs) (hAB : ∀ q, A q → B q) (hU : U.heap = H) (hW : s.WarmedH U.vm) (hC : ∀ q, C q → B q) : Amb C U := by
  obtain ⟨⟨n1, n2, n3, n4, n5⟩, ⟨t, hz, ht⟩, hu, hn, hs, hc1, hc2, hc3⟩ := h
  have hk : ∀ a : Nat, a < s.heap.size → ¬ B a → U.heap[a]? = s.heap[a]? := fun a h1 h2 => by rw [hU]; exact hS.2.1 a h1 (fun z => h2 (hAB a z))
  refine ⟨⟨va_Nw.warmM hW n1, va_Nw.warmM hW n2, va_Nw.warmM hW n3, va_Nw.warmM hW n4, va_Nw.warmF hW n5⟩, ⟨t, ((hz.moved hW.alike).kept hk).narrow hC, ((ht.moved hW.alike).kept hk).narrow hC⟩, ((hu.moved hW.alike).kept hk).narrow hC, ((hn.moved hW.alike).kept hk).narrow hC, fun q hq => ?_, fun X hX => va_Nw.warmC hW (hc1 X hX), fun Y hY => va_Nw.warmD hW (hc2 Y hY), fun E hE F hF hEF => (hc3 E hE F hF hEF).moved hW.alike⟩
  obtain ⟨sa, h⟩ := hs q hq
  exact ⟨sa, h.warm hW⟩
theorem Amb.call {A : Nat → Prop} {U : State} (h : Amb A U) (g : JFrame) (mk : MethodId) (a : Array Value) : Amb A (U.calling g mk a) := by
  obtain ⟨⟨n1, n2, n3, n4, n5⟩, ⟨t, hz, ht⟩, hu, hn, hs, hc1, hc2, hc3⟩ := h
  have hvm : U.vm.Alike (U.calling g mk a).vm := Vm.Alike.refl U.vm
  refine ⟨⟨va_Nw.same rfl (U := U.calling g mk a) rfl n1, va_Nw.same rfl (U := U.calling g mk a) rfl n2, va_Nw.same rfl (U := U.calling g mk a) rfl n3, va_Nw.same rfl (U := U.calling g mk a) rfl n4, va_Nw.same rfl (U := U.calling g mk a) rfl n5⟩, ⟨t, hz.moved hvm, ht.moved hvm⟩, hu.moved hvm, hn.moved hvm, fun q hq => ?_, fun X hX => va_Nw.same rfl (U := U.calling g mk a) rfl (hc1 X hX), fun Y hY => va_Nw.same rfl (U := U.calling g mk a) rfl (hc2 Y hY), fun E hE F hF hEF => (hc3 E hE F hF hEF).moved hvm⟩
  obtain ⟨sa, h⟩ := hs q hq
  exact ⟨sa, vk_R.same rfl h⟩
theorem Amb.narrow {A B : Nat → Prop} {U : State} (h : Amb A U) (hC : ∀ q, B q → A q) : Amb B U := by
  obtain ⟨n, ⟨t, hz, ht⟩, hu, hn, hs⟩ := h
  exact ⟨n, ⟨t, hz.narrow hC, ht.narrow hC⟩, hu.narrow hC, hn.narrow hC, hs⟩
def wPre (Γ : wG) (bs : List va_W) (sz : Nat) : State → Prop := fun U => U.heap.size = sz ∧ va_P Γ.1 vwCl (wcat bs) U.heap ∧ va_K Γ.1 vwCl (wtys Γ) U ∧ va_D (fun _ => True) (wcat bs) ∧ Amb (va_A (wcat bs) sz) U
theorem wPre_blind {Γ : wG} {bs : List va_W} {sz : Nat} {av : List Value} : FrameBlind (va_Pc av (wPre Γ bs sz)) := fun a U g mk q => by
  obtain ⟨q0, q1, qP, qK, qD, qm⟩ := q
  exact ⟨q0, q1, qP, va_K.moved (u := U) (U := U.calling g mk a) (Vm.Alike.refl U.vm) qK, qD, qm.call g mk a⟩
theorem va_S.up {A B : Nat → Prop} {H0 H : Heap} {locs : List Loc} (h : va_S A H0 H locs) (hAB : ∀ q, A q → B q) : va_S B H0 H locs := ⟨h.1, fun q h1 h2 => h.2.1 q h1 (fun z => h2 (hAB q z)), fun z hz => hAB _ (h.2.2 z hz)⟩
theorem wPre_mk {Γ : wG} {bs bc : List va_W} {s : State} {H : Heap} {A B : Nat → Prop} {locs : List Loc} {av : List Value} (hP : va_P Γ.1 vwCl (wcat bs) H) (hD : va_D B (wcat bs)) (hK : va_K Γ.1 vwCl (wtys Γ) s) (hS : va_S A s.heap H locs) (hA : ∀ q, s.heap.size ≤ q → A q) (hAB : ∀ q, A q → B q) (hAm : Amb B s) (is : List Nat) (hn : va_nd is = true) (his : is.map (fun i => bs[i]?) = bc.map some) :
    ∀ U : State, U.heap = H → s.WarmedH U.vm → va_Pc av (wPre Γ bc H.size) av.toArray U := fun U hU hW =>
  ⟨rfl, by rw [hU], by rw [hU]; exact wP_sel hP his, va_K.moved hW.alike hK, (wD_sel hD hn his).weaken (fun _ _ _ _ => trivial), hAm.go hS hAB hU hW (wfree hD (hS.up hAB) (fun q h => hAB q (hA q h)) his)⟩
/-- a method that may change its world: it answers f, its world is bs' then -/
def MI (l : Launch) (Γ : wG) (y : MethodName) (ws : List Cond) (rm : Room) (av : List Value) (bs bs' : List va_W) (f : Int32) : Prop := ∀ sz : Nat, Met l y ws rm (va_Pc av (wPre Γ bs sz)) (va_Qi (fun r (_ : Unit) => r = f) (fun _ t => va_P Γ.1 vwCl (wcat bs') t.heap) (va_A (wcat bs) sz)) 0 0 (va_A (wcat bs) sz)
def ML (l : Launch) (Γ : wG) (y : MethodName) (ws : List Cond) (rm : Room) (av : List Value) (bs bs' : List va_W) (f : Int64) : Prop := ∀ sz : Nat, Met l y ws rm (va_Pc av (wPre Γ bs sz)) (va_Ql (fun r (_ : Unit) => r = f) (fun _ t => va_P Γ.1 vwCl (wcat bs') t.heap) (va_A (wcat bs) sz)) 0 0 (va_A (wcat bs) sz)
def MV (l : Launch) (Γ : wG) (y : MethodName) (ws : List Cond) (rm : Room) (av : List Value) (bs bs' : List va_W) : Prop := ∀ sz : Nat, Met l y ws rm (va_Pc av (wPre Γ bs sz)) (va_Qv (fun (_ : Unit) => True) (fun _ t => va_P Γ.1 vwCl (wcat bs') t.heap) (va_A (wcat bs) sz)) 0 0 (va_A (wcat bs) sz)
/-- a method that writes nothing -/
def LI (l : Launch) (Γ : wG) (y : MethodName) (ws : List Cond) (rm : Room) (av : List Value) (bs : List va_W) (f : Int32) : Prop := ∀ sz : Nat, Met l y ws rm (va_Pc av (wPre Γ bs sz)) (va_Qi (fun r (_ : Unit) => r = f) (fun _ _ => True) (va_A [] sz)) 0 0 (va_A [] sz)
def LL (l : Launch) (Γ : wG) (y : MethodName) (ws : List Cond) (rm : Room) (av : List Value) (bs : List va_W) (f : Int64) : Prop := ∀ sz : Nat, Met l y ws rm (va_Pc av (wPre Γ bs sz)) (va_Ql (fun r (_ : Unit) => r = f) (fun _ _ => True) (va_A [] sz)) 0 0 (va_A [] sz)
def LD (l : Launch) (Γ : wG) (y : MethodName) (ws : List Cond) (rm : Room) (av : List Value) (bs : List va_W) (f : UInt64) : Prop := ∀ sz : Nat, Met l y ws rm (va_Pc av (wPre Γ bs sz)) (va_Qd (fun r (_ : Unit) => r = f) (fun _ _ => True) (va_A [] sz)) 0 0 (va_A [] sz)
theorem wnone {q sz : Nat} (h : va_A [] sz q) : sz ≤ q := by
  rcases h with ⟨k, e, h⟩ | h
  · simp at h
  · exact h
theorem wP_up {D : va_G} {cl : List vw_C} {ws : va_W} {H H1 : Heap} (hP : va_P D cl ws H) (hk : ∀ q : Nat, q < H.size → ¬ va_A [] H.size q → H1[q]? = H[q]?) : va_P D cl ws H1 :=
  hP.kept fun k q hq => hk q.1 (hP k q hq).lt fun h => absurd (hP k q hq).lt (Nat.not_lt.mpr (wnone h))
section WC
variable {p : Program} {l : Launch} {e : Env} {R : Room} {s : State} {m : MethodId} {args : Array Value} {below : List Frame} {meth : Method} {c : Code} {H : Heap} {locs : List Loc} {cells slots : Nat} {Q : State → Prop}
variable {pc : Nat} {ls : Array Slot} {rest st0 : List Value} {a : Array Value} {A : Nat → Prop} {Γ : wG} {bs bs' bc bc' : List va_W}
theorem cMI {f : Int32} (hr : va_Run p l e R s m args below meth c H locs cells slots 0 0 (F0 m pc ls st0) rest (va_Qi (fun r (_ : Unit) => r = f) (fun _ t => va_P Γ.1 vwCl (wcat bc') t.heap) (va_A (wcat bc) H.size) a) (va_A (wcat bc) H.size)) (hP : va_P Γ.1 vwCl (wcat bs) H) (hD : va_D A (wcat bs)) (hS : va_S A s.heap H locs) (hA : ∀ q, s.heap.size ≤ q → A q) (is : List Nat) (his : is.map (fun i => bs[i]?) = bc.map some) (had : bc'.map wad = bc.map wad) (hset : wset bs is bc' = bs')
    (kk : ∀ (H1 : Heap) (locs1 : List Loc), va_P Γ.1 vwCl (wcat bs') H1 → va_D A (wcat bs') → va_S A s.heap H1 locs1 → W p l e R s m args below meth c H1 locs1 cells slots Q (F0 m (pc + 3) ls (.int f :: rest))) : W p l e R s m args below meth c H locs cells slots Q (F0 m pc ls st0) := by
  have hF := wfree hD hS hA his
  refine va_calli hr hS (fun q _ h => hF q h) hF (fun r u t H1 locs1 ht hvm hw hB hz1 hk1 hS1 => ?_)
  subst hw
  rw [ht] at hB
  obtain ⟨h1, h2⟩ := wjoin hP hD his had hset hk1 hB
  exact kk H1 locs1 h1 h2 hS1
theorem cML {f : Int64} (hr : va_Run p l e R s m args below meth c H locs cells slots 0 0 (F0 m pc ls st0) rest (va_Ql (fun r (_ : Unit) => r = f) (fun _ t => va_P Γ.1 vwCl (wcat bc') t.heap) (va_A (wcat bc) H.size) a) (va_A (wcat bc) H.size)) (hP : va_P Γ.1 vwCl (wcat bs) H) (hD : va_D A (wcat bs)) (hS : va_S A s.heap H locs) (hA : ∀ q, s.heap.size ≤ q → A q) (is : List Nat) (his : is.map (fun i => bs[i]?) = bc.map some) (had : bc'.map wad = bc.map wad) (hset : wset bs is bc' = bs')
    (kk : ∀ (H1 : Heap) (locs1 : List Loc), va_P Γ.1 vwCl (wcat bs') H1 → va_D A (wcat bs') → va_S A s.heap H1 locs1 → W p l e R s m args below meth c H1 locs1 cells slots Q (F0 m (pc + 3) ls (.long f :: rest))) : W p l e R s m args below meth c H locs cells slots Q (F0 m pc ls st0) := by
  have hF := wfree hD hS hA his
  refine va_calll hr hS (fun q _ h => hF q h) hF (fun r u t H1 locs1 ht hvm hw hB hz1 hk1 hS1 => ?_)
  subst hw
  rw [ht] at hB
  obtain ⟨h1, h2⟩ := wjoin hP hD his had hset hk1 hB
  exact kk H1 locs1 h1 h2 hS1
theorem cMV (hr : va_Run p l e R s m args below meth c H locs cells slots 0 0 (F0 m pc ls st0) rest (va_Qv (fun (_ : Unit) => True) (fun _ t => va_P Γ.1 vwCl (wcat bc') t.heap) (va_A (wcat bc) H.size) a) (va_A (wcat bc) H.size)) (hP : va_P Γ.1 vwCl (wcat bs) H) (hD : va_D A (wcat bs)) (hS : va_S A s.heap H locs) (hA : ∀ q, s.heap.size ≤ q → A q) (is : List Nat) (his : is.map (fun i => bs[i]?) = bc.map some) (had : bc'.map wad = bc.map wad) (hset : wset bs is bc' = bs')
    (kk : ∀ (H1 : Heap) (locs1 : List Loc), va_P Γ.1 vwCl (wcat bs') H1 → va_D A (wcat bs') → va_S A s.heap H1 locs1 → W p l e R s m args below meth c H1 locs1 cells slots Q (F0 m (pc + 3) ls rest)) : W p l e R s m args below meth c H locs cells slots Q (F0 m pc ls st0) := by
  have hF := wfree hD hS hA his
  refine va_callv hr hS (fun q _ h => hF q h) hF (fun u t H1 locs1 ht hvm hw hB hz1 hk1 hS1 => ?_)
  rw [ht] at hB
  obtain ⟨h1, h2⟩ := wjoin hP hD his had hset hk1 hB
  exact kk H1 locs1 h1 h2 hS1
theorem cLI {f : Int32} (hr : va_Run p l e R s m args below meth c H locs cells slots 0 0 (F0 m pc ls st0) rest (va_Qi (fun r (_ : Unit) => r = f) (fun _ _ => True) (va_A [] H.size) a) (va_A [] H.size)) (hP : va_P Γ.1 vwCl (wcat bs) H) (hS : va_S A s.heap H locs) (hA : ∀ q, s.heap.size ≤ q → A q)
    (kk : ∀ (H1 : Heap) (locs1 : List Loc), va_P Γ.1 vwCl (wcat bs) H1 → va_S A s.heap H1 locs1 → W p l e R s m args below meth c H1 locs1 cells slots Q (F0 m (pc + 3) ls (.int f :: rest))) : W p l e R s m args below meth c H locs cells slots Q (F0 m pc ls st0) := by
  have hF : ∀ q, va_A [] H.size q → A q := fun q h => hA q (Nat.le_trans hS.1 (wnone h))
  refine va_calli hr hS (fun q _ h => hF q h) hF (fun r u t H1 locs1 ht hvm hw hB hz1 hk1 hS1 => ?_)
  subst hw
  exact kk H1 locs1 (wP_up hP hk1) hS1
theorem cLL {f : Int64} (hr : va_Run p l e R s m args below meth c H locs cells slots 0 0 (F0 m pc ls st0) rest (va_Ql (fun r (_ : Unit) => r = f) (fun _ _ => True) (va_A [] H.size) a) (va_A [] H.size)) (hP : va_P Γ.1 vwCl (wcat bs) H) (hS : va_S A s.heap H locs) (hA : ∀ q, s.heap.size ≤ q → A q)
    (kk : ∀ (H1 : Heap) (locs1 : List Loc), va_P Γ.1 vwCl (wcat bs) H1 → va_S A s.heap H1 locs1 → W p l e R s m args below meth c H1 locs1 cells slots Q (F0 m (pc + 3) ls (.long f :: rest))) : W p l e R s m args below meth c H locs cells slots Q (F0 m pc ls st0) := by
  have hF : ∀ q, va_A [] H.size q → A q := fun q h => hA q (Nat.le_trans hS.1 (wnone h))
  refine va_calll hr hS (fun q _ h => hF q h) hF (fun r u t H1 locs1 ht hvm hw hB hz1 hk1 hS1 => ?_)
  subst hw
  exact kk H1 locs1 (wP_up hP hk1) hS1
theorem cLD {f : UInt64} (hr : va_Run p l e R s m args below meth c H locs cells slots 0 0 (F0 m pc ls st0) rest (va_Qd (fun r (_ : Unit) => r = f) (fun _ _ => True) (va_A [] H.size) a) (va_A [] H.size)) (hP : va_P Γ.1 vwCl (wcat bs) H) (hS : va_S A s.heap H locs) (hA : ∀ q, s.heap.size ≤ q → A q)
    (kk : ∀ (H1 : Heap) (locs1 : List Loc), va_P Γ.1 vwCl (wcat bs) H1 → va_S A s.heap H1 locs1 → W p l e R s m args below meth c H1 locs1 cells slots Q (F0 m (pc + 3) ls (.double f :: rest))) : W p l e R s m args below meth c H locs cells slots Q (F0 m pc ls st0) := by
  have hF : ∀ q, va_A [] H.size q → A q := fun q h => hA q (Nat.le_trans hS.1 (wnone h))
  refine va_calld hr hS (fun q _ h => hF q h) hF (fun r u t H1 locs1 ht hvm hw hB hz1 hk1 hS1 => ?_)
  subst hw
  exact kk H1 locs1 (wP_up hP hk1) hS1
/-- the end of a method that may change its world -/
theorem eMI {f v : Int32} {t : State} (hP : va_P Γ.1 vwCl (wcat bs') H) (hS : va_S A s.heap H locs) (ht : t.heap = H) (h : v = f) : va_Qi (fun r (_ : Unit) => r = f) (fun _ t => va_P Γ.1 vwCl (wcat bs') t.heap) A args s (.returned (some (.int v))) t :=
  ⟨⟨v, (), rfl, h, by show va_P Γ.1 vwCl (wcat bs') t.heap; rw [ht]; exact hP⟩, hS.F ht⟩
theorem eML {f v : Int64} {t : State} (hP : va_P Γ.1 vwCl (wcat bs') H) (hS : va_S A s.heap H locs) (ht : t.heap = H) (h : v = f) : va_Ql (fun r (_ : Unit) => r = f) (fun _ t => va_P Γ.1 vwCl (wcat bs') t.heap) A args s (.returned (some (.long v))) t :=
  ⟨⟨v, (), rfl, h, by show va_P Γ.1 vwCl (wcat bs') t.heap; rw [ht]; exact hP⟩, hS.F ht⟩
theorem eMV {t : State} (hP : va_P Γ.1 vwCl (wcat bs') H) (hS : va_S A s.heap H locs) (ht : t.heap = H) : va_Qv (fun (_ : Unit) => True) (fun _ t => va_P Γ.1 vwCl (wcat bs') t.heap) A args s (.returned none) t :=
  ⟨⟨(), rfl, trivial, by show va_P Γ.1 vwCl (wcat bs') t.heap; rw [ht]; exact hP⟩, hS.F ht⟩
theorem eLI {f v : Int32} {t : State} (hS : va_S A s.heap H locs) (ht : t.heap = H) (h : v = f) : va_Qi (fun r (_ : Unit) => r = f) (fun _ _ => True) A args s (.returned (some (.int v))) t :=
  ⟨⟨v, (), rfl, h, trivial⟩, hS.F ht⟩
theorem eLL {f v : Int64} {t : State} (hS : va_S A s.heap H locs) (ht : t.heap = H) (h : v = f) : va_Ql (fun r (_ : Unit) => r = f) (fun _ _ => True) A args s (.returned (some (.long v))) t :=
  ⟨⟨v, (), rfl, h, trivial⟩, hS.F ht⟩
theorem eLD {f v : UInt64} {t : State} (hS : va_S A s.heap H locs) (ht : t.heap = H) (h : v = f) : va_Qd (fun r (_ : Unit) => r = f) (fun _ _ => True) A args s (.returned (some (.double v))) t :=
  ⟨⟨v, (), rfl, h, trivial⟩, hS.F ht⟩
end WC
/-! ===== the blocks of the class, and of the reference ===== -/
/-- a place: v 0 its numbers, v 1 .. v 5 its rows -/
def plE (a : Nat → Nat) (v : Nat → Nat → Int32) : va_E := .inr (2, [.int (v 0 0), .int (v 0 1), .ref (a 1), .ref (a 2), .ref (a 3), .ref (a 4), .ref (a 5), .int (v 0 2), .int (v 0 3), .int (v 0 4), .int (v 0 5), .int (v 0 6), .int (v 0 7), .int (v 0 8), .int (v 0 9), .int (v 0 10)])
def plB (Γ : wG) (a : Nat → Nat) (v : Nat → Nat → Int32) : va_W := [(a 0, plE a v), (a 1, .inl (Γ.2 0, 8, .inl (v 1))), (a 2, .inl (Γ.2 0, 8, .inl (v 2))), (a 3, .inl (Γ.2 0, 8, .inl (v 3))), (a 4, .inl (Γ.2 0, 8, .inl (v 4))), (a 5, .inl (Γ.2 0, 8, .inl (v 5)))]
def cuB (Γ : wG) (a : Nat → Nat) (k : Nat → Int32) : va_W := [(a 0, .inr (0, [.ref (a 1)])), (a 1, .inl (Γ.2 0, 256, .inl k))]
def suB (Γ : wG) (a : Nat → Nat) (o p : Nat → Int32) : va_W := [(a 0, .inr (3, [.ref (a 1), .ref (a 2)])), (a 1, .inl (Γ.2 0, 256, .inl o)), (a 2, .inl (Γ.2 0, 256, .inl p))]
def txB (Γ : wG) (a : Nat → Nat) (cs : Nat → Int32) (n : Int32) : va_W := [(a 0, .inr (1, [.ref (a 1), .int n])), (a 1, .inl (Γ.2 0, 60, .inl cs))]
/-- the main object, its parts by their first cells -/
def mnC (q : Nat) (an ap : Nat → Nat) (qs : Nat) (ac au ax : Nat → Nat) (n : Int32) : va_W := [(q, .inr (4, [.ref (an 0), .ref (ap 0), .ref qs, .int n, .ref (ac 0), .ref (au 0), .ref (ax 0)]))]
def svB (Γ : wG) (q : Nat) (g : Nat → Nat) : va_W := [(q, .inl (Γ.2 2, 6, .inr (.inr (.inr (.inr (fun j => some (g j)))))))]
/-- the saved states: their row, and the six places -/
def sgB (Γ : wG) (q : Nat) (sa : Nat → Nat → Nat) (vs : Nat → Nat → Nat → Int32) : va_W := svB Γ q (fun j => sa j 0) ++ (plB Γ (sa 0) (vs 0) ++ (plB Γ (sa 1) (vs 1) ++ (plB Γ (sa 2) (vs 2) ++ (plB Γ (sa 3) (vs 3) ++ (plB Γ (sa 4) (vs 4) ++ plB Γ (sa 5) (vs 5))))))
/-- the law's row of one long -/
def ouB (Γ : wG) (q : Nat) (f : Nat → Int64) : va_W := [(q, .inl (Γ.2 3, 1, .inr (.inl f)))]
/-- one number, one row put anew -/
def sS (v : Nat → Nat → Int32) (i : Nat) (x : Int32) : Nat → Nat → Int32 := va_up v 0 (upd (v 0) i x)
def sR (v : Nat → Nat → Int32) (r : Nat) (f : Nat → Int32) : Nat → Nat → Int32 := va_up v r f
/-! ===== rows of the walk ===== -/
section WR
variable {p : Program} {l : Launch} {e : Env} {R : Room} {s : State} {m : MethodId} {args : Array Value} {below : List Frame} {meth : Method} {c : Code} {H : Heap} {locs : List Loc} {cells slots : Nat} {Q : State → Prop}
variable {pc : Nat} {ls : Array Slot} {rest : List Value} {cc : ByteArray} {D : va_G} {cl : List vw_C} {ws : va_W} {tys : List (ClassId × FieldType)} {A : Nat → Prop} {H0 : Heap} {a : Nat}
theorem lv_eqi {x y : Int32} (h : x = y) (k : W p l e R s m args below meth c H locs cells slots Q (F0 m pc ls (.int y :: rest))) : W p l e R s m args below meth c H locs cells slots Q (F0 m pc ls (.int x :: rest)) := by rw [h]; exact k
theorem wl {σ : Type} (I : Nat → σ → Heap → List Loc → Array Slot → Prop)
    (h0 : ∀ (x : σ) (H : Heap) (locs : List Loc) (ls : Array Slot), I 0 x H locs ls → W p l e R s m args below meth c H locs cells slots Q (F0 m pc ls []))
    (h1 : ∀ n : Nat, (∀ (x : σ) (H : Heap) (locs : List Loc) (ls : Array Slot), I n x H locs ls → W p l e R s m args below meth c H locs cells slots Q (F0 m pc ls [])) → ∀ (x : σ) (H : Heap) (locs : List Loc) (ls : Array Slot), I (n + 1) x H locs ls → W p l e R s m args below meth c H locs cells slots Q (F0 m pc ls [])) :
    ∀ (n : Nat) (x : σ) (H : Heap) (locs : List Loc) (ls : Array Slot), I n x H locs ls → W p l e R s m args below meth c H locs cells slots Q (F0 m pc ls []) := by
  intro n
  induction n with
  | zero => exact h0
  | succ n ih => exact h1 n ih
theorem va_iald_n (hexec : p.tables.exec = Jvm.exec) (hb : c.code = cc) (hK : va_K D cl tys s) (hP : va_P D cl ws H) (q0 t0 : Nat) {cA : ClassId} {n k : Nat} {f : Nat → Int32} (ha : ws[q0]? = some (a, .inl (cA, n, .inl f))) (ht : tys[t0]? = some (cA, .int)) (hk : k < n) (hn : n ≤ 2147483648) (hdg : decode cc pc = .ok (.iaload, 1))
    (kk : W p l e R s m args below meth c H locs cells slots Q (F0 m (pc + 1) ls (.int (f k) :: rest))) : W p l e R s m args below meth c H locs cells slots Q (F0 m pc ls (.int (nI k) :: .ref a :: rest)) := by
  have h2 : k < 2 ^ 31 := by omega
  have h3 : vp_in (nI k) n := by
    intro h
    rcases h with h | h
    · exact nI_pos h2 h
    · rw [nI_clamp h2] at h; omega
  exact va_iald hexec hb hK hP q0 t0 ha ht h3 hdg (by rw [nI_clamp h2]; exact kk)
theorem va_cald_n (hexec : p.tables.exec = Jvm.exec) (hb : c.code = cc) (hK : va_K D cl tys s) (hP : va_P D cl ws H) (q0 t0 : Nat) {cA : ClassId} {n k : Nat} {f : Nat → Int32} (ha : ws[q0]? = some (a, .inl (cA, n, .inl f))) (ht : tys[t0]? = some (cA, .char)) (hk : k < n) (hn : n ≤ 2147483648) (hdg : decode cc pc = .ok (.caload, 1))
    (kk : W p l e R s m args below meth c H locs cells slots Q (F0 m (pc + 1) ls (.int (f k) :: rest))) : W p l e R s m args below meth c H locs cells slots Q (F0 m pc ls (.int (nI k) :: .ref a :: rest)) := by
  have h2 : k < 2 ^ 31 := by omega
  have h3 : vp_in (nI k) n := by
    intro h
    rcases h with h | h
    · exact nI_pos h2 h
    · rw [nI_clamp h2] at h; omega
  exact va_cald hexec hb hK hP q0 t0 ha ht h3 hdg (by rw [nI_clamp h2]; exact kk)
theorem va_iast_n (hexec : p.tables.exec = Jvm.exec) (hb : c.code = cc) (hK : va_K D cl tys s) (hP : va_P D cl ws H) (hD : va_D A ws) (hS : va_S A H0 H locs) (q0 t0 : Nat) {cA : ClassId} {n k : Nat} {f : Nat → Int32} (ha : ws[q0]? = some (a, .inl (cA, n, .inl f))) (ht : tys[t0]? = some (cA, .int)) {x : Int32} (hk : k < n) (hn : n ≤ 2147483648) (hdg : decode cc pc = .ok (.iastore, 1))
    (kk : ∀ (H1 : Heap) (locs1 : List Loc), va_P D cl (ws.set q0 (a, .inl (cA, n, .inl (upd f k x)))) H1 → va_D A (ws.set q0 (a, .inl (cA, n, .inl (upd f k x)))) → va_S A H0 H1 locs1 → W p l e R s m args below meth c H1 locs1 cells slots Q (F0 m (pc + 1) ls rest)) : W p l e R s m args below meth c H locs cells slots Q (F0 m pc ls (.int x :: .int (nI k) :: .ref a :: rest)) := by
  have h2 : k < 2 ^ 31 := by omega
  have h3 : vp_in (nI k) n := by
    intro h
    rcases h with h | h
    · exact nI_pos h2 h
    · rw [nI_clamp h2] at h; omega
  exact va_iast hexec hb hK hP hD hS q0 t0 ha ht h3 hdg (by rw [nI_clamp h2]; exact kk)
end WR
theorem vpN {k : Int32} {n : Nat} (hn : n < 2 ^ 31) (h0 : ¬ k < 0) (h8 : ¬ nI n ≤ k) : vp_in k n := by
  obtain ⟨j, hj, e⟩ := nI_of h0
  subst e
  rw [nI_leI hn hj] at h8
  exact vp_in_nI (Nat.not_le.mp h8) hn
theorem vp8 {k : Int32} (h0 : ¬ k < 0) (h8 : ¬ nI 8 ≤ k) : vp_in k 8 := vpN (by decide) h0 h8
theorem vp60 {k : Int32} (h0 : ¬ k < 0) (h8 : ¬ nI 60 ≤ k) : vp_in k 60 := vpN (by decide) h0 h8
theorem vp256 {k : Int32} (h0 : ¬ k < 0) (h8 : ¬ nI 256 ≤ k) : vp_in k 256 := vpN (by decide) h0 h8
/-- the same as Met.ofW, for a method of java.lang.Math that has no entry of its own -/
theorem ofWF {l : Launch} {y : MethodName} {ws ws' : List Cond} {rm : Room} {Pc : Array Value → State → Prop} {Qc : Array Value → State → Outcome → State → Prop} {mc ms : Nat} {free : Addr → Prop} {cc : ByteArray} {maxL : Nat} {ret : Option FieldType}
    (hy : plainFor y = true) (hw : ws = Cond.code y cc maxL ret :: ws')
    (body : ∀ p e s m args below meth c s₁, BodyLoose p l y (headSpec ws rm) cc maxL ret e s m args below meth c s₁ → c.maxLocals = maxL → Pc args s →
      W p l e (headSpec ws rm).room s m args below meth c s.heap [] 0 0 (MQ below Qc args s mc ms free) (entryFrame m args maxL)) : Met l y ws rm Pc Qc mc ms free := by
  refine MetFree.of_bodySF (code := cc) (maxLocals := maxL) (ret := ret) hy ?_ ?_
  · intro args s m h hn
    obtain ⟨meth, c, h1, h2, h3, h4, h5, h6, -, -⟩ := Cond.code_spec hn (atoms_spec (ws := ws) h _ (by rw [hw]; exact List.mem_cons_self))
    exact ⟨meth, c, h1, h2, h3, h4, h5, h6⟩
  · intro p e s m args below meth c s₁ B hml hP _
    have hh0 : s₁.heap = s.heap := by rw [B.state]; rfl
    obtain ⟨t, a1, o, b1, b2, b3⟩ := body p e s m args below meth c s₁ B hml hP s₁ hh0 (Stand.of_body B)
    exact ⟨t, o, a1, b1, b2, ⟨b3.1, b3.2⟩⟩
theorem wj {p : Program} {l : Launch} {e : Env} {R : Room} {s : State} {m : MethodId} {args : Array Value} {below : List Frame} {meth : Method} {c : Code} {H0 : Heap} {locs0 : List Loc} {cells slots : Nat} {Q : State → Prop} {g : JFrame} {σ : Type} {pc : Nat} {st : σ → List Value} (I : σ → Heap → List Loc → Array Slot → Prop)
    (h : ∀ (x : σ) (H : Heap) (locs : List Loc) (ls : Array Slot), I x H locs ls → W p l e R s m args below meth c H locs cells slots Q (F0 m pc ls (st x)))
    (k : (∀ (x : σ) (H : Heap) (locs : List Loc) (ls : Array Slot), I x H locs ls → W p l e R s m args below meth c H locs cells slots Q (F0 m pc ls (st x))) → W p l e R s m args below meth c H0 locs0 cells slots Q g) : W p l e R s m args below meth c H0 locs0 cells slots Q g := k h
theorem ltN {a b : Nat} (ha : a < 2 ^ 31) (hb : b < 2 ^ 31) (h : ¬ nI b ≤ nI a) : a < b := by
  rw [nI_leI hb ha] at h
  exact Nat.not_le.mp h
def dn : Nat → Int32
  | 0 => -1
  | n + 1 => nI n
theorem dn_m1 (n : Nat) : nI n + (-1) = dn n := by
  cases n with
  | zero => decide
  | succ n => exact pk_m1 n
theorem nar01 {x : Int32} (h : x = nI 0 ∨ x = nI 1) : narrow .boolean (.int x) = .int x := by rcases h with h | h <;> rw [h] <;> rfl
theorem fit01 {x : Int32} (h : x = nI 0 ∨ x = nI 1) : fits .boolean (.int x) = true := by rcases h with h | h <;> rw [h] <;> rfl
