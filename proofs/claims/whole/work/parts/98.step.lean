/-! ===== a call and its wrapper, the reference beside it ===== -/
theorem inr_0 {k lo hi : Int32} (h : fX5_in k lo hi = 0) : k < lo ∨ (¬ k < lo ∧ ¬ k ≤ hi) := by
  unfold fX5_in at h
  by_cases a : k < lo
  · exact Or.inl a
  · rw [if_neg a] at h
    by_cases b : hi < k
    · exact Or.inr ⟨a, fun z => by rw [Int32.lt_iff_toInt_lt] at b; rw [Int32.le_iff_toInt_le] at z; omega⟩
    · rw [if_neg b] at h; exact absurd h (by decide)
theorem inr_ne {k lo hi : Int32} (h : ¬ fX5_in k lo hi = 0) : ¬ k < lo ∧ k ≤ hi := by
  unfold fX5_in at h
  by_cases a : k < lo
  · rw [if_pos a] at h; exact absurd (by decide) h
  · rw [if_neg a] at h
    by_cases b : hi < k
    · rw [if_pos b] at h; exact absurd (by decide) h
    · exact ⟨a, by rw [Int32.le_iff_toInt_le]; rw [Int32.lt_iff_toInt_lt] at b; omega⟩
theorem in_at5 : ∀ i, i < 5 → ¬ fX5_in (nI i) (nI 0) (nI 4) = 0 := by decide
theorem in_at12 : ∀ i, i < 12 → ¬ fX5_in (nI i) (nI 0) (nI 11) = 0 := by decide
theorem mem5 : ∀ i, i < 5 → nI i ∈ [nI 0, nI 1, nI 2, nI 3, nI 4] := by decide
theorem mem12 : ∀ i, i < 12 → nI i ∈ [nI 0, nI 1, nI 2, nI 3, nI 4, nI 5, nI 6, nI 7, nI 8, nI 9, nI 10, nI 11] := by decide
theorem PLR.num {v : Nat → Nat → Int32} {ck ms : Nat → Int32} (h : PLR v ck ms) : ∃ K, K ≤ 8 ∧ ms 1 = nI K ∧ v 0 0 = nI K := by
  obtain ⟨P, hW, hC, hR, -⟩ := h
  exact ⟨P 0 0, hW.k8, hR.1.2.1, hC.1 0 (by decide)⟩
def STEP (l : Launch) (Γ : wG) (q : Nat) (an ap : Nat → Nat) (qs : Nat) (ac au ax : Nat → Nat) (sa : Nat → Nat → Nat) (oa : Nat) (mo : Nat → Nat) (yL : MethodName) (wsL : List Cond) (y5 : MethodName) (ws5 : List Cond) (av : List Value) (SL sr : Nat) (vs : Nat → Nat → Nat → Int32) (v vsp : Nat → Nat → Int32) (ck so sp : Nat → Int32) (L : Nat) (cs : Nat → Int32) (ol : Nat → Int64) (ms mt mc md : Nat → Int32) (n1 n3 n4 n5 : Int32) : Prop :=
  ∃ (SL2 sr2 : Nat) (vs2 : Nat → Nat → Nat → Int32) (v2 vsp2 : Nat → Nat → Int32) (ck2 so2 sp2 : Nat → Int32) (L2 : Nat) (cs2 : Nat → Int32) (ol2 : Nat → Int64) (ms2 mt2 mc2 md2 : Nat → Int32) (m1 m3 m4 m5 r f : Int32) (rm : Room),
  (MJ l Γ yL wsL ({ frames := 10, cells := 1, slots := 6, locals := 340 }) (.ref q :: (av ++ [.ref oa])) [mnC q an ap qs ac au ax (nI SL), plB Γ an v, plB Γ ap vsp, saB Γ qs sa sr vs, cuB Γ ac ck, suB Γ au so sp, txB Γ ax cs (nI L), ouB Γ oa ol] [mnC q an ap qs ac au ax (nI SL2), plB Γ an v2, plB Γ ap vsp2, saB Γ qs sa sr2 vs2, cuB Γ ac ck2, suB Γ au so2 sp2, txB Γ ax cs2 (nI L2), ouB Γ oa ol2] r ∧ (rm.frames ≤ 9 ∧ rm.locals ≤ 300 ∧ rm.cells = 0 ∧ rm.slots = 0)) ∧ MI l Γ y5 ws5 rm (.ref (mo 0) :: av) [moB Γ mo ms mt mc md (nI SL) n1 (nI L) n3 n4 n5] [moB Γ mo ms2 mt2 mc2 md2 (nI SL2) m1 (nI L2) m3 m4 m5] f ∧ (m1 = r ∧ (r = 0 → ol2 0 = f.toInt64) ∧ REL SL2 sr2 vs2 v2 ck2 so2 sp2 L2 cs2 ms2 mt2)
theorem st_keeper {l : Launch} (hfl : l.stackTraces = false) {Γ : wG} {q : Nat} {an ap : Nat → Nat} {qs : Nat} {ac au ax : Nat → Nat} {sa : Nat → Nat → Nat} {oa : Nat} {mo : Nat → Nat} {SL sr : Nat} {vs : Nat → Nat → Nat → Int32} {v vsp : Nat → Nat → Int32} {ck so sp : Nat → Int32} {L : Nat} {cs : Nat → Int32} {ol : Nat → Int64} {ms mt mc md : Nat → Int32} {n1 n3 n4 n5 : Int32} (h : REL SL sr vs v ck so sp L cs ms mt) : STEP l Γ q an ap qs ac au ax sa oa mo yL_keeper wsL_keeper yX5_keeper wsX5_keeper [] SL sr vs v vsp ck so sp L cs ol ms mt mc md n1 n3 n4 n5 := by
  obtain ⟨K, hK8, hMK, hvK⟩ := h.2.1.num
  have hS6 := h.1.1
  have hsr := h.1.2.1
  have ho := h.1.2.2.1
  have hp := h.1.2.2.2
  have hL := h.2.2.2.1
  have k5 := kX5_keeper l Γ mo SL ms mt mc md n1 (nI L) n3 n4 n5 hS6
  rcases q_keeper h with ⟨c1, e⟩ | ⟨c1, ms2, e, R⟩
  · rw [e] at k5
    exact ⟨SL, sr, vs, v, vsp, ck, so, sp, L, cs, ol, _, _, _, _, nI 1, _, _, _, nI 1, _, _, ⟨xL_keeper_1 l Γ q an ap qs ac au ax sa oa ol SL sr vs v vsp ck so sp L cs _ (by decide) (by decide) (by rfl) (by rfl) (TX.frame (tX4_keeper_a l hfl Γ q an ap qs ac au ax (nI SL) v c1) [0, 1] rfl rfl), by decide⟩, k5, rfl, fun z => absurd z (by decide), h⟩
  · rw [e] at k5
    exact ⟨(fX4_keeper SL sr vs v).2.1, (fX4_keeper SL sr vs v).2.2.1, (fX4_keeper SL sr vs v).2.2.2.1, (fX4_keeper SL sr vs v).2.2.2.2, vsp, ck, so, sp, L, cs, vp_updL ol 0 ((fX4_keeper SL sr vs v).1).toInt64, _, _, _, _, nI 0, _, _, _, nI 0, _, _, ⟨sL_keeper l Γ q an ap qs ac au ax sa oa ol SL sr vs v vsp ck so sp L cs ((fX4_keeper SL sr vs v).2.1) ((fX4_keeper SL sr vs v).2.2.1) ((fX4_keeper SL sr vs v).2.2.2.1) ((fX4_keeper SL sr vs v).2.2.2.2) vsp ck so sp L cs ((fX4_keeper SL sr vs v).1) _ (by decide) (by decide) (by rfl) (by rfl) (MI.frame (kX4_keeper l Γ q an ap qs ac au ax SL sa sr vs v hS6 hsr c1) [0, 3, 1] rfl rfl (by simp only [List.map_cons, List.map_nil, suB_w, plB_w, cuB_w, txB_w, mnC_w, saB_w]) rfl), by decide⟩, k5, rfl, fun _ => rfl, R⟩
theorem st_die {l : Launch} (hfl : l.stackTraces = false) {Γ : wG} {q : Nat} {an ap : Nat → Nat} {qs : Nat} {ac au ax : Nat → Nat} {sa : Nat → Nat → Nat} {oa : Nat} {mo : Nat → Nat} {SL sr : Nat} {vs : Nat → Nat → Nat → Int32} {v vsp : Nat → Nat → Int32} {ck so sp : Nat → Int32} {L : Nat} {cs : Nat → Int32} {ol : Nat → Int64} {ms mt mc md : Nat → Int32} {n1 n3 n4 n5 : Int32} (h : REL SL sr vs v ck so sp L cs ms mt) (k : Int32) : STEP l Γ q an ap qs ac au ax sa oa mo yL_die wsL_die yX5_die wsX5_die [.int k] SL sr vs v vsp ck so sp L cs ol ms mt mc md n1 n3 n4 n5 := by
  obtain ⟨K, hK8, hMK, hvK⟩ := h.2.1.num
  have hS6 := h.1.1
  have hsr := h.1.2.1
  have ho := h.1.2.2.1
  have hp := h.1.2.2.2
  have hL := h.2.2.2.1
  have k5 := kX5_die l Γ mo SL K ms mt mc md n1 (nI L) n3 n4 n5 k hS6 hMK hK8
  rcases q_die h k with ⟨c1, e⟩ | ⟨c1, c2, e⟩ | ⟨c1, c2, ms2, e, R⟩
  · rw [e] at k5
    exact ⟨SL, sr, vs, v, vsp, ck, so, sp, L, cs, ol, _, _, _, _, nI 1, _, _, _, nI 1, _, _, ⟨xL_die_1 l Γ q an ap qs ac au ax sa oa ol k SL sr vs v vsp ck so sp L cs _ (by decide) (by decide) (by rfl) (by rfl) (TX.frame (tX4_die_a l hfl Γ q an ap qs ac au ax (nI SL) v k c1) [0, 1] rfl rfl), by decide⟩, k5, rfl, fun z => absurd z (by decide), h⟩
  · rw [e] at k5
    exact ⟨SL, sr, vs, v, vsp, ck, so, sp, L, cs, ol, _, _, _, _, nI 2, _, _, _, nI 2, _, _, ⟨xL_die_2 l Γ q an ap qs ac au ax sa oa ol k SL sr vs v vsp ck so sp L cs _ (by decide) (by decide) (by rfl) (by rfl) (TX.frame (tX4_die_b l hfl Γ q an ap qs ac au ax (nI SL) v k c1 c2) [0, 1] rfl rfl), by decide⟩, k5, rfl, fun z => absurd z (by decide), h⟩
  · rw [e] at k5
    exact ⟨(fX4_die SL sr vs v k).2.1, (fX4_die SL sr vs v k).2.2.1, (fX4_die SL sr vs v k).2.2.2.1, (fX4_die SL sr vs v k).2.2.2.2, vsp, ck, so, sp, L, cs, vp_updL ol 0 ((fX4_die SL sr vs v k).1).toInt64, _, _, _, _, nI 0, _, _, _, nI 0, _, _, ⟨sL_die l Γ q an ap qs ac au ax sa oa ol k SL sr vs v vsp ck so sp L cs ((fX4_die SL sr vs v k).2.1) ((fX4_die SL sr vs v k).2.2.1) ((fX4_die SL sr vs v k).2.2.2.1) ((fX4_die SL sr vs v k).2.2.2.2) vsp ck so sp L cs ((fX4_die SL sr vs v k).1) _ (by decide) (by decide) (by rfl) (by rfl) (MI.frame (kX4_die l Γ q an ap qs ac au ax SL sa sr vs v k hS6 hsr c1 c2) [0, 3, 1] rfl rfl (by simp only [List.map_cons, List.map_nil, suB_w, plB_w, cuB_w, txB_w, mnC_w, saB_w]) rfl), by decide⟩, k5, rfl, fun _ => rfl, R⟩
theorem st_heir {l : Launch} (hfl : l.stackTraces = false) {Γ : wG} {q : Nat} {an ap : Nat → Nat} {qs : Nat} {ac au ax : Nat → Nat} {sa : Nat → Nat → Nat} {oa : Nat} {mo : Nat → Nat} {SL sr : Nat} {vs : Nat → Nat → Nat → Int32} {v vsp : Nat → Nat → Int32} {ck so sp : Nat → Int32} {L : Nat} {cs : Nat → Int32} {ol : Nat → Int64} {ms mt mc md : Nat → Int32} {n1 n3 n4 n5 : Int32} (h : REL SL sr vs v ck so sp L cs ms mt) (k : Int32) (o : Int32) : STEP l Γ q an ap qs ac au ax sa oa mo yL_heir wsL_heir yX5_heir wsX5_heir [.int k, .int o] SL sr vs v vsp ck so sp L cs ol ms mt mc md n1 n3 n4 n5 := by
  obtain ⟨K, hK8, hMK, hvK⟩ := h.2.1.num
  have hS6 := h.1.1
  have hsr := h.1.2.1
  have ho := h.1.2.2.1
  have hp := h.1.2.2.2
  have hL := h.2.2.2.1
  have k5 := kX5_heir l Γ mo SL K ms mt mc md n1 (nI L) n3 n4 n5 k o hS6 hMK hK8
  rcases q_heir h k o with ⟨c1, e⟩ | ⟨c1, c2, c3, e⟩ | ⟨c1, c2, c3, e⟩ | ⟨c1, c2, c3, ms2, e, R⟩
  · rw [e] at k5
    exact ⟨SL, sr, vs, v, vsp, ck, so, sp, L, cs, ol, _, _, _, _, nI 1, _, _, _, nI 1, _, _, ⟨xL_heir_1 l Γ q an ap qs ac au ax sa oa ol k o SL sr vs v vsp ck so sp L cs _ (by decide) (by decide) (by rfl) (by rfl) (TX.frame (tX4_heir_a l hfl Γ q an ap qs ac au ax (nI SL) v k o c1) [0, 1] rfl rfl), by decide⟩, k5, rfl, fun z => absurd z (by decide), h⟩
  · rw [e] at k5
    exact ⟨SL, sr, vs, v, vsp, ck, so, sp, L, cs, ol, _, _, _, _, nI 1, _, _, _, nI 1, _, _, ⟨xL_heir_1 l Γ q an ap qs ac au ax sa oa ol k o SL sr vs v vsp ck so sp L cs _ (by decide) (by decide) (by rfl) (by rfl) (TX.frame (tX4_heir_b l hfl Γ q an ap qs ac au ax (nI SL) v k o c1 c2 c3) [0, 1] rfl rfl), by decide⟩, k5, rfl, fun z => absurd z (by decide), h⟩
  · rw [e] at k5
    exact ⟨SL, sr, vs, v, vsp, ck, so, sp, L, cs, ol, _, _, _, _, nI 2, _, _, _, nI 2, _, _, ⟨xL_heir_2 l Γ q an ap qs ac au ax sa oa ol k o SL sr vs v vsp ck so sp L cs _ (by decide) (by decide) (by rfl) (by rfl) (TX.frame (tX4_heir_c l hfl Γ q an ap qs ac au ax (nI SL) v k o c1 c2 c3) [0, 1] rfl rfl), by decide⟩, k5, rfl, fun z => absurd z (by decide), h⟩
  · rw [e] at k5
    exact ⟨(fX4_heir SL sr vs v k o).2.1, (fX4_heir SL sr vs v k o).2.2.1, (fX4_heir SL sr vs v k o).2.2.2.1, (fX4_heir SL sr vs v k o).2.2.2.2, vsp, ck, so, sp, L, cs, vp_updL ol 0 ((fX4_heir SL sr vs v k o).1).toInt64, _, _, _, _, nI 0, _, _, _, nI 0, _, _, ⟨sL_heir l Γ q an ap qs ac au ax sa oa ol k o SL sr vs v vsp ck so sp L cs ((fX4_heir SL sr vs v k o).2.1) ((fX4_heir SL sr vs v k o).2.2.1) ((fX4_heir SL sr vs v k o).2.2.2.1) ((fX4_heir SL sr vs v k o).2.2.2.2) vsp ck so sp L cs ((fX4_heir SL sr vs v k o).1) _ (by decide) (by decide) (by rfl) (by rfl) (MI.frame (kX4_heir l Γ q an ap qs ac au ax SL sa sr vs v k o hS6 hsr c1 c2 c3) [0, 3, 1] rfl rfl (by simp only [List.map_cons, List.map_nil, suB_w, plB_w, cuB_w, txB_w, mnC_w, saB_w]) rfl), by decide⟩, k5, rfl, fun _ => rfl, R⟩
theorem st_quarrel {l : Launch} (hfl : l.stackTraces = false) {Γ : wG} {q : Nat} {an ap : Nat → Nat} {qs : Nat} {ac au ax : Nat → Nat} {sa : Nat → Nat → Nat} {oa : Nat} {mo : Nat → Nat} {SL sr : Nat} {vs : Nat → Nat → Nat → Int32} {v vsp : Nat → Nat → Int32} {ck so sp : Nat → Int32} {L : Nat} {cs : Nat → Int32} {ol : Nat → Int64} {ms mt mc md : Nat → Int32} {n1 n3 n4 n5 : Int32} (h : REL SL sr vs v ck so sp L cs ms mt) (k : Int32) (o : Int32) : STEP l Γ q an ap qs ac au ax sa oa mo yL_quarrel wsL_quarrel yX5_quarrel wsX5_quarrel [.int k, .int o] SL sr vs v vsp ck so sp L cs ol ms mt mc md n1 n3 n4 n5 := by
  obtain ⟨K, hK8, hMK, hvK⟩ := h.2.1.num
  have hS6 := h.1.1
  have hsr := h.1.2.1
  have ho := h.1.2.2.1
  have hp := h.1.2.2.2
  have hL := h.2.2.2.1
  have k5 := kX5_quarrel l Γ mo SL K ms mt mc md n1 (nI L) n3 n4 n5 k o hS6 hMK hK8
  rcases q_quarrel h k o with ⟨c1, e⟩ | ⟨c1, c2, e⟩ | ⟨c1, c2, c3, e⟩ | ⟨c1, c2, c3, ms2, e, R⟩
  · rw [e] at k5
    exact ⟨SL, sr, vs, v, vsp, ck, so, sp, L, cs, ol, _, _, _, _, nI 1, _, _, _, nI 1, _, _, ⟨xL_quarrel_1 l Γ q an ap qs ac au ax sa oa ol k o SL sr vs v vsp ck so sp L cs _ (by decide) (by decide) (by rfl) (by rfl) (TX.frame (tX4_quarrel_a l hfl Γ q an ap qs ac au ax (nI SL) v k o c1) [0, 1] rfl rfl), by decide⟩, k5, rfl, fun z => absurd z (by decide), h⟩
  · rw [e] at k5
    exact ⟨SL, sr, vs, v, vsp, ck, so, sp, L, cs, ol, _, _, _, _, nI 1, _, _, _, nI 1, _, _, ⟨xL_quarrel_1 l Γ q an ap qs ac au ax sa oa ol k o SL sr vs v vsp ck so sp L cs _ (by decide) (by decide) (by rfl) (by rfl) (TX.frame (tX4_quarrel_b l hfl Γ q an ap qs ac au ax (nI SL) v k o c1 c2) [0, 1] rfl rfl), by decide⟩, k5, rfl, fun z => absurd z (by decide), h⟩
  · rw [e] at k5
    exact ⟨SL, sr, vs, v, vsp, ck, so, sp, L, cs, ol, _, _, _, _, nI 2, _, _, _, nI 2, _, _, ⟨xL_quarrel_2 l Γ q an ap qs ac au ax sa oa ol k o SL sr vs v vsp ck so sp L cs _ (by decide) (by decide) (by rfl) (by rfl) (TX.frame (tX4_quarrel_c l hfl Γ q an ap qs ac au ax (nI SL) v k o c1 c2 c3) [0, 1] rfl rfl), by decide⟩, k5, rfl, fun z => absurd z (by decide), h⟩
  · rw [e] at k5
    exact ⟨(fX4_quarrel SL sr vs v k o).2.1, (fX4_quarrel SL sr vs v k o).2.2.1, (fX4_quarrel SL sr vs v k o).2.2.2.1, (fX4_quarrel SL sr vs v k o).2.2.2.2, vsp, ck, so, sp, L, cs, vp_updL ol 0 ((fX4_quarrel SL sr vs v k o).1).toInt64, _, _, _, _, nI 0, _, _, _, nI 0, _, _, ⟨sL_quarrel l Γ q an ap qs ac au ax sa oa ol k o SL sr vs v vsp ck so sp L cs ((fX4_quarrel SL sr vs v k o).2.1) ((fX4_quarrel SL sr vs v k o).2.2.1) ((fX4_quarrel SL sr vs v k o).2.2.2.1) ((fX4_quarrel SL sr vs v k o).2.2.2.2) vsp ck so sp L cs ((fX4_quarrel SL sr vs v k o).1) _ (by decide) (by decide) (by rfl) (by rfl) (MI.frame (kX4_quarrel l Γ q an ap qs ac au ax SL sa sr vs v k o hS6 hsr c1 c2 c3) [0, 3, 1] rfl rfl (by simp only [List.map_cons, List.map_nil, suB_w, plB_w, cuB_w, txB_w, mnC_w, saB_w]) rfl), by decide⟩, k5, rfl, fun _ => rfl, R⟩
theorem st_seal {l : Launch} (hfl : l.stackTraces = false) {Γ : wG} {q : Nat} {an ap : Nat → Nat} {qs : Nat} {ac au ax : Nat → Nat} {sa : Nat → Nat → Nat} {oa : Nat} {mo : Nat → Nat} {SL sr : Nat} {vs : Nat → Nat → Nat → Int32} {v vsp : Nat → Nat → Int32} {ck so sp : Nat → Int32} {L : Nat} {cs : Nat → Int32} {ol : Nat → Int64} {ms mt mc md : Nat → Int32} {n1 n3 n4 n5 : Int32} (h : REL SL sr vs v ck so sp L cs ms mt) (ky : Int32) (qq : Int32) (dt : Int32) : STEP l Γ q an ap qs ac au ax sa oa mo yL_seal wsL_seal yX5_seal wsX5_seal [.int ky, .int qq, .int dt] SL sr vs v vsp ck so sp L cs ol ms mt mc md n1 n3 n4 n5 := by
  obtain ⟨K, hK8, hMK, hvK⟩ := h.2.1.num
  have hS6 := h.1.1
  have hsr := h.1.2.1
  have ho := h.1.2.2.1
  have hp := h.1.2.2.2
  have hL := h.2.2.2.1
  have k5 := kX5_seal l Γ mo SL ms mt mc md n1 (nI L) n3 n4 n5 ky qq dt hS6
  rcases q_seal h mc ky qq dt with ⟨c1, e⟩ | ⟨c1, c2, c3, c4, e⟩ | ⟨Q, ms2, mc2, c1, rfl, q1, q8, c3, c4, e, R⟩
  · rw [e] at k5
    by_cases d1 : fX5_in ky (nI 0) (nI 250) = 0
    · rcases inr_0 d1 with z1 | ⟨z1, z2⟩
      ·
        exact ⟨SL, sr, vs, v, vsp, ck, so, sp, L, cs, ol, _, _, _, _, nI 1, _, _, _, nI 1, _, _, ⟨xL_seal_1 l Γ q an ap qs ac au ax sa oa ol ky qq dt SL sr vs v vsp ck so sp L cs _ (by decide) (by decide) (by rfl) (by rfl) (TX.frame (tX4_seal_a5 l hfl Γ q an ap qs ac au ax (nI SL) v ky qq dt z1) [0, 1] rfl rfl), by decide⟩, k5, rfl, fun z => absurd z (by decide), h⟩
      ·
        exact ⟨SL, sr, vs, v, vsp, ck, so, sp, L, cs, ol, _, _, _, _, nI 1, _, _, _, nI 1, _, _, ⟨xL_seal_1 l Γ q an ap qs ac au ax sa oa ol ky qq dt SL sr vs v vsp ck so sp L cs _ (by decide) (by decide) (by rfl) (by rfl) (TX.frame (tX4_seal_b5 l hfl Γ q an ap qs ac au ax (nI SL) v ky qq dt z1 z2) [0, 1] rfl rfl), by decide⟩, k5, rfl, fun z => absurd z (by decide), h⟩
    · obtain ⟨y1, y2⟩ := inr_ne d1
      by_cases d2 : fX5_in qq (nI 1) (nI 8) = 0
      · rcases inr_0 d2 with z1 | ⟨z1, z2⟩
        ·
          exact ⟨SL, sr, vs, v, vsp, ck, so, sp, L, cs, ol, _, _, _, _, nI 1, _, _, _, nI 1, _, _, ⟨xL_seal_1 l Γ q an ap qs ac au ax sa oa ol ky qq dt SL sr vs v vsp ck so sp L cs _ (by decide) (by decide) (by rfl) (by rfl) (TX.frame (tX4_seal_a12 l hfl Γ q an ap qs ac au ax (nI SL) v ky qq dt y1 y2 z1) [0, 1] rfl rfl), by decide⟩, k5, rfl, fun z => absurd z (by decide), h⟩
        ·
          exact ⟨SL, sr, vs, v, vsp, ck, so, sp, L, cs, ol, _, _, _, _, nI 1, _, _, _, nI 1, _, _, ⟨xL_seal_1 l Γ q an ap qs ac au ax sa oa ol ky qq dt SL sr vs v vsp ck so sp L cs _ (by decide) (by decide) (by rfl) (by rfl) (TX.frame (tX4_seal_b12 l hfl Γ q an ap qs ac au ax (nI SL) v ky qq dt y1 y2 z1 z2) [0, 1] rfl rfl), by decide⟩, k5, rfl, fun z => absurd z (by decide), h⟩
      · obtain ⟨y3, y4⟩ := inr_ne d2
        rcases inr_0 ((c1.resolve_left d1).resolve_left d2) with z1 | ⟨z1, z2⟩
        ·
          exact ⟨SL, sr, vs, v, vsp, ck, so, sp, L, cs, ol, _, _, _, _, nI 1, _, _, _, nI 1, _, _, ⟨xL_seal_1 l Γ q an ap qs ac au ax sa oa ol ky qq dt SL sr vs v vsp ck so sp L cs _ (by decide) (by decide) (by rfl) (by rfl) (TX.frame (tX4_seal_a20 l hfl Γ q an ap qs ac au ax (nI SL) v ky qq dt y1 y2 y3 y4 z1) [0, 1] rfl rfl), by decide⟩, k5, rfl, fun z => absurd z (by decide), h⟩
        ·
          exact ⟨SL, sr, vs, v, vsp, ck, so, sp, L, cs, ol, _, _, _, _, nI 1, _, _, _, nI 1, _, _, ⟨xL_seal_1 l Γ q an ap qs ac au ax sa oa ol ky qq dt SL sr vs v vsp ck so sp L cs _ (by decide) (by decide) (by rfl) (by rfl) (TX.frame (tX4_seal_b20 l hfl Γ q an ap qs ac au ax (nI SL) v ky qq dt y1 y2 y3 y4 z1 z2) [0, 1] rfl rfl), by decide⟩, k5, rfl, fun z => absurd z (by decide), h⟩
  · rw [e] at k5
    exact ⟨SL, sr, vs, v, vsp, ck, so, sp, L, cs, ol, _, _, _, _, nI 2, _, _, _, nI 2, _, _, ⟨xL_seal_2 l Γ q an ap qs ac au ax sa oa ol ky qq dt SL sr vs v vsp ck so sp L cs _ (by decide) (by decide) (by rfl) (by rfl) (TX.frame (tX4_seal_c l hfl Γ q an ap qs ac au ax (nI SL) v ky qq dt (inr_ne c1).1 (inr_ne c1).2 (inr_ne c2).1 (inr_ne c2).2 (inr_ne c3).1 (inr_ne c3).2 c4) [0, 1] rfl rfl), by decide⟩, k5, rfl, fun z => absurd z (by decide), h⟩
  · rw [e] at k5
    exact ⟨(fX4_seal SL sr vs v ck ky Q dt).2.1, (fX4_seal SL sr vs v ck ky Q dt).2.2.1, (fX4_seal SL sr vs v ck ky Q dt).2.2.2.1, (fX4_seal SL sr vs v ck ky Q dt).2.2.2.2.1, vsp, (fX4_seal SL sr vs v ck ky Q dt).2.2.2.2.2, so, sp, L, cs, vp_updL ol 0 ((fX4_seal SL sr vs v ck ky Q dt).1).toInt64, _, _, _, _, nI 0, _, _, _, nI 0, _, _, ⟨sL_seal l Γ q an ap qs ac au ax sa oa ol ky (nI Q) dt SL sr vs v vsp ck so sp L cs ((fX4_seal SL sr vs v ck ky Q dt).2.1) ((fX4_seal SL sr vs v ck ky Q dt).2.2.1) ((fX4_seal SL sr vs v ck ky Q dt).2.2.2.1) ((fX4_seal SL sr vs v ck ky Q dt).2.2.2.2.1) vsp ((fX4_seal SL sr vs v ck ky Q dt).2.2.2.2.2) so sp L cs ((fX4_seal SL sr vs v ck ky Q dt).1) _ (by decide) (by decide) (by rfl) (by rfl) (MI.frame (kX4_seal l Γ q an ap qs ac au ax SL sa sr vs v ck ky Q dt hS6 hsr (inr_ne c1).1 (inr_ne c1).2 q1 q8 (inr_ne c3).1 (inr_ne c3).2 c4) [0, 3, 1, 4] rfl rfl (by simp only [List.map_cons, List.map_nil, suB_w, plB_w, cuB_w, txB_w, mnC_w, saB_w]) rfl), by decide⟩, k5, rfl, fun _ => rfl, R⟩
theorem st_renew {l : Launch} (hfl : l.stackTraces = false) {Γ : wG} {q : Nat} {an ap : Nat → Nat} {qs : Nat} {ac au ax : Nat → Nat} {sa : Nat → Nat → Nat} {oa : Nat} {mo : Nat → Nat} {SL sr : Nat} {vs : Nat → Nat → Nat → Int32} {v vsp : Nat → Nat → Int32} {ck so sp : Nat → Int32} {L : Nat} {cs : Nat → Int32} {ol : Nat → Int64} {ms mt mc md : Nat → Int32} {n1 n3 n4 n5 : Int32} (h : REL SL sr vs v ck so sp L cs ms mt) : STEP l Γ q an ap qs ac au ax sa oa mo yL_renew wsL_renew yX5_renew wsX5_renew [] SL sr vs v vsp ck so sp L cs ol ms mt mc md n1 n3 n4 n5 := by
  obtain ⟨K, hK8, hMK, hvK⟩ := h.2.1.num
  have hS6 := h.1.1
  have hsr := h.1.2.1
  have ho := h.1.2.2.1
  have hp := h.1.2.2.2
  have hL := h.2.2.2.1
  rcases q_renew h mc with ⟨c1, e⟩ | ⟨c1, Q, ms2, mc2, q7, v6, m29, e, R⟩
  · obtain ⟨Q, q7, -, hQ, -⟩ := q_live h mc md
    have k5 := kX5_renew l Γ mo SL Q ms mt mc md n1 (nI L) n3 n4 n5 hS6 hQ q7
    rw [e Q] at k5
    exact ⟨SL, sr, vs, v, vsp, ck, so, sp, L, cs, ol, _, _, _, _, nI 1, _, _, _, nI 1, _, _, ⟨xL_renew_1 l Γ q an ap qs ac au ax sa oa ol SL sr vs v vsp ck so sp L cs _ (by decide) (by decide) (by rfl) (by rfl) (TX.frame (tX4_renew_a l hfl Γ q an ap qs ac au ax (nI SL) v c1) [0, 1] rfl rfl), by decide⟩, k5, rfl, fun z => absurd z (by decide), h⟩
  · have k5 := kX5_renew l Γ mo SL Q ms mt mc md n1 (nI L) n3 n4 n5 hS6 (fun _ => m29) q7
    rw [e] at k5
    exact ⟨(fX4_renew SL (Q + 1) sr vs v ck).2.1, (fX4_renew SL (Q + 1) sr vs v ck).2.2.1, (fX4_renew SL (Q + 1) sr vs v ck).2.2.2.1, (fX4_renew SL (Q + 1) sr vs v ck).2.2.2.2.1, vsp, (fX4_renew SL (Q + 1) sr vs v ck).2.2.2.2.2, so, sp, L, cs, vp_updL ol 0 ((fX4_renew SL (Q + 1) sr vs v ck).1).toInt64, _, _, _, _, nI 0, _, _, _, nI 0, _, _, ⟨sL_renew l Γ q an ap qs ac au ax sa oa ol SL sr vs v vsp ck so sp L cs ((fX4_renew SL (Q + 1) sr vs v ck).2.1) ((fX4_renew SL (Q + 1) sr vs v ck).2.2.1) ((fX4_renew SL (Q + 1) sr vs v ck).2.2.2.1) ((fX4_renew SL (Q + 1) sr vs v ck).2.2.2.2.1) vsp ((fX4_renew SL (Q + 1) sr vs v ck).2.2.2.2.2) so sp L cs ((fX4_renew SL (Q + 1) sr vs v ck).1) _ (by decide) (by decide) (by rfl) (by rfl) (MI.frame (kX4_renew l Γ q an ap qs ac au ax SL (Q + 1) sa sr vs v ck hS6 hsr (fun _ => v6) (by omega) (by omega) c1) [0, 3, 1, 4] rfl rfl (by simp only [List.map_cons, List.map_nil, suB_w, plB_w, cuB_w, txB_w, mnC_w, saB_w]) rfl), by decide⟩, k5, rfl, fun _ => rfl, R⟩
theorem st_forge {l : Launch} (hfl : l.stackTraces = false) {Γ : wG} {q : Nat} {an ap : Nat → Nat} {qs : Nat} {ac au ax : Nat → Nat} {sa : Nat → Nat → Nat} {oa : Nat} {mo : Nat → Nat} {SL sr : Nat} {vs : Nat → Nat → Nat → Int32} {v vsp : Nat → Nat → Int32} {ck so sp : Nat → Int32} {L : Nat} {cs : Nat → Int32} {ol : Nat → Int64} {ms mt mc md : Nat → Int32} {n1 n3 n4 n5 : Int32} (h : REL SL sr vs v ck so sp L cs ms mt) (k : Int32) (x : Int32) : STEP l Γ q an ap qs ac au ax sa oa mo yL_forge wsL_forge yX5_forge wsX5_forge [.int k, .int x] SL sr vs v vsp ck so sp L cs ol ms mt mc md n1 n3 n4 n5 := by
  obtain ⟨K, hK8, hMK, hvK⟩ := h.2.1.num
  have hS6 := h.1.1
  have hsr := h.1.2.1
  have ho := h.1.2.2.1
  have hp := h.1.2.2.2
  have hL := h.2.2.2.1
  have k5 := kX5_forge l Γ mo SL ms mt mc md n1 (nI L) n3 n4 n5 k x hS6
  rcases q_forge h k x with ⟨c1, e⟩ | ⟨c1, c2, c3, e⟩ | ⟨c1, c2, c3, ms2, e, R⟩
  · rw [e] at k5
    by_cases d1 : fX5_in k (nI 0) (nI 7) = 0
    · rcases inr_0 d1 with z1 | ⟨z1, z2⟩
      ·
        exact ⟨SL, sr, vs, v, vsp, ck, so, sp, L, cs, ol, _, _, _, _, nI 1, _, _, _, nI 1, _, _, ⟨xL_forge_1 l Γ q an ap qs ac au ax sa oa ol k x SL sr vs v vsp ck so sp L cs _ (by decide) (by decide) (by rfl) (by rfl) (TX.frame (tX4_forge_a4 l hfl Γ q an ap qs ac au ax (nI SL) v k x z1) [0, 1] rfl rfl), by decide⟩, k5, rfl, fun z => absurd z (by decide), h⟩
      ·
        exact ⟨SL, sr, vs, v, vsp, ck, so, sp, L, cs, ol, _, _, _, _, nI 1, _, _, _, nI 1, _, _, ⟨xL_forge_1 l Γ q an ap qs ac au ax sa oa ol k x SL sr vs v vsp ck so sp L cs _ (by decide) (by decide) (by rfl) (by rfl) (TX.frame (tX4_forge_b4 l hfl Γ q an ap qs ac au ax (nI SL) v k x z1 z2) [0, 1] rfl rfl), by decide⟩, k5, rfl, fun z => absurd z (by decide), h⟩
    · obtain ⟨y1, y2⟩ := inr_ne d1
      rcases inr_0 (c1.resolve_left d1) with z1 | ⟨z1, z2⟩
      ·
        exact ⟨SL, sr, vs, v, vsp, ck, so, sp, L, cs, ol, _, _, _, _, nI 1, _, _, _, nI 1, _, _, ⟨xL_forge_1 l Γ q an ap qs ac au ax sa oa ol k x SL sr vs v vsp ck so sp L cs _ (by decide) (by decide) (by rfl) (by rfl) (TX.frame (tX4_forge_a12 l hfl Γ q an ap qs ac au ax (nI SL) v k x y1 y2 z1) [0, 1] rfl rfl), by decide⟩, k5, rfl, fun z => absurd z (by decide), h⟩
      ·
        exact ⟨SL, sr, vs, v, vsp, ck, so, sp, L, cs, ol, _, _, _, _, nI 1, _, _, _, nI 1, _, _, ⟨xL_forge_1 l Γ q an ap qs ac au ax sa oa ol k x SL sr vs v vsp ck so sp L cs _ (by decide) (by decide) (by rfl) (by rfl) (TX.frame (tX4_forge_b12 l hfl Γ q an ap qs ac au ax (nI SL) v k x y1 y2 z1 z2) [0, 1] rfl rfl), by decide⟩, k5, rfl, fun z => absurd z (by decide), h⟩
  · rw [e] at k5
    exact ⟨SL, sr, vs, v, vsp, ck, so, sp, L, cs, ol, _, _, _, _, nI 2, _, _, _, nI 2, _, _, ⟨xL_forge_2 l Γ q an ap qs ac au ax sa oa ol k x SL sr vs v vsp ck so sp L cs _ (by decide) (by decide) (by rfl) (by rfl) (TX.frame (tX4_forge_c l hfl Γ q an ap qs ac au ax (nI SL) v k x (inr_ne c1).1 (inr_ne c1).2 (inr_ne c2).1 (inr_ne c2).2 c3) [0, 1] rfl rfl), by decide⟩, k5, rfl, fun z => absurd z (by decide), h⟩
  · rw [e] at k5
    exact ⟨(fX4_forge SL sr vs v ck k x).2.1, (fX4_forge SL sr vs v ck k x).2.2.1, (fX4_forge SL sr vs v ck k x).2.2.2.1, (fX4_forge SL sr vs v ck k x).2.2.2.2.1, vsp, (fX4_forge SL sr vs v ck k x).2.2.2.2.2, so, sp, L, cs, vp_updL ol 0 ((fX4_forge SL sr vs v ck k x).1).toInt64, _, _, _, _, nI 0, _, _, _, nI 0, _, _, ⟨sL_forge l Γ q an ap qs ac au ax sa oa ol k x SL sr vs v vsp ck so sp L cs ((fX4_forge SL sr vs v ck k x).2.1) ((fX4_forge SL sr vs v ck k x).2.2.1) ((fX4_forge SL sr vs v ck k x).2.2.2.1) ((fX4_forge SL sr vs v ck k x).2.2.2.2.1) vsp ((fX4_forge SL sr vs v ck k x).2.2.2.2.2) so sp L cs ((fX4_forge SL sr vs v ck k x).1) _ (by decide) (by decide) (by rfl) (by rfl) (MI.frame (kX4_forge l Γ q an ap qs ac au ax SL sa sr vs v ck k x hS6 hsr (inr_ne c1).1 (inr_ne c1).2 (inr_ne c2).1 (inr_ne c2).2 c3) [0, 3, 1, 4] rfl rfl (by simp only [List.map_cons, List.map_nil, suB_w, plB_w, cuB_w, txB_w, mnC_w, saB_w]) rfl), by decide⟩, k5, rfl, fun _ => rfl, R⟩
theorem st_pass {l : Launch} (hfl : l.stackTraces = false) {Γ : wG} {q : Nat} {an ap : Nat → Nat} {qs : Nat} {ac au ax : Nat → Nat} {sa : Nat → Nat → Nat} {oa : Nat} {mo : Nat → Nat} {SL sr : Nat} {vs : Nat → Nat → Nat → Int32} {v vsp : Nat → Nat → Int32} {ck so sp : Nat → Int32} {L : Nat} {cs : Nat → Int32} {ol : Nat → Int64} {ms mt mc md : Nat → Int32} {n1 n3 n4 n5 : Int32} (h : REL SL sr vs v ck so sp L cs ms mt) (d : Int32) : STEP l Γ q an ap qs ac au ax sa oa mo yL_pass wsL_pass yX5_pass wsX5_pass [.int d] SL sr vs v vsp ck so sp L cs ol ms mt mc md n1 n3 n4 n5 := by
  obtain ⟨K, hK8, hMK, hvK⟩ := h.2.1.num
  have hS6 := h.1.1
  have hsr := h.1.2.1
  have ho := h.1.2.2.1
  have hp := h.1.2.2.2
  have hL := h.2.2.2.1
  have k5 := kX5_pass l Γ mo SL ms mt mc md n1 (nI L) n3 n4 n5 d hS6
  rcases q_pass h d with ⟨c1, e⟩ | ⟨c1, c2, e⟩ | ⟨c1, c2, ms2, e, R⟩
  · rw [e] at k5
    rcases inr_0 c1 with z1 | ⟨z1, z2⟩
    ·
      exact ⟨SL, sr, vs, v, vsp, ck, so, sp, L, cs, ol, _, _, _, _, nI 1, _, _, _, nI 1, _, _, ⟨xL_pass_1 l Γ q an ap qs ac au ax sa oa ol d SL sr vs v vsp ck so sp L cs _ (by decide) (by decide) (by rfl) (by rfl) (TX.frame (tX4_pass_a5 l hfl Γ q an ap qs ac au ax (nI SL) v d z1) [0, 1] rfl rfl), by decide⟩, k5, rfl, fun z => absurd z (by decide), h⟩
    ·
      exact ⟨SL, sr, vs, v, vsp, ck, so, sp, L, cs, ol, _, _, _, _, nI 1, _, _, _, nI 1, _, _, ⟨xL_pass_1 l Γ q an ap qs ac au ax sa oa ol d SL sr vs v vsp ck so sp L cs _ (by decide) (by decide) (by rfl) (by rfl) (TX.frame (tX4_pass_b5 l hfl Γ q an ap qs ac au ax (nI SL) v d z1 z2) [0, 1] rfl rfl), by decide⟩, k5, rfl, fun z => absurd z (by decide), h⟩
  · rw [e] at k5
    exact ⟨SL, sr, vs, v, vsp, ck, so, sp, L, cs, ol, _, _, _, _, nI 2, _, _, _, nI 2, _, _, ⟨xL_pass_2 l Γ q an ap qs ac au ax sa oa ol d SL sr vs v vsp ck so sp L cs _ (by decide) (by decide) (by rfl) (by rfl) (TX.frame (tX4_pass_c l hfl Γ q an ap qs ac au ax (nI SL) v d (inr_ne c1).1 (inr_ne c1).2 c2) [0, 1] rfl rfl), by decide⟩, k5, rfl, fun z => absurd z (by decide), h⟩
  · rw [e] at k5
    exact ⟨(fX4_pass SL sr vs v d).2.1, (fX4_pass SL sr vs v d).2.2.1, (fX4_pass SL sr vs v d).2.2.2.1, (fX4_pass SL sr vs v d).2.2.2.2, vsp, ck, so, sp, L, cs, vp_updL ol 0 ((fX4_pass SL sr vs v d).1).toInt64, _, _, _, _, nI 0, _, _, _, nI 0, _, _, ⟨sL_pass l Γ q an ap qs ac au ax sa oa ol d SL sr vs v vsp ck so sp L cs ((fX4_pass SL sr vs v d).2.1) ((fX4_pass SL sr vs v d).2.2.1) ((fX4_pass SL sr vs v d).2.2.2.1) ((fX4_pass SL sr vs v d).2.2.2.2) vsp ck so sp L cs ((fX4_pass SL sr vs v d).1) _ (by decide) (by decide) (by rfl) (by rfl) (MI.frame (kX4_pass l Γ q an ap qs ac au ax SL sa sr vs v d hS6 hsr (inr_ne c1).1 (inr_ne c1).2 c2) [0, 3, 1] rfl rfl (by simp only [List.map_cons, List.map_nil, suB_w, plB_w, cuB_w, txB_w, mnC_w, saB_w]) rfl), by decide⟩, k5, rfl, fun _ => rfl, R⟩
theorem st_open {l : Launch} (hfl : l.stackTraces = false) {Γ : wG} {q : Nat} {an ap : Nat → Nat} {qs : Nat} {ac au ax : Nat → Nat} {sa : Nat → Nat → Nat} {oa : Nat} {mo : Nat → Nat} {SL sr : Nat} {vs : Nat → Nat → Nat → Int32} {v vsp : Nat → Nat → Int32} {ck so sp : Nat → Int32} {L : Nat} {cs : Nat → Int32} {ol : Nat → Int64} {ms mt mc md : Nat → Int32} {n1 n3 n4 n5 : Int32} (h : REL SL sr vs v ck so sp L cs ms mt) (g : Int32) : STEP l Γ q an ap qs ac au ax sa oa mo yL_open wsL_open yX5_open wsX5_open [.int g] SL sr vs v vsp ck so sp L cs ol ms mt mc md n1 n3 n4 n5 := by
  obtain ⟨K, hK8, hMK, hvK⟩ := h.2.1.num
  have hS6 := h.1.1
  have hsr := h.1.2.1
  have ho := h.1.2.2.1
  have hp := h.1.2.2.2
  have hL := h.2.2.2.1
  have k5 := kX5_open l Γ mo SL ms mt mc md n1 (nI L) n3 n4 n5 g hS6
  rcases q_open h g with ⟨z1 | ⟨z1, z2⟩, e⟩ | ⟨c1, c2, ms2, e, R⟩
  · rw [e] at k5
    exact ⟨SL, sr, vs, v, vsp, ck, so, sp, L, cs, ol, _, _, _, _, nI 1, _, _, _, nI 1, _, _, ⟨xL_open_1 l Γ q an ap qs ac au ax sa oa ol g SL sr vs v vsp ck so sp L cs _ (by decide) (by decide) (by rfl) (by rfl) (TX.frame (tX4_open_a l hfl Γ q an ap qs ac au ax (nI SL) v g z1) [0, 1] rfl rfl), by decide⟩, k5, rfl, fun z => absurd z (by decide), h⟩
  · rw [e] at k5
    exact ⟨SL, sr, vs, v, vsp, ck, so, sp, L, cs, ol, _, _, _, _, nI 1, _, _, _, nI 1, _, _, ⟨xL_open_1 l Γ q an ap qs ac au ax sa oa ol g SL sr vs v vsp ck so sp L cs _ (by decide) (by decide) (by rfl) (by rfl) (TX.frame (tX4_open_b l hfl Γ q an ap qs ac au ax (nI SL) v g z1 z2) [0, 1] rfl rfl), by decide⟩, k5, rfl, fun z => absurd z (by decide), h⟩
  · rw [e] at k5
    exact ⟨(fX4_open SL sr vs v ck so sp g).2.1, (fX4_open SL sr vs v ck so sp g).2.2.1, (fX4_open SL sr vs v ck so sp g).2.2.2.1, (fX4_open SL sr vs v ck so sp g).2.2.2.2.1, vsp, ck, (fX4_open SL sr vs v ck so sp g).2.2.2.2.2.1, (fX4_open SL sr vs v ck so sp g).2.2.2.2.2.2, L, cs, vp_updL ol 0 ((fX4_open SL sr vs v ck so sp g).1).toInt64, _, _, _, _, nI 0, _, _, _, nI 0, _, _, ⟨sL_open l Γ q an ap qs ac au ax sa oa ol g SL sr vs v vsp ck so sp L cs ((fX4_open SL sr vs v ck so sp g).2.1) ((fX4_open SL sr vs v ck so sp g).2.2.1) ((fX4_open SL sr vs v ck so sp g).2.2.2.1) ((fX4_open SL sr vs v ck so sp g).2.2.2.2.1) vsp ck ((fX4_open SL sr vs v ck so sp g).2.2.2.2.2.1) ((fX4_open SL sr vs v ck so sp g).2.2.2.2.2.2) L cs ((fX4_open SL sr vs v ck so sp g).1) _ (by decide) (by decide) (by rfl) (by rfl) (MI.frame (kX4_open l Γ q an ap qs ac au ax SL sa sr vs v ck so sp g hS6 hsr c1 c2) [0, 3, 1, 4, 5] rfl rfl (by simp only [List.map_cons, List.map_nil, suB_w, plB_w, cuB_w, txB_w, mnC_w, saB_w]) rfl), by decide⟩, k5, rfl, fun _ => rfl, R⟩
theorem st_append {l : Launch} (hfl : l.stackTraces = false) {Γ : wG} {q : Nat} {an ap : Nat → Nat} {qs : Nat} {ac au ax : Nat → Nat} {sa : Nat → Nat → Nat} {oa : Nat} {mo : Nat → Nat} {SL sr : Nat} {vs : Nat → Nat → Nat → Int32} {v vsp : Nat → Nat → Int32} {ck so sp : Nat → Int32} {L : Nat} {cs : Nat → Int32} {ol : Nat → Int64} {ms mt mc md : Nat → Int32} {n1 n3 n4 n5 : Int32} (h : REL SL sr vs v ck so sp L cs ms mt) (ch : Int32) : STEP l Γ q an ap qs ac au ax sa oa mo yL_append wsL_append yX5_append wsX5_append [.int ch] SL sr vs v vsp ck so sp L cs ol ms mt mc md n1 n3 n4 n5 := by
  obtain ⟨K, hK8, hMK, hvK⟩ := h.2.1.num
  have hS6 := h.1.1
  have hsr := h.1.2.1
  have ho := h.1.2.2.1
  have hp := h.1.2.2.2
  have hL := h.2.2.2.1
  have k5 := kX5_append l Γ mo L ms mt mc md (nI SL) n1 n3 n4 n5 ch hL
  rcases q_append h ch with ⟨c1, e⟩ | ⟨c1, c2, e⟩ | ⟨c1, c2, e4, mt2, e, R⟩
  · rw [e] at k5
    rcases inr_0 c1 with z1 | ⟨z1, z2⟩
    ·
      exact ⟨SL, sr, vs, v, vsp, ck, so, sp, L, cs, ol, _, _, _, _, nI 1, _, _, _, nI 1, _, _, ⟨xL_append_1 l Γ q an ap qs ac au ax sa oa ol ch SL sr vs v vsp ck so sp L cs _ (by decide) (by decide) (by rfl) (by rfl) (TX.frame (tX4_append_a5 l hfl Γ q an ap qs ac au ax L (nI SL) cs ch hL z1) [0, 6] rfl rfl), by decide⟩, k5, rfl, fun z => absurd z (by decide), h⟩
    ·
      exact ⟨SL, sr, vs, v, vsp, ck, so, sp, L, cs, ol, _, _, _, _, nI 1, _, _, _, nI 1, _, _, ⟨xL_append_1 l Γ q an ap qs ac au ax sa oa ol ch SL sr vs v vsp ck so sp L cs _ (by decide) (by decide) (by rfl) (by rfl) (TX.frame (tX4_append_b5 l hfl Γ q an ap qs ac au ax L (nI SL) cs ch hL z1 z2) [0, 6] rfl rfl), by decide⟩, k5, rfl, fun z => absurd z (by decide), h⟩
  · rw [e] at k5
    exact ⟨SL, sr, vs, v, vsp, ck, so, sp, L, cs, ol, _, _, _, _, nI 2, _, _, _, nI 2, _, _, ⟨xL_append_2 l Γ q an ap qs ac au ax sa oa ol ch SL sr vs v vsp ck so sp L cs _ (by decide) (by decide) (by rfl) (by rfl) (TX.frame (tX4_append_c l hfl Γ q an ap qs ac au ax L (nI SL) cs ch (inr_ne c1).1 (inr_ne c1).2 hL c2) [0, 6] rfl rfl), by decide⟩, k5, rfl, fun z => absurd z (by decide), h⟩
  · rw [e] at k5
    have k4 := kX4_append l Γ q an ap qs ac au ax L (nI SL) cs ch (inr_ne c1).1 (inr_ne c1).2 hL c2
    rw [e4] at k4
    exact ⟨SL, sr, vs, v, vsp, ck, so, sp, L + 1, upd cs L ch, vp_updL ol 0 (nI (L + 1)).toInt64, _, _, _, _, nI 0, _, _, _, nI 0, _, _, ⟨sL_append l Γ q an ap qs ac au ax sa oa ol ch SL sr vs v vsp ck so sp L cs SL sr vs v vsp ck so sp (L + 1) (upd cs L ch) (nI (L + 1)) _ (by decide) (by decide) (by rfl) (by rfl) (MI.frame k4 [0, 6] rfl rfl (by simp only [List.map_cons, List.map_nil, suB_w, plB_w, cuB_w, txB_w, mnC_w, saB_w]) rfl), by decide⟩, k5, rfl, fun _ => rfl, R⟩
theorem st_live {l : Launch} (hfl : l.stackTraces = false) {Γ : wG} {q : Nat} {an ap : Nat → Nat} {qs : Nat} {ac au ax : Nat → Nat} {sa : Nat → Nat → Nat} {oa : Nat} {mo : Nat → Nat} {SL sr : Nat} {vs : Nat → Nat → Nat → Int32} {v vsp : Nat → Nat → Int32} {ck so sp : Nat → Int32} {L : Nat} {cs : Nat → Int32} {ol : Nat → Int64} {ms mt mc md : Nat → Int32} {n1 n3 n4 n5 : Int32} (h : REL SL sr vs v ck so sp L cs ms mt) : STEP l Γ q an ap qs ac au ax sa oa mo yL_live wsL_live yX5_live wsX5_live [] SL sr vs v vsp ck so sp L cs ol ms mt mc md n1 n3 n4 n5 := by
  obtain ⟨K, hK8, hMK, hvK⟩ := h.2.1.num
  have hS6 := h.1.1
  have hsr := h.1.2.1
  have ho := h.1.2.2.1
  have hp := h.1.2.2.2
  have hL := h.2.2.2.1
  obtain ⟨Q, q7, hqv, hQ, hq⟩ := q_live h mc md
  have k5 := kX5_live l Γ mo SL L K Q ms mt mc md n1 n3 n4 n5 hS6 hL hMK hK8 hQ q7
  rcases hq with ⟨c1, e1, e2, e3, e4, e5⟩ | ⟨c1, e1, e2, e3, e4, e5, R⟩
  · rw [e1, e2, e3, e4, e5] at k5
    exact ⟨SL, sr, vs, v, vsp, ck, so, sp, L, cs, ol, _, _, _, _, nI 1, _, _, _, nI 1, _, _, ⟨xL_live_1 l Γ q an ap qs ac au ax sa oa ol SL sr vs v vsp ck so sp L cs _ (by decide) (by decide) (by rfl) (by rfl) (TX.frame (tX4_live_a l hfl Γ q an ap qs ac au ax L (nI SL) cs hL c1) [0, 6] rfl rfl), by decide⟩, k5, rfl, fun z => absurd z (by decide), h⟩
  · rw [e1, e2, e3, e4] at k5
    have k4 := kX4_live l Γ q an ap qs ac au ax SL L (Q + 1) sa sr vs v ck cs hS6 hsr hqv (by omega) (by omega) hL c1
    rw [e5] at k4
    exact ⟨(fX4_live SL L (Q + 1) sr vs v ck cs).2.1, (fX4_live SL L (Q + 1) sr vs v ck cs).2.2.1, (fX4_live SL L (Q + 1) sr vs v ck cs).2.2.2.1, (fX4_live SL L (Q + 1) sr vs v ck cs).2.2.2.2.1, vsp, (fX4_live SL L (Q + 1) sr vs v ck cs).2.2.2.2.2.1, so, sp, 0, cs, vp_updL ol 0 (fX4_live SL L (Q + 1) sr vs v ck cs).1.toInt64, _, _, _, _, nI 0, _, _, _, nI 0, _, _, ⟨sL_live l Γ q an ap qs ac au ax sa oa ol SL sr vs v vsp ck so sp L cs ((fX4_live SL L (Q + 1) sr vs v ck cs).2.1) ((fX4_live SL L (Q + 1) sr vs v ck cs).2.2.1) ((fX4_live SL L (Q + 1) sr vs v ck cs).2.2.2.1) ((fX4_live SL L (Q + 1) sr vs v ck cs).2.2.2.2.1) vsp ((fX4_live SL L (Q + 1) sr vs v ck cs).2.2.2.2.2.1) so sp 0 cs (fX4_live SL L (Q + 1) sr vs v ck cs).1 _ (by decide) (by decide) (by rfl) (by rfl) (MI.frame k4 [0, 3, 1, 4, 6] rfl rfl (by simp only [List.map_cons, List.map_nil, suB_w, plB_w, cuB_w, txB_w, mnC_w, saB_w]) rfl), by decide⟩, k5, rfl, fun _ => rfl, R⟩
theorem st_undo {l : Launch} (hfl : l.stackTraces = false) {Γ : wG} {q : Nat} {an ap : Nat → Nat} {qs : Nat} {ac au ax : Nat → Nat} {sa : Nat → Nat → Nat} {oa : Nat} {mo : Nat → Nat} {SL sr : Nat} {vs : Nat → Nat → Nat → Int32} {v vsp : Nat → Nat → Int32} {ck so sp : Nat → Int32} {L : Nat} {cs : Nat → Int32} {ol : Nat → Int64} {ms mt mc md : Nat → Int32} {n1 n3 n4 n5 : Int32} (h : REL SL sr vs v ck so sp L cs ms mt) : STEP l Γ q an ap qs ac au ax sa oa mo yL_undo wsL_undo yX5_undo wsX5_undo [] SL sr vs v vsp ck so sp L cs ol ms mt mc md n1 n3 n4 n5 := by
  obtain ⟨K, hK8, hMK, hvK⟩ := h.2.1.num
  have hS6 := h.1.1
  have hsr := h.1.2.1
  have ho := h.1.2.2.1
  have hp := h.1.2.2.2
  have hL := h.2.2.2.1
  have k5 := kX5_undo l Γ mo SL ms mt mc md n1 (nI L) n3 n4 n5 hS6
  rcases q_undo h with ⟨c1, e⟩ | ⟨c1, ms2, e, R⟩
  · rw [e] at k5
    subst c1
    exact ⟨0, sr, vs, v, vsp, ck, so, sp, L, cs, ol, _, _, _, _, nI 1, _, _, _, nI 1, _, _, ⟨xL_undo_1 l Γ q an ap qs ac au ax sa oa ol 0 sr vs v vsp ck so sp L cs _ (by decide) (by decide) (by rfl) (by rfl) (TX.frame (tX4_undo_a l hfl Γ q an ap qs ac au ax) [0] rfl rfl), by decide⟩, k5, rfl, fun z => absurd z (by decide), h⟩
  · rw [e] at k5
    exact ⟨(fX4_undo SL sr vs ck).2.1, sr, vs, (fX4_undo SL sr vs ck).2.2.1, vsp, (fX4_undo SL sr vs ck).2.2.2, so, sp, L, cs, vp_updL ol 0 ((fX4_undo SL sr vs ck).1).toInt64, _, _, _, _, nI 0, _, _, _, nI 0, _, _, ⟨sL_undo l Γ q an ap qs ac au ax sa oa ol SL sr vs v vsp ck so sp L cs ((fX4_undo SL sr vs ck).2.1) sr vs ((fX4_undo SL sr vs ck).2.2.1) vsp ((fX4_undo SL sr vs ck).2.2.2) so sp L cs ((fX4_undo SL sr vs ck).1) _ (by decide) (by decide) (by rfl) (by rfl) (MI.frame (kX4_undo l Γ q an ap qs ac au ax SL sa sr vs v ck hS6 c1 hsr) [0, 3, 1, 4] rfl rfl (by simp only [List.map_cons, List.map_nil, suB_w, plB_w, cuB_w, txB_w, mnC_w, saB_w]) rfl), by decide⟩, k5, rfl, fun _ => rfl, R⟩
theorem st_keeperOf {l : Launch} (hfl : l.stackTraces = false) {Γ : wG} {q : Nat} {an ap : Nat → Nat} {qs : Nat} {ac au ax : Nat → Nat} {sa : Nat → Nat → Nat} {oa : Nat} {mo : Nat → Nat} {SL sr : Nat} {vs : Nat → Nat → Nat → Int32} {v vsp : Nat → Nat → Int32} {ck so sp : Nat → Int32} {L : Nat} {cs : Nat → Int32} {ol : Nat → Int64} {ms mt mc md : Nat → Int32} {n1 n3 n4 n5 : Int32} (h : REL SL sr vs v ck so sp L cs ms mt) (k : Int32) (w : Int32) : STEP l Γ q an ap qs ac au ax sa oa mo yL_keeperOf wsL_keeperOf yX5_keeperOf wsX5_keeperOf [.int k, .int w] SL sr vs v vsp ck so sp L cs ol ms mt mc md n1 n3 n4 n5 := by
  obtain ⟨K, hK8, hMK, hvK⟩ := h.2.1.num
  have hS6 := h.1.1
  have hsr := h.1.2.1
  have ho := h.1.2.2.1
  have hp := h.1.2.2.2
  have hL := h.2.2.2.1
  have k5 := kX5_keeperOf l Γ mo K ms mt mc md (nI SL) n1 (nI L) n3 n4 n5 k w hMK hK8
  rcases q_keeperOf h.2.1 k w with ⟨c1, e⟩ | ⟨c1, c2, e⟩ | ⟨c1, ⟨i, i5, rfl⟩, e⟩
  · rw [e] at k5
    exact ⟨SL, sr, vs, v, vsp, ck, so, sp, L, cs, ol, _, _, _, _, nI 1, _, _, _, nI 1, _, _, ⟨xL_keeperOf_1 l Γ q an ap qs ac au ax sa oa ol k w SL sr vs v vsp ck so sp L cs _ (by decide) (by decide) (by rfl) (by rfl) (TX.frame (tX4_keeperOf_a l hfl Γ q an ap qs ac au ax (nI SL) v k w c1) [0, 1] rfl rfl), by decide⟩, k5, rfl, fun z => absurd z (by decide), h⟩
  · rw [e] at k5
    have hw : ∀ i, i < 5 → ¬ w = nI i := fun i hi z => in_at5 i hi (by rw [← z]; exact c2)
    exact ⟨SL, sr, vs, v, vsp, ck, so, sp, L, cs, ol, _, _, _, _, nI 2, _, _, _, nI 2, _, _, ⟨xL_keeperOf_2 l Γ q an ap qs ac au ax sa oa ol k w SL sr vs v vsp ck so sp L cs _ (by decide) (by decide) (by rfl) (by rfl) (TX.frame (tX4_keeperOf_b l hfl Γ q an ap qs ac au ax (nI SL) v k w c1 (hw 0 (by decide)) (hw 1 (by decide)) (hw 2 (by decide)) (hw 3 (by decide)) (hw 4 (by decide))) [0, 1] rfl rfl), by decide⟩, k5, rfl, fun z => absurd z (by decide), h⟩
  · rw [e] at k5
    have hw := mem5 i i5
    exact ⟨SL, sr, vs, v, vsp, ck, so, sp, L, cs, vp_updL ol 0 (fX4_keeperOf v k (nI i)).toInt64, _, _, _, _, nI 0, _, _, _, nI 0, _, _, ⟨sL_keeperOf l Γ q an ap qs ac au ax sa oa ol k (nI i) SL sr vs v vsp ck so sp L cs SL sr vs v vsp ck so sp L cs (fX4_keeperOf v k (nI i)) _ (by decide) (by decide) (by rfl) (by rfl) (MI.frame (LI.toMI (kX4_keeperOf l Γ q an ap qs ac au ax (nI SL) v k (nI i) c1 hw)) [0, 1] rfl rfl rfl rfl), by decide⟩, k5, rfl, fun _ => rfl, h⟩
theorem st_share {l : Launch} (hfl : l.stackTraces = false) {Γ : wG} {q : Nat} {an ap : Nat → Nat} {qs : Nat} {ac au ax : Nat → Nat} {sa : Nat → Nat → Nat} {oa : Nat} {mo : Nat → Nat} {SL sr : Nat} {vs : Nat → Nat → Nat → Int32} {v vsp : Nat → Nat → Int32} {ck so sp : Nat → Int32} {L : Nat} {cs : Nat → Int32} {ol : Nat → Int64} {ms mt mc md : Nat → Int32} {n1 n3 n4 n5 : Int32} (h : REL SL sr vs v ck so sp L cs ms mt) (k : Int32) (w : Int32) : STEP l Γ q an ap qs ac au ax sa oa mo yL_share wsL_share yX5_share wsX5_share [.int k, .int w] SL sr vs v vsp ck so sp L cs ol ms mt mc md n1 n3 n4 n5 := by
  obtain ⟨K, hK8, hMK, hvK⟩ := h.2.1.num
  have hS6 := h.1.1
  have hsr := h.1.2.1
  have ho := h.1.2.2.1
  have hp := h.1.2.2.2
  have hL := h.2.2.2.1
  have k5 := kX5_share l Γ mo ms mt mc md (nI SL) n1 (nI L) n3 n4 n5 k w
  rcases q_share h.2.1 k w with ⟨c1, e⟩ | ⟨c1, c2, e⟩
  · rw [e] at k5
    by_cases d1 : fX5_in k (nI 0) (nI 7) = 0
    · rcases inr_0 d1 with z1 | ⟨z1, z2⟩
      ·
        exact ⟨SL, sr, vs, v, vsp, ck, so, sp, L, cs, ol, _, _, _, _, nI 1, _, _, _, nI 1, _, _, ⟨xL_share_1 l Γ q an ap qs ac au ax sa oa ol k w SL sr vs v vsp ck so sp L cs _ (by decide) (by decide) (by rfl) (by rfl) (TX.frame (tX4_share_a4 l hfl Γ q an ap qs ac au ax (nI SL) v k w z1) [0, 1] rfl rfl), by decide⟩, k5, rfl, fun z => absurd z (by decide), h⟩
      ·
        exact ⟨SL, sr, vs, v, vsp, ck, so, sp, L, cs, ol, _, _, _, _, nI 1, _, _, _, nI 1, _, _, ⟨xL_share_1 l Γ q an ap qs ac au ax sa oa ol k w SL sr vs v vsp ck so sp L cs _ (by decide) (by decide) (by rfl) (by rfl) (TX.frame (tX4_share_b4 l hfl Γ q an ap qs ac au ax (nI SL) v k w z1 z2) [0, 1] rfl rfl), by decide⟩, k5, rfl, fun z => absurd z (by decide), h⟩
    · obtain ⟨y1, y2⟩ := inr_ne d1
      rcases inr_0 (c1.resolve_left d1) with z1 | ⟨z1, z2⟩
      ·
        exact ⟨SL, sr, vs, v, vsp, ck, so, sp, L, cs, ol, _, _, _, _, nI 1, _, _, _, nI 1, _, _, ⟨xL_share_1 l Γ q an ap qs ac au ax sa oa ol k w SL sr vs v vsp ck so sp L cs _ (by decide) (by decide) (by rfl) (by rfl) (TX.frame (tX4_share_a10 l hfl Γ q an ap qs ac au ax (nI SL) v k w y1 y2 z1) [0, 1] rfl rfl), by decide⟩, k5, rfl, fun z => absurd z (by decide), h⟩
      ·
        exact ⟨SL, sr, vs, v, vsp, ck, so, sp, L, cs, ol, _, _, _, _, nI 1, _, _, _, nI 1, _, _, ⟨xL_share_1 l Γ q an ap qs ac au ax sa oa ol k w SL sr vs v vsp ck so sp L cs _ (by decide) (by decide) (by rfl) (by rfl) (TX.frame (tX4_share_b10 l hfl Γ q an ap qs ac au ax (nI SL) v k w y1 y2 z1 z2) [0, 1] rfl rfl), by decide⟩, k5, rfl, fun z => absurd z (by decide), h⟩
  · rw [e] at k5
    exact ⟨SL, sr, vs, v, vsp, ck, so, sp, L, cs, vp_updL ol 0 (fX4_share v k w).toInt64, _, _, _, _, nI 0, _, _, _, nI 0, _, _, ⟨sL_share l Γ q an ap qs ac au ax sa oa ol k w SL sr vs v vsp ck so sp L cs SL sr vs v vsp ck so sp L cs (fX4_share v k w) _ (by decide) (by decide) (by rfl) (by rfl) (MI.frame (LI.toMI (kX4_share l Γ q an ap qs ac au ax (nI SL) v k w (inr_ne c1).1 (inr_ne c1).2 (inr_ne c2).1 (inr_ne c2).2)) [0, 1] rfl rfl rfl rfl), by decide⟩, k5, rfl, fun _ => rfl, h⟩
theorem st_count {l : Launch} (hfl : l.stackTraces = false) {Γ : wG} {q : Nat} {an ap : Nat → Nat} {qs : Nat} {ac au ax : Nat → Nat} {sa : Nat → Nat → Nat} {oa : Nat} {mo : Nat → Nat} {SL sr : Nat} {vs : Nat → Nat → Nat → Int32} {v vsp : Nat → Nat → Int32} {ck so sp : Nat → Int32} {L : Nat} {cs : Nat → Int32} {ol : Nat → Int64} {ms mt mc md : Nat → Int32} {n1 n3 n4 n5 : Int32} (h : REL SL sr vs v ck so sp L cs ms mt) (w : Int32) : STEP l Γ q an ap qs ac au ax sa oa mo yL_count wsL_count yX5_count wsX5_count [.int w] SL sr vs v vsp ck so sp L cs ol ms mt mc md n1 n3 n4 n5 := by
  obtain ⟨K, hK8, hMK, hvK⟩ := h.2.1.num
  have hS6 := h.1.1
  have hsr := h.1.2.1
  have ho := h.1.2.2.1
  have hp := h.1.2.2.2
  have hL := h.2.2.2.1
  have k5 := kX5_count l Γ mo ms mt mc md (nI SL) n1 (nI L) n3 n4 n5 w
  rcases q_count h.2.1 (nI SL) w with ⟨c1, e⟩ | ⟨⟨i, i5, rfl⟩, e⟩
  · rw [e] at k5
    have hw : ∀ i, i < 12 → ¬ w = nI i := fun i hi z => in_at12 i hi (by rw [← z]; exact c1)
    exact ⟨SL, sr, vs, v, vsp, ck, so, sp, L, cs, ol, _, _, _, _, nI 1, _, _, _, nI 1, _, _, ⟨xL_count_1 l Γ q an ap qs ac au ax sa oa ol w SL sr vs v vsp ck so sp L cs _ (by decide) (by decide) (by rfl) (by rfl) (TX.frame (tX4_count_a l hfl Γ q an ap qs ac au ax (nI SL) v w (hw 0 (by decide)) (hw 1 (by decide)) (hw 2 (by decide)) (hw 3 (by decide)) (hw 4 (by decide)) (hw 5 (by decide)) (hw 6 (by decide)) (hw 7 (by decide)) (hw 8 (by decide)) (hw 9 (by decide)) (hw 10 (by decide)) (hw 11 (by decide))) [0, 1] rfl rfl), by decide⟩, k5, rfl, fun z => absurd z (by decide), h⟩
  · rw [e] at k5
    have hw := mem12 i i5
    exact ⟨SL, sr, vs, v, vsp, ck, so, sp, L, cs, vp_updL ol 0 (fX4_count (nI SL) v (nI i)).toInt64, _, _, _, _, nI 0, _, _, _, nI 0, _, _, ⟨sL_count l Γ q an ap qs ac au ax sa oa ol (nI i) SL sr vs v vsp ck so sp L cs SL sr vs v vsp ck so sp L cs (fX4_count (nI SL) v (nI i)) _ (by decide) (by decide) (by rfl) (by rfl) (MI.frame (LI.toMI (kX4_count l Γ q an ap qs ac au ax (nI SL) v (nI i) hw)) [0, 1] rfl rfl rfl rfl), by decide⟩, k5, rfl, fun _ => rfl, h⟩
theorem st_why {l : Launch} (hfl : l.stackTraces = false) {Γ : wG} {q : Nat} {an ap : Nat → Nat} {qs : Nat} {ac au ax : Nat → Nat} {sa : Nat → Nat → Nat} {oa : Nat} {mo : Nat → Nat} {SL sr : Nat} {vs : Nat → Nat → Nat → Int32} {v vsp : Nat → Nat → Int32} {ck so sp : Nat → Int32} {L : Nat} {cs : Nat → Int32} {ol : Nat → Int64} {ms mt mc md : Nat → Int32} {n1 n3 n4 n5 : Int32} (h : REL SL sr vs v ck so sp L cs ms mt) (g : Int32) : STEP l Γ q an ap qs ac au ax sa oa mo yL_why wsL_why yX5_why wsX5_why [.int g] SL sr vs v vsp ck so sp L cs ol ms mt mc md n1 n3 n4 n5 := by
  obtain ⟨K, hK8, hMK, hvK⟩ := h.2.1.num
  have hS6 := h.1.1
  have hsr := h.1.2.1
  have ho := h.1.2.2.1
  have hp := h.1.2.2.2
  have hL := h.2.2.2.1
  have k5 := kX5_why l Γ mo ms mt mc md (nI SL) n1 (nI L) n3 n4 n5 g
  rcases q_why h.2.1 ho hp g with ⟨z1 | ⟨z1, z2⟩, e⟩ | ⟨c1, c2, e, o1, o2⟩
  · rw [e] at k5
    exact ⟨SL, sr, vs, v, vsp, ck, so, sp, L, cs, ol, _, _, _, _, nI 1, _, _, _, nI 1, _, _, ⟨xL_why_1 l Γ q an ap qs ac au ax sa oa ol g SL sr vs v vsp ck so sp L cs _ (by decide) (by decide) (by rfl) (by rfl) (TX.frame (tX4_why_a l hfl Γ q an ap qs ac au ax (nI SL) v ck so sp g z1) [0, 1, 4, 5] rfl rfl), by decide⟩, k5, rfl, fun z => absurd z (by decide), h⟩
  · rw [e] at k5
    exact ⟨SL, sr, vs, v, vsp, ck, so, sp, L, cs, ol, _, _, _, _, nI 1, _, _, _, nI 1, _, _, ⟨xL_why_1 l Γ q an ap qs ac au ax sa oa ol g SL sr vs v vsp ck so sp L cs _ (by decide) (by decide) (by rfl) (by rfl) (TX.frame (tX4_why_b l hfl Γ q an ap qs ac au ax (nI SL) v ck so sp g z1 z2) [0, 1, 4, 5] rfl rfl), by decide⟩, k5, rfl, fun z => absurd z (by decide), h⟩
  · rw [e] at k5
    exact ⟨SL, sr, vs, v, vsp, ck, (fX4_why v ck so sp g).2.1, (fX4_why v ck so sp g).2.2, L, cs, vp_updL ol 0 ((fX4_why v ck so sp g).1).toInt64, _, _, _, _, nI 0, _, _, _, nI 0, _, _, ⟨sL_why l Γ q an ap qs ac au ax sa oa ol g SL sr vs v vsp ck so sp L cs SL sr vs v vsp ck ((fX4_why v ck so sp g).2.1) ((fX4_why v ck so sp g).2.2) L cs ((fX4_why v ck so sp g).1) _ (by decide) (by decide) (by rfl) (by rfl) (MI.frame (kX4_why l Γ q an ap qs ac au ax (nI SL) v ck so sp g c1 c2) [0, 1, 4, 5] rfl rfl (by simp only [List.map_cons, List.map_nil, suB_w, plB_w, cuB_w, txB_w, mnC_w, saB_w]) rfl), by decide⟩, k5, rfl, fun _ => rfl, ⟨⟨hS6, hsr, o1, o2⟩, h.2⟩⟩
theorem st_told {l : Launch} (hfl : l.stackTraces = false) {Γ : wG} {q : Nat} {an ap : Nat → Nat} {qs : Nat} {ac au ax : Nat → Nat} {sa : Nat → Nat → Nat} {oa : Nat} {mo : Nat → Nat} {SL sr : Nat} {vs : Nat → Nat → Nat → Int32} {v vsp : Nat → Nat → Int32} {ck so sp : Nat → Int32} {L : Nat} {cs : Nat → Int32} {ol : Nat → Int64} {ms mt mc md : Nat → Int32} {n1 n3 n4 n5 : Int32} (h : REL SL sr vs v ck so sp L cs ms mt) (g : Int32) : STEP l Γ q an ap qs ac au ax sa oa mo yL_told wsL_told yX5_told wsX5_told [.int g] SL sr vs v vsp ck so sp L cs ol ms mt mc md n1 n3 n4 n5 := by
  obtain ⟨K, hK8, hMK, hvK⟩ := h.2.1.num
  have hS6 := h.1.1
  have hsr := h.1.2.1
  have ho := h.1.2.2.1
  have hp := h.1.2.2.2
  have hL := h.2.2.2.1
  have k5 := kX5_told l Γ mo ms mt mc md (nI SL) n1 (nI L) n3 n4 n5 g
  rcases q_told h.2.1 g with ⟨c1, e⟩ | ⟨c1, e⟩
  · rw [e] at k5
    rcases inr_0 c1 with z1 | ⟨z1, z2⟩
    ·
      exact ⟨SL, sr, vs, v, vsp, ck, so, sp, L, cs, ol, _, _, _, _, nI 1, _, _, _, nI 1, _, _, ⟨xL_told_1 l Γ q an ap qs ac au ax sa oa ol g SL sr vs v vsp ck so sp L cs _ (by decide) (by decide) (by rfl) (by rfl) (TX.frame (tX4_told_a5 l hfl Γ q an ap qs ac au ax (nI SL) v ck g z1) [0, 1, 4] rfl rfl), by decide⟩, k5, rfl, fun z => absurd z (by decide), h⟩
    ·
      exact ⟨SL, sr, vs, v, vsp, ck, so, sp, L, cs, ol, _, _, _, _, nI 1, _, _, _, nI 1, _, _, ⟨xL_told_1 l Γ q an ap qs ac au ax sa oa ol g SL sr vs v vsp ck so sp L cs _ (by decide) (by decide) (by rfl) (by rfl) (TX.frame (tX4_told_b5 l hfl Γ q an ap qs ac au ax (nI SL) v ck g z1 z2) [0, 1, 4] rfl rfl), by decide⟩, k5, rfl, fun z => absurd z (by decide), h⟩
  · rw [e] at k5
    exact ⟨SL, sr, vs, v, vsp, ck, so, sp, L, cs, vp_updL ol 0 (fX4_told v ck g).toInt64, _, _, _, _, nI 0, _, _, _, nI 0, _, _, ⟨sL_told l Γ q an ap qs ac au ax sa oa ol g SL sr vs v vsp ck so sp L cs SL sr vs v vsp ck so sp L cs (fX4_told v ck g) _ (by decide) (by decide) (by rfl) (by rfl) (MI.frame (LI.toMI (kX4_told l Γ q an ap qs ac au ax (nI SL) v ck g (inr_ne c1).1 (inr_ne c1).2)) [0, 1, 4] rfl rfl rfl rfl), by decide⟩, k5, rfl, fun _ => rfl, h⟩
theorem st_possible {l : Launch} (hfl : l.stackTraces = false) {Γ : wG} {q : Nat} {an ap : Nat → Nat} {qs : Nat} {ac au ax : Nat → Nat} {sa : Nat → Nat → Nat} {oa : Nat} {mo : Nat → Nat} {SL sr : Nat} {vs : Nat → Nat → Nat → Int32} {v vsp : Nat → Nat → Int32} {ck so sp : Nat → Int32} {L : Nat} {cs : Nat → Int32} {ol : Nat → Int64} {ms mt mc md : Nat → Int32} {n1 n3 n4 n5 : Int32} (h : REL SL sr vs v ck so sp L cs ms mt) (g : Int32) : STEP l Γ q an ap qs ac au ax sa oa mo yL_possible wsL_possible yX5_possible wsX5_possible [.int g] SL sr vs v vsp ck so sp L cs ol ms mt mc md n1 n3 n4 n5 := by
  obtain ⟨K, hK8, hMK, hvK⟩ := h.2.1.num
  have hS6 := h.1.1
  have hsr := h.1.2.1
  have ho := h.1.2.2.1
  have hp := h.1.2.2.2
  have hL := h.2.2.2.1
  have k5 := kX5_possible l Γ mo ms mt mc md (nI SL) n1 (nI L) n3 n4 n5 g
  rcases q_possible h.2.1 g with ⟨c1, e⟩ | ⟨c1, e⟩
  · rw [e] at k5
    rcases inr_0 c1 with z1 | ⟨z1, z2⟩
    ·
      exact ⟨SL, sr, vs, v, vsp, ck, so, sp, L, cs, ol, _, _, _, _, nI 1, _, _, _, nI 1, _, _, ⟨xL_possible_1 l Γ q an ap qs ac au ax sa oa ol g SL sr vs v vsp ck so sp L cs _ (by decide) (by decide) (by rfl) (by rfl) (TX.frame (tX4_possible_a5 l hfl Γ q an ap qs ac au ax (nI SL) v ck g z1) [0, 1, 4] rfl rfl), by decide⟩, k5, rfl, fun z => absurd z (by decide), h⟩
    ·
      exact ⟨SL, sr, vs, v, vsp, ck, so, sp, L, cs, ol, _, _, _, _, nI 1, _, _, _, nI 1, _, _, ⟨xL_possible_1 l Γ q an ap qs ac au ax sa oa ol g SL sr vs v vsp ck so sp L cs _ (by decide) (by decide) (by rfl) (by rfl) (TX.frame (tX4_possible_b5 l hfl Γ q an ap qs ac au ax (nI SL) v ck g z1 z2) [0, 1, 4] rfl rfl), by decide⟩, k5, rfl, fun z => absurd z (by decide), h⟩
  · rw [e] at k5
    exact ⟨SL, sr, vs, v, vsp, ck, so, sp, L, cs, vp_updL ol 0 (fX4_possible v ck g).toInt64, _, _, _, _, nI 0, _, _, _, nI 0, _, _, ⟨sL_possible l Γ q an ap qs ac au ax sa oa ol g SL sr vs v vsp ck so sp L cs SL sr vs v vsp ck so sp L cs (fX4_possible v ck g) _ (by decide) (by decide) (by rfl) (by rfl) (MI.frame (LI.toMI (kX4_possible l Γ q an ap qs ac au ax (nI SL) v ck g (inr_ne c1).1 (inr_ne c1).2)) [0, 1, 4] rfl rfl rfl rfl), by decide⟩, k5, rfl, fun _ => rfl, h⟩
theorem st_smallest {l : Launch} (hfl : l.stackTraces = false) {Γ : wG} {q : Nat} {an ap : Nat → Nat} {qs : Nat} {ac au ax : Nat → Nat} {sa : Nat → Nat → Nat} {oa : Nat} {mo : Nat → Nat} {SL sr : Nat} {vs : Nat → Nat → Nat → Int32} {v vsp : Nat → Nat → Int32} {ck so sp : Nat → Int32} {L : Nat} {cs : Nat → Int32} {ol : Nat → Int64} {ms mt mc md : Nat → Int32} {n1 n3 n4 n5 : Int32} (h : REL SL sr vs v ck so sp L cs ms mt) (w : Int32) : STEP l Γ q an ap qs ac au ax sa oa mo yL_smallest wsL_smallest yX5_smallest wsX5_smallest [.int w] SL sr vs v vsp ck so sp L cs ol ms mt mc md n1 n3 n4 n5 := by
  obtain ⟨K, hK8, hMK, hvK⟩ := h.2.1.num
  have hS6 := h.1.1
  have hsr := h.1.2.1
  have ho := h.1.2.2.1
  have hp := h.1.2.2.2
  have hL := h.2.2.2.1
  have k5 := kX5_smallest l Γ mo ms mt mc md (nI SL) n1 (nI L) n3 n4 n5 w
  rcases q_smallest h.2.1 ho hp w with ⟨c1, e⟩ | ⟨c1, e, o1, o2⟩
  · rw [e] at k5
    rcases inr_0 c1 with z1 | ⟨z1, z2⟩
    ·
      exact ⟨SL, sr, vs, v, vsp, ck, so, sp, L, cs, ol, _, _, _, _, nI 1, _, _, _, nI 1, _, _, ⟨xL_smallest_1 l Γ q an ap qs ac au ax sa oa ol w SL sr vs v vsp ck so sp L cs _ (by decide) (by decide) (by rfl) (by rfl) (TX.frame (tX4_smallest_a3 l hfl Γ q an ap qs ac au ax (nI SL) v ck so sp w z1) [0, 1, 4, 5] rfl rfl), by decide⟩, k5, rfl, fun z => absurd z (by decide), h⟩
    ·
      exact ⟨SL, sr, vs, v, vsp, ck, so, sp, L, cs, ol, _, _, _, _, nI 1, _, _, _, nI 1, _, _, ⟨xL_smallest_1 l Γ q an ap qs ac au ax sa oa ol w SL sr vs v vsp ck so sp L cs _ (by decide) (by decide) (by rfl) (by rfl) (TX.frame (tX4_smallest_b3 l hfl Γ q an ap qs ac au ax (nI SL) v ck so sp w z1 z2) [0, 1, 4, 5] rfl rfl), by decide⟩, k5, rfl, fun z => absurd z (by decide), h⟩
  · rw [e] at k5
    have k4 := kX4_smallest l Γ q an ap qs ac au ax (nI SL) v ck so sp w (inr_ne c1).1 (inr_ne c1).2
    clear e
    generalize fX4_smallest v ck so sp w = Z at k4 k5 o1 o2
    exact ⟨SL, sr, vs, v, vsp, ck, Z.2.1, Z.2.2, L, cs, vp_updL ol 0 (Z.1).toInt64, _, _, _, _, nI 0, _, _, _, nI 0, _, _, ⟨sL_smallest l Γ q an ap qs ac au ax sa oa ol w SL sr vs v vsp ck so sp L cs SL sr vs v vsp ck Z.2.1 Z.2.2 L cs (Z.1) _ (by decide) (by decide) (by rfl) (by rfl) (MI.frame k4 [0, 1, 4, 5] rfl rfl (by simp only [List.map_cons, List.map_nil, suB_w, plB_w, cuB_w, txB_w, mnC_w, saB_w]) rfl), by decide⟩, k5, rfl, fun _ => rfl, ⟨⟨hS6, hsr, o1, o2⟩, h.2⟩⟩
