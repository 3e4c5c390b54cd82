/-! ===== contracts in the words of a place: the class's state stands for P, with S saved ===== -/
def AB (P : Nat → Nat → Nat) (S : Nat) (x : ST) : Prop := (x.1 = S ∧ S ≤ 6 ∧ x.2.1 < 6 ∧ x.2.2.2.2.2.2.1 0 = 0 ∧ x.2.2.2.2.2.2.2.1 0 = 0) ∧ WF P ∧ CV x.2.2.2.1 P ∧ CK x.2.2.2.2.2.1 P
/-- the place that undo would bring back -/
def TOP (T : Nat → Nat → Nat) (x : ST) : Prop := 1 ≤ x.1 ∧ WF T ∧ CV (x.2.2.1 ((x.1 - 1 + x.2.1) % 6)) T
def CW (l : Launch) (Γ : wG) (D : AD) (y : MethodName) (ws : List Cond) (rm : Room) (av : List Value) (x : ST) (Post : Int32 → ST → Prop) (mc ms : Nat) : Prop := ∀ sz : Nat, Met l y ws rm (va_Pc av (wPre Γ (W7 Γ D x) sz)) (va_Qi Post (fun u t => va_P Γ.1 vwCl (wcat (W7 Γ D u)) t.heap) (va_A (wcat (W7 Γ D x)) sz)) mc ms (va_A (wcat (W7 Γ D x)) sz)
theorem MI.cw {l : Launch} {Γ : wG} {D : AD} {y : MethodName} {ws : List Cond} {rm : Room} {av : List Value} {x u : ST} {f : Int32} {Post : Int32 → ST → Prop} (h : MI l Γ y ws rm av (W7 Γ D x) (W7 Γ D u) f) (hp : Post f u) : CW l Γ D y ws rm av x Post 0 0 := fun sz =>
  MetFree.mono (h sz) (fun _ _ h => h) (fun _ _ _ _ _ h => h) fun a s o t _ hq => by
    obtain ⟨⟨⟨r, z, h1, h2, h3⟩, hF⟩, hL⟩ := hq
    exact ⟨⟨⟨r, u, h1, by rw [h2]; exact hp, h3⟩, hF⟩, hL⟩
theorem MJ.cw {l : Launch} {Γ : wG} {D : AD} {y : MethodName} {ws : List Cond} {rm : Room} {av : List Value} {x u : ST} {f : Int32} {Post : Int32 → ST → Prop} (h : MJ l Γ y ws rm av (W7 Γ D x) (W7 Γ D u) f) (hp : Post f u) : CW l Γ D y ws rm av x Post 1 6 := fun sz =>
  MetFree.mono (h sz) (fun _ _ h => h) (fun _ _ _ _ _ h => h) fun a s o t _ hq => by
    obtain ⟨⟨⟨r, z, h1, h2, h3⟩, hF⟩, hL⟩ := hq
    exact ⟨⟨⟨r, u, h1, by rw [h2]; exact hp, h3⟩, hF⟩, hL⟩
theorem CW.mono {l : Launch} {Γ : wG} {D : AD} {y : MethodName} {ws : List Cond} {rm : Room} {av : List Value} {x : ST} {Post Post' : Int32 → ST → Prop} {mc ms : Nat} (h : CW l Γ D y ws rm av x Post mc ms) (hp : ∀ r u, Post r u → Post' r u) : CW l Γ D y ws rm av x Post' mc ms := fun sz =>
  MetFree.mono (h sz) (fun _ _ h => h) (fun _ _ _ _ _ h => h) fun a s o t _ hq => by
    obtain ⟨⟨⟨r, z, h1, h2, h3⟩, hF⟩, hL⟩ := hq
    exact ⟨⟨⟨r, z, h1, hp r z h2, h3⟩, hF⟩, hL⟩
abbrev RM0 : Room := { frames := 10, cells := 0, slots := 0, locals := 340 }
abbrev RM1 : Room := { frames := 10, cells := 1, slots := 6, locals := 340 }
theorem nr {a b : Nat} (hb : b < 2 ^ 31) (ha : a < 2 ^ 31) (h : b ≤ a) : ¬ nI a < nI b := fun z => absurd ((nI_ltI ha hb).mp z) (by omega)
theorem nr2 {a b : Nat} (ha : a < 2 ^ 31) (hb : b < 2 ^ 31) (h : a ≤ b) : nI a ≤ nI b := (nI_leI ha hb).mpr h
/-- a call that saves -/
theorem AB.op {P P' : Nat → Nat → Nat} {SL sr : Nat} {vs : Nat → Nat → Nat → Int32} {v v' vsp' : Nat → Nat → Int32} {ck' so' sp' cs : Nat → Int32} (hS : SL ≤ 6) (hsr : sr < 6) (hW : WF P) (hC : CV v P) (w' : WF P') (c' : CV v' P') (k' : CK ck' P') (ho : so' 0 = 0) (hp : sp' 0 = 0) :
    AB P' (svS SL) (kN SL, kR SL sr, kV SL sr vs v, v', vsp', ck', so', sp', cs) ∧ TOP P (kN SL, kR SL sr, kV SL sr vs v, v', vsp', ck', so', sp', cs) := by
  refine ⟨⟨⟨kN_svS _ hS, svS_le hS, kR_lt hsr, ho, hp⟩, w', c', k'⟩, ?_, hW, ?_⟩
  · show 1 ≤ kN SL
    unfold kN; split <;> omega
  · show CV (kV SL sr vs v ((kN SL - 1 + kR SL sr) % 6)) P
    unfold kV
    by_cases e : SL < 6
    · have : (kN SL - 1 + kR SL sr) % 6 = (if SL < 6 then SL + sr else sr) % 6 := by
        unfold kN kR
        rw [if_pos e, if_pos e, if_pos e]
        congr 1
      rw [this, va_up_self]
      exact hC
    · have : (kN SL - 1 + kR SL sr) % 6 = (if SL < 6 then SL + sr else sr) % 6 := by
        unfold kN kR
        rw [if_neg e, if_neg e, if_neg e]
        omega
      rw [this, va_up_self]
      exact hC
