section WR2
variable {p : Program} {l : Launch} {e : Env} {R : Room} {s : State} {m : MethodId} {args : Array Value} {below : List Frame} {meth : Method} {c : Code} {H : Heap} {locs : List Loc} {cells slots : Nat} {Q : State → Prop}
variable {pc : Nat} {ls : Array Slot} {rest : List Value} {cc : ByteArray} {D : va_G} {cl : List vw_C} {ws : va_W} {tys : List (ClassId × FieldType)} {A : Nat → Prop} {H0 : Heap} {a : Nat}
theorem va_cast_n (hexec : p.tables.exec = Jvm.exec) (hb : c.code = cc) (hK : va_K D cl tys s) (hP : va_P D cl ws H) (hD : va_D A ws) (hS : va_S A H0 H locs) (q0 t0 : Nat) {cA : ClassId} {n k : Nat} {f : Nat → Int32} (ha : ws[q0]? = some (a, .inl (cA, n, .inl f))) (ht : tys[t0]? = some (cA, .char)) {x : Int32} (hk : k < n) (hn : n ≤ 2147483648) (hdg : decode cc pc = .ok (.castore, 1))
    (kk : ∀ (H1 : Heap) (locs1 : List Loc), va_P D cl (ws.set q0 (a, .inl (cA, n, .inl (upd f k (vp_nar .char x))))) H1 → va_D A (ws.set q0 (a, .inl (cA, n, .inl (upd f k (vp_nar .char x))))) → va_S A H0 H1 locs1 → W p l e R s m args below meth c H1 locs1 cells slots Q (F0 m (pc + 1) ls rest)) : W p l e R s m args below meth c H locs cells slots Q (F0 m pc ls (.int x :: .int (nI k) :: .ref a :: rest)) := by
  have h2 : k < 2 ^ 31 := by omega
  have h3 : vp_in (nI k) n := by
    intro h
    rcases h with h | h
    · exact nI_pos h2 h
    · rw [nI_clamp h2] at h; omega
  exact va_cast hexec hb hK hP hD hS q0 t0 ha ht h3 hdg (by rw [nI_clamp h2]; exact kk)
end WR2
theorem pos_nle {S : Nat} (h : ¬ nI S ≤ 0) : 1 ≤ S := by
  cases S with
  | zero => exact absurd (by decide) h
  | succ S => omega
def MD (l : Launch) (Γ : wG) (y : MethodName) (ws : List Cond) (rm : Room) (av : List Value) (bs bs' : List va_W) (f : UInt64) : Prop := ∀ sz : Nat, Met l y ws rm (va_Pc av (wPre Γ bs sz)) (va_Qd (fun r (_ : Unit) => r = f) (fun _ t => va_P Γ.1 vwCl (wcat bs') t.heap) (va_A (wcat bs) sz)) 0 0 (va_A (wcat bs) sz)
section WC2
variable {p : Program} {l : Launch} {e : Env} {R : Room} {s : State} {m : MethodId} {args : Array Value} {below : List Frame} {meth : Method} {c : Code} {H : Heap} {locs : List Loc} {cells slots : Nat} {Q : State → Prop}
variable {pc : Nat} {ls : Array Slot} {rest st0 : List Value} {a : Array Value} {A : Nat → Prop} {Γ : wG} {bs bs' bc bc' : List va_W}
theorem cMD {f : UInt64} (hr : va_Run p l e R s m args below meth c H locs cells slots 0 0 (F0 m pc ls st0) rest (va_Qd (fun r (_ : Unit) => r = f) (fun _ t => va_P Γ.1 vwCl (wcat bc') t.heap) (va_A (wcat bc) H.size) a) (va_A (wcat bc) H.size)) (hP : va_P Γ.1 vwCl (wcat bs) H) (hD : va_D A (wcat bs)) (hS : va_S A s.heap H locs) (hA : ∀ q, s.heap.size ≤ q → A q) (is : List Nat) (his : is.map (fun i => bs[i]?) = bc.map some) (had : bc'.map wad = bc.map wad) (hset : wset bs is bc' = bs')
    (kk : ∀ (H1 : Heap) (locs1 : List Loc), va_P Γ.1 vwCl (wcat bs') H1 → va_D A (wcat bs') → va_S A s.heap H1 locs1 → W p l e R s m args below meth c H1 locs1 cells slots Q (F0 m (pc + 3) ls (.double f :: rest))) : W p l e R s m args below meth c H locs cells slots Q (F0 m pc ls st0) := by
  have hF := wfree hD hS hA his
  refine va_calld hr hS (fun q _ h => hF q h) hF (fun r u t H1 locs1 ht hvm hw hB hz1 hk1 hS1 => ?_)
  subst hw
  rw [ht] at hB
  obtain ⟨h1, h2⟩ := wjoin hP hD his had hset hk1 hB
  exact kk H1 locs1 h1 h2 hS1
theorem eMD {f v : UInt64} {t : State} (hP : va_P Γ.1 vwCl (wcat bs') H) (hS : va_S A s.heap H locs) (ht : t.heap = H) (h : v = f) : va_Qd (fun r (_ : Unit) => r = f) (fun _ t => va_P Γ.1 vwCl (wcat bs') t.heap) A args s (.returned (some (.double v))) t :=
  ⟨⟨v, (), rfl, h, by show va_P Γ.1 vwCl (wcat bs') t.heap; rw [ht]; exact hP⟩, hS.F ht⟩
end WC2
/-- a look without an answer -/
def LV (l : Launch) (Γ : wG) (y : MethodName) (ws : List Cond) (rm : Room) (av : List Value) (bs : List va_W) : Prop := ∀ sz : Nat, Met l y ws rm (va_Pc av (wPre Γ bs sz)) (va_Qv (fun (_ : Unit) => True) (fun _ _ => True) (va_A [] sz)) 0 0 (va_A [] sz)
/-- a method that throws E, and changes nothing -/
def TX (l : Launch) (Γ : wG) (y : MethodName) (ws : List Cond) (rm : Room) (av : List Value) (bs : List va_W) (E : String) : Prop := ∀ sz : Nat, vx_Met l y ws rm (va_Pc av (wPre Γ bs sz)) (fun _ _ _ _ => False) (vx_X (fun (_ : Unit) => True) (fun E' _ _ => E' = E) (va_A [] sz)) 1 6 (va_A [] sz)
section WC3
variable {p : Program} {l : Launch} {e : Env} {R : Room} {s : State} {m : MethodId} {args : Array Value} {below : List Frame} {meth : Method} {c : Code} {H : Heap} {locs : List Loc} {cells slots : Nat} {Q : State → Prop}
variable {pc : Nat} {ls : Array Slot} {rest st0 : List Value} {a : Array Value} {A : Nat → Prop} {Γ : wG} {bs bs' bc bc' : List va_W}
theorem cLV (hr : va_Run p l e R s m args below meth c H locs cells slots 0 0 (F0 m pc ls st0) rest (va_Qv (fun (_ : Unit) => True) (fun _ _ => True) (va_A [] H.size) a) (va_A [] H.size)) (hP : va_P Γ.1 vwCl (wcat bs) H) (hS : va_S A s.heap H locs) (hA : ∀ q, s.heap.size ≤ q → A q)
    (kk : ∀ (H1 : Heap) (locs1 : List Loc), va_P Γ.1 vwCl (wcat bs) H1 → va_S A s.heap H1 locs1 → W p l e R s m args below meth c H1 locs1 cells slots Q (F0 m (pc + 3) ls rest)) : W p l e R s m args below meth c H locs cells slots Q (F0 m pc ls st0) := by
  have hF : ∀ q, va_A [] H.size q → A q := fun q h => hA q (Nat.le_trans hS.1 (wnone h))
  refine va_callv hr hS (fun q _ h => hF q h) hF (fun u t H1 locs1 ht hvm hw hB hz1 hk1 hS1 => ?_)
  exact kk H1 locs1 (wP_up hP hk1) hS1
theorem eLV {t : State} (hS : va_S A s.heap H locs) (ht : t.heap = H) : va_Qv (fun (_ : Unit) => True) (fun _ _ => True) A args s (.returned none) t :=
  ⟨⟨(), rfl, trivial, trivial⟩, hS.F ht⟩
/-- a callee that throws, not caught here -/
theorem tTX {E : String} {mc ms : Nat} {Qc : Array Value → State → Outcome → State → Prop} {XC : String → State → State → Prop} {free : Addr → Prop}
    (hr : vx_Run p l e R s m args below meth c H locs cells slots 1 6 (F0 m pc ls st0) rest (fun _ _ _ => False) (vx_X (fun (_ : Unit) => True) (fun E' _ _ => E' = E) (va_A [] H.size)) (va_A [] H.size)) (hS : va_S A s.heap H locs) (hA : ∀ q, s.heap.size ≤ q → A q)
    (kx : ∀ (ce : Cell) (q9 : Addr) (H1 : Heap) (locs1 : List Loc), H.size ≤ H1.size → (∀ q : Nat, q < H.size → H1[q]? = H[q]?) → va_S A s.heap H1 locs1 → H1[q9]? = some ce → ce.vm = .none → s.vm.findClass E = some ce.cls → vx_W p l e R s m args below meth c H1 locs1 (cells + 1) (slots + 6) (vx_MQ below Qc XC args s mc ms free) (F0 m pc ls rest) q9) :
    W p l e R s m args below meth c H locs cells slots (vx_MQ below Qc XC args s mc ms free) (F0 m pc ls st0) := by
  have hF : ∀ q, va_A [] H.size q → A q := fun q h => hA q (Nat.le_trans hS.1 (wnone h))
  intro T hT X
  rcases hr T hT X with ⟨v, st₀, t, T', L, h0, X', hL, e1, e2, hfalse, st⟩ | ⟨q, st₀, t, T', L, E', ce, h0, X', hL, e1, e2, ⟨u, hp, hb, hFr⟩, hce, hcv, hcl, st⟩
  · exact hfalse.elim
  · subst hb
    obtain ⟨k1, k2, k3⟩ := vx_keep h0 e1 hS (fun q _ h => hF q h) (fun q h => hF q h) hL hFr
    obtain ⟨t2, a1, b1⟩ := kx ce q T'.heap (locs ++ L) k1 (fun q hq => k2 q hq (fun h => absurd hq (Nat.not_lt.mpr (wnone h)))) k3 (by rw [e1]; exact hce) hcv hcl T' rfl X'
    exact ⟨t2, st.trans a1, b1⟩
end WC3
theorem plB_wad {Γ : wG} {a : Nat → Nat} {v w : Nat → Nat → Int32} : wad (plB Γ a v) = wad (plB Γ a w) := rfl
