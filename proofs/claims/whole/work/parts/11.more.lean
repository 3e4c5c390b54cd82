section WR2
variable {p : Program} {l : Launch} {e : Env} {R : Room} {s : State} {m : MethodId} {args : Array Value} {below : List Frame} {meth : Method} {c : Code} {H : Heap} {locs : List Loc} {cells slots : Nat} {Q : State → Prop}
variable {pc : Nat} {ls : Array Slot} {rest : List Value} {cc : ByteArray} {D : va_G} {cl : List vw_C} {ws : va_W} {tys : List (ClassId × FieldType)} {A : Nat → Prop} {H0 : Heap} {a : Nat}
theorem va_cast_n (hexec : p.tables.exec = Jvm.exec) (hb : c.code = cc) (hK : va_K D cl tys s) (hP : va_P D cl ws H) (hD : va_D A ws) (hS : va_S A H0 H locs) (q0 t0 : Nat) {cA : ClassId} {n k : Nat} {f : Nat → Int32} (ha : ws[q0]? = some (a, .inl (cA, n, .inl f))) (ht : tys[t0]? = some (cA, .char)) {x : Int32} (hk : k < n) (hn : n ≤ 2147483648) (hdg : decode cc pc = .ok (.castore, 1))
    (kk : ∀ (H1 : Heap) (locs1 : List Loc), va_P D cl (ws.set q0 (a, .inl (cA, n, .inl (upd f k (vp_nar .char x))))) H1 → va_D A (ws.set q0 (a, .inl (cA, n, .inl (upd f k (vp_nar .char x))))) → va_S A H0 H1 locs1 → W p l e R s m args below meth c H1 locs1 cells slots Q (F0 m (pc + 1) ls rest)) : W p l e R s m args below meth c H locs cells slots Q (F0 m pc ls (.int x :: .int (nI k) :: .ref a :: rest)) := by
  have h2 : k < 2 ^ 31 := by omega
  have h3 : vp_in (nI k) n := by
    intro h
    rcases h with h | h
    · exact nI_pos h2 h
    · rw [nI_clamp h2] at h; omega
  exact va_cast hexec hb hK hP hD hS q0 t0 ha ht h3 hdg (by rw [nI_clamp h2]; exact kk)
end WR2
theorem pos_nle {S : Nat} (h : ¬ nI S ≤ 0) : 1 ≤ S := by
  cases S with
  | zero => exact absurd (by decide) h
  | succ S => omega
def MD (l : Launch) (Γ : wG) (y : MethodName) (ws : List Cond) (rm : Room) (av : List Value) (bs bs' : List va_W) (f : UInt64) : Prop := ∀ sz : Nat, Met l y ws rm (va_Pc av (wPre Γ bs sz)) (va_Qd (fun r (_ : Unit) => r = f) (fun _ t => va_P Γ.1 vwCl (wcat bs') t.heap) (va_A (wcat bs) sz)) 0 0 (va_A (wcat bs) sz)
section WC2
variable {p : Program} {l : Launch} {e : Env} {R : Room} {s : State} {m : MethodId} {args : Array Value} {below : List Frame} {meth : Method} {c : Code} {H : Heap} {locs : List Loc} {cells slots : Nat} {Q : State → Prop}
variable {pc : Nat} {ls : Array Slot} {rest st0 : List Value} {a : Array Value} {A : Nat → Prop} {Γ : wG} {bs bs' bc bc' : List va_W}
theorem cMD {f : UInt64} (hr : va_Run p l e R s m args below meth c H locs cells slots 0 0 (F0 m pc ls st0) rest (va_Qd (fun r (_ : Unit) => r = f) (fun _ t => va_P Γ.1 vwCl (wcat bc') t.heap) (va_A (wcat bc) H.size) a) (va_A (wcat bc) H.size)) (hP : va_P Γ.1 vwCl (wcat bs) H) (hD : va_D A (wcat bs)) (hS : va_S A s.heap H locs) (hA : ∀ q, s.heap.size ≤ q → A q) (is : List Nat) (his : is.map (fun i => bs[i]?) = bc.map some) (had : bc'.map wad = bc.map wad) (hset : wset bs is bc' = bs')
    (kk : ∀ (H1 : Heap) (locs1 : List Loc), va_P Γ.1 vwCl (wcat bs') H1 → va_D A (wcat bs') → va_S A s.heap H1 locs1 → W p l e R s m args below meth c H1 locs1 cells slots Q (F0 m (pc + 3) ls (.double f :: rest))) : W p l e R s m args below meth c H locs cells slots Q (F0 m pc ls st0) := by
  have hF := wfree hD hS hA his
  refine va_calld hr hS (fun q _ h => hF q h) hF (fun r u t H1 locs1 ht hvm hw hB hz1 hk1 hS1 => ?_)
  subst hw
  rw [ht] at hB
  obtain ⟨h1, h2⟩ := wjoin hP hD his had hset hk1 hB
  exact kk H1 locs1 h1 h2 hS1
theorem eMD {f v : UInt64} {t : State} (hP : va_P Γ.1 vwCl (wcat bs') H) (hS : va_S A s.heap H locs) (ht : t.heap = H) (h : v = f) : va_Qd (fun r (_ : Unit) => r = f) (fun _ t => va_P Γ.1 vwCl (wcat bs') t.heap) A args s (.returned (some (.double v))) t :=
  ⟨⟨v, (), rfl, h, by show va_P Γ.1 vwCl (wcat bs') t.heap; rw [ht]; exact hP⟩, hS.F ht⟩
end WC2
