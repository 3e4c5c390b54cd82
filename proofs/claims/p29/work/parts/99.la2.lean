noncomputable def dgV (P : Nat → Nat → Nat) (S : Nat) : Int64 := @dite Int64 (∃ x : ST, AB P S x) (Classical.propDecidable _) (fun h => (fX4_digest (P 0 0) 0 (nI S) (Classical.choose h).2.2.2.1 (Classical.choose h).2.2.2.2.1 (Classical.choose h).2.2.2.2.2.1 (Classical.choose h).2.2.2.2.2.2.1 (Classical.choose h).2.2.2.2.2.2.2.1 (Classical.choose h).2.2.2.2.2.2.2.2).1) (fun _ => 0)
theorem dg_V {P : Nat → Nat → Nat} {S : Nat} {x : ST} (h : AB P S x) : (fX4_digest (P 0 0) 0 (nI S) x.2.2.2.1 x.2.2.2.2.1 x.2.2.2.2.2.1 x.2.2.2.2.2.2.1 x.2.2.2.2.2.2.2.1 x.2.2.2.2.2.2.2.2).1 = dgV P S ∧ (fX4_digest (P 0 0) 0 (nI S) x.2.2.2.1 x.2.2.2.2.1 x.2.2.2.2.2.1 x.2.2.2.2.2.2.1 x.2.2.2.2.2.2.2.1 x.2.2.2.2.2.2.2.2).2.2.1 0 = 0 ∧ (fX4_digest (P 0 0) 0 (nI S) x.2.2.2.1 x.2.2.2.2.1 x.2.2.2.2.2.1 x.2.2.2.2.2.2.1 x.2.2.2.2.2.2.2.1 x.2.2.2.2.2.2.2.2).2.2.2 0 = 0 := by
  have he : ∃ x : ST, AB P S x := ⟨x, h⟩
  have hy := Classical.choose_spec he
  have e : dgV P S = (fX4_digest (P 0 0) 0 (nI S) (Classical.choose he).2.2.2.1 (Classical.choose he).2.2.2.2.1 (Classical.choose he).2.2.2.2.2.1 (Classical.choose he).2.2.2.2.2.2.1 (Classical.choose he).2.2.2.2.2.2.2.1 (Classical.choose he).2.2.2.2.2.2.2.2).1 := by
    unfold dgV
    rw [dif_pos he]
  rw [e]
  obtain ⟨⟨_, _, _, ho, hp⟩, hW, hC, hK⟩ := h
  obtain ⟨⟨_, _, _, ho2, hp2⟩, _, hC2, hK2⟩ := hy
  exact dg_all hW hC hK ho hp hC2 hK2 ho2 hp2 12 0 (3019 : Int64) rfl
theorem ML.frame {l : Launch} {Γ : wG} {y : MethodName} {ws : List Cond} {rm : Room} {av : List Value} {bs bs' bc bc' : List va_W} {f : Int64} (h : ML l Γ y ws rm av bc bc' f) (is : List Nat) (hn : va_nd is = true) (his : is.map (fun i => bs[i]?) = bc.map some) (had : bc'.map wad = bc.map wad) (hset : wset bs is bc' = bs') : ML l Γ y ws rm av bs bs' f := fun sz => by
  refine MetFree.mono (h sz) (fun a s hp => ⟨hp.1, wPre_sel is hn his hp.2⟩) (fun _ _ _ _ _ h => h) fun a s o t hp hq => ?_
  obtain ⟨⟨⟨r, u, h1, h2, h3⟩, hF⟩, L, hL, hfree⟩ := hq
  obtain ⟨-, hsz, hP, hK, hD, hAm⟩ := hp
  subst hsz
  have hj := wjoin hP (hD.self (sz := s.heap.size)) his had hset (fun q hq hn => hF.2 q hq hn) h3
  exact ⟨⟨⟨r, u, h1, h2, hj.1⟩, hF.1, fun q hq hn => hF.2 q hq fun z => hn (wA_sel his q z)⟩, L, hL, fun q hq => wA_sel his _ (hfree q hq)⟩
section DGL
variable {p : Program} {l : Launch} {e : Env} {R : Room} {s : State} {m : MethodId} {args : Array Value} {below : List Frame} {meth : Method} {c : Code} {H : Heap} {locs : List Loc} {cells slots : Nat} {Q : State → Prop}
variable {pc : Nat} {ls : Array Slot} {rest st0 : List Value} {cc : ByteArray} {A : Nat → Prop} {Γ : wG} {D : AD} {x : ST} {nL : Nat} {Ts : List Cond} {P : Nat → Nat → Nat} {S idx mc ms : Nat} {Post : Int32 → ST → Prop}
set_option maxHeartbeats 4000000 in
set_option maxRecDepth 100000 in
theorem V_digest (h : AB P S x) (sz : Nat) : Met l yX4_digest wsX4_digest ({ frames := 6, cells := 0, slots := 0, locals := 134 }) (va_Pc [.ref D.1] (wPre Γ (W7 Γ D x) sz)) (va_Ql (fun r (u : ST) => r = dgV P S ∧ AB P S u) (fun u t => va_P Γ.1 vwCl (wcat (W7 Γ D u)) t.heap) (va_A (wcat (W7 Γ D x)) sz)) 0 0 (va_A (wcat (W7 Γ D x)) sz) := by
  have hd := dg_V h
  obtain ⟨SL, sr, vs, v, vsp, ck, so, sp, cs⟩ := x
  obtain ⟨⟨hSe, hS, hsr, ho, hp⟩, hW, hC, hK⟩ := id h
  dsimp only at hSe hsr ho hp hC hK hd
  subst hSe
  have hk := kX4_digest l Γ D.1 D.2.1 D.2.2.1 D.2.2.2.1 D.2.2.2.2.1 D.2.2.2.2.2.1 D.2.2.2.2.2.2.1 (P 0 0) 0 (nI SL) v vsp ck so sp cs (by decide) (hC.1 0 (by decide)) hW.k8
  generalize fX4_digest (P 0 0) 0 (nI SL) v vsp ck so sp cs = Z at hk hd
  obtain ⟨d1, d2, d3⟩ := hd
  have hm := ML.frame (bs := W7 Γ D (SL, sr, vs, v, vsp, ck, so, sp, cs)) (bs' := W7 Γ D (SL, sr, vs, v, Z.2.1, ck, Z.2.2.1, Z.2.2.2, cs)) hk [0, 1, 2, 4, 5, 6] rfl rfl (by simp only [List.map_cons, List.map_nil, suB_w, plB_w, cuB_w, txB_w, mnC_w, saB_w]) rfl sz
  refine MetFree.mono hm (fun _ _ h => h) (fun _ _ _ _ _ h => h) fun a s o t _ hq => ?_
  obtain ⟨⟨⟨r, z, h1, h2, h3⟩, hF⟩, hL⟩ := hq
  exact ⟨⟨⟨r, (SL, sr, vs, v, Z.2.1, ck, Z.2.2.1, Z.2.2.2, cs), h1, ⟨by rw [h2, d1], ⟨rfl, hS, hsr, d2, d3⟩, hW, hC, hK⟩, h3⟩, hF⟩, hL⟩
theorem n_digest (C : CX p R s m args c A Γ cc nL Ts) (g : GoodIn Ts (wsV RL idx RX4 yX4_digest wsX4_digest)) (w : WD Γ D A s P S H locs) (hls : ls.size = nL) (hroom : (rest.map fun v => v.category).sum ≤ 8) (hdg : decode cc pc = .ok (.invokevirtual idx, 3)) (hc : cells ≤ R.cells ∧ slots ≤ R.slots)
    (kk : ∀ (H1 : Heap) (locs1 : List Loc), WD Γ D A s P S H1 locs1 → W p l e R s m args below meth c H1 locs1 cells slots Q (F0 m (pc + 3) ls (.long (dgV P S) :: rest))) : W p l e R s m args below meth c H locs cells slots Q (F0 m pc ls (.ref D.1 :: rest)) := by
  obtain ⟨x, hP, hD, hS, hB⟩ := w
  obtain ⟨hx, hb, hml, hown, hts, hK, hAm, hA, hR1, hR2⟩ := C
  have hAB : ∀ q : Nat, A q → A q := fun _ h => h
  have his : [0, 1, 2, 3, 4, 5, 6].map (fun i => (W7 Γ D x)[i]?) = (W7 Γ D x).map some := rfl
  have hF := wfree hD hS hA his
  have hr := va_runV (l := l) (e := e) (meth := meth) (below := below) (locs := locs) (g := F0 m pc ls (.ref D.1 :: rest)) (As := []) (rest := rest) ⟨hx, hb, hml, hown, hts⟩ (V_digest (l := l) (D := D) hB H.size) (cwV 0 hts g rfl rfl rfl (by decide +kernel) ⟨Nat.le_trans (Nat.le_of_ble_eq_true rfl) hR1, Nat.le_trans (Nat.le_of_ble_eq_true rfl) hR2⟩) ⟨wPre_blind, va_recv hK hP (ci := 4) (q0 := 0) rfl rfl, wPre_mk hP hD hK hS hA hAB hAm [0, 1, 2, 3, 4, 5, 6] rfl rfl⟩ rfl rfl hls rfl (lv_room hroom) hdg hc
  refine va_calll hr hS (fun q _ h => hF q h) hF (fun r u t H1 locs1 ht hvm hw hB hz1 hk1 hS1 => ?_)
  rw [ht] at hB
  obtain ⟨rfl, hBu⟩ := hw
  obtain ⟨h1, h2⟩ := wjoin hP hD his W7_ad (bs' := W7 Γ D u) rfl hk1 hB
  exact kk H1 locs1 ⟨u, h1, h2, hS1, hBu⟩
end DGL
