section FR
variable {E : gE} {Y : mY} {Z : gZ} {pc : Nat} {lv : List (Nat × Value)} {st : List Value} {u v : wd} {ce sl : Nat}
theorem g_backF {p : Program} {e : Env} {R : Room} {s : State} {m : MethodId} {args : Array Value} {below : List Frame} {meth : Method} {c : Code} {H : Heap} {locs : List Loc} {Qf : State → Prop} {ls : Array Slot} {st0 rest : List Value} {a : Array Value} {A : Nat → Prop} {R' : Room} {mc' ms' : Nat} {Q' : Option Value → wd → Prop} {ex : State → Prop}
    (hr : va_Run p E.1 e R s m args below meth c H locs ce sl mc' ms' (F0 m pc ls st0) rest (gQ E (R', va_A (wl u) H.size, Q', ex) a) (va_A (wl u) H.size)) (hS : va_S A s.heap H locs) (hd : wdj u v) (hP : va_P E.2.1 vwCl (wl u ++ wl v) H) (hD : va_D A (wl u ++ wl v)) (hA : ∀ q : Nat, s.heap.size ≤ q → A q)
    (kk : ∀ (r : Option Value) (u' : wd) (H1 : Heap) (locs1 : List Loc), Q' r u' → wdj u' v → va_P E.2.1 vwCl (wl (wj u' v)) H1 → va_D A (wl (wj u' v)) → va_S A s.heap H1 locs1 → W p E.1 e R s m args below meth c H1 locs1 (ce + mc') (sl + ms') Qf (F0 m (pc + 3) ls (r.toList ++ rest))) : W p E.1 e R s m args below meth c H locs ce sl Qf (F0 m pc ls st0) := by
  intro T hT X
  obtain ⟨v0, st₀, t, T', L, h0, X', hL, e1, e2, ⟨⟨r, w', hv, hq, hP1, hD1⟩, hz, hk⟩, st⟩ := hr T hT X
  cases hv
  rw [h0] at hz hk
  have hF : ∀ q, va_A (wl u) H.size q → A q := by
    intro q h
    rcases h with ⟨k, e, h⟩ | h
    · exact (va_D_l hD).2 k (q, e) h
    · exact hA q (Nat.le_trans hS.1 h)
  obtain ⟨g1, g2, g3⟩ := wj_back hd hP hD (fun q h => hA q (Nat.le_trans hS.1 h)) (H1 := T'.heap) (by rw [e1]; exact hP1) hD1 (fun q x y => by rw [e1]; exact hk q x y)
  obtain ⟨t2, a1, b1⟩ := kk v0 w' T'.heap (locs ++ L) hq g1 g2 g3
    ⟨Nat.le_trans hS.1 (by rw [e1]; exact hz), fun q h1 h2 => by rw [e1, hk q (Nat.lt_of_lt_of_le h1 hS.1) (fun z => h2 (hF q z))]; exact hS.2.1 q h1 h2, fun q hq => by
      rcases List.mem_append.mp hq with h | h
      · exact hS.2.2 q h
      · exact hF _ (hL q h)⟩ T' rfl X'
  exact ⟨t2, st t2 a1, b1⟩
/-- a call that has the left world alone -/
theorem g_callVF {Y' : mY} {d' mc' ms' n b ci index N : Nat} {Q' : Option Value → wd → Prop} {As rest : List Value} {fs : List Value} {T : u_T} (hdj : wdj u v) (hC : Cn E Y' d' mc' ms' (.ref b :: As) u Q') (ok : okY Y' n) (hlk : Cond.methodLink Y.1.cls index Y'.1 ∈ WS) (hin : Cond.instanceMethod Y'.1 ∈ WS) (hse : Cond.selects Y'.1.cls Y'.1 Y'.1 ∈ WS) (hb : wh u b (.inr (ci, fs))) (hc : vwCl[ci]? = some (Y'.1.cls, T, N)) (hd : decode Y.2.1 pc = .ok (.invokevirtual index, 3)) (hst : st = As.reverse ++ .ref b :: rest) (hn : As.length = n) (hcat : (rest.map fun v => v.category).sum ≤ 8) (hdd : d' + 1 ≤ Z.1.frames ∧ 37 * d' + 37 ≤ Z.1.locals) (hce : ce + mc' ≤ Z.1.cells) (hsl : sl + ms' ≤ Z.1.slots)
    (k : ∀ (r : Option Value) (u' : wd), Q' r u' → wdj u' v → G E Y Z (pc + 3) lv (r.toList ++ rest) (wj u' v) (ce + mc') (sl + ms')) : G E Y Z pc lv st (wj u v) ce sl := by
  intro p e s m args below meth c H locs ls X hl hP hD hS
  rw [wl_wj hdj] at hP hD
  have hP1 := va_P_l hP
  have hD1 := va_D_l hD
  obtain ⟨r1, r2, r3, r4⟩ := g_callB (mc' := mc') (ms' := ms') X ok hdd
  have hp := g_pre (av := .ref b :: As) X hP1 hD1 hS
  exact g_backF (va_runV (C := Y'.1.cls) (As := As) (rest := rest) ⟨X.x, X.b, X.ml, X.own, X.ts⟩ (hC H.size) ⟨⟨rfl, rfl, r1, r2, r3, List.mem_cons_self, X.ts _ ok.1, X.ts _ ok.2.1, ok.2.2.1, r4, X.ts _ hlk⟩, X.ts _ hin, X.ts _ hse⟩ ⟨hp.1, g_recv X.K hP1 hb hc, hp.2⟩ rfl hn hl.1 hst (lv_room hcat) hd ⟨hce, hsl⟩) hS hdj hP hD X.A (fun r u' H1 locs1 hq g1 hP1 hD1 hS1 => k r u' hq g1 p e s m args below meth c H1 locs1 ls X hl hP1 hD1 hS1)
theorem g_callIF {Y' : mY} {d' mc' ms' n b index : Nat} {Q' : Option Value → wd → Prop} {As rest : List Value} (hdj : wdj u v) (hC : Cn E Y' d' mc' ms' (.ref b :: As) u Q') (ok : okY Y' n) (hrv : Y'.2.2.2 = none) (hnm : Y'.1.name = "<init>") (hlk : Cond.methodLink Y.1.cls index Y'.1 ∈ WS) (hin : Cond.instanceMethod Y'.1 ∈ WS) (hd : decode Y.2.1 pc = .ok (.invokespecial index, 3)) (hst : st = As.reverse ++ .ref b :: rest) (hn : As.length = n) (hcat : (rest.map fun v => v.category).sum ≤ 8) (hdd : d' + 1 ≤ Z.1.frames ∧ 37 * d' + 37 ≤ Z.1.locals) (hce : ce + mc' ≤ Z.1.cells) (hsl : sl + ms' ≤ Z.1.slots)
    (k : ∀ (r : Option Value) (u' : wd), Q' r u' → wdj u' v → G E Y Z (pc + 3) lv (r.toList ++ rest) (wj u' v) (ce + mc') (sl + ms')) : G E Y Z pc lv st (wj u v) ce sl := by
  intro p e s m args below meth c H locs ls X hl hP hD hS
  rw [wl_wj hdj] at hP hD
  have hP1 := va_P_l hP
  have hD1 := va_D_l hD
  obtain ⟨r1, r2, r3, r4⟩ := g_callB (mc' := mc') (ms' := ms') X ok hdd
  have hp := g_pre (av := .ref b :: As) X hP1 hD1 hS
  have o1 := ok.1
  have hM := hC H.size
  rw [hrv] at o1 r3 hM
  exact g_backF (va_runI (As := As) (rest := rest) ⟨X.x, X.b, X.ml, X.own, X.ts⟩ hM ⟨⟨rfl, rfl, r1, r2, r3, List.mem_cons_self, X.ts _ o1, X.ts _ ok.2.1, ok.2.2.1, r4, X.ts _ hlk⟩, hnm, X.ts _ hin⟩ hp rfl hn hl.1 hst (lv_room hcat) hd ⟨hce, hsl⟩) hS hdj hP hD X.A (fun r u' H1 locs1 hq g1 hP1 hD1 hS1 => k r u' hq g1 p e s m args below meth c H1 locs1 ls X hl hP1 hD1 hS1)
/-- the worlds change places -/
theorem g_swap (hdj : wdj u v) (k : wdj v u → G E Y Z pc lv st (wj v u) ce sl) : G E Y Z pc lv st (wj u v) ce sl := by
  have hd2 : wdj v u := fun b hb z => hdj b z hb
  intro p e s m args below meth c H locs ls X hl hP hD hS
  rw [wl_wj hdj] at hP hD
  have hx : ∀ (i j : Nat) (p q : Nat × va_E), (wl v)[i]? = some p → (wl u)[j]? = some q → p.1 ≠ q.1 := by
    intro i j p q hi hj hpq
    have h1 : p.1 ∈ v.1 := wl_in (u := v) (k := i) (a := p.1) (e := p.2) hi
    have h2 : q.1 ∈ u.1 := wl_in (u := u) (k := j) (a := q.1) (e := q.2) hj
    exact hdj p.1 h1 (hpq ▸ h2)
  refine k hd2 p e s m args below meth c H locs ls X hl ?_ ?_ hS
  · rw [wl_wj hd2]
    exact va_P.app (va_P_r hP) (va_P_l hP)
  · rw [wl_wj hd2]
    exact va_D.app (va_D_r hD) (va_D_l hD) hx
end FR
