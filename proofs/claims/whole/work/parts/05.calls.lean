section GH
variable {E : gE} {Y : mY} {Z : gZ} {pc : Nat} {lv : List (Nat × Value)} {st : List Value} {w : wd} {ce sl : Nat}
theorem newa_id {s : State} {D : va_G} {t1 : List (ClassId × FieldType)} {cA c0 : ClassId} {ty : FieldType} {k : Nat} (hK : va_K D vwCl t1 s) (h0 : t1[k]? = some (c0, ty)) (h : va_K D vwCl (t1 ++ [(cA, ty)]) s) : cA = c0 := by
  have h1 := (hK.2 k _ h0).2
  have h2 := (h.2 t1.length (cA, ty) (by rw [List.getElem?_append_right (Nat.le_refl _), Nat.sub_self]; rfl)).2
  cases ty with
  | object C =>
    obtain ⟨_, _, _, _, _, g1⟩ := h1
    obtain ⟨_, _, _, _, _, g2⟩ := h2
    exact Option.some.inj (g2.symm.trans g1)
  | _ => exact Option.some.inj (Eq.trans (Eq.symm h2) h1)
theorem g_newI {N : Nat} {n : Int32} (hd : decode Y.2.1 pc = .ok (.newarray .int, 2)) (harr : Cond.arrayClass .int ∈ WS) (hn : n = nI N) (hN : N ≤ 100000) (hce : ce + 1 ≤ Z.1.cells) (hsl : sl + N ≤ Z.1.slots) (k : ∀ q : Nat, q ∉ w.1 → G E Y Z (pc + 2) lv (.ref q :: st) (wn w q (.inl (E.2.2.1 0, N, .inl (fun _ => 0)))) (ce + 1) (sl + N)) : G E Y Z pc lv (.int n :: st) w ce sl := by
  intro p e s m args below meth c H locs ls X hl hP hD hS
  refine va_newa (atype := .int) X.x X.b (X.ts _ harr) (ty := .int) rfl X.K.1 hP hD hS X.A (N' := N) (a0 := (N, .inl (fun _ => 0))) (fun cA => rfl) (by rw [hn]; exact nI_pos (by omega)) (pk_cl N hn (by omega)) (by show N * 4 ≤ _; omega) hce hsl hd (fun q cA H1 hK1 hP1 hD1 hS1 => ?_)
  have hc := newa_id (k := 0) X.K.1 rfl hK1
  subst hc
  obtain ⟨hq, he⟩ := wl.push hD1
  rw [he] at hP1 hD1
  exact k q hq p e s m args below meth c H1 locs ls X hl hP1 hD1 hS1
theorem g_newZ {N : Nat} {n : Int32} (hd : decode Y.2.1 pc = .ok (.newarray .boolean, 2)) (harr : Cond.arrayClass .boolean ∈ WS) (hn : n = nI N) (hN : N ≤ 100000) (hce : ce + 1 ≤ Z.1.cells) (hsl : sl + N ≤ Z.1.slots) (k : ∀ q : Nat, q ∉ w.1 → G E Y Z (pc + 2) lv (.ref q :: st) (wn w q (.inl (E.2.2.1 1, N, .inl (fun _ => 0)))) (ce + 1) (sl + N)) : G E Y Z pc lv (.int n :: st) w ce sl := by
  intro p e s m args below meth c H locs ls X hl hP hD hS
  refine va_newa (atype := .boolean) X.x X.b (X.ts _ harr) (ty := .boolean) rfl X.K.1 hP hD hS X.A (N' := N) (a0 := (N, .inl (fun _ => 0))) (fun cA => rfl) (by rw [hn]; exact nI_pos (by omega)) (pk_cl N hn (by omega)) (by show N * 1 ≤ _; omega) hce hsl hd (fun q cA H1 hK1 hP1 hD1 hS1 => ?_)
  have hc := newa_id (k := 1) X.K.1 rfl hK1
  subst hc
  obtain ⟨hq, he⟩ := wl.push hD1
  rw [he] at hP1 hD1
  exact k q hq p e s m args below meth c H1 locs ls X hl hP1 hD1 hS1
theorem g_newA {N index t0 : Nat} {n : Int32} {C : String} {cA : ClassId} (hd : decode Y.2.1 pc = .ok (.anewarray index, 3)) (hcl : Cond.classLink Y.1.cls index C ∈ WS) (ho : C ∈ arrO) (ht : (tyl E)[t0]? = some (cA, .object C)) (hn : n = nI N) (hN : N ≤ 100000) (hce : ce + 1 ≤ Z.1.cells) (hsl : sl + N ≤ Z.1.slots) (k : ∀ q : Nat, q ∉ w.1 → G E Y Z (pc + 3) lv (.ref q :: st) (wn w q (.inl (cA, N, .inr (.inr (.inr (.inr (fun _ => none))))))) (ce + 1) (sl + N)) : G E Y Z pc lv (.int n :: st) w ce sl := by
  intro p e s m args below meth c H locs ls X hl hP hD hS
  refine va_newq X.x X.b X.own (X.ts _ hcl) (X.K.2.2.1 _ ho) X.K.1 hP hD hS X.A (N' := N) (by rw [hn]; exact nI_pos (by omega)) (pk_cl N hn (by omega)) (by omega) hce hsl hd (fun q cA H1 hK1 hP1 hD1 hS1 => ?_)
  have hc := newa_id X.K.1 ht hK1
  subst hc
  obtain ⟨hq, he⟩ := wl.push hD1
  rw [he] at hP1 hD1
  exact k q hq p e s m args below meth c H1 locs ls X hl hP1 hD1 hS1
theorem g_objInit {a index : Nat} (hd : decode Y.2.1 pc = .ok (.invokespecial index, 3)) (hlk : Cond.methodLink Y.1.cls index Lib.objectInit ∈ WS) (hin : Cond.instanceMethod Lib.objectInit ∈ WS) (hco : Cond.code Lib.objectInit ⟨#[0xb1]⟩ 1 none ∈ WS) (hZ : 1 ≤ Z.1.frames ∧ 24 ≤ Z.1.locals) (hcat : (st.map fun v => v.category).sum ≤ 8) (k : G E Y Z (pc + 3) lv st w ce sl) : G E Y Z pc lv (.ref a :: st) w ce sl := by
  intro p e s m args below meth c H locs ls X hl hP hD hS
  refine W.objInit X.x X.b X.own (X.ts _ hlk) (X.ts _ hin) (X.ts _ hco) rfl (by rw [X.ml]; exact hl.1) rfl hd hZ.1 ?_ (k p e s m args below meth c H locs ls X hl hP hD hS)
  have := hZ.2
  show 2 * 0 + _ + 12 ≤ Z.1.locals
  omega
theorem g_max {index : Nat} {x y : Int32} (hd : decode Y.2.1 pc = .ok (.invokestatic index, 3)) (hlk : Cond.methodLink Y.1.cls index Lib.Math.max.name ∈ WS) (hst : Cond.static Lib.Math.max.name ∈ WS) (hini : Cond.initialized "java/lang/Math" ∈ WS) (hco : Cond.code Lib.Math.max.name Lib.Math.max.code 2 (some .int) ∈ WS) (hZ : 1 ≤ Z.1.frames ∧ 24 ≤ Z.1.locals) (hcat : (st.map fun v => v.category).sum ≤ 8) (hce : ce ≤ Z.1.cells) (hsl : sl ≤ Z.1.slots) (k : G E Y Z (pc + 3) lv (.int (if x < y then y else x) :: st) w ce sl) : G E Y Z pc lv (.int y :: .int x :: st) w ce sl := by
  intro p e s m args below meth c H locs ls X hl hP hD hS
  refine va_mmax X.x X.b (by rw [X.ml]; exact hl.1.symm) X.own (X.ts _ hlk) (X.ts _ hst) (X.ts _ hini) (X.ts _ hco) hZ.1 ?_ hce hsl hd (k p e s m args below meth c H locs ls X hl hP hD hS)
  have := hZ.2
  omega
theorem g_min {index : Nat} {x y : Int32} (hd : decode Y.2.1 pc = .ok (.invokestatic index, 3)) (hlk : Cond.methodLink Y.1.cls index Lib.Math.min.name ∈ WS) (hst : Cond.static Lib.Math.min.name ∈ WS) (hini : Cond.initialized "java/lang/Math" ∈ WS) (hco : Cond.code Lib.Math.min.name Lib.Math.min.code 2 (some .int) ∈ WS) (hZ : 1 ≤ Z.1.frames ∧ 24 ≤ Z.1.locals) (hcat : (st.map fun v => v.category).sum ≤ 8) (hce : ce ≤ Z.1.cells) (hsl : sl ≤ Z.1.slots) (k : G E Y Z (pc + 3) lv (.int (if y < x then y else x) :: st) w ce sl) : G E Y Z pc lv (.int y :: .int x :: st) w ce sl := by
  intro p e s m args below meth c H locs ls X hl hP hD hS
  refine va_mmin X.x X.b (by rw [X.ml]; exact hl.1.symm) X.own (X.ts _ hlk) (X.ts _ hst) (X.ts _ hini) (X.ts _ hco) hZ.1 ?_ hce hsl hd (k p e s m args below meth c H locs ls X hl hP hD hS)
  have := hZ.2
  omega
/-- behind a call: the callee had the whole world -/
theorem g_back {p : Program} {e : Env} {R : Room} {s : State} {m : MethodId} {args : Array Value} {below : List Frame} {meth : Method} {c : Code} {H : Heap} {locs : List Loc} {Qf : State → Prop} {ls : Array Slot} {st0 rest : List Value} {a : Array Value} {A : Nat → Prop} {R' : Room} {mc' ms' : Nat} {Q' : Option Value → wd → Prop} {ex : State → Prop}
    (hr : va_Run p E.1 e R s m args below meth c H locs ce sl mc' ms' (F0 m pc ls st0) rest (gQ E (R', va_A (wl w) H.size, Q', ex) a) (va_A (wl w) H.size)) (hS : va_S A s.heap H locs) (hD : va_D A (wl w)) (hA : ∀ q : Nat, s.heap.size ≤ q → A q)
    (kk : ∀ (r : Option Value) (w' : wd) (H1 : Heap) (locs1 : List Loc), Q' r w' → va_P E.2.1 vwCl (wl w') H1 → va_D A (wl w') → va_S A s.heap H1 locs1 → W p E.1 e R s m args below meth c H1 locs1 (ce + mc') (sl + ms') Qf (F0 m (pc + 3) ls (r.toList ++ rest))) : W p E.1 e R s m args below meth c H locs ce sl Qf (F0 m pc ls st0) := by
  intro T hT X
  obtain ⟨v, st₀, t, T', L, h0, X', hL, e1, e2, ⟨⟨r, w', hv, hq, hP1, hD1⟩, hz, hk⟩, st⟩ := hr T hT X
  cases hv
  rw [h0] at hz hk
  have hF : ∀ q, va_A (wl w) H.size q → A q := by
    intro q h
    rcases h with ⟨k, e, h⟩ | h
    · exact hD.2 k (q, e) h
    · exact hA q (Nat.le_trans hS.1 h)
  obtain ⟨t2, a1, b1⟩ := kk v w' T'.heap (locs ++ L) hq (by rw [e1]; exact hP1) (hD1.weaken (fun k q _ h => hF q.1 h))
    ⟨Nat.le_trans hS.1 (by rw [e1]; exact hz), fun q h1 h2 => by rw [e1, hk q (Nat.lt_of_lt_of_le h1 hS.1) (fun z => h2 (hF q z))]; exact hS.2.1 q h1 h2, fun q hq => by
      rcases List.mem_append.mp hq with h | h
      · exact hS.2.2 q h
      · exact hF _ (hL q h)⟩ T' rfl X'
  exact ⟨t2, st t2 a1, b1⟩
/-- a method that may be called: its code stands in the tables, its class is ready, so many parameters, few places -/
def okY (Y' : mY) (n : Nat) : Prop := Cond.code Y'.1 Y'.2.1 Y'.2.2.1 Y'.2.2.2 ∈ WS ∧ Cond.initialized Y'.1.cls ∈ WS ∧ (Y'.1.cls ≠ "java/lang/invoke/MethodHandle" ∧ Y'.1.cls ≠ "java/lang/invoke/VarHandle") ∧ (parseMethodDescriptor Y'.1.desc).map (fun d => d.parameters.length) = some n ∧ Y'.2.2.1 ≤ 18
theorem g_pre {p : Program} {s : State} {m : MethodId} {args : Array Value} {meth : Method} {c : Code} {H : Heap} {locs : List Loc} {av : List Value} (X : gX E Y Z p s m args meth c) (hP : va_P E.2.1 vwCl (wl w) H) (hD : va_D Z.2.1 (wl w)) (hS : va_S Z.2.1 s.heap H locs) : PreS s H (gP E av w H.size) av := by
  refine ⟨fun a U g mk q => ⟨q.1, q.2.1, q.2.2.1, q.2.2.2.1, q.2.2.2.2.1.call, Zg.moved (u := U) (U := U.calling g mk a) (Vm.Alike.refl U.vm) q.2.2.2.2.2⟩, fun U hU hW => ⟨rfl, by rw [hU], by rw [hU]; exact hP, hD.weaken (fun _ _ _ _ => trivial), X.K.warm hW, ?_⟩⟩
  rw [hU]
  refine Zg.moved hW.alike (Zg.narrow (A := Z.2.1) (X.Zs.kept (fun a h1 h2 => hS.2.1 a h1 h2)) ?_)
  intro q h
  rcases h with ⟨k, e, h⟩ | h
  · exact hD.2 k (q, e) h
  · exact X.A q (Nat.le_trans hS.1 h)
theorem g_callB {p : Program} {s : State} {m : MethodId} {args : Array Value} {meth : Method} {c : Code} {Y' : mY} {n d' mc' ms' : Nat} (X : gX E Y Z p s m args meth c) (ok : okY Y' n) (hdd : d' + 1 ≤ Z.1.frames ∧ 37 * d' + 37 ≤ Z.1.locals) :
    (rmD d' mc' ms').frames + 1 ≤ Z.1.frames ∧ 8 + (Y'.2.2.1 + 11) + (rmD d' mc' ms').locals ≤ Z.1.locals ∧ (∀ w ∈ Cond.code Y'.1 Y'.2.1 Y'.2.2.1 Y'.2.2.2 :: WS, ∀ (a' : Array Value) (U : State), s.WarmedH U.vm → w.before a' U = true) ∧ (∀ sig, parseMethodDescriptor Y'.1.desc = some sig → n = sig.parameters.length) := by
  obtain ⟨o1, o2, o3, o4, o5⟩ := ok
  refine ⟨hdd.1, ?_, fun w hw a' U hW => ?_, fun sig h => ?_⟩
  · show 8 + (Y'.2.2.1 + 11) + 37 * d' ≤ Z.1.locals
    have := hdd.2
    omega
  · rcases List.mem_cons.mp hw with rfl | hw
    · exact word_at hW (ws_good o1) (X.ts _ o1)
    · exact word_at hW (ws_good hw) (X.ts _ hw)
  · rw [h] at o4
    exact (Option.some.inj o4).symm
theorem g_recv {s : State} {H : Heap} {b ci N : Nat} {fs : List Value} {C : String} {T : u_T} (hK : Kg E s) (hP : va_P E.2.1 vwCl (wl w) H) (hb : wh w b (.inr (ci, fs))) (hc : vwCl[ci]? = some (C, T, N)) : ∃ cellB : Cell, H[b]? = some cellB ∧ cellB.vm.isStatics = false ∧ s.vm.findClass C = some cellB.cls := by
  obtain ⟨q0, hq⟩ := hb.at
  exact va_recv hK.1 hP hc hq
theorem g_callV {Y' : mY} {d' mc' ms' n b ci index N : Nat} {Q' : Option Value → wd → Prop} {As rest : List Value} {fs : List Value} {T : u_T} (hC : Cn E Y' d' mc' ms' (.ref b :: As) w Q') (ok : okY Y' n) (hlk : Cond.methodLink Y.1.cls index Y'.1 ∈ WS) (hin : Cond.instanceMethod Y'.1 ∈ WS) (hse : Cond.selects Y'.1.cls Y'.1 Y'.1 ∈ WS) (hb : wh w b (.inr (ci, fs))) (hc : vwCl[ci]? = some (Y'.1.cls, T, N)) (hd : decode Y.2.1 pc = .ok (.invokevirtual index, 3)) (hst : st = As.reverse ++ .ref b :: rest) (hn : As.length = n) (hcat : (rest.map fun v => v.category).sum ≤ 8) (hdd : d' + 1 ≤ Z.1.frames ∧ 37 * d' + 37 ≤ Z.1.locals) (hce : ce + mc' ≤ Z.1.cells) (hsl : sl + ms' ≤ Z.1.slots)
    (k : ∀ (r : Option Value) (w' : wd), Q' r w' → G E Y Z (pc + 3) lv (r.toList ++ rest) w' (ce + mc') (sl + ms')) : G E Y Z pc lv st w ce sl := by
  intro p e s m args below meth c H locs ls X hl hP hD hS
  obtain ⟨r1, r2, r3, r4⟩ := g_callB (mc' := mc') (ms' := ms') X ok hdd
  have hp := g_pre (av := .ref b :: As) X hP hD hS
  exact g_back (va_runV (C := Y'.1.cls) (As := As) (rest := rest) ⟨X.x, X.b, X.ml, X.own, X.ts⟩ (hC H.size) ⟨⟨rfl, rfl, r1, r2, r3, List.mem_cons_self, X.ts _ ok.1, X.ts _ ok.2.1, ok.2.2.1, r4, X.ts _ hlk⟩, X.ts _ hin, X.ts _ hse⟩ ⟨hp.1, g_recv X.K hP hb hc, hp.2⟩ rfl hn hl.1 hst (lv_room hcat) hd ⟨hce, hsl⟩) hS hD X.A (fun r w' H1 locs1 hq hP1 hD1 hS1 => k r w' hq p e s m args below meth c H1 locs1 ls X hl hP1 hD1 hS1)
theorem g_callVN {Y' : mY} {d' mc' ms' n b ci index N : Nat} {host : String} {Q' : Option Value → wd → Prop} {As rest : List Value} {fs : List Value} {T : u_T} (hC : Cn E Y' d' mc' ms' (.ref b :: As) w Q') (ok : okY Y' n) (hlk : Cond.methodLinkNest Y.1.cls index Y'.1 host ∈ lw_tbl) (hin : Cond.instanceMethod Y'.1 ∈ WS) (hse : Cond.selects Y'.1.cls Y'.1 Y'.1 ∈ WS) (hb : wh w b (.inr (ci, fs))) (hc : vwCl[ci]? = some (Y'.1.cls, T, N)) (hd : decode Y.2.1 pc = .ok (.invokevirtual index, 3)) (hst : st = As.reverse ++ .ref b :: rest) (hn : As.length = n) (hcat : (rest.map fun v => v.category).sum ≤ 8) (hdd : d' + 1 ≤ Z.1.frames ∧ 37 * d' + 37 ≤ Z.1.locals) (hce : ce + mc' ≤ Z.1.cells) (hsl : sl + ms' ≤ Z.1.slots)
    (k : ∀ (r : Option Value) (w' : wd), Q' r w' → G E Y Z (pc + 3) lv (r.toList ++ rest) w' (ce + mc') (sl + ms')) : G E Y Z pc lv st w ce sl := by
  intro p e s m args below meth c H locs ls X hl hP hD hS
  obtain ⟨r1, r2, r3, r4⟩ := g_callB (mc' := mc') (ms' := ms') X ok hdd
  have hp := g_pre (av := .ref b :: As) X hP hD hS
  exact g_back (va_runVN (C := Y'.1.cls) (host := host) (As := As) (rest := rest) ⟨X.x, X.b, X.ml, X.own, X.ts⟩ (hC H.size) ⟨⟨⟨rfl, rfl, r1, r2, r3, List.mem_cons_self⟩, X.ts _ ok.1, X.ts _ ok.2.1, ok.2.2.1, r4, va_Nw.use rfl (X.K.2.1 _ hlk rfl)⟩, X.ts _ hin, X.ts _ hse⟩ ⟨hp.1, g_recv X.K hP hb hc, hp.2⟩ rfl hn hl.1 hst (lv_room hcat) hd ⟨hce, hsl⟩) hS hD X.A (fun r w' H1 locs1 hq hP1 hD1 hS1 => k r w' hq p e s m args below meth c H1 locs1 ls X hl hP1 hD1 hS1)
theorem g_callI {Y' : mY} {d' mc' ms' n b index : Nat} {Q' : Option Value → wd → Prop} {As rest : List Value} (hC : Cn E Y' d' mc' ms' (.ref b :: As) w Q') (ok : okY Y' n) (hrv : Y'.2.2.2 = none) (hnm : Y'.1.name = "<init>") (hlk : Cond.methodLink Y.1.cls index Y'.1 ∈ WS) (hin : Cond.instanceMethod Y'.1 ∈ WS) (hd : decode Y.2.1 pc = .ok (.invokespecial index, 3)) (hst : st = As.reverse ++ .ref b :: rest) (hn : As.length = n) (hcat : (rest.map fun v => v.category).sum ≤ 8) (hdd : d' + 1 ≤ Z.1.frames ∧ 37 * d' + 37 ≤ Z.1.locals) (hce : ce + mc' ≤ Z.1.cells) (hsl : sl + ms' ≤ Z.1.slots)
    (k : ∀ (r : Option Value) (w' : wd), Q' r w' → G E Y Z (pc + 3) lv (r.toList ++ rest) w' (ce + mc') (sl + ms')) : G E Y Z pc lv st w ce sl := by
  intro p e s m args below meth c H locs ls X hl hP hD hS
  obtain ⟨r1, r2, r3, r4⟩ := g_callB (mc' := mc') (ms' := ms') X ok hdd
  have hp := g_pre (av := .ref b :: As) X hP hD hS
  have o1 := ok.1
  have hM := hC H.size
  rw [hrv] at o1 r3 hM
  exact g_back (va_runI (As := As) (rest := rest) ⟨X.x, X.b, X.ml, X.own, X.ts⟩ hM ⟨⟨rfl, rfl, r1, r2, r3, List.mem_cons_self, X.ts _ o1, X.ts _ ok.2.1, ok.2.2.1, r4, X.ts _ hlk⟩, hnm, X.ts _ hin⟩ hp rfl hn hl.1 hst (lv_room hcat) hd ⟨hce, hsl⟩) hS hD X.A (fun r w' H1 locs1 hq hP1 hD1 hS1 => k r w' hq p e s m args below meth c H1 locs1 ls X hl hP1 hD1 hS1)
theorem g_callS {Y' : mY} {d' mc' ms' n index : Nat} {Q' : Option Value → wd → Prop} {As rest : List Value} (hC : Cn E Y' d' mc' ms' As w Q') (ok : okY Y' n) (hlk : Cond.methodLink Y.1.cls index Y'.1 ∈ WS) (hsc : Cond.static Y'.1 ∈ WS) (hd : decode Y.2.1 pc = .ok (.invokestatic index, 3)) (hst : st = As.reverse ++ rest) (hn : As.length = n) (hcat : (rest.map fun v => v.category).sum ≤ 8) (hdd : d' + 1 ≤ Z.1.frames ∧ 37 * d' + 37 ≤ Z.1.locals) (hce : ce + mc' ≤ Z.1.cells) (hsl : sl + ms' ≤ Z.1.slots)
    (k : ∀ (r : Option Value) (w' : wd), Q' r w' → G E Y Z (pc + 3) lv (r.toList ++ rest) w' (ce + mc') (sl + ms')) : G E Y Z pc lv st w ce sl := by
  intro p e s m args below meth c H locs ls X hl hP hD hS
  obtain ⟨r1, r2, r3, r4⟩ := g_callB (mc' := mc') (ms' := ms') X ok hdd
  have hp := g_pre (av := As) X hP hD hS
  exact g_back (va_runS (As := As) (rest := rest) ⟨X.x, X.b, X.ml, X.own, X.ts⟩ (hC H.size) ⟨⟨rfl, rfl, r1, r2, r3, List.mem_cons_self, X.ts _ ok.1, X.ts _ ok.2.1, ok.2.2.1, r4, X.ts _ hlk⟩, X.ts _ hsc⟩ hp rfl hn hl.1 hst (lv_room hcat) hd ⟨hce, hsl⟩) hS hD X.A (fun r w' H1 locs1 hq hP1 hD1 hS1 => k r w' hq p e s m args below meth c H1 locs1 ls X hl hP1 hD1 hS1)
theorem g_callSN {Y' : mY} {d' mc' ms' n index : Nat} {host : String} {Q' : Option Value → wd → Prop} {As rest : List Value} (hC : Cn E Y' d' mc' ms' As w Q') (ok : okY Y' n) (hlk : Cond.methodLinkNest Y.1.cls index Y'.1 host ∈ lw_tbl) (hsc : Cond.static Y'.1 ∈ WS) (hd : decode Y.2.1 pc = .ok (.invokestatic index, 3)) (hst : st = As.reverse ++ rest) (hn : As.length = n) (hcat : (rest.map fun v => v.category).sum ≤ 8) (hdd : d' + 1 ≤ Z.1.frames ∧ 37 * d' + 37 ≤ Z.1.locals) (hce : ce + mc' ≤ Z.1.cells) (hsl : sl + ms' ≤ Z.1.slots)
    (k : ∀ (r : Option Value) (w' : wd), Q' r w' → G E Y Z (pc + 3) lv (r.toList ++ rest) w' (ce + mc') (sl + ms')) : G E Y Z pc lv st w ce sl := by
  intro p e s m args below meth c H locs ls X hl hP hD hS
  obtain ⟨r1, r2, r3, r4⟩ := g_callB (mc' := mc') (ms' := ms') X ok hdd
  have hp := g_pre (av := As) X hP hD hS
  exact g_back (va_runSN (host := host) (As := As) (rest := rest) ⟨X.x, X.b, X.ml, X.own, X.ts⟩ (hC H.size) ⟨⟨⟨rfl, rfl, r1, r2, r3, List.mem_cons_self⟩, X.ts _ ok.1, X.ts _ ok.2.1, ok.2.2.1, r4, va_Nw.use rfl (X.K.2.1 _ hlk rfl)⟩, X.ts _ hsc, trivial⟩ hp rfl hn hl.1 hst (lv_room hcat) hd ⟨hce, hsl⟩) hS hD X.A (fun r w' H1 locs1 hq hP1 hD1 hS1 => k r w' hq p e s m args below meth c H1 locs1 ls X hl hP1 hD1 hS1)
end GH
