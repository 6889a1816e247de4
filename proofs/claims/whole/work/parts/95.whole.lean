/-! THE CLAIM OUT OF ONE WALK OF THE LAW'S BODY. Your part is whole_start (and what it stands on); all else here is the same for every law, but numbers. -/
def R_law : String := "LeasedFilesLaw"
def lw_P (b : Addr) (xs : List Int32) (args : Array Value) (s : State) : Prop := args = #[.ref b] ∧ s.IntsAt b xs ∧ xs.length ≤ 2052 ∧ (Jvm.Cond.and given_1 narrow_1).before args s = true
def lw_Q (_ : Array Value) (s : State) (o : Outcome) (t : State) : Prop := o = .returned (some (.int 1)) ∧ Framed s o t [] 600000 7302249
def lw_Z (below : List Frame) (a : Array Value) (s : State) : State → Prop := fun t => ∃ o, t.status = .running ∧ Ended t below o ∧ lw_Q a s o t
/-- the law's own end, with 1 on the stack, nothing written that was there before, its room as the claim has it -/
theorem lw_ret {p : Program} {l : Launch} {e : Env} {s : State} {m : MethodId} {below : List Frame} {meth : Method} {c : Code} {b : Nat} (hx : p.tables.exec = Jvm.exec) (hb : c.code = code) (hr : meth.sig.returnType = ret) (hlocks : meth.locks = false) {pc : Nat} {H : Heap} {ls : Array Slot} (hdg : decode code pc = .ok (.ireturn, 1)) : W p l e room_1 s m #[Value.ref b] below meth c H [] 600000 7302249 (lw_Z below #[Value.ref b] s) (F0 m pc ls [.int 1]) := by
  intro T hT X
  obtain ⟨fs, hret, hrun, hended, hW, hframe⟩ := X.leave (v := some (.int 1)) (hlocks := hlocks) (fun h => by rw [hr] at h; cases h)
  have hmeth' : T.vm.method? m = some meth := X.method'
  refine ⟨T.setFrames fs, ?_, .returned (some (.int 1)), hrun, hended, rfl, ⟨_, rfl⟩, hW, hframe⟩
  jvm_step X.here [X.here.top, hx, hb, hdg, hmeth', hr, ret, narrow_b1]
  (try refine ⟨rfl, ?_⟩); (try refine ⟨rfl, ?_⟩)
  first | (intro acts; rw [hret _ acts rfl rfl rfl]) | rw [hret _ _ rfl rfl rfl]
  exact Steps.refl _
/-- what holds at the law's entry: the machine, the code, the tables' words (any of lw_tbl by 'hts w (by decide +kernel)'), the script of L ints xs at the cell b, what the Statement gives of the start (any of its parts by flat_of_before) -/
def lw_At (p : Program) (s : State) (m : MethodId) (meth : Method) (c : Code) (b L : Nat) (xs : Nat → Int32) : Prop :=
  p.tables.exec = Jvm.exec ∧ c.code = code ∧ meth.sig.returnType = ret ∧ c.maxLocals = 4 ∧ s.vm.findClass R_law = some m.cls ∧ (∀ w ∈ lw_tbl, w.before #[Value.ref b] s = true) ∧ va_X b L xs s s.heap ∧ b < s.heap.size ∧ meth.locks = false ∧ (Jvm.Cond.and given_1 narrow_1).before #[Value.ref b] s = true
theorem k_at {s : State} {args : Array Value} (hts : ∀ w ∈ WS, w.before args s = true) (c : Nat) : ∃ (cC : ClassId) (iS : Nat → Nat), ∀ q : vw_C, vwCl[c]? = some q → u_Kn s q.1 q.2.1 q.2.2 cC iS := by
  have one : ∀ (C : String) (T : u_T) (N n : Nat), (∀ w ∈ u_ws C T N, w ∈ WS) → Cond.instantiable C n ∈ WS → vwCl[c]? = some (C, T, N) → ∃ (cC : ClassId) (iS : Nat → Nat), ∀ q : vw_C, vwCl[c]? = some q → u_Kn s q.1 q.2.1 q.2.2 cC iS := by
    intro C T N n hin hi he
    obtain ⟨cC, iS, h⟩ := u_known (N := N) hts hin (hts _ hi)
    refine ⟨cC, iS, fun q hq => ?_⟩
    rw [he] at hq
    cases hq
    exact h
  rcases (show c = 0 ∨ c = 1 ∨ c = 2 ∨ c = 3 ∨ c = 4 ∨ c = 5 ∨ c = 6 ∨ c = 7 ∨ c = 8 ∨ c = 9 ∨ 10 ≤ c by omega) with e | e | e | e | e | e | e | e | e | e | e
  · exact one _ _ _ _ u_R wi_R (by rw [e]; rfl)
  · exact one _ _ _ _ u_L wi_L (by rw [e]; rfl)
  · exact one _ _ _ _ u_C wi_C (by rw [e]; rfl)
  · exact one _ _ _ _ u_Y wi_Y (by rw [e]; rfl)
  · exact one _ _ _ _ u_M wi_M (by rw [e]; rfl)
  · exact one _ _ _ _ u_P wi_P (by rw [e]; rfl)
  · exact one _ _ _ _ u_F wi_F (by rw [e]; rfl)
  · exact one _ _ _ _ u_S wi_S (by rw [e]; rfl)
  · exact one _ _ _ _ u_W wi_W (by rw [e]; rfl)
  · exact one _ _ _ _ u_A wi_A (by rw [e]; rfl)
  · refine ⟨0, fun _ => 0, fun q hq => ?_⟩
    have hl := (List.getElem?_eq_some_iff.mp hq).1
    have hl : c < 10 := hl
    omega
theorem t_int {s : State} {args : Array Value} (h : (Cond.arrayClass .int).before args s = true) : ∃ cA : ClassId, ArrOfT s cA .int ∧ va_RA s cA .int := by
  obtain ⟨cA, kA, comp, hf, hk, hkind⟩ := Cond.arrayClass_spec h
  exact ⟨cA, fun n z => ⟨(fun k h => by cases h), kA, hk, comp, hkind⟩, hf⟩
theorem t_boolean {s : State} {args : Array Value} (h : (Cond.arrayClass .boolean).before args s = true) : ∃ cA : ClassId, ArrOfT s cA .boolean ∧ va_RA s cA .boolean := by
  obtain ⟨cA, kA, comp, hf, hk, hkind⟩ := Cond.arrayClass_spec h
  exact ⟨cA, fun n z => ⟨(fun k h => by cases h), kA, hk, comp, hkind⟩, hf⟩
theorem t_obj {s : State} {C : String} (h : va_AO C s) : ∃ cA : ClassId, ArrOfT s cA (.object C) ∧ va_RA s cA (.object C) := by
  obtain ⟨comp, c, k, h1, h2, h3, h4, h5⟩ := Cond.arrayOver_spec h
  exact ⟨c, fun n z => ⟨(fun k h => by cases h), k, h3, comp, h4⟩, k, comp, h3, h4, h1, h5⟩
theorem nest_tab {w : Cond} (h : nestW w = true) : w.onTables = true := by
  cases w <;> first | (simp [nestW] at h; done) | rfl
abbrev tmE : Term := .static "java/util/ArrayList" "DEFAULTCAPACITY_EMPTY_ELEMENTDATA" "[Ljava/lang/Object;"
set_option maxRecDepth 100000 in
/-- what the methods stand on, at the law's entry -/
theorem k_start (l : Launch) {p : Program} {s : State} {m : MethodId} {meth : Method} {c : Code} {b L : Nat} {xs : Nat → Int32} (C0 : lw_At p s m meth c b L xs) : ∃ E : gE, E.1 = l ∧ Kg E s ∧ Zg E (fun q => s.heap.size ≤ q) s s.heap := by
  have hts : ∀ w ∈ lw_tbl, w.before #[Value.ref b] s = true := C0.2.2.2.2.2.1
  have hws : ∀ w ∈ WS, w.before #[Value.ref b] s = true := fun w hw => hts w (List.mem_filter.mp hw).1
  have hgv := flat_of_before _ C0.2.2.2.2.2.2.2.2.2
  obtain ⟨dC, dI, hK⟩ : ∃ (dC : Nat → ClassId) (dI : Nat → Nat → Nat), ∀ (c : Nat) (q : vw_C), vwCl[c]? = some q → u_Kn s q.1 q.2.1 q.2.2 (dC c) (dI c) := ⟨fun c => Classical.choose (k_at hws c), fun c => Classical.choose (Classical.choose_spec (k_at hws c)), fun c => Classical.choose_spec (Classical.choose_spec (k_at hws c))⟩
  have hAO : ∀ C ∈ arrO, va_AO C s := by
    intro C hC
    refine va_AO.of (A := #[Value.ref b]) (hts _ ?_)
    revert C
    intro C hC
    have hC : C = "LeasedFiles$Message" ∨ C = "LeasedFiles$Client" ∨ C = "LeasedFiles$Copy" ∨ C = "LeasedFiles$ServedFile" ∨ C = "java/lang/Object" := by simpa [arrO] using hC
    rcases hC with rfl | rfl | rfl | rfl | rfl
    · exact List.mem_append_right _ (List.mem_of_getElem? (i := 43) (by decide +kernel))
    · exact List.mem_append_right _ (List.mem_of_getElem? (i := 191) (by decide +kernel))
    · exact List.mem_append_right _ (List.mem_of_getElem? (i := 198) (by decide +kernel))
    · exact List.mem_append_right _ (List.mem_of_getElem? (i := 111) (by decide +kernel))
    · exact List.mem_append_right _ (List.mem_of_getElem? (i := 474) (by decide +kernel))
  have hA : ∀ a : Nat, a < s.heap.size → ¬ (fun q => s.heap.size ≤ q) a := fun a h z => absurd h (Nat.not_lt.mpr z)
  obtain ⟨t0, h0⟩ := t_int (hws _ wa_int)
  obtain ⟨t1, h1⟩ := t_boolean (hws _ wa_bool)
  obtain ⟨t2, h2⟩ := t_obj (hAO "LeasedFiles$Message" (by decide))
  obtain ⟨t3, h3⟩ := t_obj (hAO "LeasedFiles$Client" (by decide))
  obtain ⟨t4, h4⟩ := t_obj (hAO "LeasedFiles$Copy" (by decide))
  obtain ⟨t5, h5⟩ := t_obj (hAO "LeasedFiles$ServedFile" (by decide))
  obtain ⟨t6, h6⟩ := t_obj (hAO "java/lang/Object" (by decide))
  obtain ⟨mi, hmi⟩ := va_Mi.of (C := "[Ljava/lang/Object;") (hgv _ (by decide +kernel))
  obtain ⟨te, hte, hT⟩ := va_Tof (tm := tmE) (ty := .object "java/lang/Object") (N := 0) (f := fun _ => .null) (A := fun q => s.heap.size ≤ q) (by decide) (hgv _ (by decide +kernel)) (va_eqt (hgv _ (by decide +kernel))) (fun j hj => absurd hj (Nat.not_lt_zero j)) hA
  refine ⟨(l, (dC, dI), (fun k => match k with | 0 => t0 | 1 => t1 | 2 => t2 | 3 => t3 | 4 => t4 | 5 => t5 | _ => t6), (fun k => match k with | 0 => te | _ => mi)), rfl, ⟨⟨hK, ?_⟩, fun w hw hn => va_Nw.of (nest_tab hn) (hts w hw), hAO, hmi⟩, va_Zref (hts _ (List.mem_append_right _ (List.mem_of_getElem? (i := 130) (by decide +kernel)))) (hts _ (List.mem_append_right _ (List.mem_of_getElem? (i := 9) (by decide +kernel)))) hte hA, hT⟩
  intro k q hq
  have hl := (List.getElem?_eq_some_iff.mp hq).1
  have hl : k < 7 := hl
  rcases (show k = 0 ∨ k = 1 ∨ k = 2 ∨ k = 3 ∨ k = 4 ∨ k = 5 ∨ k = 6 by omega) with e | e | e | e | e | e | e <;> subst e <;> cases hq
  · exact h0
  · exact h1
  · exact h2
  · exact h3
  · exact h4
  · exact h5
  · exact h6
/-- YOUR PART: from the entry, for every script of at most 2052 ints, the law comes to its end with true -/
theorem whole_start {p : Program} {e : Env} {s : State} {m : MethodId} {below : List Frame} {meth : Method} {c : Code} (l : Launch) {b L : Nat} {xs : Nat → Int32} (hL : L ≤ 2052) (C0 : lw_At p s m meth c b L xs) : W p l e room_1 s m #[Value.ref b] below meth c s.heap [] 0 0 (lw_Z below #[Value.ref b] s) (entryFrame m ([Value.ref b] : List Value).toArray 4) := by
  obtain ⟨E, rfl, hK, hZ⟩ := k_start l C0
  obtain ⟨g1, g2, g3, g4, g5, g6, g7, g8, g9, g10⟩ := C0
  have hG := law_start (E := E) (n0 := s.heap.size) (xs := xs) g8 hL p e s m #[Value.ref b] below meth c s.heap [] _ ⟨g1, g2, g4, g5, fun w hw => g6 w (List.mem_filter.mp hw).1, g9, g3, fun h => absurd h (by decide), hK, hZ, fun q h => h, g7, g8⟩ (lv_entry [.ref b] (n := 4) (Nat.le_of_ble_eq_true rfl)) w00_P w00_D va_S.rf
  rw [lg_entry_eq]
  intro T hT X
  obtain ⟨t, a1, o, b1, b2, ⟨⟨r, w, e1, e2, e3, e4⟩, e5⟩, Lc, ⟨e6, e7, j1, j2, j3, j4, j5, j6⟩, e8⟩ := hG T hT X
  refine ⟨t, a1, o, b1, b2, ?_, e6, e7, j1, j2, j3, j4, j5, fun a c hc => ?_⟩
  · have e2 : r = some (.int 1) := e2
    rw [e1, e2]
  · obtain ⟨c', hc', hce, hsz, hout⟩ := j6 a c hc
    exact ⟨c', hc', hce, hsz, fun i _ => hout i (fun hmem => absurd (Array.getElem?_eq_some_iff.mp hc).1 (Nat.not_lt.mpr (e8 _ hmem)))⟩
