/-! worlds as maps: the addresses, and what each holds -/
abbrev wd : Type := List Nat × (Nat → va_E)
abbrev wl (w : wd) : va_W := va_pl w.1 w.2
def wh (w : wd) (a : Nat) (e : va_E) : Prop := a ∈ w.1 ∧ w.2 a = e
def wu (w : wd) (a : Nat) (e : va_E) : wd := (w.1, va_up w.2 a e)
def wn (w : wd) (a : Nat) (e : va_E) : wd := (w.1 ++ [a], va_up w.2 a e)
theorem wh.us {w : wd} {a : Nat} {e e0 : va_E} (h : wh w a e0) : wh (wu w a e) a e := ⟨h.1, va_up_self _ _ _⟩
theorem wh.un {w : wd} {a b : Nat} {e e' : va_E} (h : wh w b e') (hn : b ≠ a) : wh (wu w a e) b e' := ⟨h.1, (va_up_ne w.2 e hn).trans h.2⟩
theorem wh.ns {w : wd} {a : Nat} {e : va_E} : wh (wn w a e) a e := ⟨List.mem_append_right _ (List.mem_singleton.mpr rfl), va_up_self _ _ _⟩
theorem wh.nn {w : wd} {a b : Nat} {e e' : va_E} (h : wh w b e') (hq : a ∉ w.1) : wh (wn w a e) b e' := ⟨List.mem_append_left _ h.1, (va_up_ne (k := a) (j := b) w.2 e (fun z => hq (by rw [← z]; exact h.1))).trans h.2⟩
theorem wh.inj {w : wd} {a : Nat} {e e' : va_E} (h : wh w a e) (h' : wh w a e') : e = e' := h.2.symm.trans h'.2
theorem wh.ne {w : wd} {a b : Nat} {e e' : va_E} (h : wh w a e) (h' : wh w b e') (hn : e ≠ e') : a ≠ b := fun z => hn (wh.inj h (z ▸ h'))
theorem wu_wu (w : wd) (a : Nat) (e e' : va_E) : wu (wu w a e) a e' = wu w a e' := by
  refine Prod.ext rfl (funext fun j => ?_)
  show va_up (va_up w.2 a e) a e' j = va_up w.2 a e' j
  by_cases h : j = a
  · rw [h, va_up_self, va_up_self]
  · rw [va_up_ne _ _ h, va_up_ne _ _ h, va_up_ne _ _ h]
theorem wh.at {w : wd} {a : Nat} {e : va_E} (h : wh w a e) : ∃ k : Nat, (wl w)[k]? = some (a, e) := by
  obtain ⟨k, hk⟩ := va_pl_get (X := []) (f := w.2) h.1
  exact ⟨k, by rw [← h.2]; exact hk⟩
theorem wh.set {A : Nat → Prop} {w : wd} {a k : Nat} {e e' : va_E} (hD : va_D A (wl w)) (h : wh w a e) (hk : (wl w)[k]? = some (a, e)) : (wl w).set k (a, e') = wl (wu w a e') :=
  va_pl_set (X := []) hD h.1 (by rw [h.2]; exact hk)
theorem wl.push {A : Nat → Prop} {w : wd} {q : Nat} {e : va_E} (hD : va_D A (wl w ++ [(q, e)])) : q ∉ w.1 ∧ wl w ++ [(q, e)] = wl (wn w q e) := by
  have h : q ∉ w.1 := va_pl_fresh2 (X := []) hD
  exact ⟨h, va_pl_push h⟩
/-! what every method fixes -/
abbrev mY : Type := MethodName × ByteArray × Nat × Option FieldType
abbrev gE : Type := Launch × va_G × (Nat → ClassId) × (Nat → Nat)
/-- the room, which cells may change, the end, what more is known of the start -/
abbrev gZ : Type := Room × (Nat → Prop) × (Option Value → wd → Prop) × (State → Prop)
abbrev rmD (d mc ms : Nat) : Room := { frames := d, cells := mc, slots := ms, locals := 37 * d }
def gQ (E : gE) (Z : gZ) : Array Value → State → Outcome → State → Prop := fun _ st oc t => (∃ (r : Option Value) (w : wd), oc = .returned r ∧ Z.2.2.1 r w ∧ va_P E.2.1 vwCl (wl w) t.heap ∧ va_D Z.2.1 (wl w)) ∧ va_F Z.2.1 st t
theorem ws_good {w : Cond} (h : w ∈ WS) : (w.onTables && w.keeps) = true ∨ ∃ ty, w = .arrayClass ty := good_of_word (List.mem_filter.mp h).2
/-- words that no reader of steady words carries -/
def nestW : Cond → Bool
  | .fieldLinkNest .. => true
  | .methodLinkNest .. => true
  | .castable .. => true
  | .declares .. => true
  | _ => false
def tyl (E : gE) : List (ClassId × FieldType) := [(E.2.2.1 0, .int), (E.2.2.1 1, .boolean), (E.2.2.1 2, .object "LeasedFiles$Message"), (E.2.2.1 3, .object "LeasedFiles$Client"), (E.2.2.1 4, .object "LeasedFiles$Copy"), (E.2.2.1 5, .object "LeasedFiles$ServedFile"), (E.2.2.1 6, .object "java/lang/Object")]
def arrO : List String := ["LeasedFiles$Message", "LeasedFiles$Client", "LeasedFiles$Copy", "LeasedFiles$ServedFile", "java/lang/Object"]
def Kg (E : gE) (U : State) : Prop := va_K E.2.1 vwCl (tyl E) U ∧ (∀ w ∈ lw_tbl, nestW w = true → va_Nw w U) ∧ (∀ C ∈ arrO, va_AO C U) ∧ va_Mi "[Ljava/lang/Object;" (E.2.2.2 1) U
theorem Kg.warm {E : gE} {s U : State} (hW : s.WarmedH U.vm) (h : Kg E s) : Kg E U := by
  refine ⟨va_K.moved hW.alike h.1, fun w hw hn => ?_, fun C hC => (h.2.2.1 C hC).moved hW.alike, h.2.2.2.moved hW.alike⟩
  have hz := h.2.1 w hw hn
  cases w <;> first | (simp [nestW] at hn; done) | exact va_Nw.warmF hW hz | exact va_Nw.warmM hW hz | exact va_Nw.warmC hW hz | exact va_Nw.warmD hW hz
theorem Kg.call {E : gE} {U : State} {g : JFrame} {mk : MethodId} {a : Array Value} (h : Kg E U) : Kg E (U.calling g mk a) := by
  refine ⟨va_K.moved (u := U) (U := U.calling g mk a) (Vm.Alike.refl U.vm) h.1, fun w hw hn => ?_, fun C hC => (h.2.2.1 C hC).moved (u := U) (U := U.calling g mk a) (Vm.Alike.refl U.vm), h.2.2.2.moved (u := U) (U := U.calling g mk a) (Vm.Alike.refl U.vm)⟩
  refine va_Nw.same (u := U) (U := U.calling g mk a) ?_ rfl (h.2.1 w hw hn)
  cases w <;> first | (simp [nestW] at hn; done) | rfl
/-- statics that nobody writes: the list's empty array -/
def Zg (E : gE) (A : Nat → Prop) (U : State) (H : Heap) : Prop := va_Z "java/util/ArrayList" "DEFAULTCAPACITY_EMPTY_ELEMENTDATA" "[Ljava/lang/Object;" (.ref (E.2.2.2 0)) A U H ∧ va_T (.object "java/lang/Object") (E.2.2.2 0) 0 (fun _ => .null) A U H
theorem Zg.moved {E : gE} {A : Nat → Prop} {u U : State} {H : Heap} (hvm : u.vm.Alike U.vm) (h : Zg E A u H) : Zg E A U H := ⟨va_Z.moved hvm h.1, va_T.moved hvm h.2⟩
theorem Zg.kept {E : gE} {A : Nat → Prop} {U : State} {H H1 : Heap} (h : Zg E A U H) (hq : ∀ a : Nat, a < H.size → ¬ A a → H1[a]? = H[a]?) : Zg E A U H1 := ⟨h.1.kept hq, h.2.kept hq⟩
theorem Zg.narrow {E : gE} {A B : Nat → Prop} {U : State} {H : Heap} (h : Zg E A U H) (hAB : ∀ q, B q → A q) : Zg E B U H := ⟨h.1.narrow hAB, h.2.narrow hAB⟩
def gX (E : gE) (Y : mY) (Z : gZ) (p : Program) (s : State) (m : MethodId) (args : Array Value) (meth : Method) (c : Code) : Prop :=
  p.tables.exec = Jvm.exec ∧ c.code = Y.2.1 ∧ c.maxLocals = Y.2.2.1 ∧ s.vm.findClass Y.1.cls = some m.cls ∧ (∀ w ∈ WS, w.before args s = true) ∧ meth.locks = false ∧ meth.sig.returnType = Y.2.2.2 ∧ (Y.1.name = "<init>" → meth.name = "<init>") ∧ Kg E s ∧ Zg E Z.2.1 s s.heap ∧ (∀ q : Nat, s.heap.size ≤ q → Z.2.1 q) ∧ Z.2.2.2 s
section GX
variable {E : gE} {Y : mY} {Z : gZ} {p : Program} {s : State} {m : MethodId} {args : Array Value} {meth : Method} {c : Code}
theorem gX.x (X : gX E Y Z p s m args meth c) : p.tables.exec = Jvm.exec := X.1
theorem gX.b (X : gX E Y Z p s m args meth c) : c.code = Y.2.1 := X.2.1
theorem gX.ml (X : gX E Y Z p s m args meth c) : c.maxLocals = Y.2.2.1 := X.2.2.1
theorem gX.own (X : gX E Y Z p s m args meth c) : s.vm.findClass Y.1.cls = some m.cls := X.2.2.2.1
theorem gX.ts (X : gX E Y Z p s m args meth c) : ∀ w ∈ WS, w.before args s = true := X.2.2.2.2.1
theorem gX.lk (X : gX E Y Z p s m args meth c) : meth.locks = false := X.2.2.2.2.2.1
theorem gX.rt (X : gX E Y Z p s m args meth c) : meth.sig.returnType = Y.2.2.2 := X.2.2.2.2.2.2.1
theorem gX.nm (X : gX E Y Z p s m args meth c) : Y.1.name = "<init>" → meth.name = "<init>" := X.2.2.2.2.2.2.2.1
theorem gX.K (X : gX E Y Z p s m args meth c) : Kg E s := X.2.2.2.2.2.2.2.2.1
theorem gX.Zs (X : gX E Y Z p s m args meth c) : Zg E Z.2.1 s s.heap := X.2.2.2.2.2.2.2.2.2.1
theorem gX.A (X : gX E Y Z p s m args meth c) : ∀ q : Nat, s.heap.size ≤ q → Z.2.1 q := X.2.2.2.2.2.2.2.2.2.2.1
theorem gX.ex (X : gX E Y Z p s m args meth c) : Z.2.2.2 s := X.2.2.2.2.2.2.2.2.2.2.2
end GX
/-- the machine, at pc with these locals, this stack, this world, so many cells and slots made: comes to the contract's end -/
def G (E : gE) (Y : mY) (Z : gZ) (pc : Nat) (lv : List (Nat × Value)) (st : List Value) (w : wd) (ce sl : Nat) : Prop :=
  ∀ (p : Program) (e : Env) (s : State) (m : MethodId) (args : Array Value) (below : List Frame) (meth : Method) (c : Code) (H : Heap) (locs : List Loc) (ls : Array Slot),
    gX E Y Z p s m args meth c → lv_has ls Y.2.2.1 lv → va_P E.2.1 vwCl (wl w) H → va_D Z.2.1 (wl w) → va_S Z.2.1 s.heap H locs →
    W p E.1 e (Z.1) s m args below meth c H locs ce sl (MQ below (gQ E Z) args s Z.1.cells Z.1.slots Z.2.1) (F0 m pc ls st)
def gP (E : gE) (av : List Value) (w : wd) (n0 : Nat) : Array Value → State → Prop := fun v U => v = av.toArray ∧ U.heap.size = n0 ∧ va_P E.2.1 vwCl (wl w) U.heap ∧ va_D (fun _ => True) (wl w) ∧ Kg E U ∧ Zg E (va_A (wl w) n0) U U.heap
/-- a method's contract from the world w: it ends with Q -/
def Cn (E : gE) (Y : mY) (d mc ms : Nat) (av : List Value) (w : wd) (Q : Option Value → wd → Prop) : Prop :=
  ∀ n0 : Nat, Met E.1 Y.1 (.code Y.1 Y.2.1 Y.2.2.1 Y.2.2.2 :: WS) (rmD d mc ms) (gP E av w n0) (gQ E (rmD d mc ms, va_A (wl w) n0, Q, fun _ => True)) mc ms (va_A (wl w) n0)
theorem Cn.of {E : gE} {Y : mY} {d mc ms : Nat} {av : List Value} {w : wd} {Q : Option Value → wd → Prop} (hy : plainName Y.1.cls = true) (hn : (lg_sl av).length ≤ Y.2.2.1) (h : ∀ A : Nat → Prop, G E Y (rmD d mc ms, A, Q, fun _ => True) 0 (lv_args 0 av) [] w 0 0) : Cn E Y d mc ms av w Q := by
  intro n0
  refine Met.ofW (cc := Y.2.1) (maxL := Y.2.2.1) (ret := Y.2.2.2) hy rfl ?_
  intro p e s m args below meth c s₁ B hml hv
  obtain ⟨rfl, hsz, hP, hD, hK, hZ⟩ := hv
  subst hsz
  rw [lg_entry_eq]
  exact h _ p e s m _ below meth c s.heap [] _ ⟨B.exec, B.bytes, hml, findClass_of_methodNamed B.named, fun w hw => atoms_spec B.pre w (List.mem_cons_of_mem _ hw), B.notSynchronized, B.returns, fun h => (name_of_methodNamed B.named B.method).1.trans h, hK, hZ, fun q h => Or.inr h, trivial⟩ (lv_entry av hn) hP hD.self va_S.rf
