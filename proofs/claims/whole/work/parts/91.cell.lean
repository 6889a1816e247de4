/-! the law's `cell`: it reads the script, and writes nothing -/
def w00 : wd := ([], fun _ => .inr (0, []))
theorem w00_P {D : va_G} {cl : List vw_C} {H : Heap} : va_P D cl (wl w00) H := fun k q h => by
  have h : ([] : va_W)[k]? = some q := h
  simp at h
theorem w00_D {A : Nat → Prop} : va_D A (wl w00) := ⟨fun i j p q h => by
  have h : ([] : va_W)[i]? = some p := h
  simp at h, fun k q h => by
  have h : ([] : va_W)[k]? = some q := h
  simp at h⟩
abbrev zX (n0 b L : Nat) (xs : Nat → Int32) (z : Int32) : gZ := (rmD 0 0 0, (fun q => n0 ≤ q), (fun r _ => r = some (.int z)), fun U => va_X b L xs U U.heap ∧ b < U.heap.size)
def xP (E : gE) (b L : Nat) (xs : Nat → Int32) (i : Int32) (n0 : Nat) : Array Value → State → Prop := fun v U => v = ([.ref b, .int i] : List Value).toArray ∧ U.heap.size = n0 ∧ Kg E U ∧ Zg E (fun q => n0 ≤ q) U U.heap ∧ va_X b L xs U U.heap ∧ b < n0
theorem gz_cell {E : gE} {b L n0 j : Nat} {xs : Nat → Int32} {i z : Int32} (hi : i = nI j) (hj : j < 4) (hL : L < 2 ^ 31) (hb : b < n0) (hz : z = if j < L then xs j else 0) : G E y_Z_cell (zX n0 b L xs z) 0 (lv_args 0 [.ref b, .int i]) [] w00 0 0 := by
  have hex : ∀ s, (zX n0 b L xs z).2.2.2 s → va_X b L xs s s.heap ∧ b < s.heap.size := fun s h => h
  have hbA : ¬ (zX n0 b L xs z).2.1 b := fun h => absurd hb (Nat.not_lt.mpr h)
  refine g_eq (lv' := [(0, .ref b), (1, .int i)]) rfl rfl rfl ?_
  refine g_iload_n (j := 1) d_Z_cell_0 rfl ?_
  refine g_aload_n (j := 0) d_Z_cell_1 rfl ?_
  refine g_slen hex hbA d_Z_cell_2 ?_
  refine g_icmp_ge (tgt := 12) d_Z_cell_3 (by decide) (fun h => ?_) (fun h => ?_)
  · have hj' : ¬ j < L := fun q => nI_ge q hL (by rw [← hi]; exact h)
    refine g_iconst (v := 0) d_Z_cell_12 (by decide) ?_
    refine g_ireturn d_Z_cell_13 rfl (Nat.le_refl _) (Nat.le_refl _) ?_
    show some (Value.int 0) = some (.int z)
    rw [hz, if_neg hj']
  · have hj' : j < L := Nat.not_le.mp fun q => h (by rw [hi]; exact nI_le q (by omega))
    refine g_aload_n (j := 0) d_Z_cell_6 rfl ?_
    refine g_iload_n (j := 1) d_Z_cell_7 rfl ?_
    refine g_sld hex hbA hi hj' hL d_Z_cell_8 ?_
    refine g_goto (tgt := 13) d_Z_cell_9 (by decide) ?_
    refine g_ireturn d_Z_cell_13 rfl (Nat.le_refl _) (Nat.le_refl _) ?_
    show some (Value.int (xs j)) = some (.int z)
    rw [hz, if_pos hj']
theorem c_Z_cell {E : gE} {b L j : Nat} {xs : Nat → Int32} {i z : Int32} (hi : i = nI j) (hj : j < 4) (hL : L < 2 ^ 31) (hz : z = if j < L then xs j else 0) (n0 : Nat) : Met E.1 y_Z_cell.1 (.code y_Z_cell.1 y_Z_cell.2.1 y_Z_cell.2.2.1 y_Z_cell.2.2.2 :: WS) (rmD 0 0 0) (xP E b L xs i n0) (gQ E (zX n0 b L xs z)) 0 0 (fun q => n0 ≤ q) := by
  refine Met.ofW (cc := y_Z_cell.2.1) (maxL := y_Z_cell.2.2.1) (ret := y_Z_cell.2.2.2) (by decide) rfl ?_
  intro p e s m args below meth c s₁ B hml hv
  obtain ⟨rfl, hsz, hK, hZ, hX, hbl⟩ := hv
  subst hsz
  rw [lg_entry_eq]
  exact gz_cell (z := z) hi hj hL hbl hz p e s m _ below meth c s.heap [] _ ⟨B.exec, B.bytes, hml, findClass_of_methodNamed B.named, fun w hw => atoms_spec B.pre w (List.mem_cons_of_mem _ hw), B.notSynchronized, B.returns, fun h => (name_of_methodNamed B.named B.method).1.trans h, hK, hZ, fun q h => h, hX, hbl⟩ (lv_entry [.ref b, .int i] (n := 2) (Nat.le_of_ble_eq_true rfl)) w00_P w00_D va_S.rf
section CX
variable {E : gE} {Y : mY} {Z : gZ} {pc : Nat} {lv : List (Nat × Value)} {w : wd} {ce sl : Nat}
/-- a number at the script's head, 0 where the script is shorter -/
theorem g_callX {b L j index : Nat} {xs : Nat → Int32} {i : Int32} {rest : List Value} (hex : ∀ s, Z.2.2.2 s → va_X b L xs s s.heap ∧ b < s.heap.size) (hbA : ¬ Z.2.1 b) (hi : i = nI j) (hj : j < 4) (hL : L < 2 ^ 31) (hlk : Cond.methodLink Y.1.cls index y_Z_cell.1 ∈ WS) (hd : decode Y.2.1 pc = .ok (.invokestatic index, 3)) (hcat : (rest.map fun v => v.category).sum ≤ 8) (hdd : 0 + 1 ≤ Z.1.frames ∧ 37 * 0 + 37 ≤ Z.1.locals) (hce : ce ≤ Z.1.cells) (hsl : sl ≤ Z.1.slots)
    (k : G E Y Z (pc + 3) lv (.int (if j < L then xs j else 0) :: rest) w ce sl) : G E Y Z pc lv (.int i :: .ref b :: rest) w ce sl := by
  intro p e s m args below meth c H locs ls X hl hP hD hS
  obtain ⟨hX, hbl⟩ := hex s X.ex
  obtain ⟨r1, r2, r3, r4⟩ := g_callB (mc' := 0) (ms' := 0) X ok_Z_cell hdd
  have hXH : va_X b L xs s H := hX.kept (hS.2.1 b hbl hbA)
  have hbH : b < H.size := Nat.lt_of_lt_of_le hbl hS.1
  have hZH : Zg E (fun q => H.size ≤ q) s H := Zg.narrow (A := Z.2.1) (X.Zs.kept (fun a h1 h2 => hS.2.1 a h1 h2)) (fun q h => X.A q (Nat.le_trans hS.1 h))
  have hp : PreS s H (xP E b L xs i H.size) [.ref b, .int i] := by
    refine ⟨fun a U g mk q => ⟨q.1, q.2.1, q.2.2.1.call, Zg.moved (u := U) (U := U.calling g mk a) (Vm.Alike.refl U.vm) q.2.2.2.1, va_X.moved (u := U) (U := U.calling g mk a) (Vm.Alike.refl U.vm) q.2.2.2.2.1, q.2.2.2.2.2⟩, fun U hU hW => ⟨rfl, by rw [hU], X.K.warm hW, ?_, ?_, hbH⟩⟩
    · rw [hU]
      exact Zg.moved hW.alike hZH
    · rw [hU]
      exact va_X.moved hW.alike hXH
  have hr := va_runS (e := e) (below := below) (meth := meth) (locs := locs) (g := F0 m pc ls (.int i :: .ref b :: rest)) (cells := ce) (slots := sl) (As := [.ref b, .int i]) (rest := rest) ⟨X.x, X.b, X.ml, X.own, X.ts⟩ (c_Z_cell (E := E) (b := b) (xs := xs) hi hj hL rfl H.size) ⟨⟨rfl, rfl, r1, r2, r3, List.mem_cons_self, X.ts _ ok_Z_cell.1, X.ts _ ok_Z_cell.2.1, ok_Z_cell.2.2.1, r4, X.ts _ hlk⟩, X.ts _ st_Z_cell⟩ hp rfl rfl hl.1 rfl (lv_room hcat) hd ⟨hce, hsl⟩
  intro T hT XX
  obtain ⟨v0, st₀, t, T', L', h0, X', hL', e1, e2, ⟨⟨r, w', hv, hq, hP1, hD1⟩, hz, hk⟩, st⟩ := hr T hT XX
  cases hv
  have hq : v0 = some (.int (if j < L then xs j else 0)) := hq
  subst hq
  rw [h0] at hz hk
  have hk' : ∀ q : Nat, q < H.size → T'.heap[q]? = H[q]? := fun q h => by rw [e1]; exact hk q h (Nat.not_le.mpr h)
  obtain ⟨t2, a1, b1⟩ := k p e s m args below meth c T'.heap (locs ++ L') ls X hl (hP.kept (fun k q hq => hk' q.1 ((hP k q hq).lt))) hD
    ⟨Nat.le_trans hS.1 (by rw [e1]; exact hz), fun q h1 h2 => by rw [hk' q (Nat.lt_of_lt_of_le h1 hS.1)]; exact hS.2.1 q h1 h2, fun q hq => by
      rcases List.mem_append.mp hq with h | h
      · exact hS.2.2 q h
      · exact X.A _ (Nat.le_trans hS.1 (hL' q h))⟩ T' rfl X'
  exact ⟨t2, st t2 a1, b1⟩
/-- a world by its list -/
theorem g_wl {st : List Value} {w' : wd} (h : wl w = wl w') (k : G E Y Z pc lv st w' ce sl) : G E Y Z pc lv st w ce sl := by
  intro p e s m args below meth c H locs ls X hl hP hD hS
  rw [h] at hP hD
  exact k p e s m args below meth c H locs ls X hl hP hD hS
end CX
