theorem wi_M : Cond.instantiable "LeasedFiles$Message" 7 ∈ WS := ws_at 44 (by decide +kernel) rfl
theorem wi_Y : Cond.instantiable "LeasedFiles$Copy" 4 ∈ WS := ws_at 199 (by decide +kernel) rfl
theorem wi_P : Cond.instantiable "LeasedFiles$Pool" 3 ∈ WS := ws_at 37 (by decide +kernel) rfl
theorem wi_C : Cond.instantiable "LeasedFiles$Client" 13 ∈ WS := ws_at 192 (by decide +kernel) rfl
theorem wi_F : Cond.instantiable "LeasedFiles$ServedFile" 4 ∈ WS := ws_at 112 (by decide +kernel) rfl
theorem wi_S : Cond.instantiable "LeasedFiles$Server" 8 ∈ WS := ws_at 105 (by decide +kernel) rfl
theorem wi_A : Cond.instantiable "java/util/ArrayList" 3 ∈ WS := ws_at 118 (by decide +kernel) rfl
theorem wi_L : Cond.instantiable "LeasedFiles" 4 ∈ WS := ws_at 20 (by decide +kernel) rfl
theorem fw_B_7 : fdw "java/util/AbstractList" 9 2 7 .int false := ⟨_, T_A, 3, "java/util/AbstractList", t_A, rfl, u_A, by decide, ws_at 133 (by decide +kernel) rfl, Or.inl rfl, tk_A, n_A, by decide +kernel, rfl, fun h => by first | rfl | cases h⟩
section GN
variable {E : gE} {Y : mY} {Z : gZ} {pc : Nat} {lv : List (Nat × Value)} {st : List Value} {w : wd} {ce sl : Nat}
theorem g_wide {ce' sl' : Nat} (h1 : ce ≤ ce') (h2 : sl ≤ sl') (k : G E Y Z pc lv st w ce' sl') : G E Y Z pc lv st w ce sl := by
  intro p e s m args below meth c H locs ls X hl hP hD hS
  exact W.widen h1 h2 (k p e s m args below meth c H locs ls X hl hP hD hS)
theorem g_callIN {Y' : mY} {d' mc' ms' n b index : Nat} {host : String} {Q' : Option Value → wd → Prop} {As rest : List Value} (hC : Cn E Y' d' mc' ms' (.ref b :: As) w Q') (ok : okY Y' n) (hrv : Y'.2.2.2 = none) (hnm : Y'.1.name = "<init>") (hlk : Cond.methodLinkNest Y.1.cls index Y'.1 host ∈ lw_tbl) (hin : Cond.instanceMethod Y'.1 ∈ WS) (hd : decode Y.2.1 pc = .ok (.invokespecial index, 3)) (hst : st = As.reverse ++ .ref b :: rest) (hn : As.length = n) (hcat : (rest.map fun v => v.category).sum ≤ 8) (hdd : d' + 1 ≤ Z.1.frames ∧ 37 * d' + 37 ≤ Z.1.locals) (hce : ce + mc' ≤ Z.1.cells) (hsl : sl + ms' ≤ Z.1.slots)
    (k : ∀ (r : Option Value) (w' : wd), Q' r w' → G E Y Z (pc + 3) lv (r.toList ++ rest) w' (ce + mc') (sl + ms')) : G E Y Z pc lv st w ce sl := by
  intro p e s m args below meth c H locs ls X hl hP hD hS
  obtain ⟨r1, r2, r3, r4⟩ := g_callB (mc' := mc') (ms' := ms') X ok hdd
  have hp := g_pre (av := .ref b :: As) X hP hD hS
  have o1 := ok.1
  have hM := hC H.size
  rw [hrv] at o1 r3 hM
  exact g_back (va_runIN (host := host) (As := As) (rest := rest) ⟨X.x, X.b, X.ml, X.own, X.ts⟩ hM ⟨⟨⟨rfl, rfl, r1, r2, r3, List.mem_cons_self⟩, X.ts _ o1, X.ts _ ok.2.1, ok.2.2.1, r4, va_Nw.use rfl (X.K.2.1 _ hlk rfl)⟩, hnm, X.ts _ hin⟩ hp rfl hn hl.1 hst (lv_room hcat) hd ⟨hce, hsl⟩) hS hD X.A (fun r w' H1 locs1 hq hP1 hD1 hS1 => k r w' hq p e s m args below meth c H1 locs1 ls X hl hP1 hD1 hS1)
end GN
/-- what stands already: names, addresses, contents -/
abbrev dC : Type := nmC → Option (Nat × va_E)
def SX (D : dC) (w : wd) : Prop := (∀ x a e, D x = some (a, e) → wh w a e) ∧ ∀ x y a e e', D x = some (a, e) → D y = some (a, e') → x = y
def dU (D : dC) (x : nmC) (p : Nat × va_E) : dC := fun y => if y = x then some p else D y
theorem dU_s (D : dC) (x : nmC) (p : Nat × va_E) : dU D x p x = some p := if_pos rfl
theorem dU_o (D : dC) {x y : nmC} (p : Nat × va_E) (h : y ≠ x) : dU D x p y = D y := if_neg h
theorem SX.nw {D : dC} {w : wd} (h : SX D w) {q : Nat} (hq : q ∉ w.1) (x : nmC) (e : va_E) : SX (dU D x (q, e)) (wn w q e) := by
  refine ⟨fun y a e' hy => ?_, fun y z a e1 e2 hy hz => ?_⟩
  · by_cases hyx : y = x
    · subst hyx
      rw [dU_s] at hy
      cases hy
      exact wh.ns
    · rw [dU_o D _ hyx] at hy
      exact (h.1 y a e' hy).nn hq
  · by_cases hyx : y = x
    · by_cases hzx : z = x
      · rw [hyx, hzx]
      · subst hyx
        rw [dU_s] at hy
        rw [dU_o D _ hzx] at hz
        cases hy
        exact absurd (h.1 z _ _ hz).1 hq
    · rw [dU_o D _ hyx] at hy
      by_cases hzx : z = x
      · subst hzx
        rw [dU_s] at hz
        cases hz
        exact absurd (h.1 y _ _ hy).1 hq
      · rw [dU_o D _ hzx] at hz
        exact h.2 y z a e1 e2 hy hz
theorem SX.pt {D : dC} {w : wd} (h : SX D w) {x : nmC} {a : Nat} {e0 : va_E} (hx : D x = some (a, e0)) (e : va_E) : SX (dU D x (a, e)) (wu w a e) := by
  refine ⟨fun y b e' hy => ?_, fun y z b e1 e2 hy hz => ?_⟩
  · by_cases hyx : y = x
    · subst hyx
      rw [dU_s] at hy
      cases hy
      exact (h.1 _ _ _ hx).us
    · rw [dU_o D _ hyx] at hy
      exact (h.1 y b e' hy).un (fun z => hyx (by rw [z] at hy; exact h.2 y x a _ _ hy hx))
  · have key : ∀ u e, dU D x (a, e) u = dU D x (a, e) u → ∀ b e', dU D x (a, e) u = some (b, e') → ∃ e'', D u = some (b, e'') := by
      intro u e _ b e' hu
      by_cases hux : u = x
      · subst hux
        rw [dU_s] at hu
        cases hu
        exact ⟨_, hx⟩
      · rw [dU_o D _ hux] at hu
        exact ⟨_, hu⟩
    obtain ⟨f1, g1⟩ := key y e rfl b e1 hy
    obtain ⟨f2, g2⟩ := key z e rfl b e2 hz
    exact h.2 y z b _ _ g1 g2
theorem SX.tr {D : dC} {w w' : wd} (h : SX D w) (k : ∀ b e, wh w b e → wh w' b e) : SX D w' := ⟨fun x a e hx => k _ _ (h.1 x a e hx), h.2⟩
theorem wu_id {w : wd} {a : Nat} {e : va_E} (h : wh w a e) : ∀ b e', wh w b e' → wh (wu w a e) b e' := by
  intro b e' hb
  by_cases z : b = a
  · subst z
    rw [hb.inj h]
    exact hb.us
  · exact hb.un z

set_option maxHeartbeats 4000000 in
set_option maxRecDepth 100000 in
theorem c_M_init {E : gE} {w : wd} {a : Nat} : Cn E y_M_init 1 0 0 [.ref a] w (fun r w' => r = none ∧ w' = w) := by
  refine Cn.of (by decide) (Nat.le_of_ble_eq_true rfl) (fun A => ?_)
  show G E y_M_init _ 0 [(0, .ref a)] [] w 0 0
  refine g_aload_n (j := 0) d_M_init_0 rfl ?_
  refine g_objInit d_M_init_1 lk_M_3 wo_in wo_co ⟨(Nat.le_of_ble_eq_true rfl), (Nat.le_of_ble_eq_true rfl)⟩ (Nat.le_of_ble_eq_true rfl) ?_
  exact g_return d_M_init_4 rfl (Nat.le_of_ble_eq_true rfl) (Nat.le_of_ble_eq_true rfl) ⟨rfl, rfl⟩
set_option maxHeartbeats 4000000 in
set_option maxRecDepth 100000 in
theorem c_Y_init {E : gE} {w : wd} {a : Nat} (ha : wh w a (.inr (3, yL (fun _ => 0)))) : Cn E y_Y_init 1 0 0 [.ref a] w (fun r w' => r = none ∧ w' = wu w a (.inr (3, yL (fun _ => 0)))) := by
  refine Cn.of (by decide) (Nat.le_of_ble_eq_true rfl) (fun A => ?_)
  show G E y_Y_init _ 0 [(0, .ref a)] [] w 0 0
  refine g_aload_n (j := 0) d_Y_init_0 rfl ?_
  refine g_objInit d_Y_init_1 lk_Y_3 wo_in wo_co ⟨(Nat.le_of_ble_eq_true rfl), (Nat.le_of_ble_eq_true rfl)⟩ (Nat.le_of_ble_eq_true rfl) ?_
  refine g_aload_n (j := 0) d_Y_init_4 rfl ?_
  refine g_iconst (v := 0) d_Y_init_5 (by decide) ?_
  refine g_put d_Y_init_6 fw_Y_9 (Or.inl rfl) ha rfl rfl (Nat.le_of_ble_eq_true rfl) ?_
  refine g_aload_n (j := 0) d_Y_init_9 rfl ?_
  refine g_iconst (v := 0) d_Y_init_10 (by decide) ?_
  refine g_put d_Y_init_11 fw_Y_15 (Or.inl rfl) ha.us rfl rfl (Nat.le_of_ble_eq_true rfl) ?_
  refine g_aload_n (j := 0) d_Y_init_14 rfl ?_
  refine g_iconst (v := 0) d_Y_init_15 (by decide) ?_
  refine g_put d_Y_init_16 fw_Y_19 (Or.inl rfl) ha.us.us rfl rfl (Nat.le_of_ble_eq_true rfl) ?_
  refine g_aload_n (j := 0) d_Y_init_19 rfl ?_
  refine g_iconst (v := 0) d_Y_init_20 (by decide) ?_
  refine g_put d_Y_init_21 fw_Y_22 (Or.inl rfl) ha.us.us.us rfl rfl (Nat.le_of_ble_eq_true rfl) ?_
  refine g_return d_Y_init_24 rfl (Nat.le_of_ble_eq_true rfl) (Nat.le_of_ble_eq_true rfl) ⟨rfl, ?_⟩
  rw [wu_wu, wu_wu, wu_wu]
  rfl
set_option maxHeartbeats 4000000 in
set_option maxRecDepth 100000 in
theorem c_D_init {E : gE} {w : wd} {a : Nat} : Cn E y_D_init 1 0 0 [.ref a] w (fun r w' => r = none ∧ w' = w) := by
  refine Cn.of (by decide) (Nat.le_of_ble_eq_true rfl) (fun A => ?_)
  show G E y_D_init _ 0 [(0, .ref a)] [] w 0 0
  refine g_aload_n (j := 0) d_D_init_0 rfl ?_
  refine g_objInit d_D_init_1 lk_D_1 wo_in wo_co ⟨(Nat.le_of_ble_eq_true rfl), (Nat.le_of_ble_eq_true rfl)⟩ (Nat.le_of_ble_eq_true rfl) ?_
  exact g_return d_D_init_4 rfl (Nat.le_of_ble_eq_true rfl) (Nat.le_of_ble_eq_true rfl) ⟨rfl, rfl⟩
set_option maxHeartbeats 4000000 in
set_option maxRecDepth 100000 in
theorem c_B_init {E : gE} {w : wd} {a : Nat} {v : Value} (ha : wh w a (.inr (9, [v, .int 0, .int 0]))) : Cn E y_B_init 2 0 0 [.ref a] w (fun r w' => r = none ∧ w' = wu w a (.inr (9, [v, .int 0, .int 0]))) := by
  refine Cn.of (by decide) (Nat.le_of_ble_eq_true rfl) (fun A => ?_)
  show G E y_B_init _ 0 [(0, .ref a)] [] w 0 0
  refine g_aload_n (j := 0) d_B_init_0 rfl ?_
  refine g_callI (c_D_init) ok_D_init rfl rfl lk_B_1 in_D_init d_B_init_1 rfl rfl (Nat.le_of_ble_eq_true rfl) ⟨(Nat.le_of_ble_eq_true rfl), (Nat.le_of_ble_eq_true rfl)⟩ (Nat.le_of_ble_eq_true rfl) (Nat.le_of_ble_eq_true rfl) (fun r w' hq => ?_)
  obtain ⟨rfl, rfl⟩ := hq
  refine g_aload_n (j := 0) d_B_init_4 rfl ?_
  refine g_iconst (v := 0) d_B_init_5 (by decide) ?_
  refine g_put d_B_init_6 fw_B_7 (Or.inl rfl) ha rfl rfl (Nat.le_of_ble_eq_true rfl) ?_
  exact g_return d_B_init_9 rfl (Nat.le_of_ble_eq_true rfl) (Nat.le_of_ble_eq_true rfl) ⟨rfl, rfl⟩
set_option maxHeartbeats 4000000 in
set_option maxRecDepth 100000 in
theorem c_A_init {E : gE} {w : wd} {a : Nat} (ha : wh w a (.inr (9, [.null, .int 0, .int 0]))) : Cn E y_A_init 3 0 0 [.ref a] w (fun r w' => r = none ∧ w' = wu w a (.inr (9, [.ref (E.2.2.2 0), .int 0, .int 0]))) := by
  refine Cn.of (by decide) (Nat.le_of_ble_eq_true rfl) (fun A => ?_)
  show G E y_A_init _ 0 [(0, .ref a)] [] w 0 0
  refine g_aload_n (j := 0) d_A_init_0 rfl ?_
  refine g_callI (c_B_init ha) ok_B_init rfl rfl lk_A_1 in_B_init d_A_init_1 rfl rfl (Nat.le_of_ble_eq_true rfl) ⟨(Nat.le_of_ble_eq_true rfl), (Nat.le_of_ble_eq_true rfl)⟩ (Nat.le_of_ble_eq_true rfl) (Nat.le_of_ble_eq_true rfl) (fun r w' hq => ?_)
  obtain ⟨rfl, rfl⟩ := hq
  refine g_aload_n (j := 0) d_A_init_4 rfl ?_
  refine g_getsEm rfl d_A_init_5 ?_
  refine g_put d_A_init_8 fw_A_9 (Or.inl rfl) ha.us rfl rfl (Nat.le_of_ble_eq_true rfl) ?_
  refine g_return d_A_init_11 rfl (Nat.le_of_ble_eq_true rfl) (Nat.le_of_ble_eq_true rfl) ⟨rfl, ?_⟩
  rw [wu_wu]
  rfl
