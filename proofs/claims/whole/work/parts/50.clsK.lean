theorem wz_f : Cond.fieldLink "java/util/ArrayList" 39 "java/util/ArrayList" "DEFAULTCAPACITY_EMPTY_ELEMENTDATA" "[Ljava/lang/Object;" ∈ WS := ws_at 129 (by decide +kernel) rfl
theorem wg_l : Cond.methodLink "java/util/Arrays" 86 ⟨"java/lang/Object", "getClass", "()Ljava/lang/Class;"⟩ ∈ WS := ws_at 456 (by decide +kernel) rfl
theorem wg_i : Cond.instanceMethod ⟨"java/lang/Object", "getClass", "()Ljava/lang/Class;"⟩ ∈ WS := ws_at 457 (by decide +kernel) rfl
theorem wg_s : Cond.selects "[Ljava/lang/Object;" ⟨"java/lang/Object", "getClass", "()Ljava/lang/Class;"⟩ ⟨"java/lang/Object", "getClass", "()Ljava/lang/Class;"⟩ ∈ WS := ws_at 928 (by decide +kernel) rfl
theorem wg_n : Cond.native ⟨"java/lang/Object", "getClass", "()Ljava/lang/Class;"⟩ ∈ WS := ws_at 469 (by decide +kernel) rfl
theorem wg_d : Cond.declares ⟨"java/lang/Object", "getClass", "()Ljava/lang/Class;"⟩ ∈ lw_tbl := List.mem_append_right _ (List.mem_of_getElem? (i := 929) (by decide +kernel))
theorem wk_c : Cond.constant "jdk/internal/util/ArraysSupport" 200 2147483639 ∈ WS := ws_at 449 (by decide +kernel) rfl
section GS
variable {E : gE} {Y : mY} {Z : gZ} {pc : Nat} {lv : List (Nat × Value)} {st : List Value} {w : wd} {ce sl : Nat}
theorem g_getsEm (hcls : Y.1.cls = "java/util/ArrayList") (hd : decode Y.2.1 pc = .ok (.getstatic 39, 3)) (k : G E Y Z (pc + 3) lv (.ref (E.2.2.2 0) :: st) w ce sl) : G E Y Z pc lv st w ce sl := by
  intro p e s m args below meth c H locs ls X hl hP hD hS
  exact va_gets X.x X.b X.Zs.1 hS X.own (by rw [hcls]; exact X.ts _ wz_f) (fun _ h => h) hd (k p e s m args below meth c H locs ls X hl hP hD hS)
theorem g_emlen (hd : decode Y.2.1 pc = .ok (.arraylength, 1)) (k : G E Y Z (pc + 1) lv (.int (nI 0) :: st) w ce sl) : G E Y Z pc lv (.ref (E.2.2.2 0) :: st) w ce sl := by
  intro p e s m args below meth c H locs ls X hl hP hD hS
  exact va_tlen X.x X.b X.Zs.2 hS rfl hd (k p e s m args below meth c H locs ls X hl hP hD hS)
theorem g_getC {a n : Nat} {f : Nat → Option Nat} (hcls : Y.1.cls = "java/util/Arrays") (hd : decode Y.2.1 pc = .ok (.invokevirtual 86, 3)) (ha : wh w a (.inl (E.2.2.1 6, n, .inr (.inr (.inr (.inr (f))))))) (hZ : 1 ≤ Z.1.frames ∧ 22 ≤ Z.1.locals) (hcat : (st.map fun v => v.category).sum ≤ 8) (k : G E Y Z (pc + 3) lv (.ref (E.2.2.2 1) :: st) w ce sl) : G E Y Z pc lv (.ref a :: st) w ce sl := by
  intro p e s m args below meth c H locs ls X hl hP hD hS
  have hz := hZ.2
  obtain ⟨q0, hq⟩ := ha.at
  refine va_getC X.x X.b (by rw [X.ml]; exact hl.1.symm) X.own (C := "[Ljava/lang/Object;") (by rw [hcls]; exact X.ts _ wg_l) (va_Nw.use rfl (X.K.2.1 _ wg_d rfl)) (X.ts _ wg_s) (X.ts _ wg_i) (X.ts _ wg_n) X.K.2.2.2 ⟨_, hP q0 _ hq, rfl, va_nmO (X.K.1.2 6 _ rfl).2 (by decide)⟩ hZ.1 (by omega) hd (k p e s m args below meth c H locs ls X hl hP hD hS)
theorem g_ldcM {index : Nat} (hlk : Cond.classLink Y.1.cls index "[Ljava/lang/Object;" ∈ WS) (hd : decode Y.2.1 pc = .ok (.ldc index, 2)) (k : G E Y Z (pc + 2) lv (.ref (E.2.2.2 1) :: st) w ce sl) : G E Y Z pc lv st w ce sl := by
  intro p e s m args below meth c H locs ls X hl hP hD hS
  exact va_ldcM X.x X.b X.own (X.ts _ hlk) X.K.2.2.2 hd (k p e s m args below meth c H locs ls X hl hP hD hS)
theorem g_ldcI {index : Nat} {v : Int32} (hlk : Cond.constant Y.1.cls index v ∈ WS) (hd : decode Y.2.1 pc = .ok (.ldc index, 2)) (k : G E Y Z (pc + 2) lv (.int v :: st) w ce sl) : G E Y Z pc lv st w ce sl := by
  intro p e s m args below meth c H locs ls X hl hP hD hS
  exact lv_ldc X.x X.b X.own (X.ts _ hlk) hd (k p e s m args below meth c H locs ls X hl hP hD hS)
theorem g_areturnA {v : Value} {t0 : FieldType} (hd : decode Y.2.1 pc = .ok (.areturn, 1)) (hr : Y.2.2.2 = some (.array t0)) (hv : v = .null ∨ ∃ a, v = .ref a) (hce : ce ≤ Z.1.cells) (hsl : sl ≤ Z.1.slots) (hq : Z.2.2.1 (some v) w) : G E Y Z pc lv [v] w ce sl := by
  intro p e s m args below meth c H locs ls X hl hP hD hS
  refine W.widen hce hsl ?_
  exact W.aret X.x X.b (X.rt.trans hr) (Or.inr ⟨t0, rfl⟩) hv (fun t ht _ => ⟨⟨_, w, rfl, hq, by rw [ht]; exact hP, hD⟩, hS.F ht⟩) hS.2.2 hd X.lk
end GS
theorem wu_wn (w : wd) (q : Nat) (e e' : va_E) : wu (wn w q e) q e' = wn w q e' := by
  refine Prod.ext rfl (funext fun j => ?_)
  show va_up (va_up w.2 q e) q e' j = va_up w.2 q e' j
  by_cases h : j = q
  · rw [h, va_up_self, va_up_self]
  · rw [va_up_ne _ _ h, va_up_ne _ _ h, va_up_ne _ _ h]

set_option maxHeartbeats 4000000 in
set_option maxRecDepth 100000 in
theorem c_U_newLength {E : gE} {w : wd} (n : Nat) (h1 : 1 ≤ n) (hn : n ≤ 1000) : Cn E y_U_newLength 2 0 0 [.int (nI n), .int (nI 1), .int (nI (n / 2))] w (fun r w' => r = some (.int (nI (n + (if 1 < n / 2 then n / 2 else 1)))) ∧ w' = w) := by
  refine Cn.of (by decide) (Nat.le_of_ble_eq_true rfl) (fun A => ?_)
  show G E y_U_newLength _ 0 [(0, .int (nI n)), (1, .int (nI 1)), (2, .int (nI (n / 2)))] [] w 0 0
  have hmx : (if nI 1 < nI (n / 2) then nI (n / 2) else nI 1) = nI (if 1 < n / 2 then n / 2 else 1) := by
    by_cases hc : 1 < n / 2
    · rw [if_pos hc, if_pos ((nI_ltI (by omega) (by omega)).mpr hc)]
    · rw [if_neg hc, if_neg (fun z => hc ((nI_ltI (by omega) (by omega)).mp z))]
  have hle : (if 1 < n / 2 then n / 2 else 1) ≤ 1000 := by
    split <;> omega
  generalize hg : (if 1 < n / 2 then n / 2 else 1) = g at hmx hle ⊢
  refine g_iload_n (j := 0) d_U_newLength_0 rfl ?_
  refine g_iload_n (j := 1) d_U_newLength_1 rfl ?_
  refine g_iload_n (j := 2) d_U_newLength_2 rfl ?_
  refine g_max d_U_newLength_3 lk_U_194 wm_maxs wm_i wm_maxc ⟨(Nat.le_of_ble_eq_true rfl), (Nat.le_of_ble_eq_true rfl)⟩ (Nat.le_of_ble_eq_true rfl) (Nat.le_of_ble_eq_true rfl) (Nat.le_of_ble_eq_true rfl) ?_
  refine g_norm hmx ?_
  refine g_iadd d_U_newLength_6 ?_
  refine g_norm (y := nI (n + g)) (nI_add n g) ?_
  refine g_istore_n (lv' := [(3, _), (0, _), (1, _), (2, _)]) d_U_newLength_7 (by decide) rfl ?_
  refine g_iconst (v := 0) d_U_newLength_8 (by decide) ?_
  refine g_iload_n (j := 0) d_U_newLength_9 rfl ?_
  refine g_icmp_ge (tgt := 21) d_U_newLength_10 (by decide) (fun h => absurd ((nI_leI (b := 0) (by omega) (by omega)).mp h) (by omega)) (fun _ => ?_)
  refine g_iload_n (j := 0) d_U_newLength_13 rfl ?_
  refine g_ldcI wk_c d_U_newLength_14 ?_
  refine g_icmp_gt (tgt := 21) d_U_newLength_16 (by decide) (fun h => absurd ((nI_ltI (a := 2147483639) (by omega) (by omega)).mp h) (by omega)) (fun _ => ?_)
  refine g_iload_n (j := 0) d_U_newLength_19 rfl ?_
  exact g_ireturn d_U_newLength_20 rfl (Nat.le_of_ble_eq_true rfl) (Nat.le_of_ble_eq_true rfl) ⟨rfl, rfl⟩

set_option maxHeartbeats 4000000 in
set_option maxRecDepth 100000 in
theorem c_V_copyOf1 {E : gE} {w : wd} {a n : Nat} (m : Nat) {g : Nat → Option Nat} (ha : wh w a (.inl (E.2.2.1 6, n, .inr (.inr (.inr (.inr (g))))))) (hn : n ≤ m) (hm : m ≤ 1000) (hel : ∀ i, i < n → ∀ q, g i = some q → ∃ fs, wh w q (.inr (8, fs))) : Cn E y_V_copyOf1 2 1 m [.ref a, .int (nI m), .ref (E.2.2.2 1)] w (fun r w' => ∃ q, q ∉ w.1 ∧ r = some (.ref q) ∧ w' = wn w q (.inl (E.2.2.1 6, m, .inr (.inr (.inr (.inr (va_cpy g (fun _ => none) 0 0 n))))))) := by
  refine Cn.of (by decide) (Nat.le_of_ble_eq_true rfl) (fun A => ?_)
  show G E y_V_copyOf1 _ 0 [(0, .ref a), (1, .int (nI m)), (2, .ref (E.2.2.2 1))] [] w 0 0
  refine g_aload_n (j := 2) d_V_copyOf1_0 rfl ?_
  refine g_ldcM cl_V_110 d_V_copyOf1_1 ?_
  refine g_acmp_ne (rx := some (E.2.2.2 1)) (ry := some (E.2.2.2 1)) (tgt := 13) d_V_copyOf1_3 (by decide) (fun h => absurd rfl h) (fun _ => ?_)
  refine g_iload_n (j := 1) d_V_copyOf1_6 rfl ?_
  refine g_newA (N := m) (t0 := 6) d_V_copyOf1_7 cl_V_2 (by decide) rfl rfl (by omega) (Nat.le_refl _) (by show 0 + m ≤ m; omega) (fun q hq => ?_)
  refine g_goto (tgt := 24) d_V_copyOf1_10 (by decide) ?_
  have ha2 := ha.nn (e := (.inl (E.2.2.1 6, m, .inr (.inr (.inr (.inr (fun _ => none))))))) hq
  have hq2 : wh (wn w q (.inl (E.2.2.1 6, m, .inr (.inr (.inr (.inr (fun _ => none))))))) q _ := wh.ns
  refine g_astore_n (lv' := [(3, _), (0, _), (1, _), (2, _)]) d_V_copyOf1_24 (by decide) rfl ?_
  refine g_aload_n (j := 1) d_V_copyOf1_25 rfl ?_
  refine g_iconst (v := 0) d_V_copyOf1_26 (by decide) ?_
  refine g_aload_n (j := 0) d_V_copyOf1_27 rfl ?_
  refine g_iconst (v := 0) d_V_copyOf1_28 (by decide) ?_
  refine g_aload_n (j := 1) d_V_copyOf1_29 rfl ?_
  refine g_alen (t0 := 6) d_V_copyOf1_30 ha2 rfl ?_
  refine g_iload_n (j := 2) d_V_copyOf1_31 rfl ?_
  refine g_min d_V_copyOf1_32 lk_V_304 wm_mins wm_i wm_minc ⟨(Nat.le_of_ble_eq_true rfl), (Nat.le_of_ble_eq_true rfl)⟩ (Nat.le_of_ble_eq_true rfl) (Nat.le_refl _) (by show 0 + m ≤ m; omega) ?_
  refine g_norm (y := nI n) (if_neg (fun z => absurd ((nI_ltI (b := n) (by omega) (by omega)).mp z) (by omega))) ?_
  refine g_copyq (t0 := 6) (t1 := 6) (sp := 0) (dp := 0) (n := n) d_V_copyOf1_35 lk_V_150 ha2 hq2 rfl rfl (ci := 8) rfl wc_cast (by decide) (by decide) rfl ⟨by omega, by omega, by omega⟩ (by omega) (by omega) ?_ ⟨(Nat.le_of_ble_eq_true rfl), (Nat.le_of_ble_eq_true rfl)⟩ (Nat.le_of_ble_eq_true rfl) ?_
  · intro i hi y hy
    rw [Nat.zero_add] at hy
    obtain ⟨fs, hw⟩ := hel i hi y hy
    exact ⟨fs, hw.nn hq⟩
  · refine g_aload_n (j := 0) d_V_copyOf1_38 rfl ?_
    exact g_areturnA d_V_copyOf1_39 rfl (Or.inr ⟨_, rfl⟩) (Nat.le_refl _) (by show 0 + m ≤ m; omega) ⟨q, hq, rfl, wu_wn _ _ _ _⟩
set_option maxHeartbeats 4000000 in
set_option maxRecDepth 100000 in
theorem c_V_copyOf0 {E : gE} {w : wd} {a n : Nat} (m : Nat) {g : Nat → Option Nat} (ha : wh w a (.inl (E.2.2.1 6, n, .inr (.inr (.inr (.inr (g))))))) (hn : n ≤ m) (hm : m ≤ 1000) (hel : ∀ i, i < n → ∀ q, g i = some q → ∃ fs, wh w q (.inr (8, fs))) : Cn E y_V_copyOf0 3 1 m [.ref a, .int (nI m)] w (fun r w' => ∃ q, q ∉ w.1 ∧ r = some (.ref q) ∧ w' = wn w q (.inl (E.2.2.1 6, m, .inr (.inr (.inr (.inr (va_cpy g (fun _ => none) 0 0 n))))))) := by
  refine Cn.of (by decide) (Nat.le_of_ble_eq_true rfl) (fun A => ?_)
  show G E y_V_copyOf0 _ 0 [(0, .ref a), (1, .int (nI m))] [] w 0 0
  refine g_aload_n (j := 0) d_V_copyOf0_0 rfl ?_
  refine g_iload_n (j := 1) d_V_copyOf0_1 rfl ?_
  refine g_aload_n (j := 0) d_V_copyOf0_2 rfl ?_
  refine g_getC rfl d_V_copyOf0_3 ha ⟨(Nat.le_of_ble_eq_true rfl), (Nat.le_of_ble_eq_true rfl)⟩ (Nat.le_of_ble_eq_true rfl) ?_
  refine g_callS (c_V_copyOf1 m ha hn hm hel) ok_V_copyOf1 lk_V_300 st_V_copyOf1 d_V_copyOf0_6 rfl rfl (Nat.le_of_ble_eq_true rfl) ⟨(Nat.le_of_ble_eq_true rfl), (Nat.le_of_ble_eq_true rfl)⟩ (Nat.le_refl _) (by show 0 + m ≤ m; omega) (fun r w' hq => ?_)
  obtain ⟨q, hq, rfl, rfl⟩ := hq
  exact g_areturnA d_V_copyOf0_9 rfl (Or.inr ⟨_, rfl⟩) (Nat.le_refl _) (by show 0 + m ≤ m; omega) ⟨q, hq, rfl, rfl⟩
