theorem clamp_b (x y : Int32) (hy : 1 ≤ y.toInt) : 1 ≤ (s_L_clamp x y).toInt ∧ (s_L_clamp x y).toInt ≤ y.toInt := by
  have e1 : (1 : Int32).toInt = 1 := by decide
  unfold s_L_clamp
  by_cases h1 : y < x
  · rw [if_pos h1]
    by_cases h2 : 1 < y
    · rw [if_pos h2]
      exact ⟨hy, Int.le_refl _⟩
    · rw [if_neg h2]
      omega
  · rw [if_neg h1]
    rw [Int32.lt_iff_toInt_lt] at h1
    by_cases h2 : 1 < x
    · rw [if_pos h2]
      rw [Int32.lt_iff_toInt_lt] at h2
      omega
    · rw [if_neg h2]
      omega
def kn (x : Int32) : Nat := (s_L_clamp x 4).toInt.toNat
theorem kn_e (x : Int32) : s_L_clamp x 4 = nI (kn x) ∧ 1 ≤ kn x ∧ kn x ≤ 4 := by
  have h := clamp_b x 4 (by decide)
  have e4 : (4 : Int32).toInt = 4 := by decide
  have hk : (kn x : Int) = (s_L_clamp x 4).toInt := Int.toNat_of_nonneg (by omega)
  refine ⟨toInt_inj ?_, by omega, by omega⟩
  rw [nI_toInt (by omega), hk]
def kI (x1 x2 x3 x4 : Int32) : kC := (kn x1, kn x2, s_L_clamp x3 1000, s_L_clamp x4 (s_L_clamp x3 1000))

set_option maxHeartbeats 4000000 in
set_option maxRecDepth 100000 in
theorem l_L_init {E : gE} {B : dC} {a q1 q8 q4 nc nf : Nat} {te2 : Int32} (hB : B (0, 0, 0) = some (a, .inr (1, [.ref q1, .ref q8, .ref q4, .int (nI nf)]))) (hnc : nc ≤ 4) (hnf : nf ≤ 4) {A : Nat → Prop} {Q : Option Value → wd → Prop} (kk : ∀ (m m6 : Nat → Nat) (m7 : Nat → Nat → Nat) (w' : wd), SX (clD E B q4 m m6 m7 nc nf te2 nc) w' → Q none w') : ∀ (r k : Nat) {m m6 : Nat → Nat} {m7 : Nat → Nat → Nat} {w : wd} {ce sl : Nat}, SX (clD E B q4 m m6 m7 nc nf te2 k) w → r + k = nc → ce + 6 * r ≤ 108 → sl + 33 * r ≤ 722 → G E y_L_init (rmD 6 108 722, A, Q, fun _ => True) 80 [(8, .int (nI k)), (0, .ref a), (5, .int (nI nc)), (7, .int te2)] [] w ce sl := by
  intro r
  induction r with
  | zero =>
    intro k m m6 m7 w ce sl h hk hce hsl
    have hr9 : clD E B q4 m m6 m7 nc nf te2 k (4, 0, 0) = some (q4, .inl (E.2.2.1 3, nc, .inr (.inr (.inr (.inr (fun i => if i < k then some (m i) else none)))))) := if_pos rfl
    have hp : clD E B q4 m m6 m7 nc nf te2 k (0, 0, 0) = some (a, .inr (1, [.ref q1, .ref q8, .ref q4, .int (nI nf)])) := by
      unfold clD
      rw [if_neg (fun z => by cases z), if_neg (fun z => absurd z.1 (show ¬ 0 = 5 by decide)), if_neg (fun z => absurd z.1 (show ¬ 0 = 6 by decide)), if_neg (fun z => absurd z.1 (show ¬ 0 = 7 by decide))]
      exact hB
    refine g_iload (j := 0) d_L_init_80 rfl ?_
    refine g_iload (j := 2) d_L_init_82 rfl ?_
    refine g_icmp_ge (tgt := 115) d_L_init_84 (by decide) (fun _ => ?_) (fun z => absurd ((nI_leI (by omega) (by omega)).mpr (by omega)) z)
    have he : k = nc := by omega
    subst he
    exact g_return d_L_init_115 rfl (by show ce ≤ 108; omega) (by show sl ≤ 722; omega) (kk m m6 m7 w h)
  | succ r ih =>
    intro k m m6 m7 w ce sl h hk hce hsl
    have hr9 : clD E B q4 m m6 m7 nc nf te2 k (4, 0, 0) = some (q4, .inl (E.2.2.1 3, nc, .inr (.inr (.inr (.inr (fun i => if i < k then some (m i) else none)))))) := if_pos rfl
    have hp : clD E B q4 m m6 m7 nc nf te2 k (0, 0, 0) = some (a, .inr (1, [.ref q1, .ref q8, .ref q4, .int (nI nf)])) := by
      unfold clD
      rw [if_neg (fun z => by cases z), if_neg (fun z => absurd z.1 (show ¬ 0 = 5 by decide)), if_neg (fun z => absurd z.1 (show ¬ 0 = 6 by decide)), if_neg (fun z => absurd z.1 (show ¬ 0 = 7 by decide))]
      exact hB
    refine g_iload (j := 0) d_L_init_80 rfl ?_
    refine g_iload (j := 2) d_L_init_82 rfl ?_
    refine g_icmp_ge (tgt := 115) d_L_init_84 (by decide) (fun z => absurd ((nI_leI (by omega) (by omega)).mp z) (by omega)) (fun _ => ?_)
    refine g_aload_n (j := 1) d_L_init_87 rfl ?_
    refine g_get d_L_init_88 f_L_35 (h.1 _ _ _ hp) rfl ?_
    refine g_iload (j := 0) d_L_init_91 rfl ?_
    refine g_new (fs := [.int 0, .int 0, .null, .int 0, .int 0, .int 0, .int 0, .int 0, .int 0, .int 0, .int 0, .int 0, .int 0]) t_C d_L_init_93 (ci := 2) rfl u_C tk_C cl_L_33 wi_C ok_C_init.2.1 (by decide) (by show ce + 1 ≤ 108; omega) (by show sl + 13 ≤ 722; omega) (fun q hq => ?_)
    have h1 := h.nw hq (5, k, 0) (.inr (2, [.int 0, .int 0, .null, .int 0, .int 0, .int 0, .int 0, .int 0, .int 0, .int 0, .int 0, .int 0, .int 0]))
    have hp1 : dU (clD E B q4 m m6 m7 nc nf te2 k) (5, k, 0) (q, .inr (2, [.int 0, .int 0, .null, .int 0, .int 0, .int 0, .int 0, .int 0, .int 0, .int 0, .int 0, .int 0, .int 0])) (0, 0, 0) = some (a, .inr (1, [.ref q1, .ref q8, .ref q4, .int (nI nf)])) := (dU_o _ _ (fun z => by cases z)).trans hp
    refine g_dup d_L_init_96 rfl ?_
    refine g_iload (j := 0) d_L_init_97 rfl ?_
    refine g_aload_n (j := 1) d_L_init_99 rfl ?_
    refine g_get d_L_init_100 f_L_13 (h1.1 _ _ _ hp1) rfl ?_
    refine g_iload (j := 3) d_L_init_103 rfl ?_
    refine g_callI (c_C_init k nf te2 h1 (dU_s _ _ _) hnf) ok_C_init rfl rfl lk_L_39 in_C_init d_L_init_105 rfl rfl (Nat.le_of_ble_eq_true rfl) ⟨(Nat.le_of_ble_eq_true rfl), (Nat.le_of_ble_eq_true rfl)⟩ (by show ce + 1 + 5 ≤ 108; omega) (by show sl + 13 + 20 ≤ 722; omega) (fun r' w' hq' => ?_)
    obtain ⟨rfl, q6, mm, h2⟩ := hq'
    have hr2 : ciD E (dU (clD E B q4 m m6 m7 nc nf te2 k) (5, k, 0) (q, .inr (2, [.int 0, .int 0, .null, .int 0, .int 0, .int 0, .int 0, .int 0, .int 0, .int 0, .int 0, .int 0, .int 0]))) k q q6 mm nf te2 nf (4, 0, 0) = some (q4, .inl (E.2.2.1 3, nc, .inr (.inr (.inr (.inr (fun i => if i < k then some (m i) else none)))))) := by
      unfold ciD
      rw [if_neg (fun z => by cases z), if_neg (fun z => by cases z), if_neg (fun z => absurd z.1 (show ¬ 4 = 7 by decide)), dU_o _ _ (fun z => by cases z)]
      exact hr9
    have hq2 : ciD E (dU (clD E B q4 m m6 m7 nc nf te2 k) (5, k, 0) (q, .inr (2, [.int 0, .int 0, .null, .int 0, .int 0, .int 0, .int 0, .int 0, .int 0, .int 0, .int 0, .int 0, .int 0]))) k q q6 mm nf te2 nf (5, k, 0) = some (q, .inr (2, clL (nI k) te2 q6 (fun _ => 0))) := if_pos rfl
    refine g_aast (t0 := 3) (j := k) d_L_init_108 (h2.1 _ _ _ hr2) rfl (h2.1 _ _ _ hq2) rfl rfl (by omega) (by omega) ?_
    refine g_iinc (j := 0) (v := nI (k + 1)) (lv' := [(8, _), (0, _), (5, _), (7, _)]) d_L_init_109 rfl (nI_1 k) (by decide) rfl ?_
    refine g_goto (tgt := 80) d_L_init_112 (by decide) ?_
    have h3 := h2.pt hr2 (.inl (E.2.2.1 3, nc, .inr (.inr (.inr (.inr (va_up (fun i => if i < k then some (m i) else none) k (some q)))))))
    rw [clD_s] at h3
    exact ih (k + 1) h3 (by omega) (by show ce + 1 + 5 + 6 * r ≤ 108; omega) (by show sl + 13 + 20 + 33 * r ≤ 722; omega)

set_option maxHeartbeats 4000000 in
set_option maxRecDepth 100000 in
theorem l_L_ini2 {E : gE} {w : wd} {a nc nf : Nat} {te te2 x1 x2 x3 x4 : Int32} (hc : 1 ≤ nc ∧ nc ≤ 4 ∧ 1 ≤ nf ∧ nf ≤ 4) (ha : wh w a (.inr (1, [.null, .null, .null, .int 0]))) (hx2 : s_L_clamp x2 4 = nI nf) {A : Nat → Prop} : G E y_L_init (rmD 6 108 722, A, (fun r w' => r = none ∧ ∃ L : lyC, L.1 (0, 0, 0) = a ∧ SysC E (nc, nf, te, te2) L tI w'), fun _ => True) 29 [(7, .int te2), (6, .int te), (5, .int (nI nc)), (0, .ref a), (1, .int x1), (2, .int x2), (3, .int x3), (4, .int x4)] [] w 0 0 := by
  have hnc := hc.2.1
  have hnf := hc.2.2.2
  refine g_aload_n (j := 3) d_L_init_29 rfl ?_
  refine g_iload_n (j := 5) d_L_init_30 rfl ?_
  refine g_iconst (v := 4) d_L_init_31 (by decide) ?_
  refine g_callS (c_L_clamp x2 4) ok_L_clamp lk_L_9 st_L_clamp d_L_init_32 rfl rfl (Nat.le_of_ble_eq_true rfl) ⟨(Nat.le_of_ble_eq_true rfl), (Nat.le_of_ble_eq_true rfl)⟩ (Nat.le_of_ble_eq_true rfl) (Nat.le_of_ble_eq_true rfl) (fun r w' hq => ?_)
  obtain ⟨rfl, rfl⟩ := hq
  refine g_norm (y := nI nf) hx2 ?_
  have hS0 : SX (dU (fun _ => none) (0, 0, 0) (a, .inr (1, [.null, .null, .null, .int 0]))) w' := by
    refine ⟨fun x b e hx => ?_, fun x y b e e' hx hy => ?_⟩
    · by_cases z : x = (0, 0, 0)
      · subst z
        rw [dU_s] at hx
        cases hx
        exact ha
      · rw [dU_o _ _ z] at hx
        cases hx
    · by_cases z : x = (0, 0, 0)
      · by_cases z2 : y = (0, 0, 0)
        · rw [z, z2]
        · rw [dU_o _ _ z2] at hy
          cases hy
      · rw [dU_o _ _ z] at hx
        cases hx
  refine g_put d_L_init_35 fw_L_13 (Or.inr rfl) (hS0.1 _ _ _ (dU_s _ _ _)) rfl rfl (Nat.le_of_ble_eq_true rfl) ?_
  have h1 := hS0.pt2 (.inr (1, [.null, .null, .null, .int (nI nf)]))
  generalize hD : dU (fun _ => none) (0, 0, 0) (a, Sum.inr (1, [Value.null, Value.null, Value.null, Value.int (nI nf)])) = D at h1
  have a1 : D (0, 0, 0) = some (a, .inr (1, [.null, .null, .null, .int (nI nf)])) := by rw [← hD]; exact dU_s _ _ _
  clear hD
  refine g_aload_n (j := 3) d_L_init_38 rfl ?_
  refine g_new (fs := [.null, .int 0, .null]) t_P d_L_init_39 (ci := 5) rfl u_P tk_P cl_L_17 wi_P ok_P_init.2.1 (by decide) (Nat.le_of_ble_eq_true rfl) (Nat.le_of_ble_eq_true rfl) (fun q1 hq1 => ?_)
  have h2 := h1.nw hq1 (1, 0, 0) (.inr (5, [.null, .int 0, .null]))
  refine g_dup d_L_init_42 rfl ?_
  refine g_callI (c_P_init h2 (dU_s _ _ _)) ok_P_init rfl rfl lk_L_19 in_P_init d_L_init_43 rfl rfl (Nat.le_of_ble_eq_true rfl) ⟨(Nat.le_of_ble_eq_true rfl), (Nat.le_of_ble_eq_true rfl)⟩ (Nat.le_of_ble_eq_true rfl) (Nat.le_of_ble_eq_true rfl) (fun r w2 hq => ?_)
  obtain ⟨rfl, q2, mm, h3⟩ := hq
  have a3 : plD E (dU D (1, 0, 0) (q1, .inr (5, [.null, .int 0, .null]))) q1 q2 mm 64 (0, 0, 0) = some (a, .inr (1, [.null, .null, .null, .int (nI nf)])) := by
    unfold plD
    rw [if_neg (fun z => by cases z), if_neg (fun z => by cases z), if_neg (fun z => absurd z.1 (show ¬ 0 = 3 by decide)), dU_o _ _ (fun z => by cases z)]
    exact a1
  refine g_put d_L_init_46 fw_L_20 (Or.inr rfl) (h3.1 _ _ _ a3) rfl rfl (Nat.le_of_ble_eq_true rfl) ?_
  have h4 := h3.pt a3 (.inr (1, [.ref q1, .null, .null, .int (nI nf)]))
  refine g_aload_n (j := 3) d_L_init_49 rfl ?_
  refine g_new (fs := [.int 0, .null, .null, .null, .int 0, .int 0, .int 0, .int 0]) t_S d_L_init_50 (ci := 7) rfl u_S tk_S cl_L_24 wi_S ok_S_init.2.1 (by decide) (Nat.le_of_ble_eq_true rfl) (Nat.le_of_ble_eq_true rfl) (fun q8 hq8 => ?_)
  have h5 := h4.nw hq8 (8, 0, 0) (.inr (7, [.int 0, .null, .null, .null, .int 0, .int 0, .int 0, .int 0]))
  have a5 := (dU_o (dU (plD E (dU D (1, 0, 0) (q1, .inr (5, [.null, .int 0, .null]))) q1 q2 mm 64) (0, 0, 0) (a, .inr (1, [.ref q1, .null, .null, .int (nI nf)]))) (x := (8, 0, 0)) (y := (0, 0, 0)) (q8, .inr (7, [.int 0, .null, .null, .null, .int 0, .int 0, .int 0, .int 0])) (fun z => by cases z)).trans (dU_s _ _ _)
  refine g_dup d_L_init_53 rfl ?_
  refine g_iload (j := 2) d_L_init_54 rfl ?_
  refine g_aload_n (j := 3) d_L_init_56 rfl ?_
  refine g_get d_L_init_57 f_L_13 (h5.1 _ _ _ a5) rfl ?_
  refine g_iload (j := 1) d_L_init_60 rfl ?_
  refine g_callI (c_S_init nc nf te h5 (dU_s _ _ _) hnc hnf) ok_S_init rfl rfl lk_L_26 in_S_init d_L_init_62 rfl rfl (Nat.le_of_ble_eq_true rfl) ⟨(Nat.le_of_ble_eq_true rfl), (Nat.le_of_ble_eq_true rfl)⟩ (Nat.le_of_ble_eq_true rfl) (Nat.le_of_ble_eq_true rfl) (fun r w3 hq => ?_)
  obtain ⟨rfl, q9, q12, q13, n, n1, n2, h6⟩ := hq
  generalize hB0 : dU (dU (plD E (dU D (1, 0, 0) (q1, .inr (5, [.null, .int 0, .null]))) q1 q2 mm 64) (0, 0, 0) (a, .inr (1, [.ref q1, .null, .null, .int (nI nf)]))) (8, 0, 0) (q8, .inr (7, [.int 0, .null, .null, .null, .int 0, .int 0, .int 0, .int 0])) = B0 at h6 a5
  have a6 : svD E B0 q8 q9 q12 q13 n n1 n2 nc nf te nf (0, 0, 0) = some (a, .inr (1, [.ref q1, .null, .null, .int (nI nf)])) := by
    unfold svD
    rw [if_neg (fun z => by cases z), if_neg (fun z => by cases z), if_neg (fun z => by cases z), if_neg (fun z => by cases z), if_neg (fun z => absurd z.1 (show ¬ 0 = 10 by decide)), if_neg (fun z => absurd z.1 (show ¬ 0 = 11 by decide)), if_neg (fun z => absurd z.1 (show ¬ 0 = 14 by decide))]
    exact a5
  refine g_put d_L_init_65 fw_L_29 (Or.inr rfl) (h6.1 _ _ _ a6) rfl rfl (Nat.le_of_ble_eq_true rfl) ?_
  have h7 := h6.pt a6 (.inr (1, [.ref q1, .ref q8, .null, .int (nI nf)]))
  refine g_aload_n (j := 3) d_L_init_68 rfl ?_
  refine g_iload (j := 2) d_L_init_69 rfl ?_
  refine g_newA (N := nc) (t0 := 3) d_L_init_71 cl_L_33 (by decide) rfl rfl (by omega) (Nat.le_of_ble_eq_true rfl) (by show 0 + 0 + 3 + 519 + 8 + 56 + nc ≤ 722; omega) (fun q4 hq4 => ?_)
  have h8 := h7.nw hq4 (4, 0, 0) (.inl (E.2.2.1 3, nc, .inr (.inr (.inr (.inr (fun _ => none))))))
  have a8 := (dU_o (dU (svD E B0 q8 q9 q12 q13 n n1 n2 nc nf te nf) (0, 0, 0) (a, .inr (1, [.ref q1, .ref q8, .null, .int (nI nf)]))) (x := (4, 0, 0)) (y := (0, 0, 0)) (q4, .inl (E.2.2.1 3, nc, .inr (.inr (.inr (.inr (fun _ => none)))))) (fun z => by cases z)).trans (dU_s _ _ _)
  refine g_put d_L_init_74 fw_L_35 (Or.inr rfl) (h8.1 _ _ _ a8) rfl rfl (Nat.le_of_ble_eq_true rfl) ?_
  have h9 := h8.pt a8 (.inr (1, [.ref q1, .ref q8, .ref q4, .int (nI nf)]))
  have e9 : dU (dU (dU (svD E B0 q8 q9 q12 q13 n n1 n2 nc nf te nf) (0, 0, 0) (a, .inr (1, [.ref q1, .ref q8, .null, .int (nI nf)]))) (4, 0, 0) (q4, .inl (E.2.2.1 3, nc, .inr (.inr (.inr (.inr (fun _ => none))))))) (0, 0, 0) (a, .inr (1, [.ref q1, .ref q8, .ref q4, .int (nI nf)])) = clD E (baD E D a q1 q2 mm q8 q9 q12 q13 n n1 n2 q4 nc nf te) q4 (fun _ => 0) (fun _ => 0) (fun _ _ => 0) nc nf te2 0 := by
    funext x
    unfold clD baD
    rw [hB0]
    by_cases z0 : x = (0, 0, 0)
    · subst z0
      rw [dU_s, if_neg (fun z => by cases z), if_neg (fun z => absurd z.1 (show ¬ 0 = 5 by decide)), if_neg (fun z => absurd z.1 (show ¬ 0 = 6 by decide)), if_neg (fun z => absurd z.1 (show ¬ 0 = 7 by decide)), dU_s]
    · rw [dU_o _ _ z0]
      by_cases z4 : x = (4, 0, 0)
      · subst z4
        rw [dU_s, if_pos rfl]
        rfl
      · rw [dU_o _ _ z4, dU_o _ _ z0, if_neg z4, if_neg (fun z => absurd z.2.1 (Nat.not_lt_zero _)), if_neg (fun z => absurd z.2.1 (Nat.not_lt_zero _)), if_neg (fun z => absurd z.2.1 (Nat.not_lt_zero _)), dU_o _ _ z0]
  rw [e9] at h9
  refine g_iconst (v := 0) d_L_init_77 (by decide) ?_
  refine g_istore (lv' := [(8, _), (7, _), (6, _), (5, _), (0, _), (1, _), (2, _), (3, _), (4, _)]) d_L_init_78 (by decide) rfl ?_
  refine g_lv [0, 4, 3, 1] rfl ?_
  exact l_L_init (dU_s _ _ _) hnc hnf (fun m m6 m7 w' h => ⟨rfl, SysC.ini hc h⟩) nc 0 h9 (by omega) (by show 0 + 0 + 1 + 66 + 1 + 15 + 1 + 6 * nc ≤ 108; omega) (by show 0 + 0 + 3 + 519 + 8 + 56 + nc + 33 * nc ≤ 722; omega)
set_option maxHeartbeats 4000000 in
set_option maxRecDepth 100000 in
theorem c_L_init {E : gE} {w : wd} {a : Nat} (ha : wh w a (.inr (1, [.null, .null, .null, .int 0]))) (x1 x2 x3 x4 : Int32) : Cn E y_L_init 6 108 722 [.ref a, .int x1, .int x2, .int x3, .int x4] w (fun r w' => r = none ∧ ∃ L : lyC, L.1 (0, 0, 0) = a ∧ SysC E (kI x1 x2 x3 x4) L tI w') := by
  refine Cn.of (by decide) (Nat.le_of_ble_eq_true rfl) (fun A => ?_)
  show G E y_L_init _ 0 [(0, .ref a), (1, .int x1), (2, .int x2), (3, .int x3), (4, .int x4)] [] w 0 0
  refine g_aload_n (j := 0) d_L_init_0 rfl ?_
  refine g_objInit d_L_init_1 lk_L_1 wo_in wo_co ⟨(Nat.le_of_ble_eq_true rfl), (Nat.le_of_ble_eq_true rfl)⟩ (Nat.le_of_ble_eq_true rfl) ?_
  refine g_iload_n (j := 1) d_L_init_4 rfl ?_
  refine g_iconst (v := 4) d_L_init_5 (by decide) ?_
  refine g_callS (c_L_clamp x1 4) ok_L_clamp lk_L_9 st_L_clamp d_L_init_6 rfl rfl (Nat.le_of_ble_eq_true rfl) ⟨(Nat.le_of_ble_eq_true rfl), (Nat.le_of_ble_eq_true rfl)⟩ (Nat.le_of_ble_eq_true rfl) (Nat.le_of_ble_eq_true rfl) (fun r w' hq => ?_)
  obtain ⟨rfl, rfl⟩ := hq
  refine g_norm (y := nI (kn x1)) (kn_e x1).1 ?_
  refine g_istore (lv' := [(5, _), (0, _), (1, _), (2, _), (3, _), (4, _)]) d_L_init_9 (by decide) rfl ?_
  refine g_iload_n (j := 4) d_L_init_11 rfl ?_
  refine g_sipush (v := 1000) d_L_init_12 (by decide) ?_
  refine g_callS (c_L_clamp x3 1000) ok_L_clamp lk_L_9 st_L_clamp d_L_init_15 rfl rfl (Nat.le_of_ble_eq_true rfl) ⟨(Nat.le_of_ble_eq_true rfl), (Nat.le_of_ble_eq_true rfl)⟩ (Nat.le_of_ble_eq_true rfl) (Nat.le_of_ble_eq_true rfl) (fun r w' hq => ?_)
  obtain ⟨rfl, rfl⟩ := hq
  refine g_istore (lv' := [(6, _), (5, _), (0, _), (1, _), (2, _), (3, _), (4, _)]) d_L_init_18 (by decide) rfl ?_
  refine g_iload (j := 6) d_L_init_20 rfl ?_
  refine g_iload (j := 0) d_L_init_22 rfl ?_
  refine g_callS (c_L_clamp x4 (s_L_clamp x3 1000)) ok_L_clamp lk_L_9 st_L_clamp d_L_init_24 rfl rfl (Nat.le_of_ble_eq_true rfl) ⟨(Nat.le_of_ble_eq_true rfl), (Nat.le_of_ble_eq_true rfl)⟩ (Nat.le_of_ble_eq_true rfl) (Nat.le_of_ble_eq_true rfl) (fun r w' hq => ?_)
  obtain ⟨rfl, rfl⟩ := hq
  refine g_istore (lv' := [(7, _), (6, _), (5, _), (0, _), (1, _), (2, _), (3, _), (4, _)]) d_L_init_27 (by decide) rfl ?_
  exact l_L_ini2 ⟨(kn_e x1).2.1, (kn_e x1).2.2, (kn_e x2).2.1, (kn_e x2).2.2⟩ ha (kn_e x2).1
