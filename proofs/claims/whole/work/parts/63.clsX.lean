/-- a file on the server -/
def sfD (E : gE) (D : dC) (f a q11 q14 nc : Nat) : dC := fun x => if x = (10, f, 0) then some (a, .inr (6, flL q11 q14 (fun _ => 0))) else if x = (11, f, 0) then some (q11, .inl (E.2.2.1 0, nc, .inl (fun _ => 0))) else if x = (14, f, 0) then some (q14, .inr (9, [.ref (E.2.2.2 0), .int 0, .int 0])) else D x
theorem sfD_e (E : gE) (D : dC) (f a q11 q14 nc : Nat) {e1 : va_E} : dU (dU (dU (dU D (14, f, 0) (q14, .inr (9, [.ref (E.2.2.2 0), .int 0, .int 0]))) (10, f, 0) (a, e1)) (11, f, 0) (q11, .inl (E.2.2.1 0, nc, .inl (fun _ => 0)))) (10, f, 0) (a, .inr (6, flL q11 q14 (fun _ => 0))) = sfD E D f a q11 q14 nc := by
  funext x
  unfold sfD
  by_cases h1 : x = (10, f, 0)
  · subst h1
    rw [dU_s, if_pos rfl]
  · rw [dU_o _ _ h1, if_neg h1]
    by_cases h2 : x = (11, f, 0)
    · subst h2
      rw [dU_s, if_pos rfl]
    · rw [dU_o _ _ h2, dU_o _ _ h1, if_neg h2]
      by_cases h3 : x = (14, f, 0)
      · subst h3
        rw [dU_s, if_pos rfl]
      · rw [dU_o _ _ h3, if_neg h3]

set_option maxHeartbeats 4000000 in
set_option maxRecDepth 100000 in
theorem c_F_init {E : gE} {D : dC} {w : wd} {a : Nat} (f nc : Nat) (h0 : SX D w) (ha : D (10, f, 0) = some (a, .inr (6, [.null, .null, .int 0, .int 0]))) (hnc : nc ≤ 4) : Cn E y_F_init 4 2 7 [.ref a, .int (nI nc)] w (fun r w' => r = none ∧ ∃ q11 q14 : Nat, SX (sfD E D f a q11 q14 nc) w') := by
  refine Cn.of (by decide) (Nat.le_of_ble_eq_true rfl) (fun A => ?_)
  show G E y_F_init _ 0 [(0, .ref a), (1, .int (nI nc))] [] w 0 0
  refine g_aload_n (j := 0) d_F_init_0 rfl ?_
  refine g_objInit d_F_init_1 lk_F_3 wo_in wo_co ⟨(Nat.le_of_ble_eq_true rfl), (Nat.le_of_ble_eq_true rfl)⟩ (Nat.le_of_ble_eq_true rfl) ?_
  refine g_aload_n (j := 0) d_F_init_4 rfl ?_
  refine g_new (fs := [.null, .int 0, .int 0]) t_A d_F_init_5 (ci := 9) rfl u_A tk_A cl_F_9 wi_A ok_A_init.2.1 (by decide) (Nat.le_of_ble_eq_true rfl) (Nat.le_of_ble_eq_true rfl) (fun q14 hq => ?_)
  refine g_dup d_F_init_8 rfl ?_
  refine g_callI (c_A_init wh.ns) ok_A_init rfl rfl lk_F_11 in_A_init d_F_init_9 rfl rfl (Nat.le_of_ble_eq_true rfl) ⟨(Nat.le_of_ble_eq_true rfl), (Nat.le_of_ble_eq_true rfl)⟩ (Nat.le_of_ble_eq_true rfl) (Nat.le_of_ble_eq_true rfl) (fun r' w' hq' => ?_)
  obtain ⟨rfl, rfl⟩ := hq'
  rw [wu_wn]
  have h1 := h0.nw hq (14, f, 0) (.inr (9, [.ref (E.2.2.2 0), .int 0, .int 0]))
  have a1 : dU D (14, f, 0) (q14, .inr (9, [.ref (E.2.2.2 0), .int 0, .int 0])) (10, f, 0) = some (a, .inr (6, [.null, .null, .int 0, .int 0])) := (dU_o _ _ (fun z => by cases z)).trans ha
  refine g_put d_F_init_12 fw_F_12 (Or.inr rfl) (h1.1 _ _ _ a1) rfl rfl (Nat.le_of_ble_eq_true rfl) ?_
  have h2 := h1.pt a1 (.inr (6, [.null, .ref q14, .int 0, .int 0]))
  refine g_aload_n (j := 0) d_F_init_15 rfl ?_
  refine g_iconst (v := 0) d_F_init_16 (by decide) ?_
  refine g_put d_F_init_17 fw_F_18 (Or.inl rfl) (h2.1 _ _ _ (dU_s _ _ _)) rfl rfl (Nat.le_of_ble_eq_true rfl) ?_
  have h3 := h2.pt2 (.inr (6, [.null, .ref q14, .int 0, .int 0]))
  refine g_aload_n (j := 0) d_F_init_20 rfl ?_
  refine g_iconst (v := 0) d_F_init_21 (by decide) ?_
  refine g_put d_F_init_22 fw_F_22 (Or.inl rfl) (h3.1 _ _ _ (dU_s _ _ _)) rfl rfl (Nat.le_of_ble_eq_true rfl) ?_
  have h4 := h3.pt2 (.inr (6, [.null, .ref q14, .int 0, .int 0]))
  refine g_aload_n (j := 0) d_F_init_25 rfl ?_
  refine g_iload_n (j := 1) d_F_init_26 rfl ?_
  refine g_newI (N := nc) d_F_init_27 wa_int rfl (by omega) (Nat.le_of_ble_eq_true rfl) (by show 0 + 3 + 0 + nc ≤ 7; omega) (fun q11 hq11 => ?_)
  have h5 := h4.nw hq11 (11, f, 0) (.inl (E.2.2.1 0, nc, .inl (fun _ => 0)))
  have a5 := (dU_o (dU (dU D (14, f, 0) (q14, .inr (9, [.ref (E.2.2.2 0), .int 0, .int 0]))) (10, f, 0) (a, .inr (6, [.null, .ref q14, .int 0, .int 0]))) (x := (11, f, 0)) (y := (10, f, 0)) (q11, .inl (E.2.2.1 0, nc, .inl (fun _ => 0))) (fun z => by cases z)).trans (dU_s _ _ _)
  refine g_put d_F_init_29 fw_F_25 (Or.inr rfl) (h5.1 _ _ _ a5) rfl rfl (Nat.le_of_ble_eq_true rfl) ?_
  have h6 := h5.pt a5 (.inr (6, flL q11 q14 (fun _ => 0)))
  rw [sfD_e] at h6
  exact g_return d_F_init_32 rfl (Nat.le_of_ble_eq_true rfl) (by show 0 + 3 + 0 + nc ≤ 7; omega) ⟨rfl, q11, q14, h6⟩

/-- the server with its first k files -/
def svD (E : gE) (D : dC) (a q9 q12 q13 : Nat) (m m1 m2 : Nat → Nat) (nc nf : Nat) (te : Int32) (k : Nat) : dC := fun x => if x = (8, 0, 0) then some (a, .inr (7, svL te q9 q12 q13 (fun j => if j = 1 then 1 else 0))) else if x = (9, 0, 0) then some (q9, .inl (E.2.2.1 5, nf, .inr (.inr (.inr (.inr (fun i => if i < k then some (m i) else none)))))) else if x = (12, 0, 0) then some (q12, .inl (E.2.2.1 0, nc, .inl (fun _ => 0))) else if x = (13, 0, 0) then some (q13, .inl (E.2.2.1 0, nc, .inl (fun _ => 0))) else if x.1 = 10 ∧ x.2.1 < k ∧ x.2.2 = 0 then some (m x.2.1, .inr (6, flL (m1 x.2.1) (m2 x.2.1) (fun _ => 0))) else if x.1 = 11 ∧ x.2.1 < k ∧ x.2.2 = 0 then some (m1 x.2.1, .inl (E.2.2.1 0, nc, .inl (fun _ => 0))) else if x.1 = 14 ∧ x.2.1 < k ∧ x.2.2 = 0 then some (m2 x.2.1, .inr (9, [.ref (E.2.2.2 0), .int 0, .int 0])) else D x
theorem svD_s (E : gE) (D : dC) (a q9 q12 q13 : Nat) (m m1 m2 : Nat → Nat) (nc nf : Nat) (te : Int32) (k q q11 q14 : Nat) {e1 : va_E} : dU (sfD E (dU (svD E D a q9 q12 q13 m m1 m2 nc nf te k) (10, k, 0) (q, e1)) k q q11 q14 nc) (9, 0, 0) (q9, .inl (E.2.2.1 5, nf, .inr (.inr (.inr (.inr (va_up (fun i => if i < k then some (m i) else none) k (some q))))))) = svD E D a q9 q12 q13 (mU m k q) (mU m1 k q11) (mU m2 k q14) nc nf te (k + 1) := by
  funext x
  by_cases h9 : x = (9, 0, 0)
  · subst h9
    rw [dU_s, row_s]
    rfl
  · rw [dU_o _ _ h9]
    by_cases h10 : x = (10, k, 0)
    · subst h10
      unfold sfD svD
      rw [if_pos rfl, if_neg (fun z => by cases z), if_neg (fun z => by cases z), if_neg (fun z => by cases z), if_neg (fun z => by cases z), if_pos ⟨rfl, Nat.lt_succ_self k, rfl⟩, mU_s, mU_s, mU_s]
    · by_cases h11 : x = (11, k, 0)
      · subst h11
        unfold sfD svD
        rw [if_neg h10, if_pos rfl, if_neg (fun z => by cases z), if_neg (fun z => by cases z), if_neg (fun z => by cases z), if_neg (fun z => by cases z), if_neg (fun z => absurd z.1 (show ¬ 11 = 10 by decide)), if_pos ⟨rfl, Nat.lt_succ_self k, rfl⟩, mU_s]
      · by_cases h14 : x = (14, k, 0)
        · subst h14
          unfold sfD svD
          rw [if_neg h10, if_neg h11, if_pos rfl, if_neg (fun z => by cases z), if_neg (fun z => by cases z), if_neg (fun z => by cases z), if_neg (fun z => by cases z), if_neg (fun z => absurd z.1 (show ¬ 14 = 10 by decide)), if_neg (fun z => absurd z.1 (show ¬ 14 = 11 by decide)), if_pos ⟨rfl, Nat.lt_succ_self k, rfl⟩, mU_s]
        · have hx : ∀ n : Nat, x ≠ (n, k, 0) → (x.1 = n ∧ x.2.1 < k + 1 ∧ x.2.2 = 0 ↔ x.1 = n ∧ x.2.1 < k ∧ x.2.2 = 0) := by
            intro n hn
            constructor
            · intro z
              refine ⟨z.1, ?_, z.2.2⟩
              have : x.2.1 ≠ k := fun y => hn (Prod.ext z.1 (Prod.ext y z.2.2))
              omega
            · intro z
              omega
          have e0 : sfD E (dU (svD E D a q9 q12 q13 m m1 m2 nc nf te k) (10, k, 0) (q, e1)) k q q11 q14 nc x = svD E D a q9 q12 q13 m m1 m2 nc nf te k x := by
            unfold sfD
            rw [if_neg h10, if_neg h11, if_neg h14, dU_o _ _ h10]
          rw [e0]
          unfold svD
          by_cases g8 : x = (8, 0, 0)
          · rw [if_pos g8, if_pos g8]
          · rw [if_neg g8, if_neg g8, if_neg h9, if_neg h9]
            by_cases g12 : x = (12, 0, 0)
            · rw [if_pos g12, if_pos g12]
            · rw [if_neg g12, if_neg g12]
              by_cases g13 : x = (13, 0, 0)
              · rw [if_pos g13, if_pos g13]
              · rw [if_neg g13, if_neg g13]
                by_cases g10 : x.1 = 10 ∧ x.2.1 < k ∧ x.2.2 = 0
                · have hne : x.2.1 ≠ k := by omega
                  rw [if_pos g10, if_pos ((hx 10 h10).mpr g10), mU_o m q hne, mU_o m1 q11 hne, mU_o m2 q14 hne]
                · rw [if_neg g10, if_neg (fun z => g10 ((hx 10 h10).mp z))]
                  by_cases g11 : x.1 = 11 ∧ x.2.1 < k ∧ x.2.2 = 0
                  · have hne : x.2.1 ≠ k := by omega
                    rw [if_pos g11, if_pos ((hx 11 h11).mpr g11), mU_o m1 q11 hne]
                  · rw [if_neg g11, if_neg (fun z => g11 ((hx 11 h11).mp z))]
                    by_cases g14 : x.1 = 14 ∧ x.2.1 < k ∧ x.2.2 = 0
                    · have hne : x.2.1 ≠ k := by omega
                      rw [if_pos g14, if_pos ((hx 14 h14).mpr g14), mU_o m2 q14 hne]
                    · rw [if_neg g14, if_neg (fun z => g14 ((hx 14 h14).mp z))]
theorem svD_0 (E : gE) (D : dC) (a q9 q12 q13 : Nat) (m m1 m2 : Nat → Nat) (nc nf : Nat) (te : Int32) {e1 e2 e3 : va_E} : dU (dU (dU (dU (dU (dU (dU D (8, 0, 0) (a, e1)) (12, 0, 0) (q12, .inl (E.2.2.1 0, nc, .inl (fun _ => 0)))) (8, 0, 0) (a, e2)) (13, 0, 0) (q13, .inl (E.2.2.1 0, nc, .inl (fun _ => 0)))) (8, 0, 0) (a, e3)) (9, 0, 0) (q9, .inl (E.2.2.1 5, nf, .inr (.inr (.inr (.inr (fun _ => none))))))) (8, 0, 0) (a, .inr (7, svL te q9 q12 q13 (fun j => if j = 1 then 1 else 0))) = svD E D a q9 q12 q13 m m1 m2 nc nf te 0 := by
  funext x
  unfold svD
  by_cases g8 : x = (8, 0, 0)
  · subst g8
    rw [dU_s, if_pos rfl]
  · rw [dU_o _ _ g8, if_neg g8]
    by_cases g9 : x = (9, 0, 0)
    · subst g9
      rw [dU_s, if_pos rfl]
      rfl
    · rw [dU_o _ _ g9, dU_o _ _ g8, if_neg g9]
      by_cases g13 : x = (13, 0, 0)
      · subst g13
        rw [dU_s, if_neg (fun z => by cases z), if_pos rfl]
      · rw [dU_o _ _ g13, dU_o _ _ g8]
        by_cases g12 : x = (12, 0, 0)
        · subst g12
          rw [dU_s, if_pos rfl]
        · rw [dU_o _ _ g12, dU_o _ _ g8, if_neg g12, if_neg g13, if_neg (fun z => absurd z.2.1 (Nat.not_lt_zero _)), if_neg (fun z => absurd z.2.1 (Nat.not_lt_zero _)), if_neg (fun z => absurd z.2.1 (Nat.not_lt_zero _))]

set_option maxHeartbeats 4000000 in
set_option maxRecDepth 100000 in
theorem l_S_init {E : gE} {D : dC} {a q9 q12 q13 nc nf : Nat} {te : Int32} (hnc : nc ≤ 4) (hnf : nf ≤ 4) {A : Nat → Prop} : ∀ (r k : Nat) {m m1 m2 : Nat → Nat} {w : wd} {ce sl : Nat}, SX (svD E D a q9 q12 q13 m m1 m2 nc nf te k) w → r + k = nf → ce + 3 * r ≤ 15 → sl + 11 * r ≤ 56 → G E y_S_init (rmD 5 15 56, A, (fun r w' => r = none ∧ ∃ (q9 q12 q13 : Nat) (m m1 m2 : Nat → Nat), SX (svD E D a q9 q12 q13 m m1 m2 nc nf te nf) w'), fun _ => True) 54 [(4, .int (nI k)), (0, .ref a), (1, .int (nI nc)), (2, .int (nI nf)), (3, .int te)] [] w ce sl := by
  intro r
  induction r with
  | zero =>
    intro k m m1 m2 w ce sl h hk hce hsl
    have hp : svD E D a q9 q12 q13 m m1 m2 nc nf te k (8, 0, 0) = some (a, .inr (7, svL te q9 q12 q13 (fun j => if j = 1 then 1 else 0))) := if_pos rfl
    have hr9 : svD E D a q9 q12 q13 m m1 m2 nc nf te k (9, 0, 0) = some (q9, .inl (E.2.2.1 5, nf, .inr (.inr (.inr (.inr (fun i => if i < k then some (m i) else none)))))) := (if_neg (fun z => by cases z)).trans (if_pos rfl)
    refine g_iload (j := 0) d_S_init_54 rfl ?_
    refine g_iload_n (j := 3) d_S_init_56 rfl ?_
    refine g_icmp_ge (tgt := 81) d_S_init_57 (by decide) (fun _ => ?_) (fun z => absurd ((nI_leI (by omega) (by omega)).mpr (by omega)) z)
    have he : k = nf := by omega
    subst he
    exact g_return d_S_init_81 rfl (by show ce ≤ 15; omega) (by show sl ≤ 56; omega) ⟨rfl, q9, q12, q13, m, m1, m2, h⟩
  | succ r ih =>
    intro k m m1 m2 w ce sl h hk hce hsl
    have hp : svD E D a q9 q12 q13 m m1 m2 nc nf te k (8, 0, 0) = some (a, .inr (7, svL te q9 q12 q13 (fun j => if j = 1 then 1 else 0))) := if_pos rfl
    have hr9 : svD E D a q9 q12 q13 m m1 m2 nc nf te k (9, 0, 0) = some (q9, .inl (E.2.2.1 5, nf, .inr (.inr (.inr (.inr (fun i => if i < k then some (m i) else none)))))) := (if_neg (fun z => by cases z)).trans (if_pos rfl)
    refine g_iload (j := 0) d_S_init_54 rfl ?_
    refine g_iload_n (j := 3) d_S_init_56 rfl ?_
    refine g_icmp_ge (tgt := 81) d_S_init_57 (by decide) (fun z => absurd ((nI_leI (by omega) (by omega)).mp z) (by omega)) (fun _ => ?_)
    refine g_aload_n (j := 1) d_S_init_60 rfl ?_
    refine g_get d_S_init_61 f_S_37 (h.1 _ _ _ hp) rfl ?_
    refine g_iload (j := 0) d_S_init_64 rfl ?_
    refine g_new (fs := [.null, .null, .int 0, .int 0]) t_F d_S_init_66 (ci := 6) rfl u_F tk_F cl_S_35 wi_F ok_F_init.2.1 (by decide) (by show ce + 1 ≤ 15; omega) (by show sl + 4 ≤ 56; omega) (fun q hq => ?_)
    have h1 := h.nw hq (10, k, 0) (.inr (6, [.null, .null, .int 0, .int 0]))
    refine g_dup d_S_init_69 rfl ?_
    refine g_iload_n (j := 2) d_S_init_70 rfl ?_
    refine g_callI (c_F_init k nc h1 (dU_s _ _ _) hnc) ok_F_init rfl rfl lk_S_41 in_F_init d_S_init_71 rfl rfl (Nat.le_of_ble_eq_true rfl) ⟨(Nat.le_of_ble_eq_true rfl), (Nat.le_of_ble_eq_true rfl)⟩ (by show ce + 1 + 2 ≤ 15; omega) (by show sl + 4 + 7 ≤ 56; omega) (fun r' w' hq' => ?_)
    obtain ⟨rfl, q11, q14, h2⟩ := hq'
    have hr2 : sfD E (dU (svD E D a q9 q12 q13 m m1 m2 nc nf te k) (10, k, 0) (q, .inr (6, [.null, .null, .int 0, .int 0]))) k q q11 q14 nc (9, 0, 0) = some (q9, .inl (E.2.2.1 5, nf, .inr (.inr (.inr (.inr (fun i => if i < k then some (m i) else none)))))) := by
      unfold sfD
      rw [if_neg (fun z => by cases z), if_neg (fun z => by cases z), if_neg (fun z => by cases z), dU_o _ _ (fun z => by cases z)]
      exact hr9
    have hq2 : sfD E (dU (svD E D a q9 q12 q13 m m1 m2 nc nf te k) (10, k, 0) (q, .inr (6, [.null, .null, .int 0, .int 0]))) k q q11 q14 nc (10, k, 0) = some (q, .inr (6, flL q11 q14 (fun _ => 0))) := if_pos rfl
    refine g_aast (t0 := 5) (j := k) d_S_init_74 (h2.1 _ _ _ hr2) rfl (h2.1 _ _ _ hq2) rfl rfl (by omega) (by omega) ?_
    refine g_iinc (j := 0) (v := nI (k + 1)) (lv' := [(4, _), (0, _), (1, _), (2, _), (3, _)]) d_S_init_75 rfl (nI_1 k) (by decide) rfl ?_
    refine g_goto (tgt := 54) d_S_init_78 (by decide) ?_
    have h3 := h2.pt hr2 (.inl (E.2.2.1 5, nf, .inr (.inr (.inr (.inr (va_up (fun i => if i < k then some (m i) else none) k (some q)))))))
    rw [svD_s] at h3
    exact ih (k + 1) h3 (by omega) (by show ce + 1 + 2 + 3 * r ≤ 15; omega) (by show sl + 4 + 7 + 11 * r ≤ 56; omega)

set_option maxHeartbeats 4000000 in
set_option maxRecDepth 100000 in
theorem c_S_init {E : gE} {D : dC} {w : wd} {a : Nat} (nc nf : Nat) (te : Int32) (h0 : SX D w) (ha : D (8, 0, 0) = some (a, .inr (7, [.int 0, .null, .null, .null, .int 0, .int 0, .int 0, .int 0]))) (hnc : nc ≤ 4) (hnf : nf ≤ 4) : Cn E y_S_init 5 15 56 [.ref a, .int (nI nc), .int (nI nf), .int te] w (fun r w' => r = none ∧ ∃ (q9 q12 q13 : Nat) (m m1 m2 : Nat → Nat), SX (svD E D a q9 q12 q13 m m1 m2 nc nf te nf) w') := by
  refine Cn.of (by decide) (Nat.le_of_ble_eq_true rfl) (fun A => ?_)
  show G E y_S_init _ 0 [(0, .ref a), (1, .int (nI nc)), (2, .int (nI nf)), (3, .int te)] [] w 0 0
  refine g_aload_n (j := 0) d_S_init_0 rfl ?_
  refine g_objInit d_S_init_1 lk_S_3 wo_in wo_co ⟨(Nat.le_of_ble_eq_true rfl), (Nat.le_of_ble_eq_true rfl)⟩ (Nat.le_of_ble_eq_true rfl) ?_
  refine g_aload_n (j := 0) d_S_init_4 rfl ?_
  refine g_iconst (v := 0) d_S_init_5 (by decide) ?_
  refine g_put d_S_init_6 fw_S_9 (Or.inl rfl) (h0.1 _ _ _ ha) rfl rfl (Nat.le_of_ble_eq_true rfl) ?_
  have h1 := h0.pt ha (.inr (7, [.int 0, .null, .null, .null, .int 0, .int 0, .int 0, .int 0]))
  refine g_aload_n (j := 0) d_S_init_9 rfl ?_
  refine g_iconst (v := 1) d_S_init_10 (by decide) ?_
  refine g_put d_S_init_11 fw_S_15 (Or.inl rfl) (h1.1 _ _ _ (dU_s _ _ _)) rfl rfl (Nat.le_of_ble_eq_true rfl) ?_
  have h2 := h1.pt2 (.inr (7, [.int 0, .null, .null, .null, .int 0, .int 1, .int 0, .int 0]))
  refine g_aload_n (j := 0) d_S_init_14 rfl ?_
  refine g_iconst (v := 0) d_S_init_15 (by decide) ?_
  refine g_put d_S_init_16 fw_S_19 (Or.inl rfl) (h2.1 _ _ _ (dU_s _ _ _)) rfl rfl (Nat.le_of_ble_eq_true rfl) ?_
  have h3 := h2.pt2 (.inr (7, [.int 0, .null, .null, .null, .int 0, .int 1, .int 0, .int 0]))
  refine g_aload_n (j := 0) d_S_init_19 rfl ?_
  refine g_iconst (v := 0) d_S_init_20 (by decide) ?_
  refine g_put d_S_init_21 fw_S_22 (Or.inl rfl) (h3.1 _ _ _ (dU_s _ _ _)) rfl rfl (Nat.le_of_ble_eq_true rfl) ?_
  have h4 := h3.pt2 (.inr (7, [.int 0, .null, .null, .null, .int 0, .int 1, .int 0, .int 0]))
  refine g_aload_n (j := 0) d_S_init_24 rfl ?_
  refine g_iload_n (j := 3) d_S_init_25 rfl ?_
  refine g_put d_S_init_26 fw_S_25 (Or.inr rfl) (h4.1 _ _ _ (dU_s _ _ _)) rfl rfl (Nat.le_of_ble_eq_true rfl) ?_
  have h5 := h4.pt2 (.inr (7, [.int te, .null, .null, .null, .int 0, .int 1, .int 0, .int 0]))
  refine g_aload_n (j := 0) d_S_init_29 rfl ?_
  refine g_iload_n (j := 1) d_S_init_30 rfl ?_
  refine g_newI (N := nc) d_S_init_31 wa_int rfl (by omega) (Nat.le_of_ble_eq_true rfl) (by show 0 + nc ≤ 56; omega) (fun q12 hq12 => ?_)
  have g1 := h5.nw hq12 (12, 0, 0) (.inl (E.2.2.1 0, nc, .inl (fun _ => 0)))
  have a1 : dU (dU D (8, 0, 0) (a, .inr (7, [.int te, .null, .null, .null, .int 0, .int 1, .int 0, .int 0]))) (12, 0, 0) (q12, .inl (E.2.2.1 0, nc, .inl (fun _ => 0))) (8, 0, 0) = some (a, .inr (7, [.int te, .null, .null, .null, .int 0, .int 1, .int 0, .int 0])) := (dU_o _ _ (fun z => by cases z)).trans (dU_s _ _ _)
  refine g_put d_S_init_33 fw_S_28 (Or.inr rfl) (g1.1 _ _ _ a1) rfl rfl (Nat.le_of_ble_eq_true rfl) ?_
  have g2 := g1.pt a1 (.inr (7, [.int te, .null, .ref q12, .null, .int 0, .int 1, .int 0, .int 0]))
  refine g_aload_n (j := 0) d_S_init_36 rfl ?_
  refine g_iload_n (j := 1) d_S_init_37 rfl ?_
  refine g_newI (N := nc) d_S_init_38 wa_int rfl (by omega) (Nat.le_of_ble_eq_true rfl) (by show 0 + nc + nc ≤ 56; omega) (fun q13 hq13 => ?_)
  have g3 := g2.nw hq13 (13, 0, 0) (.inl (E.2.2.1 0, nc, .inl (fun _ => 0)))
  have a3 := (dU_o (dU (dU (dU D (8, 0, 0) (a, .inr (7, [.int te, .null, .null, .null, .int 0, .int 1, .int 0, .int 0]))) (12, 0, 0) (q12, .inl (E.2.2.1 0, nc, .inl (fun _ => 0)))) (8, 0, 0) (a, .inr (7, [.int te, .null, .ref q12, .null, .int 0, .int 1, .int 0, .int 0]))) (x := (13, 0, 0)) (y := (8, 0, 0)) (q13, .inl (E.2.2.1 0, nc, .inl (fun _ => 0))) (fun z => by cases z)).trans (dU_s _ _ _)
  refine g_put d_S_init_40 fw_S_32 (Or.inr rfl) (g3.1 _ _ _ a3) rfl rfl (Nat.le_of_ble_eq_true rfl) ?_
  have g4 := g3.pt a3 (.inr (7, [.int te, .null, .ref q12, .ref q13, .int 0, .int 1, .int 0, .int 0]))
  refine g_aload_n (j := 0) d_S_init_43 rfl ?_
  refine g_iload_n (j := 2) d_S_init_44 rfl ?_
  refine g_newA (N := nf) (t0 := 5) d_S_init_45 cl_S_35 (by decide) rfl rfl (by omega) (Nat.le_of_ble_eq_true rfl) (by show 0 + nc + nc + nf ≤ 56; omega) (fun q9 hq9 => ?_)
  have g5 := g4.nw hq9 (9, 0, 0) (.inl (E.2.2.1 5, nf, .inr (.inr (.inr (.inr (fun _ => none))))))
  have a5 := (dU_o (dU (dU (dU (dU (dU D (8, 0, 0) (a, .inr (7, [.int te, .null, .null, .null, .int 0, .int 1, .int 0, .int 0]))) (12, 0, 0) (q12, .inl (E.2.2.1 0, nc, .inl (fun _ => 0)))) (8, 0, 0) (a, .inr (7, [.int te, .null, .ref q12, .null, .int 0, .int 1, .int 0, .int 0]))) (13, 0, 0) (q13, .inl (E.2.2.1 0, nc, .inl (fun _ => 0)))) (8, 0, 0) (a, .inr (7, [.int te, .null, .ref q12, .ref q13, .int 0, .int 1, .int 0, .int 0]))) (x := (9, 0, 0)) (y := (8, 0, 0)) (q9, .inl (E.2.2.1 5, nf, .inr (.inr (.inr (.inr (fun _ => none)))))) (fun z => by cases z)).trans (dU_s _ _ _)
  refine g_put d_S_init_48 fw_S_37 (Or.inr rfl) (g5.1 _ _ _ a5) rfl rfl (Nat.le_of_ble_eq_true rfl) ?_
  have g6 := g5.pt a5 (.inr (7, svL te q9 q12 q13 (fun j => if j = 1 then 1 else 0)))
  rw [svD_0 E D a q9 q12 q13 (fun _ => 0) (fun _ => 0) (fun _ => 0) nc nf te] at g6
  refine g_iconst (v := 0) d_S_init_51 (by decide) ?_
  refine g_istore (lv' := [(4, _), (0, _), (1, _), (2, _), (3, _)]) d_S_init_52 (by decide) rfl ?_
  exact l_S_init hnc hnf nf 0 g6 (by omega) (by omega) (by omega)
