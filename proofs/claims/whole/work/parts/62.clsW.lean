theorem dU_dU (D : dC) (x : nmC) (p q : Nat × va_E) : dU (dU D x p) x q = dU D x q := by
  funext y
  by_cases h : y = x
  · subst h
    rw [dU_s, dU_s]
  · rw [dU_o _ _ h, dU_o _ _ h, dU_o _ _ h]
theorem SX.pt2 {D : dC} {w : wd} {x : nmC} {a : Nat} {e0 : va_E} (h : SX (dU D x (a, e0)) w) (e : va_E) : SX (dU D x (a, e)) (wu w a e) := by
  have h2 := h.pt (dU_s _ _ _) e
  rw [dU_dU] at h2
  exact h2
/-- a client with its first k copies -/
def ciD (E : gE) (D : dC) (c a q6 : Nat) (m : Nat → Nat) (nf : Nat) (te : Int32) (k : Nat) : dC := fun x => if x = (5, c, 0) then some (a, .inr (2, clL (nI c) te q6 (fun _ => 0))) else if x = (6, c, 0) then some (q6, .inl (E.2.2.1 4, nf, .inr (.inr (.inr (.inr (fun i => if i < k then some (m i) else none)))))) else if x.1 = 7 ∧ x.2.1 = c ∧ x.2.2 < k then some (m x.2.2, .inr (3, yL (fun _ => 0))) else D x
theorem row_s (m : Nat → Nat) (k q : Nat) : va_up (fun i => if i < k then some (m i) else none) k (some q) = fun i => if i < k + 1 then some (mU m k q i) else none := by
  funext i
  by_cases hi : i = k
  · rw [hi, va_up_self, if_pos (by omega), mU_s]
  · rw [va_up_ne _ _ hi, mU_o m q hi]
    by_cases h2 : i < k
    · rw [if_pos h2, if_pos (by omega)]
    · rw [if_neg h2, if_neg (by omega)]
theorem ciD_s (E : gE) (D : dC) (c a q6 : Nat) (m : Nat → Nat) (nf : Nat) (te : Int32) (k q : Nat) : dU (dU (ciD E D c a q6 m nf te k) (7, c, k) (q, .inr (3, yL (fun _ => 0)))) (6, c, 0) (q6, .inl (E.2.2.1 4, nf, .inr (.inr (.inr (.inr (va_up (fun i => if i < k then some (m i) else none) k (some q))))))) = ciD E D c a q6 (mU m k q) nf te (k + 1) := by
  funext x
  by_cases h2 : x = (6, c, 0)
  · subst h2
    rw [dU_s, row_s]
    unfold ciD
    rw [if_neg (fun z => by cases z), if_pos rfl]
  · rw [dU_o _ _ h2]
    by_cases h1 : x = (5, c, 0)
    · subst h1
      rw [dU_o _ _ (fun z => by cases z)]
      unfold ciD
      rw [if_pos rfl, if_pos rfl]
    · by_cases h3 : x = (7, c, k)
      · subst h3
        rw [dU_s]
        unfold ciD
        rw [if_neg h1, if_neg h2, if_pos ⟨rfl, rfl, Nat.lt_succ_self k⟩, mU_s]
      · rw [dU_o _ _ h3]
        unfold ciD
        rw [if_neg h1, if_neg h2, if_neg h1, if_neg h2]
        by_cases h4 : x.1 = 7 ∧ x.2.1 = c ∧ x.2.2 < k
        · have hne : x.2.2 ≠ k := by omega
          rw [if_pos h4, if_pos ⟨h4.1, h4.2.1, by omega⟩, mU_o m q hne]
        · have h5 : ¬ (x.1 = 7 ∧ x.2.1 = c ∧ x.2.2 < k + 1) := by
            intro z
            have : x.2.2 = k := by omega
            exact h3 (Prod.ext z.1 (Prod.ext z.2.1 this))
          rw [if_neg h4, if_neg h5]
theorem ciD_0 (E : gE) (D : dC) (c a q6 nf : Nat) (te : Int32) (m : Nat → Nat) {e1 : va_E} : dU (dU (dU D (5, c, 0) (a, e1)) (6, c, 0) (q6, .inl (E.2.2.1 4, nf, .inr (.inr (.inr (.inr (fun _ => none))))))) (5, c, 0) (a, .inr (2, clL (nI c) te q6 (fun _ => 0))) = ciD E D c a q6 m nf te 0 := by
  funext x
  unfold ciD
  by_cases h1 : x = (5, c, 0)
  · subst h1
    rw [dU_s, if_pos rfl]
  · rw [dU_o _ _ h1, if_neg h1]
    by_cases h2 : x = (6, c, 0)
    · subst h2
      rw [dU_s, if_pos rfl]
      rfl
    · rw [dU_o _ _ h2, dU_o _ _ h1, if_neg h2, if_neg (fun z => absurd z.2.2 (Nat.not_lt_zero _))]

set_option maxHeartbeats 4000000 in
set_option maxRecDepth 100000 in
theorem l_C_init {E : gE} {D : dC} {c a q6 nf : Nat} {te : Int32} (hnf : nf ≤ 4) {A : Nat → Prop} : ∀ (r k : Nat) {m : Nat → Nat} {w : wd} {ce sl : Nat}, SX (ciD E D c a q6 m nf te k) w → r + k = nf → ce + r ≤ 5 → sl + 4 * r ≤ 20 → G E y_C_init (rmD 2 5 20, A, (fun r w' => r = none ∧ ∃ (q6 : Nat) (m : Nat → Nat), SX (ciD E D c a q6 m nf te nf) w'), fun _ => True) 75 [(4, .int (nI k)), (0, .ref a), (1, .int (nI c)), (2, .int (nI nf)), (3, .int te)] [] w ce sl := by
  intro r
  induction r with
  | zero =>
    intro k m w ce sl h hk hce hsl
    have hp : ciD E D c a q6 m nf te k (5, c, 0) = some (a, .inr (2, clL (nI c) te q6 (fun _ => 0))) := if_pos rfl
    have hr9 : ciD E D c a q6 m nf te k (6, c, 0) = some (q6, .inl (E.2.2.1 4, nf, .inr (.inr (.inr (.inr (fun i => if i < k then some (m i) else none)))))) := (if_neg (fun z => by cases z)).trans (if_pos rfl)
    refine g_iload (j := 0) d_C_init_75 rfl ?_
    refine g_iload_n (j := 3) d_C_init_77 rfl ?_
    refine g_icmp_ge (tgt := 101) d_C_init_78 (by decide) (fun _ => ?_) (fun z => absurd ((nI_leI (by omega) (by omega)).mpr (by omega)) z)
    have he : k = nf := by omega
    subst he
    exact g_return d_C_init_101 rfl (by show ce ≤ 5; omega) (by show sl ≤ 20; omega) ⟨rfl, q6, m, h⟩
  | succ r ih =>
    intro k m w ce sl h hk hce hsl
    have hp : ciD E D c a q6 m nf te k (5, c, 0) = some (a, .inr (2, clL (nI c) te q6 (fun _ => 0))) := if_pos rfl
    have hr9 : ciD E D c a q6 m nf te k (6, c, 0) = some (q6, .inl (E.2.2.1 4, nf, .inr (.inr (.inr (.inr (fun i => if i < k then some (m i) else none)))))) := (if_neg (fun z => by cases z)).trans (if_pos rfl)
    refine g_iload (j := 0) d_C_init_75 rfl ?_
    refine g_iload_n (j := 3) d_C_init_77 rfl ?_
    refine g_icmp_ge (tgt := 101) d_C_init_78 (by decide) (fun z => absurd ((nI_leI (by omega) (by omega)).mp z) (by omega)) (fun _ => ?_)
    refine g_aload_n (j := 1) d_C_init_81 rfl ?_
    refine g_get d_C_init_82 f_C_51 (h.1 _ _ _ hp) rfl ?_
    refine g_iload (j := 0) d_C_init_85 rfl ?_
    refine g_new (fs := yL (fun _ => 0)) t_Y d_C_init_87 (ci := 3) rfl u_Y tk_Y cl_C_49 wi_Y ok_Y_init.2.1 (by decide) (by show ce + 1 ≤ 5; omega) (by show sl + 4 ≤ 20; omega) (fun q hq => ?_)
    refine g_dup d_C_init_90 rfl ?_
    refine g_callIN (c_Y_init wh.ns) ok_Y_init rfl rfl lk_C_55 in_Y_init d_C_init_91 rfl rfl (Nat.le_of_ble_eq_true rfl) ⟨(Nat.le_of_ble_eq_true rfl), (Nat.le_of_ble_eq_true rfl)⟩ (by show ce + 1 + 0 ≤ 5; omega) (by show sl + 4 + 0 ≤ 20; omega) (fun r' w' hq' => ?_)
    obtain ⟨rfl, rfl⟩ := hq'
    rw [wu_wn]
    refine g_aast (t0 := 4) (j := k) d_C_init_94 ((h.1 _ _ _ hr9).nn hq) rfl wh.ns rfl rfl (by omega) (by omega) ?_
    refine g_iinc (j := 0) (v := nI (k + 1)) (lv' := [(4, _), (0, _), (1, _), (2, _), (3, _)]) d_C_init_95 rfl (nI_1 k) (by decide) rfl ?_
    refine g_goto (tgt := 75) d_C_init_98 (by decide) ?_
    have h2 := (h.nw hq (7, c, k) (.inr (3, yL (fun _ => 0)))).pt (x := (6, c, 0)) (dU_o _ _ (fun z => by cases z) |>.trans hr9) (.inl (E.2.2.1 4, nf, .inr (.inr (.inr (.inr (va_up (fun i => if i < k then some (m i) else none) k (some q)))))))
    rw [ciD_s E D c a q6 m nf te k q] at h2
    exact ih (k + 1) h2 (by omega) (by show ce + 1 + r ≤ 5; omega) (by show sl + 4 + 4 * r ≤ 20; omega)

set_option maxHeartbeats 4000000 in
set_option maxRecDepth 100000 in
theorem c_C_init {E : gE} {D : dC} {w : wd} {a : Nat} (c nf : Nat) (te : Int32) (h0 : SX D w) (ha : D (5, c, 0) = some (a, .inr (2, [.int 0, .int 0, .null, .int 0, .int 0, .int 0, .int 0, .int 0, .int 0, .int 0, .int 0, .int 0, .int 0]))) (hnf : nf ≤ 4) : Cn E y_C_init 2 5 20 [.ref a, .int (nI c), .int (nI nf), .int te] w (fun r w' => r = none ∧ ∃ (q6 : Nat) (m : Nat → Nat), SX (ciD E D c a q6 m nf te nf) w') := by
  refine Cn.of (by decide) (Nat.le_of_ble_eq_true rfl) (fun A => ?_)
  show G E y_C_init _ 0 [(0, .ref a), (1, .int (nI c)), (2, .int (nI nf)), (3, .int te)] [] w 0 0
  refine g_aload_n (j := 0) d_C_init_0 rfl ?_
  refine g_objInit d_C_init_1 lk_C_3 wo_in wo_co ⟨(Nat.le_of_ble_eq_true rfl), (Nat.le_of_ble_eq_true rfl)⟩ (Nat.le_of_ble_eq_true rfl) ?_
  refine g_aload_n (j := 0) d_C_init_4 rfl ?_
  refine g_iconst (v := 0) d_C_init_5 (by decide) ?_
  refine g_put d_C_init_6 fw_C_9 (Or.inl rfl) (h0.1 _ _ _ ha) rfl rfl (Nat.le_of_ble_eq_true rfl) ?_
  have h1 := h0.pt ha (.inr (2, [.int 0, .int 0, .null, .int 0, .int 0, .int 0, .int 0, .int 0, .int 0, .int 0, .int 0, .int 0, .int 0]))
  refine g_aload_n (j := 0) d_C_init_9 rfl ?_
  refine g_iconst (v := 0) d_C_init_10 (by decide) ?_
  refine g_put d_C_init_11 fw_C_15 (Or.inl rfl) (h1.1 _ _ _ (dU_s _ _ _)) rfl rfl (Nat.le_of_ble_eq_true rfl) ?_
  have h2 := h1.pt2 (.inr (2, [.int 0, .int 0, .null, .int 0, .int 0, .int 0, .int 0, .int 0, .int 0, .int 0, .int 0, .int 0, .int 0]))
  refine g_aload_n (j := 0) d_C_init_14 rfl ?_
  refine g_iconst (v := 0) d_C_init_15 (by decide) ?_
  refine g_put d_C_init_16 fw_C_18 (Or.inl rfl) (h2.1 _ _ _ (dU_s _ _ _)) rfl rfl (Nat.le_of_ble_eq_true rfl) ?_
  have h3 := h2.pt2 (.inr (2, [.int 0, .int 0, .null, .int 0, .int 0, .int 0, .int 0, .int 0, .int 0, .int 0, .int 0, .int 0, .int 0]))
  refine g_aload_n (j := 0) d_C_init_19 rfl ?_
  refine g_iconst (v := 0) d_C_init_20 (by decide) ?_
  refine g_put d_C_init_21 fw_C_21 (Or.inl rfl) (h3.1 _ _ _ (dU_s _ _ _)) rfl rfl (Nat.le_of_ble_eq_true rfl) ?_
  have h4 := h3.pt2 (.inr (2, [.int 0, .int 0, .null, .int 0, .int 0, .int 0, .int 0, .int 0, .int 0, .int 0, .int 0, .int 0, .int 0]))
  refine g_aload_n (j := 0) d_C_init_24 rfl ?_
  refine g_iconst (v := 0) d_C_init_25 (by decide) ?_
  refine g_put d_C_init_26 fw_C_25 (Or.inl rfl) (h4.1 _ _ _ (dU_s _ _ _)) rfl rfl (Nat.le_of_ble_eq_true rfl) ?_
  have h5 := h4.pt2 (.inr (2, [.int 0, .int 0, .null, .int 0, .int 0, .int 0, .int 0, .int 0, .int 0, .int 0, .int 0, .int 0, .int 0]))
  refine g_aload_n (j := 0) d_C_init_29 rfl ?_
  refine g_iconst (v := 0) d_C_init_30 (by decide) ?_
  refine g_put d_C_init_31 fw_C_28 (Or.inl rfl) (h5.1 _ _ _ (dU_s _ _ _)) rfl rfl (Nat.le_of_ble_eq_true rfl) ?_
  have h6 := h5.pt2 (.inr (2, [.int 0, .int 0, .null, .int 0, .int 0, .int 0, .int 0, .int 0, .int 0, .int 0, .int 0, .int 0, .int 0]))
  refine g_aload_n (j := 0) d_C_init_34 rfl ?_
  refine g_iconst (v := 0) d_C_init_35 (by decide) ?_
  refine g_put d_C_init_36 fw_C_31 (Or.inl rfl) (h6.1 _ _ _ (dU_s _ _ _)) rfl rfl (Nat.le_of_ble_eq_true rfl) ?_
  have h7 := h6.pt2 (.inr (2, [.int 0, .int 0, .null, .int 0, .int 0, .int 0, .int 0, .int 0, .int 0, .int 0, .int 0, .int 0, .int 0]))
  refine g_aload_n (j := 0) d_C_init_39 rfl ?_
  refine g_iconst (v := 0) d_C_init_40 (by decide) ?_
  refine g_put d_C_init_41 fw_C_34 (Or.inl rfl) (h7.1 _ _ _ (dU_s _ _ _)) rfl rfl (Nat.le_of_ble_eq_true rfl) ?_
  have h8 := h7.pt2 (.inr (2, [.int 0, .int 0, .null, .int 0, .int 0, .int 0, .int 0, .int 0, .int 0, .int 0, .int 0, .int 0, .int 0]))
  refine g_aload_n (j := 0) d_C_init_44 rfl ?_
  refine g_iconst (v := 0) d_C_init_45 (by decide) ?_
  refine g_put d_C_init_46 fw_C_37 (Or.inl rfl) (h8.1 _ _ _ (dU_s _ _ _)) rfl rfl (Nat.le_of_ble_eq_true rfl) ?_
  have h9 := h8.pt2 (.inr (2, [.int 0, .int 0, .null, .int 0, .int 0, .int 0, .int 0, .int 0, .int 0, .int 0, .int 0, .int 0, .int 0]))
  refine g_aload_n (j := 0) d_C_init_49 rfl ?_
  refine g_iconst (v := 0) d_C_init_50 (by decide) ?_
  refine g_put d_C_init_51 fw_C_40 (Or.inl rfl) (h9.1 _ _ _ (dU_s _ _ _)) rfl rfl (Nat.le_of_ble_eq_true rfl) ?_
  have h10 := h9.pt2 (.inr (2, [.int 0, .int 0, .null, .int 0, .int 0, .int 0, .int 0, .int 0, .int 0, .int 0, .int 0, .int 0, .int 0]))
  refine g_aload_n (j := 0) d_C_init_54 rfl ?_
  refine g_iload_n (j := 1) d_C_init_55 rfl ?_
  refine g_put d_C_init_56 fw_C_43 (Or.inr rfl) (h10.1 _ _ _ (dU_s _ _ _)) rfl rfl (Nat.le_of_ble_eq_true rfl) ?_
  have h11 := h10.pt2 (.inr (2, [.int (nI c), .int 0, .null, .int 0, .int 0, .int 0, .int 0, .int 0, .int 0, .int 0, .int 0, .int 0, .int 0]))
  refine g_aload_n (j := 0) d_C_init_59 rfl ?_
  refine g_iload_n (j := 3) d_C_init_60 rfl ?_
  refine g_put d_C_init_61 fw_C_46 (Or.inr rfl) (h11.1 _ _ _ (dU_s _ _ _)) rfl rfl (Nat.le_of_ble_eq_true rfl) ?_
  have h12 := h11.pt2 (.inr (2, [.int (nI c), .int te, .null, .int 0, .int 0, .int 0, .int 0, .int 0, .int 0, .int 0, .int 0, .int 0, .int 0]))
  refine g_aload_n (j := 0) d_C_init_64 rfl ?_
  refine g_iload_n (j := 2) d_C_init_65 rfl ?_
  refine g_newA (N := nf) (t0 := 4) d_C_init_66 cl_C_49 (by decide) rfl rfl (by omega) (Nat.le_of_ble_eq_true rfl) (by show 0 + nf ≤ 20; omega) (fun q6 hq6 => ?_)
  have g1 := h12.nw hq6 (6, c, 0) (.inl (E.2.2.1 4, nf, .inr (.inr (.inr (.inr (fun _ => none))))))
  have a1 := (dU_o (dU D (5, c, 0) (a, .inr (2, [.int (nI c), .int te, .null, .int 0, .int 0, .int 0, .int 0, .int 0, .int 0, .int 0, .int 0, .int 0, .int 0]))) (x := (6, c, 0)) (y := (5, c, 0)) (q6, .inl (E.2.2.1 4, nf, .inr (.inr (.inr (.inr (fun _ => none)))))) (fun z => by cases z)).trans (dU_s _ _ _)
  refine g_put d_C_init_69 fw_C_51 (Or.inr rfl) (g1.1 _ _ _ a1) rfl rfl (Nat.le_of_ble_eq_true rfl) ?_
  have g2 := g1.pt a1 (.inr (2, clL (nI c) te q6 (fun _ => 0)))
  rw [ciD_0 E D c a q6 nf te (fun _ => 0)] at g2
  refine g_iconst (v := 0) d_C_init_72 (by decide) ?_
  refine g_istore (lv' := [(4, _), (0, _), (1, _), (2, _), (3, _)]) d_C_init_73 (by decide) rfl ?_
  exact l_C_init hnf nf 0 g2 (by omega) (by omega) (by omega)
