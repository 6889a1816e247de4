def mU (m : Nat → Nat) (k q : Nat) : Nat → Nat := fun i => if i = k then q else m i
theorem mU_s (m : Nat → Nat) (k q : Nat) : mU m k q k = q := if_pos rfl
theorem mU_o (m : Nat → Nat) {k i : Nat} (q : Nat) (h : i ≠ k) : mU m k q i = m i := if_neg h
/-- the pool with its first k messages -/
def plD (E : gE) (D : dC) (a q2 : Nat) (m : Nat → Nat) (k : Nat) : dC := fun x => if x = (1, 0, 0) then some (a, .inr (5, [.ref q2, .int 0, .ref (m 64)])) else if x = (2, 0, 0) then some (q2, .inl (E.2.2.1 2, 64, .inr (.inr (.inr (.inr (fun i => if i < k then some (m i) else none)))))) else if x.1 = 3 ∧ x.2.2 = 0 ∧ (x.2.1 < k ∨ x.2.1 = 64) then some (m x.2.1, .inr (4, mL (fun _ => 0))) else D x
theorem plD_s (E : gE) (D : dC) (a q2 : Nat) (m : Nat → Nat) {k : Nat} (hk : k < 64) (q : Nat) : dU (dU (plD E D a q2 m k) (3, k, 0) (q, .inr (4, mL (fun _ => 0)))) (2, 0, 0) (q2, .inl (E.2.2.1 2, 64, .inr (.inr (.inr (.inr (va_up (fun i => if i < k then some (m i) else none) k (some q))))))) = plD E D a q2 (mU m k q) (k + 1) := by
  funext x
  have e64 : mU m k q 64 = m 64 := mU_o m q (by omega)
  have er : va_up (fun i => if i < k then some (m i) else none) k (some q) = fun i => if i < k + 1 then some (mU m k q i) else none := by
    funext i
    by_cases hi : i = k
    · rw [hi, va_up_self, if_pos (by omega), mU_s]
    · rw [va_up_ne _ _ hi, mU_o m q hi]
      by_cases h2 : i < k
      · rw [if_pos h2, if_pos (by omega)]
      · rw [if_neg h2, if_neg (by omega)]
  by_cases h2 : x = (2, 0, 0)
  · subst h2
    rw [dU_s, er]
    rfl
  · rw [dU_o _ _ h2]
    by_cases h1 : x = (1, 0, 0)
    · subst h1
      rw [dU_o _ _ (fun z => by cases z)]
      show some (a, _) = some (a, _)
      rw [e64]
    · by_cases h3 : x = (3, k, 0)
      · subst h3
        rw [dU_s]
        unfold plD
        rw [if_neg h1, if_neg h2, if_pos ⟨rfl, rfl, Or.inl (Nat.lt_succ_self k)⟩, mU_s]
      · rw [dU_o _ _ h3]
        unfold plD
        rw [if_neg h1, if_neg h2, if_neg h1, if_neg h2]
        by_cases h4 : x.1 = 3 ∧ x.2.2 = 0 ∧ (x.2.1 < k ∨ x.2.1 = 64)
        · have hne : x.2.1 ≠ k := by omega
          rw [if_pos h4, if_pos ⟨h4.1, h4.2.1, by omega⟩, mU_o m q hne]
        · have h5 : ¬ (x.1 = 3 ∧ x.2.2 = 0 ∧ (x.2.1 < k + 1 ∨ x.2.1 = 64)) := by
            intro z
            have : x.2.1 = k := by omega
            exact h3 (Prod.ext z.1 (Prod.ext this z.2.1))
          rw [if_neg h4, if_neg h5]
theorem plD_0 (E : gE) (D : dC) (a q2 q : Nat) {e1 e2 : va_E} : dU (dU (dU (dU (dU D (2, 0, 0) (q2, .inl (E.2.2.1 2, 64, .inr (.inr (.inr (.inr (fun _ => none))))))) (1, 0, 0) (a, e1)) (1, 0, 0) (a, e2)) (3, 64, 0) (q, .inr (4, mL (fun _ => 0)))) (1, 0, 0) (a, .inr (5, [.ref q2, .int 0, .ref q])) = plD E D a q2 (fun _ => q) 0 := by
  funext x
  unfold plD
  by_cases h1 : x = (1, 0, 0)
  · subst h1
    rw [dU_s, if_pos rfl]
  · rw [dU_o _ _ h1, if_neg h1]
    by_cases h3 : x = (3, 64, 0)
    · subst h3
      rw [dU_s, if_neg (fun z => by cases z), if_pos ⟨rfl, rfl, Or.inr rfl⟩]
    · rw [dU_o _ _ h3, dU_o _ _ h1, dU_o _ _ h1]
      by_cases h2 : x = (2, 0, 0)
      · subst h2
        rw [dU_s, if_pos rfl]
        rfl
      · rw [dU_o _ _ h2, if_neg h2, if_neg]
        intro z
        have : x.2.1 = 64 := by omega
        exact h3 (Prod.ext z.1 (Prod.ext this z.2.1))

set_option maxHeartbeats 4000000 in
set_option maxRecDepth 100000 in
theorem l_P_init {E : gE} {D : dC} {a q2 : Nat} {A : Nat → Prop} : ∀ (r k : Nat) {m : Nat → Nat} {w : wd} {ce sl : Nat}, SX (plD E D a q2 m k) w → r + k = 64 → ce + r = 66 → sl + 7 * r = 519 → G E y_P_init (rmD 2 66 519, A, (fun r w' => r = none ∧ ∃ (q2 : Nat) (m : Nat → Nat), SX (plD E D a q2 m 64) w'), fun _ => True) 31 [(1, .int (nI k)), (0, .ref a)] [] w ce sl := by
  intro r
  induction r with
  | zero =>
    intro k m w ce sl h hk hce hsl
    have hp : plD E D a q2 m k (1, 0, 0) = some (a, .inr (5, [.ref q2, .int 0, .ref (m 64)])) := if_pos rfl
    have hr9 : plD E D a q2 m k (2, 0, 0) = some (q2, .inl (E.2.2.1 2, 64, .inr (.inr (.inr (.inr (fun i => if i < k then some (m i) else none)))))) := (if_neg (fun z => by cases z)).trans (if_pos rfl)
    refine g_iload_n (j := 0) d_P_init_31 rfl ?_
    refine g_bipush (v := 64) d_P_init_32 (by decide) ?_
    refine g_icmp_ge (tgt := 56) d_P_init_34 (by decide) (fun _ => ?_) (fun z => absurd ((nI_leI (a := 64) (by omega) (by omega)).mpr (by omega)) z)
    have he : k = 64 := by omega
    subst he
    exact g_return d_P_init_56 rfl (by show ce ≤ 66; omega) (by show sl ≤ 519; omega) ⟨rfl, q2, m, h⟩
  | succ r ih =>
    intro k m w ce sl h hk hce hsl
    have hp : plD E D a q2 m k (1, 0, 0) = some (a, .inr (5, [.ref q2, .int 0, .ref (m 64)])) := if_pos rfl
    have hr9 : plD E D a q2 m k (2, 0, 0) = some (q2, .inl (E.2.2.1 2, 64, .inr (.inr (.inr (.inr (fun i => if i < k then some (m i) else none)))))) := (if_neg (fun z => by cases z)).trans (if_pos rfl)
    refine g_iload_n (j := 0) d_P_init_31 rfl ?_
    refine g_bipush (v := 64) d_P_init_32 (by decide) ?_
    refine g_icmp_ge (tgt := 56) d_P_init_34 (by decide) (fun z => absurd ((nI_leI (a := 64) (by omega) (by omega)).mp z) (by omega)) (fun _ => ?_)
    refine g_aload_n (j := 1) d_P_init_37 rfl ?_
    refine g_get d_P_init_38 f_P_11 (h.1 _ _ _ hp) rfl ?_
    refine g_iload_n (j := 0) d_P_init_41 rfl ?_
    refine g_new (fs := mL (fun _ => 0)) t_M d_P_init_42 (ci := 4) rfl u_M tk_M cl_P_9 wi_M ok_M_init.2.1 (by decide) (by show ce + 1 ≤ 66; omega) (by show sl + 7 ≤ 519; omega) (fun q hq => ?_)
    refine g_dup d_P_init_45 rfl ?_
    refine g_callIN c_M_init ok_M_init rfl rfl lk_P_21 in_M_init d_P_init_46 rfl rfl (Nat.le_of_ble_eq_true rfl) ⟨(Nat.le_of_ble_eq_true rfl), (Nat.le_of_ble_eq_true rfl)⟩ (by show ce + 1 + 0 ≤ 66; omega) (by show sl + 7 + 0 ≤ 519; omega) (fun r' w' hq' => ?_)
    obtain ⟨rfl, rfl⟩ := hq'
    refine g_aast (t0 := 2) (j := k) d_P_init_49 ((h.1 _ _ _ hr9).nn hq) rfl wh.ns rfl rfl (by omega) (by decide) ?_
    refine g_iinc (j := 0) (v := nI (k + 1)) (lv' := [(1, _), (0, _)]) d_P_init_50 rfl (nI_1 k) (by decide) rfl ?_
    refine g_goto (tgt := 31) d_P_init_53 (by decide) ?_
    have h2 := (h.nw hq (3, k, 0) (.inr (4, mL (fun _ => 0)))).pt (x := (2, 0, 0)) (dU_o _ _ (fun z => by cases z) |>.trans hr9) (.inl (E.2.2.1 2, 64, .inr (.inr (.inr (.inr (va_up (fun i => if i < k then some (m i) else none) k (some q)))))))
    rw [plD_s E D a q2 m (by omega) q] at h2
    exact ih (k + 1) h2 (by omega) (by omega) (by omega)
set_option maxHeartbeats 4000000 in
set_option maxRecDepth 100000 in
theorem c_P_init {E : gE} {D : dC} {w : wd} {a : Nat} (h : SX D w) (ha : D (1, 0, 0) = some (a, .inr (5, [.null, .int 0, .null]))) : Cn E y_P_init 2 66 519 [.ref a] w (fun r w' => r = none ∧ ∃ (q2 : Nat) (m : Nat → Nat), SX (plD E D a q2 m 64) w') := by
  refine Cn.of (by decide) (Nat.le_of_ble_eq_true rfl) (fun A => ?_)
  show G E y_P_init _ 0 [(0, .ref a)] [] w 0 0
  refine g_aload_n (j := 0) d_P_init_0 rfl ?_
  refine g_objInit d_P_init_1 lk_P_3 wo_in wo_co ⟨(Nat.le_of_ble_eq_true rfl), (Nat.le_of_ble_eq_true rfl)⟩ (Nat.le_of_ble_eq_true rfl) ?_
  refine g_aload_n (j := 0) d_P_init_4 rfl ?_
  refine g_bipush (v := 64) d_P_init_5 (by decide) ?_
  refine g_newA (N := 64) (t0 := 2) d_P_init_7 cl_P_9 (by decide) rfl rfl (by decide) (Nat.le_of_ble_eq_true rfl) (Nat.le_of_ble_eq_true rfl) (fun q2 hq2 => ?_)
  have h1 := h.nw hq2 (2, 0, 0) (.inl (E.2.2.1 2, 64, .inr (.inr (.inr (.inr (fun _ => none))))))
  have a1 : dU D (2, 0, 0) (q2, .inl (E.2.2.1 2, 64, .inr (.inr (.inr (.inr (fun _ => none)))))) (1, 0, 0) = some (a, .inr (5, [.null, .int 0, .null])) := (dU_o _ _ (fun z => by cases z)).trans ha
  refine g_put d_P_init_10 fw_P_11 (Or.inr rfl) (h1.1 _ _ _ a1) rfl rfl (Nat.le_of_ble_eq_true rfl) ?_
  have h2 := h1.pt a1 (.inr (5, [.ref q2, .int 0, .null]))
  refine g_aload_n (j := 0) d_P_init_13 rfl ?_
  refine g_iconst (v := 0) d_P_init_14 (by decide) ?_
  refine g_put d_P_init_15 fw_P_17 (Or.inl rfl) (h2.1 _ _ _ (dU_s _ _ _)) rfl rfl (Nat.le_of_ble_eq_true rfl) ?_
  have h3 := h2.pt (dU_s _ _ _) (.inr (5, [.ref q2, .int 0, .null]))
  refine g_aload_n (j := 0) d_P_init_18 rfl ?_
  refine g_new (fs := mL (fun _ => 0)) t_M d_P_init_19 (ci := 4) rfl u_M tk_M cl_P_9 wi_M ok_M_init.2.1 (by decide) (Nat.le_of_ble_eq_true rfl) (Nat.le_of_ble_eq_true rfl) (fun q hq => ?_)
  have h4 := h3.nw hq (3, 64, 0) (.inr (4, mL (fun _ => 0)))
  refine g_dup d_P_init_22 rfl ?_
  refine g_callIN c_M_init ok_M_init rfl rfl lk_P_21 in_M_init d_P_init_23 rfl rfl (Nat.le_of_ble_eq_true rfl) ⟨(Nat.le_of_ble_eq_true rfl), (Nat.le_of_ble_eq_true rfl)⟩ (Nat.le_of_ble_eq_true rfl) (Nat.le_of_ble_eq_true rfl) (fun r' w' hq' => ?_)
  obtain ⟨rfl, rfl⟩ := hq'
  have a4 := (dU_o (dU (dU (dU D (2, 0, 0) (q2, .inl (E.2.2.1 2, 64, .inr (.inr (.inr (.inr (fun _ => none))))))) (1, 0, 0) (a, .inr (5, [.ref q2, .int 0, .null]))) (1, 0, 0) (a, .inr (5, [.ref q2, .int 0, .null]))) (x := (3, 64, 0)) (y := (1, 0, 0)) (q, .inr (4, mL (fun _ => 0))) (fun z => by cases z)).trans (dU_s _ _ _)
  refine g_put d_P_init_26 fw_P_22 (Or.inl rfl) (h4.1 _ _ _ a4) rfl rfl (Nat.le_of_ble_eq_true rfl) ?_
  have h5 := h4.pt a4 (.inr (5, [.ref q2, .int 0, .ref q]))
  rw [plD_0] at h5
  refine g_iconst (v := 0) d_P_init_29 (by decide) ?_
  refine g_istore_n (lv' := [(1, _), (0, _)]) d_P_init_30 (by decide) rfl ?_
  exact l_P_init 64 0 h5 (by decide) (by decide) (by decide)
