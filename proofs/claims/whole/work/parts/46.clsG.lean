/-- which message lies at place j, once the k-th of n is taken out -/
def pmC (k n j : Nat) : Nat := if j < k then j else if j + 1 < n then j + 1 else if j + 1 = n then 64 else if j = 64 then k else j
def ptL (L : lyC) (k n : Nat) : lyC := (fun x => if x.1 = 3 then L.1 (3, pmC k n x.2.1, x.2.2) else L.1 x, L.2)
def ptC (t : tC) (k n : Nat) : tC := (fun a b => if a = 7 then t.1 7 (pmC k n b) else t.1 a b, t.2.1, n - 1)
theorem pmC_le {k n j : Nat} (hk : k < n) (hn : n ≤ 64) (hj : j ≤ 64) : pmC k n j ≤ 64 := by
  unfold pmC
  split
  · omega
  · split
    · omega
    · split
      · omega
      · split
        · omega
        · omega
theorem pmC_inj {k n i j : Nat} (hk : k < n) (hn : n ≤ 64) (hi : i ≤ 64) (hj : j ≤ 64) (h : pmC k n i = pmC k n j) : i = j := by
  unfold pmC at h
  split at h <;> split at h <;> (try split at h) <;> (try split at h) <;> (try split at h) <;> (try split at h) <;> (try split at h) <;> (try split at h) <;> omega
/-- the row while the messages move down -/
def shM (L : lyC) (k i : Nat) : Nat → Option Nat := fun j => if j < 64 then (if k ≤ j ∧ j < i then some (L.1 (3, j + 1, 0)) else some (L.1 (3, j, 0))) else none
theorem shM_0 (L : lyC) (k : Nat) : shM L k k = fun i => if i < 64 then some (L.1 (3, i, 0)) else none := by
  funext j
  unfold shM
  rw [if_neg (c := k ≤ j ∧ j < k) (by omega)]
theorem shM_s (L : lyC) {k i : Nat} (hk : k ≤ i) (hi : i < 64) : va_up (shM L k i) i (some (L.1 (3, i + 1, 0))) = shM L k (i + 1) := by
  funext j
  by_cases hj : j = i
  · subst hj
    rw [va_up_self]
    unfold shM
    rw [if_pos hi, if_pos (by omega)]
  · rw [va_up_ne _ _ hj]
    unfold shM
    by_cases hc : k ≤ j ∧ j < i
    · rw [if_pos hc, if_pos (c := k ≤ j ∧ j < i + 1) (by omega)]
    · rw [if_neg hc, if_neg (c := k ≤ j ∧ j < i + 1) (by omega)]
theorem shM_e (L : lyC) {k n : Nat} (hk : k < n) (hn : n ≤ 64) : va_up (shM L k (n - 1)) (n - 1) (some (L.1 (3, 64, 0))) = fun i => if i < 64 then some ((ptL L k n).1 (3, i, 0)) else none := by
  funext j
  have hp : (ptL L k n).1 (3, j, 0) = L.1 (3, pmC k n j, 0) := rfl
  rw [hp]
  by_cases h64 : j < 64
  · rw [if_pos h64]
    by_cases hj : j = n - 1
    · have e : pmC k n j = 64 := by
        unfold pmC
        rw [if_neg (by omega), if_neg (by omega), if_pos (by omega)]
      rw [e, hj, va_up_self]
    · rw [va_up_ne _ _ hj]
      unfold shM pmC
      rw [if_pos h64]
      by_cases hc : k ≤ j ∧ j < n - 1
      · rw [if_pos hc, if_neg (by omega), if_pos (by omega)]
      · rw [if_neg hc]
        by_cases hjk : j < k
        · rw [if_pos hjk]
        · rw [if_neg hjk, if_neg (by omega), if_neg (by omega), if_neg (by omega)]
  · rw [if_neg h64, va_up_ne _ _ (by omega)]
    unfold shM
    rw [if_neg h64]
/-- behind takeOut -/
theorem SysC.out {E : gE} {K : kC} {L : lyC} {t : tC} {w w' : wd} (h : SysC E K L t w) {k n : Nat} (hk : k < n) (hn : n = t.2.2) (ho : ∀ (b : Nat) (e : va_E), wh w b e → b ≠ L.1 (2, 0, 0) → b ≠ L.1 (1, 0, 0) → wh w' b e) (ha : wh w' (L.1 (2, 0, 0)) (.inl (E.2.2.1 2, 64, .inr (.inr (.inr (.inr (fun i => if i < 64 then some ((ptL L k n).1 (3, i, 0)) else none))))))) (hp : wh w' (L.1 (1, 0, 0)) (.inr (5, [.ref (L.1 (2, 0, 0)), .int (nI (n - 1)), .ref (L.1 (3, k, 0))]))) : SysC E K (ptL L k n) (ptC t k n) w' := by
  obtain ⟨h1, h2, h3, h4, h5⟩ := h
  have hn4 : n ≤ 64 := by omega
  have v1 : vaC K L t (1, 0, 0) := show vaC K L t (1, 0, 0) from ⟨rfl, rfl, by decide⟩
  have v2 : vaC K L t (2, 0, 0) := show vaC K L t (2, 0, 0) from ⟨rfl, rfl, by decide⟩
  have e64 : pmC k n 64 = k := by
    unfold pmC
    rw [if_neg (by omega), if_neg (by omega), if_neg (by omega), if_pos rfl]
  have hoth : ∀ x, vaC K L t x → x ≠ (1, 0, 0) → x ≠ (2, 0, 0) → wh w' (L.1 x) (ceC E K L t x) := fun x hx n1 n2 => ho _ _ (h1 x hx) (fun z => n2 (h2 x _ hx v2 z)) (fun z => n1 (h2 x _ hx v1 z))
  refine ⟨fun x hx => ?_, fun x y hx hy hxy => ?_, h3, by show n - 1 ≤ 64; omega, h5⟩
  · obtain ⟨a, b, c⟩ := x
    match a, hx with
    | 0, hx => exact hoth (0, b, c) hx (fun z => by cases z) (fun z => by cases z)
    | 1, hx =>
      have q : b = 0 ∧ c = 0 ∧ 1 < 17 := hx
      obtain ⟨rfl, rfl, -⟩ := q
      show wh w' (L.1 (1, 0, 0)) (.inr (5, [.ref (L.1 (2, 0, 0)), .int (nI (n - 1)), .ref (L.1 (3, pmC k n 64, 0))]))
      rw [e64]
      exact hp
    | 2, hx =>
      have q : b = 0 ∧ c = 0 ∧ 2 < 17 := hx
      obtain ⟨rfl, rfl, -⟩ := q
      exact ha
    | 3, hx =>
      have q : b ≤ 64 ∧ c = 0 := hx
      obtain ⟨q1, rfl⟩ := q
      exact hoth (3, pmC k n b, 0) (show vaC K L t (3, pmC k n b, 0) from ⟨pmC_le hk hn4 q1, rfl⟩) (fun z => by cases z) (fun z => by cases z)
    | 4, hx => exact hoth (4, b, c) hx (fun z => by cases z) (fun z => by cases z)
    | 5, hx => exact hoth (5, b, c) hx (fun z => by cases z) (fun z => by cases z)
    | 6, hx => exact hoth (6, b, c) hx (fun z => by cases z) (fun z => by cases z)
    | 7, hx => exact hoth (7, b, c) hx (fun z => by cases z) (fun z => by cases z)
    | 8, hx => exact hoth (8, b, c) hx (fun z => by cases z) (fun z => by cases z)
    | 9, hx => exact hoth (9, b, c) hx (fun z => by cases z) (fun z => by cases z)
    | 10, hx => exact hoth (10, b, c) hx (fun z => by cases z) (fun z => by cases z)
    | 11, hx => exact hoth (11, b, c) hx (fun z => by cases z) (fun z => by cases z)
    | 12, hx => exact hoth (12, b, c) hx (fun z => by cases z) (fun z => by cases z)
    | 13, hx => exact hoth (13, b, c) hx (fun z => by cases z) (fun z => by cases z)
    | 14, hx => exact hoth (14, b, c) hx (fun z => by cases z) (fun z => by cases z)
    | 15, hx => exact hoth (15, b, c) hx (fun z => by cases z) (fun z => by cases z)
    | a + 16, hx => exact hoth (a + 16, b, c) hx (fun z => by cases z) (fun z => by cases z)
  · have hx : vaC K L t x := hx
    have hy : vaC K L t y := hy
    obtain ⟨a, b, c⟩ := x
    obtain ⟨a', b', c'⟩ := y
    by_cases ha3 : a = 3
    · subst ha3
      have q : b ≤ 64 ∧ c = 0 := hx
      obtain ⟨q1, rfl⟩ := q
      by_cases hb3 : a' = 3
      · subst hb3
        have q' : b' ≤ 64 ∧ c' = 0 := hy
        obtain ⟨q1', rfl⟩ := q'
        have z := h2 (3, pmC k n b, 0) (3, pmC k n b', 0) (show vaC K L t _ from ⟨pmC_le hk hn4 q1, rfl⟩) (show vaC K L t _ from ⟨pmC_le hk hn4 q1', rfl⟩) hxy
        have z2 : pmC k n b = pmC k n b' := congrArg (fun x : nmC => x.2.1) z
        rw [pmC_inj hk hn4 q1 q1' z2]
      · have e : (ptL L k n).1 (a', b', c') = L.1 (a', b', c') := if_neg hb3
        rw [e] at hxy
        have z := h2 (3, pmC k n b, 0) (a', b', c') (show vaC K L t _ from ⟨pmC_le hk hn4 q1, rfl⟩) hy hxy
        exact absurd (congrArg (fun x : nmC => x.1) z).symm hb3
    · have e : (ptL L k n).1 (a, b, c) = L.1 (a, b, c) := if_neg ha3
      rw [e] at hxy
      by_cases hb3 : a' = 3
      · subst hb3
        have q' : b' ≤ 64 ∧ c' = 0 := hy
        obtain ⟨q1', rfl⟩ := q'
        have z := h2 (a, b, c) (3, pmC k n b', 0) hx (show vaC K L t _ from ⟨pmC_le hk hn4 q1', rfl⟩) hxy
        exact absurd (congrArg (fun x : nmC => x.1) z) ha3
      · have e' : (ptL L k n).1 (a', b', c') = L.1 (a', b', c') := if_neg hb3
        rw [e'] at hxy
        exact h2 _ _ hx hy hxy

set_option maxHeartbeats 4000000 in
set_option maxRecDepth 100000 in
theorem l_P_takeOut {E : gE} {w : wd} {K : kC} {L : lyC} {t : tC} (hs : SysC E K L t w) (k m : Nat) (hm : t.2.2 = m + 1) (hk : k < m + 1) {A : Nat → Prop} : ∀ (r i : Nat) {w' : wd}, (∀ (b : Nat) (e : va_E), wh w b e → b ≠ L.1 (2, 0, 0) → wh w' b e) → wh w' (L.1 (2, 0, 0)) (.inl (E.2.2.1 2, 64, .inr (.inr (.inr (.inr (shM L k i)))))) → k ≤ i → r + i = m → G E y_P_takeOut (rmD 1 0 0, A, (fun r w' => r = some (.ref (L.1 (3, k, 0))) ∧ SysC E K (ptL L k t.2.2) (ptC t k t.2.2) w'), fun _ => True) 9 [(3, .int (nI i)), (2, .ref (L.1 (3, k, 0))), (0, .ref (L.1 (1, 0, 0))), (1, .int (nI k))] [] w' 0 0 := by
  have h64 := hs.pn
  have hinj := hs.2.1
  have v1 : vaC K L t (1, 0, 0) := show vaC K L t (1, 0, 0) from ⟨rfl, rfl, by decide⟩
  have v2 : vaC K L t (2, 0, 0) := show vaC K L t (2, 0, 0) from ⟨rfl, rfl, by decide⟩
  have n12 : L.1 (1, 0, 0) ≠ L.1 (2, 0, 0) := fun z => by cases hinj _ _ v1 v2 z
  have n3 : ∀ j, j ≤ 64 → L.1 (3, j, 0) ≠ L.1 (2, 0, 0) := fun j hj z => by cases hinj _ _ (show vaC K L t (3, j, 0) from ⟨hj, rfl⟩) v2 z
  have n31 : ∀ j, j ≤ 64 → L.1 (3, j, 0) ≠ L.1 (1, 0, 0) := fun j hj z => by cases hinj _ _ (show vaC K L t (3, j, 0) from ⟨hj, rfl⟩) v1 z
  intro r
  induction r with
  | zero =>
    intro i w' ho ha hlo hr
    have hpo := ho _ _ hs.pool n12
    have he : i = m := by omega
    subst he
    refine g_iload_n (j := 0) d_P_takeOut_9 rfl ?_
    refine g_aload_n (j := 2) d_P_takeOut_10 rfl ?_
    refine g_get d_P_takeOut_11 f_P_17 hpo rfl ?_
    rw [show nI t.2.2 = nI (i + 1) from by rw [hm]]
    refine g_iconst (v := 1) d_P_takeOut_14 (by decide) ?_
    refine g_isub d_P_takeOut_15 ?_
    refine g_norm (y := nI i) (nI_pred i) ?_
    refine g_icmp_ge (tgt := 39) d_P_takeOut_16 (by decide) (fun _ => ?_) (fun h => absurd ((nI_leI (by omega) (by omega)).mpr (Nat.le_refl _)) h)
    refine g_aload_n (j := 2) d_P_takeOut_39 rfl ?_
    refine g_dup d_P_takeOut_40 rfl ?_
    refine g_get d_P_takeOut_41 f_P_17 hpo rfl ?_
    rw [show nI t.2.2 = nI (i + 1) from by rw [hm]]
    refine g_iconst (v := 1) d_P_takeOut_44 (by decide) ?_
    refine g_isub d_P_takeOut_45 ?_
    refine g_norm (y := nI i) (nI_pred i) ?_
    refine g_put d_P_takeOut_46 fw_P_17 (Or.inl rfl) hpo rfl rfl (Nat.le_of_ble_eq_true rfl) ?_
    have hpo2 := hpo.us (e := .inr (5, [.ref (L.1 (2, 0, 0)), .int (nI i), .ref (L.1 (3, 64, 0))]))
    have ha2 := ha.un (e := .inr (5, [.ref (L.1 (2, 0, 0)), .int (nI i), .ref (L.1 (3, 64, 0))])) (Ne.symm n12)
    have hm64 := (ho _ _ (hs.msg (i := 64) (by omega)) (n3 64 (by omega))).un (e := .inr (5, [.ref (L.1 (2, 0, 0)), .int (nI i), .ref (L.1 (3, 64, 0))])) (n31 64 (by omega))
    refine g_aload_n (j := 2) d_P_takeOut_49 rfl ?_
    refine g_get d_P_takeOut_50 f_P_11 hpo2 rfl ?_
    refine g_aload_n (j := 2) d_P_takeOut_53 rfl ?_
    refine g_get d_P_takeOut_54 f_P_17 hpo2 rfl ?_
    refine g_aload_n (j := 2) d_P_takeOut_57 rfl ?_
    refine g_get d_P_takeOut_58 f_P_22 hpo2 rfl ?_
    refine g_aast (t0 := 2) (j := i) d_P_takeOut_61 ha2 rfl hm64 rfl rfl (by omega) (by omega) ?_
    have ha3 := ha2.us (e := .inl (E.2.2.1 2, 64, .inr (.inr (.inr (.inr (va_up (shM L k i) i (some (L.1 (3, 64, 0)))))))))
    have hpo3 := hpo2.un (e := .inl (E.2.2.1 2, 64, .inr (.inr (.inr (.inr (va_up (shM L k i) i (some (L.1 (3, 64, 0))))))))) n12
    refine g_aload_n (j := 2) d_P_takeOut_62 rfl ?_
    refine g_aload_n (j := 1) d_P_takeOut_63 rfl ?_
    refine g_put d_P_takeOut_64 fw_P_22 (Or.inl rfl) hpo3 rfl rfl (Nat.le_of_ble_eq_true rfl) ?_
    refine g_aload_n (j := 1) d_P_takeOut_67 rfl ?_
    refine g_areturn d_P_takeOut_68 rfl (Or.inr ⟨_, rfl⟩) (Nat.le_of_ble_eq_true rfl) (Nat.le_of_ble_eq_true rfl) ⟨rfl, ?_⟩
    have e9 := shM_e L (k := k) (n := t.2.2) (by omega) h64
    rw [hm, Nat.add_sub_cancel] at e9
    refine hs.out (by omega) rfl (fun b e hb h2 h1 => (((ho b e hb h2).un h1).un h2).un h1) ?_ ?_
    · rw [hm, ← e9]
      exact ha3.un (Ne.symm n12)
    · rw [hm, Nat.add_sub_cancel]
      exact hpo3.us
  | succ r ih =>
    intro i w' ho ha hlo hr
    have hpo := ho _ _ hs.pool n12
    have hm1 := ho _ _ (hs.msg (i := i + 1) (by omega)) (n3 (i + 1) (by omega))
    refine g_iload_n (j := 0) d_P_takeOut_9 rfl ?_
    refine g_aload_n (j := 2) d_P_takeOut_10 rfl ?_
    refine g_get d_P_takeOut_11 f_P_17 hpo rfl ?_
    rw [show nI t.2.2 = nI (m + 1) from by rw [hm]]
    refine g_iconst (v := 1) d_P_takeOut_14 (by decide) ?_
    refine g_isub d_P_takeOut_15 ?_
    refine g_norm (y := nI m) (nI_pred m) ?_
    refine g_icmp_ge (tgt := 39) d_P_takeOut_16 (by decide) (fun h => absurd ((nI_leI (by omega) (by omega)).mp h) (by omega)) (fun _ => ?_)
    refine g_aload_n (j := 2) d_P_takeOut_19 rfl ?_
    refine g_get d_P_takeOut_20 f_P_11 hpo rfl ?_
    refine g_iload_n (j := 0) d_P_takeOut_23 rfl ?_
    refine g_aload_n (j := 2) d_P_takeOut_24 rfl ?_
    refine g_get d_P_takeOut_25 f_P_11 hpo rfl ?_
    refine g_iload_n (j := 0) d_P_takeOut_28 rfl ?_
    refine g_iconst (v := 1) d_P_takeOut_29 (by decide) ?_
    refine g_iadd d_P_takeOut_30 ?_
    refine g_norm (y := nI (i + 1)) (nI_1 i) ?_
    refine g_aald (t0 := 2) (j := i + 1) d_P_takeOut_31 ha rfl rfl (by omega) (by omega) (v := .ref (L.1 (3, i + 1, 0))) (by unfold shM; rw [if_pos (by omega), if_neg (by omega)]; rfl) ?_
    refine g_aast (t0 := 2) (j := i) d_P_takeOut_32 ha rfl hm1 rfl rfl (by omega) (by omega) ?_
    refine g_iinc (j := 0) (v := nI (i + 1)) (lv' := [(3, _), (2, _), (0, _), (1, _)]) d_P_takeOut_33 rfl (nI_1 i) (by decide) rfl ?_
    refine g_goto (tgt := 9) d_P_takeOut_36 (by decide) ?_
    refine ih (i + 1) (fun b e hb h2 => (ho b e hb h2).un h2) ?_ (by omega) (by omega)
    rw [← shM_s L hlo (by omega)]
    exact ha.us

set_option maxHeartbeats 4000000 in
set_option maxRecDepth 100000 in
theorem c_P_takeOut {E : gE} {w : wd} {K : kC} {L : lyC} {t : tC} (hs : SysC E K L t w) (k : Nat) (hk : k < t.2.2) : Cn E y_P_takeOut 1 0 0 [.ref (L.1 (1, 0, 0)), .int (nI k)] w (fun r w' => r = some (.ref (L.1 (3, k, 0))) ∧ SysC E K (ptL L k t.2.2) (ptC t k t.2.2) w') := by
  refine Cn.of (by decide) (Nat.le_of_ble_eq_true rfl) (fun A => ?_)
  show G E y_P_takeOut _ 0 [(0, .ref (L.1 (1, 0, 0))), (1, .int (nI k))] [] w 0 0
  have h64 := hs.pn
  refine g_aload_n (j := 0) d_P_takeOut_0 rfl ?_
  refine g_get d_P_takeOut_1 f_P_11 hs.pool rfl ?_
  refine g_iload_n (j := 1) d_P_takeOut_4 rfl ?_
  refine g_aald (t0 := 2) (j := k) d_P_takeOut_5 hs.msgs rfl rfl (by omega) (by omega) (rf_if (by omega)) ?_
  refine g_astore_n (lv' := [(2, _), (0, _), (1, _)]) d_P_takeOut_6 (by decide) rfl ?_
  refine g_iload_n (j := 2) d_P_takeOut_7 rfl ?_
  refine g_istore_n (lv' := [(3, _), (2, _), (0, _), (1, _)]) d_P_takeOut_8 (by decide) rfl ?_
  obtain ⟨m, hm⟩ : ∃ m, t.2.2 = m + 1 := ⟨t.2.2 - 1, by omega⟩
  exact l_P_takeOut hs k m hm (by omega) (m - k) k (fun b e hb _ => hb) (by rw [shM_0]; exact hs.msgs) (Nat.le_refl _) (by omega)
