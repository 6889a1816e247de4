/-- the loop of firstOf: from the last to the first -/
def foL (g : Nat → Int32) (x : Int32) : Nat → Int32 → Int32
  | 0, a => a
  | k + 1, a => foL g x k (if g k = x then nI k else a)
def s_R_firstOf (t : tR) (f : Nat) : Int32 := foL (t.2 6) (nI f) (wN t) (-1)

set_option maxHeartbeats 4000000 in
set_option maxRecDepth 100000 in
theorem l_R_firstOf {E : gE} {w : wd} {ad : Nat → Nat} {t : tR} (hs : SysR E ad t w) (f : Nat) {A : Nat → Prop} {V : Int32} : ∀ (k : Nat) (a : Int32), foL (t.2 6) (nI f) k a = V → k ≤ 519 → G E y_R_firstOf (rmD 1 0 0, A, (fun r w' => r = some (.int V) ∧ w' = w), fun _ => True) 9 [(3, .int (nI k - 1)), (2, .int a), (0, .ref (ad 0)), (1, .int (nI f))] [] w 0 0 := by
  intro k
  induction k with
  | zero =>
    intro a hV _
    refine g_iload_n (j := 0) d_R_firstOf_9 rfl ?_
    refine g_if_lt (tgt := 35) d_R_firstOf_10 (by decide) (fun h1 => ?_) (fun h => absurd (by decide) h)
    refine g_iload_n (j := 1) d_R_firstOf_35 rfl ?_
    exact g_ireturn d_R_firstOf_36 rfl (Nat.le_of_ble_eq_true rfl) (Nat.le_of_ble_eq_true rfl) ⟨by rw [← hV, foL], rfl⟩
  | succ k ih =>
    intro a hV hk
    rw [show nI (k + 1) - 1 = nI k from nI_pred k]
    refine g_iload_n (j := 0) d_R_firstOf_9 rfl ?_
    refine g_if_lt (tgt := 35) d_R_firstOf_10 (by decide) (fun h => absurd h (nI_pos (by omega))) (fun h1 => ?_)
    refine g_aload_n (j := 2) d_R_firstOf_13 rfl ?_
    refine g_get d_R_firstOf_14 f_R_28 hs.obj rfl ?_
    refine g_iload_n (j := 0) d_R_firstOf_17 rfl ?_
    refine r_iald (k := 6) (j := k) d_R_firstOf_18 hs (by decide) rfl rfl (show k < 520 by omega) ?_
    refine g_iload_n (j := 3) d_R_firstOf_19 rfl ?_
    refine g_icmp_ne (tgt := 27) d_R_firstOf_20 (by decide) (fun h2 => ?_) (fun h2 => ?_)
    · skip
      refine g_iload_n (j := 1) d_R_firstOf_27 rfl ?_
      refine g_istore_n (lv' := [(2, _), (3, _), (0, _), (1, _)]) d_R_firstOf_28 (by decide) rfl ?_
      refine g_iinc (j := 1) (v := nI k - 1) (lv' := [(3, _), (2, _), (0, _), (1, _)]) d_R_firstOf_29 rfl (nI_dec k) (by decide) rfl ?_
      refine g_goto (tgt := 9) d_R_firstOf_32 (by decide) ?_
      refine ih _ ?_ (by omega)
      rw [← hV, foL, if_neg h2]
    · skip
      refine g_iload_n (j := 0) d_R_firstOf_23 rfl ?_
      refine g_goto (tgt := 28) d_R_firstOf_24 (by decide) ?_
      refine g_istore_n (lv' := [(2, _), (3, _), (0, _), (1, _)]) d_R_firstOf_28 (by decide) rfl ?_
      refine g_iinc (j := 1) (v := nI k - 1) (lv' := [(3, _), (2, _), (0, _), (1, _)]) d_R_firstOf_29 rfl (nI_dec k) (by decide) rfl ?_
      refine g_goto (tgt := 9) d_R_firstOf_32 (by decide) ?_
      refine ih _ ?_ (by omega)
      rw [← hV, foL, if_pos h2]

set_option maxHeartbeats 4000000 in
set_option maxRecDepth 100000 in
theorem c_R_firstOf {E : gE} {w : wd} {ad : Nat → Nat} {t : tR} (hs : SysR E ad t w) (f : Nat) (hw : okW t) : Cn E y_R_firstOf 1 0 0 [.ref (ad 0), .int (nI f)] w (fun r w' => r = some (.int (s_R_firstOf t f)) ∧ w' = w) := by
  refine Cn.of (by decide) (Nat.le_of_ble_eq_true rfl) (fun A => ?_)
  show G E y_R_firstOf _ 0 [(0, .ref (ad 0)), (1, .int (nI f))] [] w 0 0
  refine g_iconst (v := (-1)) d_R_firstOf_0 (by decide) ?_
  refine g_istore_n (lv' := [(2, _), (0, _), (1, _)]) d_R_firstOf_1 (by decide) rfl ?_
  refine g_aload_n (j := 1) d_R_firstOf_2 rfl ?_
  refine g_get d_R_firstOf_3 f_R_125 hs.obj rfl ?_
  refine g_norm (y := nI (wN t)) hw.1 ?_
  refine g_iconst (v := 1) d_R_firstOf_6 (by decide) ?_
  refine g_isub d_R_firstOf_7 ?_
  refine g_istore_n (lv' := [(3, _), (2, _), (0, _), (1, _)]) d_R_firstOf_8 (by decide) rfl ?_
  exact l_R_firstOf hs f _ _ rfl hw.2

/-- numbers moved down by seven, from lo up to i -/
def shR (g : Nat → Int32) (lo i : Nat) : Nat → Int32 := fun j => if lo ≤ j ∧ j < i then g (j + 7) else g j
theorem shR_0 (g : Nat → Int32) (lo : Nat) : shR g lo lo = g := by
  funext j
  exact if_neg (fun h => by omega)
theorem shR_s (g : Nat → Int32) {lo i : Nat} (h : lo ≤ i) : upd (shR g lo i) i (shR g lo i (i + 7)) = shR g lo (i + 1) := by
  funext j
  by_cases hj : j = i
  · subst hj
    have e1 : upd (shR g lo j) j (shR g lo j (j + 7)) j = shR g lo j (j + 7) := if_pos rfl
    have e2 : shR g lo j (j + 7) = g (j + 7) := if_neg (fun h => by omega)
    have e3 : shR g lo (j + 1) j = g (j + 7) := if_pos (by omega)
    rw [e1, e2, e3]
  · have e1 : upd (shR g lo i) i (shR g lo i (i + 7)) j = shR g lo i j := if_neg hj
    rw [e1]
    unfold shR
    by_cases hc : lo ≤ j ∧ j < i
    · rw [if_pos hc, if_pos (by omega)]
    · rw [if_neg hc, if_neg (by omega)]
def s_R_takeOut (t : tR) (k : Nat) : tR := saA (stF t 9 (nI (pN t - 1))) 23 (shR (t.2 23) (7 * k) (7 * (pN t - 1)))

set_option maxHeartbeats 4000000 in
set_option maxRecDepth 100000 in
theorem l_R_takeOut {E : gE} {ad : Nat → Nat} (t1 : tR) (g : Nat → Int32) (k m : Nat) (hm : t1.1 9 = nI m) (hm2 : m ≤ 63) {A : Nat → Prop} : ∀ (r i : Nat) {w : wd}, SysR E ad (saA t1 23 (shR g (7 * k) i)) w → 7 * k ≤ i → i ≤ 7 * m → r + i = 7 * m → G E y_R_takeOut (rmD 1 0 0, A, (fun r w' => r = none ∧ SysR E ad (saA t1 23 (shR g (7 * k) (7 * m))) w'), fun _ => True) 15 [(2, .int (nI i)), (0, .ref (ad 0)), (1, .int (nI k))] [] w 0 0 := by
  intro r
  induction r with
  | zero =>
    intro i w hs hlo hi hr
    have he : i = 7 * m := by omega
    subst he
    refine g_iload_n (j := 0) d_R_takeOut_15 rfl ?_
    refine g_bipush (v := 7) d_R_takeOut_16 (by decide) ?_
    refine g_aload_n (j := 1) d_R_takeOut_18 rfl ?_
    refine g_get d_R_takeOut_19 f_R_96 hs.obj rfl ?_
    refine g_norm (y := nI m) hm ?_
    refine g_imul d_R_takeOut_22 ?_
    refine g_norm (y := nI (7 * m)) (pk_mul 7 m) ?_
    refine g_icmp_ge (tgt := 47) d_R_takeOut_23 (by decide) (fun h1 => ?_) (fun h => absurd ((nI_leI (by omega) (by omega)).mpr (by omega)) h)
    exact g_return d_R_takeOut_47 rfl (Nat.le_of_ble_eq_true rfl) (Nat.le_of_ble_eq_true rfl) ⟨rfl, hs⟩
  | succ r ih =>
    intro i w hs hlo hi hr
    refine g_iload_n (j := 0) d_R_takeOut_15 rfl ?_
    refine g_bipush (v := 7) d_R_takeOut_16 (by decide) ?_
    refine g_aload_n (j := 1) d_R_takeOut_18 rfl ?_
    refine g_get d_R_takeOut_19 f_R_96 hs.obj rfl ?_
    refine g_norm (y := nI m) hm ?_
    refine g_imul d_R_takeOut_22 ?_
    refine g_norm (y := nI (7 * m)) (pk_mul 7 m) ?_
    refine g_icmp_ge (tgt := 47) d_R_takeOut_23 (by decide) (fun h => absurd h (fun z => absurd ((nI_leI (by omega) (by omega)).mp z) (by omega))) (fun h1 => ?_)
    refine g_aload_n (j := 1) d_R_takeOut_26 rfl ?_
    refine g_get d_R_takeOut_27 f_R_80 hs.obj rfl ?_
    refine g_iload_n (j := 0) d_R_takeOut_30 rfl ?_
    refine g_aload_n (j := 1) d_R_takeOut_31 rfl ?_
    refine g_get d_R_takeOut_32 f_R_80 hs.obj rfl ?_
    refine g_iload_n (j := 0) d_R_takeOut_35 rfl ?_
    refine g_bipush (v := 7) d_R_takeOut_36 (by decide) ?_
    refine g_iadd d_R_takeOut_38 ?_
    refine g_norm (y := nI (i + 7)) (nI_add i 7) ?_
    refine r_iald (k := 23) (j := i + 7) d_R_takeOut_39 hs (by decide) rfl rfl (show i + 7 < 448 by omega) ?_
    refine r_iast (k := 23) (j := i) d_R_takeOut_40 hs (by decide) rfl rfl (show i < 448 by omega) (fun w2 hs3 => ?_)
    refine g_iinc (j := 0) (v := nI (i + 1)) (lv' := [(2, _), (0, _), (1, _)]) d_R_takeOut_41 rfl (nI_1 i) (by decide) rfl ?_
    refine g_goto (tgt := 15) d_R_takeOut_44 (by decide) ?_
    rw [saA_at, stA_saA, shR_s _ hlo] at hs3
    exact ih _ hs3 (by omega) (by omega) (by omega)

set_option maxHeartbeats 4000000 in
set_option maxRecDepth 100000 in
theorem c_R_takeOut {E : gE} {w : wd} {ad : Nat → Nat} {t : tR} (hs : SysR E ad t w) (k : Nat) (hp : okP t) (hk : k < pN t) : Cn E y_R_takeOut 1 0 0 [.ref (ad 0), .int (nI k)] w (fun r w' => r = none ∧ SysR E ad (s_R_takeOut t k) w') := by
  obtain ⟨hp1, hp2⟩ := hp
  unfold s_R_takeOut
  obtain ⟨m, hm⟩ : ∃ m, pN t = m + 1 := ⟨pN t - 1, by omega⟩
  rw [hm] at hp1 hp2 hk ⊢
  rw [Nat.add_sub_cancel]
  refine Cn.of (by decide) (Nat.le_of_ble_eq_true rfl) (fun A => ?_)
  show G E y_R_takeOut _ 0 [(0, .ref (ad 0)), (1, .int (nI k))] [] w 0 0
  refine g_aload_n (j := 0) d_R_takeOut_0 rfl ?_
  refine g_dup d_R_takeOut_1 rfl ?_
  refine g_get d_R_takeOut_2 f_R_96 hs.obj rfl ?_
  refine g_norm (y := nI (m + 1)) hp1 ?_
  refine g_iconst (v := 1) d_R_takeOut_5 (by decide) ?_
  refine g_isub d_R_takeOut_6 ?_
  refine g_norm (y := nI m) (nI_pred m) ?_
  refine g_put d_R_takeOut_7 fw_R_96 (Or.inl rfl) hs.obj rfl rfl (Nat.le_of_ble_eq_true rfl) ?_
  have hs2 : SysR E ad (stF t 9 (nI m)) _ := hs.sf (t' := stF t 9 (nI m)) (fs := (ceR ad t).set 32 (.int (nI m))) rfl rfl
  generalize wu _ (ad 0) _ = w1 at hs2 ⊢
  refine g_bipush (v := 7) d_R_takeOut_10 (by decide) ?_
  refine g_iload_n (j := 1) d_R_takeOut_12 rfl ?_
  refine g_imul d_R_takeOut_13 ?_
  refine g_norm (y := nI (7 * k)) (pk_mul 7 k) ?_
  refine g_istore_n (lv' := [(2, _), (0, _), (1, _)]) d_R_takeOut_14 (by decide) rfl ?_
  have hs9 : SysR E ad (saA (stF t 9 (nI m)) 23 (shR (t.2 23) (7 * k) (7 * k))) w1 := by
    rw [shR_0]
    rw [show saA (stF t 9 (nI m)) 23 (t.2 23) = stF t 9 (nI m) from saA_self (stF t 9 (nI m)) 23]
    exact hs2
  exact l_R_takeOut (stF t 9 (nI m)) (t.2 23) k m rfl (by omega) (7 * m - 7 * k) (7 * k) hs9 (by omega) (by omega) (by omega)
