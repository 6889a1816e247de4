theorem wfR_stA {t : tR} (h : wfR t) {k : Nat} (j : Nat) (x : Int32) (h5 : k ≠ 5) (h6 : k ≠ 6) : wfR (stA t k j x) := by
  obtain ⟨a1, a2, a3, a4, a5⟩ := h
  refine ⟨a1, a2, a3, a4, fun i hi => (a5 i hi).to ?_ ?_⟩
  · show (if 5 = k then _ else t.2 5) i = _
    rw [if_neg (fun z => h5 z.symm)]
  · show (if 6 = k then _ else t.2 6) i = _
    rw [if_neg (fun z => h6 z.symm)]
theorem wfR_s4 {t X : tR} {m k : Nat} (h : wfR t) (e1 : X.1 = t.1) (e5 : X.2 5 = t.2 5) (e6 : X.2 6 = t.2 6) (hm : wN t = m + 1) (hk : k ≤ m) : wfR (s4R (stF X 8 (nI m)) k m) ∧ wN (s4R (stF X 8 (nI m)) k m) = m := by
  obtain ⟨a1, a2, a3, a4, a5⟩ := h
  have hw2 := a2.2
  have ew : wN (s4R (stF X 8 (nI m)) k m) = m := nI_clamp (by omega)
  have z : ∀ i, i ≠ 8 → (s4R (stF X 8 (nI m)) k m).1 i = t.1 i := fun i hi => (if_neg hi : upd X.1 8 (nI m) i = X.1 i).trans (congrFun e1 i)
  refine ⟨⟨?_, ⟨by rw [ew]; rfl, by omega⟩, a3.to (z 0 (by decide)), a4.to (z 1 (by decide)), fun i hi => ?_⟩, ew⟩
  · have e9 := z 9 (by decide)
    have ep : pN (s4R (stF X 8 (nI m)) k m) = pN t := by unfold pN; rw [e9]
    unfold okP
    rw [ep, e9]
    exact a1
  · rw [ew] at hi
    have q5 : (s4R (stF X 8 (nI m)) k m).2 5 i = sh1 (t.2 5) k m i := by
      show sh1 (X.2 5) k m i = _
      rw [e5]
    have q6 : (s4R (stF X 8 (nI m)) k m).2 6 i = sh1 (t.2 6) k m i := by
      show sh1 (X.2 6) k m i = _
      rw [e6]
    by_cases hc : k ≤ i ∧ i < m
    · exact (a5 (i + 1) (by omega)).to (q5.trans (if_pos hc)) (q6.trans (if_pos hc))
    · exact (a5 i (by omega)).to (q5.trans (if_neg hc)) (q6.trans (if_neg hc))
theorem send_w (t : tR) (k cc ff wo a b d : Int32) : wN (s_R_send t k cc ff wo a b d) = wN t := by
  unfold wN
  rw [send_f t k cc ff wo a b d (by decide)]
theorem wfR_store {t : tR} {m k : Nat} (h : wfR t) (hm : wN t = m + 1) (hk : k ≤ m) : wfR (s_R_store t m k) ∧ wN (s_R_store t m k) = m := by
  have key : ∀ (X : tR) (k' cc ff wo a b d : Int32), X.1 = t.1 → X.2 5 = t.2 5 → X.2 6 = t.2 6 → wfR (s_R_send (s4R (stF X 8 (nI m)) k m) k' cc ff wo a b d) ∧ wN (s_R_send (s4R (stF X 8 (nI m)) k m) k' cc ff wo a b d) = m := by
    intro X k' cc ff wo a b d e1 e5 e6
    rw [send_w]
    obtain ⟨g1, g2⟩ := wfR_s4 h e1 e5 e6 hm hk
    exact ⟨wfR_send g1 .., g2⟩
  unfold s_R_store
  split
  · refine key _ _ _ _ _ _ _ _ ?_ ?_ ?_ <;> rfl
  · refine key _ _ _ _ _ _ _ _ ?_ ?_ ?_ <;> rfl
/-- one file's writes, as long as they may be stored -/
def inL (f : Nat) : Nat → tR → tR × Nat
  | 0, t => (t, 0)
  | n + 1, t => if s_R_firstOf t f < 0 then (t, 0) else if s_R_isFree t f = 0 then (t, 0) else ((inL f n (s_R_store t (wN t - 1) (foN t f))).1, (inL f n (s_R_store t (wN t - 1) (foN t f))).2 + 1)
/-- file by file -/
def saL (t : tR) : Nat → tR × Nat
  | 0 => (t, 0)
  | n + 1 => ((inL n (wN (saL t n).1) (saL t n).1).1, (saL t n).2 + (inL n (wN (saL t n).1) (saL t n).1).2)
def s_R_storeAll (t : tR) : tR × Int32 := ((saL t (fN t)).1, nI (saL t (fN t)).2)
theorem store_0 (t : tR) (m k : Nat) {i : Nat} (h8 : i ≠ 8) (h9 : i ≠ 9) : (s_R_store t m k).1 i = t.1 i := by
  unfold s_R_store
  split
  · rw [send_f _ _ _ _ _ _ _ _ h9]
    exact if_neg h8
  · rw [send_f _ _ _ _ _ _ _ _ h9]
    exact if_neg h8
theorem inL_wf (f : Nat) : ∀ (n : Nat) (t : tR), wfR t → wfR (inL f n t).1 ∧ (∀ i, i ≠ 8 → i ≠ 9 → (inL f n t).1.1 i = t.1 i) := by
  intro n
  induction n with
  | zero => intro t h; exact ⟨h, fun _ _ _ => rfl⟩
  | succ n ih =>
    intro t h
    unfold inL
    split
    · exact ⟨h, fun _ _ _ => rfl⟩
    · rename_i hfo
      split
      · exact ⟨h, fun _ _ _ => rfl⟩
      · obtain ⟨-, g2, -⟩ := foN_ok h.2.1 hfo
        have hs := wfR_store (k := foN t f) (m := wN t - 1) h (by omega) (by omega)
        obtain ⟨i1, i2⟩ := ih _ hs.1
        exact ⟨i1, fun i h8 h9 => (i2 i h8 h9).trans (store_0 t _ _ h8 h9)⟩
theorem saL_wf {t : tR} (h : wfR t) : ∀ n, wfR (saL t n).1 ∧ (∀ i, i ≠ 8 → i ≠ 9 → (saL t n).1.1 i = t.1 i) := by
  intro n
  induction n with
  | zero => exact ⟨h, fun _ _ _ => rfl⟩
  | succ n ih =>
    obtain ⟨i1, i2⟩ := inL_wf n (wN (saL t n).1) _ ih.1
    exact ⟨i1, fun i h8 h9 => (i2 i h8 h9).trans (ih.2 i h8 h9)⟩

set_option maxHeartbeats 4000000 in
set_option maxRecDepth 100000 in
theorem l_R_in {E : gE} {ad : Nat → Nat} (f : Nat) (hf : f < 4) {Z : gZ} (hZ : Z.1 = rmD 3 0 0) : ∀ (N : Nat) (t : tR) (n : Nat) {w : wd}, wN t ≤ N → wfR t → SysR E ad t w → (∀ w' : wd, SysR E ad (inL f N t).1 w' → ∀ v3 : Int32, G E y_R_storeAll Z 47 [(3, .int v3), (1, .int (nI (n + (inL f N t).2))), (0, .ref (ad 0)), (2, .int (nI f))] [] w' 0 0) → G E y_R_storeAll Z 18 [(3, .int (s_R_firstOf t f)), (1, .int (nI n)), (0, .ref (ad 0)), (2, .int (nI f))] [] w 0 0 := by
  obtain ⟨R0, A, Q, X⟩ := Z
  dsimp only at hZ
  subst hZ
  intro N
  induction N with
  | zero =>
    intro t n w hN hwf hs hK
    have hz : s_R_firstOf t f < 0 := by
      refine Decidable.byContradiction fun hc => ?_
      obtain ⟨-, g2, -⟩ := foN_ok hwf.2.1 hc
      omega
    refine g_iload_n (j := 0) d_R_storeAll_18 rfl ?_
    refine g_if_lt (tgt := 47) d_R_storeAll_19 (by decide) (fun h1 => ?_) (fun h => absurd (hz) h)
    exact hK _ hs _
  | succ N ih =>
    intro t n w hN hwf hs hK
    refine g_iload_n (j := 0) d_R_storeAll_18 rfl ?_
    refine g_if_lt (tgt := 47) d_R_storeAll_19 (by decide) (fun h1 => ?_) (fun h1 => ?_)
    · skip
      have e9 : inL f (N + 1) t = (t, 0) := by
        rw [inL, if_pos h1]
      rw [e9] at hK
      exact hK _ hs _
    · skip
      obtain ⟨hfo1, hfo2, hfo3⟩ := foN_ok hwf.2.1 h1
      have hm : t.1 8 = nI (wN t - 1 + 1) := by
        rw [Nat.sub_add_cancel (by omega)]
        exact hwf.2.1.1
      have hst := wfR_store (k := foN t f) (m := wN t - 1) hwf (by omega) (by omega)
      refine g_aload_n (j := 2) d_R_storeAll_22 rfl ?_
      refine g_iload_n (j := 3) d_R_storeAll_23 rfl ?_
      refine g_callV (c_R_isFree hs f (by omega) hwf.2.2.1) ok_R_isFree lk_R_142 in_R_isFree se_R_isFree hs.obj rfl d_R_storeAll_24 rfl rfl (Nat.le_of_ble_eq_true rfl) ⟨(Nat.le_of_ble_eq_true rfl), (Nat.le_of_ble_eq_true rfl)⟩ (Nat.le_of_ble_eq_true rfl) (Nat.le_of_ble_eq_true rfl) (fun r w' hq => ?_)
      obtain ⟨rfl, rfl⟩ := hq
      refine g_if_eq (tgt := 47) d_R_storeAll_27 (by decide) (fun h2 => ?_) (fun h2 => ?_)
      · skip
        have e9 : inL f (N + 1) t = (t, 0) := by
          rw [inL, if_neg h1, if_pos h2]
        rw [e9] at hK
        exact hK _ hs _
      · skip
        refine g_aload_n (j := 2) d_R_storeAll_30 rfl ?_
        refine g_iload_n (j := 0) d_R_storeAll_31 rfl ?_
        refine g_norm (y := nI (foN t f)) hfo1 ?_
        refine g_callV (c_R_store hs (wN t - 1) (foN t f) hm (by omega) (by omega) (hwf.2.2.2.2 _ hfo2) hwf.1) ok_R_store lk_R_145 in_R_store se_R_store hs.obj rfl d_R_storeAll_32 rfl rfl (Nat.le_of_ble_eq_true rfl) ⟨(Nat.le_of_ble_eq_true rfl), (Nat.le_of_ble_eq_true rfl)⟩ (Nat.le_of_ble_eq_true rfl) (Nat.le_of_ble_eq_true rfl) (fun r w' hq => ?_)
        obtain ⟨rfl, hs3⟩ := hq
        refine g_iinc (j := 1) (v := nI (n + 1)) (lv' := [(1, _), (3, _), (0, _), (2, _)]) d_R_storeAll_35 rfl (nI_1 n) (by decide) rfl ?_
        refine g_aload_n (j := 2) d_R_storeAll_38 rfl ?_
        refine g_iload_n (j := 3) d_R_storeAll_39 rfl ?_
        refine g_callV (c_R_firstOf hs3 f hst.1.2.1) ok_R_firstOf lk_R_128 in_R_firstOf se_R_firstOf hs3.obj rfl d_R_storeAll_40 rfl rfl (Nat.le_of_ble_eq_true rfl) ⟨(Nat.le_of_ble_eq_true rfl), (Nat.le_of_ble_eq_true rfl)⟩ (Nat.le_of_ble_eq_true rfl) (Nat.le_of_ble_eq_true rfl) (fun r w' hq => ?_)
        obtain ⟨rfl, rfl⟩ := hq
        refine g_istore_n (lv' := [(3, _), (1, _), (0, _), (2, _)]) d_R_storeAll_43 (by decide) rfl ?_
        refine g_goto (tgt := 18) d_R_storeAll_44 (by decide) ?_
        have e9 : inL f (N + 1) t = ((inL f N (s_R_store t (wN t - 1) (foN t f))).1, (inL f N (s_R_store t (wN t - 1) (foN t f))).2 + 1) := by
          rw [inL, if_neg h1, if_neg h2]
        rw [e9] at hK
        refine ih (s_R_store t (wN t - 1) (foN t f)) (n + 1) (by rw [hst.2]; omega) hst.1 hs3 (fun w8 hs8 v3 => ?_)
        have h7 := hK w8 hs8 v3
        rw [show n + ((inL f N (s_R_store t (wN t - 1) (foN t f))).2 + 1) = n + 1 + (inL f N (s_R_store t (wN t - 1) (foN t f))).2 by omega] at h7
        exact h7

set_option maxHeartbeats 4000000 in
set_option maxRecDepth 100000 in
theorem l_R_storeAll {E : gE} {ad : Nat → Nat} {t : tR} (hwf : wfR t) {A : Nat → Prop} : ∀ (r n : Nat) {w : wd}, SysR E ad (saL t n).1 w → r + n = fN t → G E y_R_storeAll (rmD 3 0 0, A, (fun r w' => r = some (.int (s_R_storeAll t).2) ∧ SysR E ad (s_R_storeAll t).1 w'), fun _ => True) 4 [(2, .int (nI n)), (1, .int (nI (saL t n).2)), (0, .ref (ad 0))] [] w 0 0 := by
  have hf4 := hwf.2.2.2.1.2
  intro r
  induction r with
  | zero =>
    intro n w hs hr
    have hw9 := saL_wf hwf n
    have hz : (saL t n).1.1 1 = nI (fN t) := (hw9.2 1 (by decide) (by decide)).trans hwf.2.2.2.1.1
    refine g_iload_n (j := 0) d_R_storeAll_4 rfl ?_
    refine g_aload_n (j := 2) d_R_storeAll_5 rfl ?_
    refine g_get d_R_storeAll_6 f_R_87 hs.obj rfl ?_
    refine g_norm (y := nI (fN t)) hz ?_
    refine g_icmp_ge (tgt := 53) d_R_storeAll_9 (by decide) (fun h1 => ?_) (fun h => absurd ((nI_leI (by omega) (by omega)).mpr (by omega)) h)
    have he : n = fN t := by omega
    subst he
    refine g_iload_n (j := 1) d_R_storeAll_53 rfl ?_
    exact g_ireturn d_R_storeAll_54 rfl (Nat.le_of_ble_eq_true rfl) (Nat.le_of_ble_eq_true rfl) ⟨rfl, hs⟩
  | succ r ih =>
    intro n w hs hr
    have hw9 := saL_wf hwf n
    have hz : (saL t n).1.1 1 = nI (fN t) := (hw9.2 1 (by decide) (by decide)).trans hwf.2.2.2.1.1
    refine g_iload_n (j := 0) d_R_storeAll_4 rfl ?_
    refine g_aload_n (j := 2) d_R_storeAll_5 rfl ?_
    refine g_get d_R_storeAll_6 f_R_87 hs.obj rfl ?_
    refine g_norm (y := nI (fN t)) hz ?_
    refine g_icmp_ge (tgt := 53) d_R_storeAll_9 (by decide) (fun h => absurd h (fun z => absurd ((nI_leI (by omega) (by omega)).mp z) (by omega))) (fun h1 => ?_)
    refine g_aload_n (j := 2) d_R_storeAll_12 rfl ?_
    refine g_iload_n (j := 0) d_R_storeAll_13 rfl ?_
    refine g_callV (c_R_firstOf hs n hw9.1.2.1) ok_R_firstOf lk_R_128 in_R_firstOf se_R_firstOf hs.obj rfl d_R_storeAll_14 rfl rfl (Nat.le_of_ble_eq_true rfl) ⟨(Nat.le_of_ble_eq_true rfl), (Nat.le_of_ble_eq_true rfl)⟩ (Nat.le_of_ble_eq_true rfl) (Nat.le_of_ble_eq_true rfl) (fun r w' hq => ?_)
    obtain ⟨rfl, rfl⟩ := hq
    refine g_istore_n (lv' := [(3, _), (2, _), (1, _), (0, _)]) d_R_storeAll_17 (by decide) rfl ?_
    refine g_lv [0, 2, 3, 1] rfl ?_
    refine l_R_in n (by omega) rfl (wN (saL t n).1) _ _ (Nat.le_refl _) hw9.1 hs (fun w8 hs8 v3 => ?_)
    refine g_iinc (j := 3) (v := nI (n + 1)) (lv' := [(2, _), (3, _), (1, _), (0, _)]) d_R_storeAll_47 rfl (nI_1 n) (by decide) rfl ?_
    refine g_goto (tgt := 4) d_R_storeAll_50 (by decide) ?_
    refine g_lv [0, 2, 3] rfl ?_
    exact ih (n + 1) hs8 (by omega)

set_option maxHeartbeats 4000000 in
set_option maxRecDepth 100000 in
theorem c_R_storeAll {E : gE} {w : wd} {ad : Nat → Nat} {t : tR} (hs : SysR E ad t w) (hwf : wfR t) : Cn E y_R_storeAll 3 0 0 [.ref (ad 0)] w (fun r w' => r = some (.int (s_R_storeAll t).2) ∧ SysR E ad (s_R_storeAll t).1 w') := by
  refine Cn.of (by decide) (Nat.le_of_ble_eq_true rfl) (fun A => ?_)
  show G E y_R_storeAll _ 0 [(0, .ref (ad 0))] [] w 0 0
  refine g_iconst (v := 0) d_R_storeAll_0 (by decide) ?_
  refine g_istore_n (lv' := [(1, _), (0, _)]) d_R_storeAll_1 (by decide) rfl ?_
  refine g_iconst (v := 0) d_R_storeAll_2 (by decide) ?_
  refine g_istore_n (lv' := [(2, _), (1, _), (0, _)]) d_R_storeAll_3 (by decide) rfl ?_
  exact l_R_storeAll hwf (fN t) 0 hs (by omega)
