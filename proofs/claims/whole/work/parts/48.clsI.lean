/-- the cells, once one file's list has changed -/
theorem SysC.lists {E : gE} {K : kC} {L L' : lyC} {t t' : tC} {w w' : wd} (hs : SysC E K L t w) {f : Nat} (hf : f < K.2.1) (hL : ∀ x : nmC, x.1 < 15 → L'.1 x = L.1 x) (hLg : ∀ g, g ≠ f → L'.1 (15, g, 0) = L.1 (15, g, 0) ∧ L'.2.1 g = L.2.1 g ∧ L'.2.2 g = L.2.2 g) (hLw : ∀ g j, g ≠ f → g ≠ 4 → L'.1 (16, g, j) = L.1 (16, g, j)) (ht : t'.1 = t.1) (hn : t'.2.2 = t.2.2) (htg : ∀ g, g ≠ f → g ≠ 4 → t'.2.1 g = t.2.1 g) (ho : ∀ (b : Nat) (e : va_E), wh w b e → b ≠ L.1 (14, f, 0) → (0 < L.2.2 f → b ≠ L.1 (15, f, 0)) → wh w' b e) (h14 : wh w' (L.1 (14, f, 0)) (ceC E K L' t' (14, f, 0))) (h15 : 0 < L'.2.2 f → wh w' (L'.1 (15, f, 0)) (ceC E K L' t' (15, f, 0))) (h16 : ∀ j, j < (t'.2.1 f).length → wh w' (L'.1 (16, f, j)) (ceC E K L' t' (16, f, j))) (h4 : ∀ j, j < (t'.2.1 4).length → wh w' (L'.1 (16, 4, j)) (ceC E K L' t' (16, 4, j))) : ∀ x, vaC K L' t' x → wh w' (L'.1 x) (ceC E K L' t' x) := by
  have hK := hs.nc
  have hinj := hs.2.1
  have v14 : vaC K L t (14, f, 0) := show vaC K L t (14, f, 0) from ⟨hf, rfl⟩
  have hoth : ∀ x, vaC K L t x → x ≠ (14, f, 0) → x ≠ (15, f, 0) → wh w' (L.1 x) (ceC E K L t x) := fun x hx n1 n2 => ho _ _ (hs.1 x hx) (fun z => n1 (hinj x _ hx v14 z)) (fun hc z => n2 (hinj x _ hx (show vaC K L t (15, f, 0) from ⟨hf, rfl, hc⟩) z))
  intro x hx
  by_cases hk : x.1 < 14
  · obtain ⟨e1, e2⟩ := ceC_nl E K hL ht hn x hk
    rw [hL x (by omega), e2]
    exact hoth x (e1 hx) (fun z => by rw [z] at hk; exact absurd hk (show ¬ 14 < 14 by decide)) (fun z => by rw [z] at hk; exact absurd hk (show ¬ 15 < 14 by decide))
  · obtain ⟨a, b, c⟩ := x
    match a, hk, hx with
    | 0, hk, _ => exact absurd (show 0 < 14 by decide) hk
    | 1, hk, _ => exact absurd (show 1 < 14 by decide) hk
    | 2, hk, _ => exact absurd (show 2 < 14 by decide) hk
    | 3, hk, _ => exact absurd (show 3 < 14 by decide) hk
    | 4, hk, _ => exact absurd (show 4 < 14 by decide) hk
    | 5, hk, _ => exact absurd (show 5 < 14 by decide) hk
    | 6, hk, _ => exact absurd (show 6 < 14 by decide) hk
    | 7, hk, _ => exact absurd (show 7 < 14 by decide) hk
    | 8, hk, _ => exact absurd (show 8 < 14 by decide) hk
    | 9, hk, _ => exact absurd (show 9 < 14 by decide) hk
    | 10, hk, _ => exact absurd (show 10 < 14 by decide) hk
    | 11, hk, _ => exact absurd (show 11 < 14 by decide) hk
    | 12, hk, _ => exact absurd (show 12 < 14 by decide) hk
    | 13, hk, _ => exact absurd (show 13 < 14 by decide) hk
    | 14, _, hx =>
      have q : b < K.2.1 ∧ c = 0 := hx
      obtain ⟨q1, rfl⟩ := q
      rw [hL (14, b, 0) (show 14 < 15 by decide)]
      by_cases hb : b = f
      · subst hb
        exact h14
      · obtain ⟨g1, g2, g3⟩ := hLg b hb
        have e : ceC E K L' t' (14, b, 0) = ceC E K L t (14, b, 0) := by
          show Sum.inr (9, [Value.ref (elC E L' b), Value.int (nI (t'.2.1 b).length), Value.int (L'.2.1 b)]) = Sum.inr (9, [Value.ref (elC E L b), Value.int (nI (t.2.1 b).length), Value.int (L.2.1 b)])
          unfold elC
          rw [g1, g2, g3, htg b hb (by omega)]
        rw [e]
        exact hoth (14, b, 0) (show vaC K L t (14, b, 0) from ⟨q1, rfl⟩) (fun z => hb (congrArg (fun x : nmC => x.2.1) z)) (fun z => by cases z)
    | 15, _, hx =>
      have q : b < K.2.1 ∧ c = 0 ∧ 0 < L'.2.2 b := hx
      obtain ⟨q1, rfl, q3⟩ := q
      by_cases hb : b = f
      · subst hb
        exact h15 q3
      · obtain ⟨g1, g2, g3⟩ := hLg b hb
        have e : ceC E K L' t' (15, b, 0) = ceC E K L t (15, b, 0) := by
          show Sum.inl (E.2.2.1 6, L'.2.2 b, Sum.inr (Sum.inr (Sum.inr (Sum.inr (fun i => if i < (t'.2.1 b).length then some (L'.1 (16, b, i)) else none))))) = Sum.inl (E.2.2.1 6, L.2.2 b, Sum.inr (Sum.inr (Sum.inr (Sum.inr (fun i => if i < (t.2.1 b).length then some (L.1 (16, b, i)) else none)))))
          rw [g3, htg b hb (by omega), funext (fun i => by rw [hLw b i hb (by omega)] : ∀ i, (if i < (t.2.1 b).length then some (L'.1 (16, b, i)) else none) = if i < (t.2.1 b).length then some (L.1 (16, b, i)) else none)]
        rw [e, g1]
        rw [g3] at q3
        exact hoth (15, b, 0) (show vaC K L t (15, b, 0) from ⟨q1, rfl, q3⟩) (fun z => by cases z) (fun z => hb (congrArg (fun x : nmC => x.2.1) z))
    | 16, _, hx =>
      have q : (b < K.2.1 ∨ b = 4) ∧ c < (t'.2.1 b).length := hx
      by_cases hb : b = f
      · subst hb
        exact h16 c q.2
      · by_cases hb4 : b = 4
        · subst hb4
          exact h4 c q.2
        · have e : ceC E K L' t' (16, b, c) = ceC E K L t (16, b, c) := by
            show Sum.inr (8, wL ((t'.2.1 b).getD c (0, 0, 0))) = Sum.inr (8, wL ((t.2.1 b).getD c (0, 0, 0)))
            rw [htg b hb hb4]
          rw [e, hLw b c hb hb4]
          rw [htg b hb hb4] at q
          exact hoth (16, b, c) (show vaC K L t (16, b, c) from q) (fun z => by cases z) (fun z => by cases z)
    | a + 17, _, hx =>
      have q : b = 0 ∧ c = 0 ∧ a + 17 < 17 := hx
      omega

/-- a list is emptied -/
def clrL (L : lyC) (f : Nat) : lyC := (L.1, upd L.2.1 f (L.2.1 f + 1), L.2.2)
def clrC (t : tC) (f : Nat) : tC := (t.1, fun g => if g = f then [] else t.2.1 g, t.2.2)
theorem SysC.clr {E : gE} {K : kC} {L : lyC} {t : tC} {w w' : wd} (hs : SysC E K L t w) {f : Nat} (hf : f < K.2.1) (ho : ∀ (b : Nat) (e : va_E), wh w b e → b ≠ L.1 (14, f, 0) → (0 < L.2.2 f → b ≠ L.1 (15, f, 0)) → wh w' b e) (h14 : wh w' (L.1 (14, f, 0)) (.inr (9, [.ref (elC E L f), .int 0, .int (L.2.1 f + 1)]))) (h15 : 0 < L.2.2 f → wh w' (L.1 (15, f, 0)) (.inl (E.2.2.1 6, L.2.2 f, .inr (.inr (.inr (.inr (fun _ => none))))))) : SysC E K (clrL L f) (clrC t f) w' := by
  have hK := hs.nc
  have ef : (clrC t f).2.1 f = [] := if_pos rfl
  have em : (clrL L f).2.1 f = L.2.1 f + 1 := if_pos rfl
  have eo : ∀ g, g ≠ f → (clrC t f).2.1 g = t.2.1 g := fun g hg => if_neg hg
  have hvv : ∀ x, vaC K (clrL L f) (clrC t f) x → vaC K L t x := by
    intro x hx
    by_cases hk : x.1 < 14
    · exact (ceC_nl E K (L := L) (L' := clrL L f) (t := t) (t' := clrC t f) (fun _ _ => rfl) rfl rfl x hk).1 hx
    · obtain ⟨a, b, c⟩ := x
      match a, hk, hx with
      | 0, hk, _ => exact absurd (show 0 < 14 by decide) hk
      | 1, hk, _ => exact absurd (show 1 < 14 by decide) hk
      | 2, hk, _ => exact absurd (show 2 < 14 by decide) hk
      | 3, hk, _ => exact absurd (show 3 < 14 by decide) hk
      | 4, hk, _ => exact absurd (show 4 < 14 by decide) hk
      | 5, hk, _ => exact absurd (show 5 < 14 by decide) hk
      | 6, hk, _ => exact absurd (show 6 < 14 by decide) hk
      | 7, hk, _ => exact absurd (show 7 < 14 by decide) hk
      | 8, hk, _ => exact absurd (show 8 < 14 by decide) hk
      | 9, hk, _ => exact absurd (show 9 < 14 by decide) hk
      | 10, hk, _ => exact absurd (show 10 < 14 by decide) hk
      | 11, hk, _ => exact absurd (show 11 < 14 by decide) hk
      | 12, hk, _ => exact absurd (show 12 < 14 by decide) hk
      | 13, hk, _ => exact absurd (show 13 < 14 by decide) hk
      | 14, _, hx => exact hx
      | 15, _, hx => exact hx
      | 16, _, hx =>
        have q : (b < K.2.1 ∨ b = 4) ∧ c < ((clrC t f).2.1 b).length := hx
        by_cases hb : b = f
        · rw [hb, ef] at q
          exact absurd q.2 (by simp)
        · rw [eo b hb] at q
          exact q
      | a + 17, _, hx =>
        have q : b = 0 ∧ c = 0 ∧ a + 17 < 17 := hx
        omega
  refine hs.ren id hvv (fun _ _ _ _ h => h) (fun _ _ => rfl) (hs.lists hf (fun _ _ => rfl) (fun g hg => ⟨rfl, if_neg hg, rfl⟩) (fun _ _ _ _ => rfl) rfl rfl (fun g hg _ => eo g hg) ho ?_ ?_ (fun j hj => by rw [ef] at hj; exact absurd hj (by simp)) ?_) hs.pn (fun g hg => ?_)
  · show wh w' (L.1 (14, f, 0)) (.inr (9, [.ref (elC E L f), .int (nI ((clrC t f).2.1 f).length), .int ((clrL L f).2.1 f)]))
    rw [ef, em]
    exact h14
  · intro hc
    show wh w' (L.1 (15, f, 0)) (.inl (E.2.2.1 6, L.2.2 f, .inr (.inr (.inr (.inr (fun i => if i < ((clrC t f).2.1 f).length then some (L.1 (16, f, i)) else none))))))
    rw [ef]
    exact h15 hc
  · intro j hj
    rw [eo 4 (by omega)] at hj
    have e : ceC E K (clrL L f) (clrC t f) (16, 4, j) = ceC E K L t (16, 4, j) := by
      show Sum.inr (8, wL (((clrC t f).2.1 4).getD j (0, 0, 0))) = Sum.inr (8, wL ((t.2.1 4).getD j (0, 0, 0)))
      rw [eo 4 (by omega)]
    rw [e]
    have v : vaC K L t (16, 4, j) := show vaC K L t (16, 4, j) from ⟨Or.inr rfl, hj⟩
    exact ho _ _ (hs.1 _ v) (fun z => by cases hs.2.1 _ _ v (show vaC K L t (14, f, 0) from ⟨hf, rfl⟩) z) (fun hc z => by cases hs.2.1 _ _ v (show vaC K L t (15, f, 0) from ⟨hf, rfl, hc⟩) z)
  · by_cases hgf : g = f
    · subst hgf
      rw [ef]
      exact ⟨by simp, (hs.2.2.2.2 g hg).2⟩
    · rw [eo g hgf]
      exact hs.2.2.2.2 g hg

set_option maxHeartbeats 4000000 in
set_option maxRecDepth 100000 in
theorem l_A_clear {E : gE} {w : wd} {K : kC} {L : lyC} {t : tC} (hs : SysC E K L t w) (f : Nat) (hf : f < K.2.1) {A : Nat → Prop} : ∀ (r i : Nat) {w' : wd}, (∀ (b : Nat) (e : va_E), wh w b e → b ≠ L.1 (14, f, 0) → (0 < L.2.2 f → b ≠ L.1 (15, f, 0)) → wh w' b e) → wh w' (L.1 (14, f, 0)) (.inr (9, [.ref (elC E L f), .int 0, .int (L.2.1 f + 1)])) → (0 < L.2.2 f → wh w' (L.1 (15, f, 0)) (.inl (E.2.2.1 6, L.2.2 f, .inr (.inr (.inr (.inr ((fun j => if j < (t.2.1 f).length then (if j < i then none else some (L.1 (16, f, j))) else none)))))))) → r + i = (t.2.1 f).length → G E y_A_clear (rmD 1 0 0, A, (fun r w' => r = none ∧ SysC E K (clrL L f) (clrC t f) w'), fun _ => True) 27 [(3, .int (nI i)), (2, .int (nI (t.2.1 f).length)), (1, .ref (elC E L f)), (0, .ref (L.1 (14, f, 0)))] [] w' 0 0 := by
  have h5 := hs.2.2.2.2 f hf
  have nle : 0 < L.2.2 f → L.1 (14, f, 0) ≠ L.1 (15, f, 0) := fun hc z => by cases hs.2.1 _ _ (show vaC K L t (14, f, 0) from ⟨hf, rfl⟩) (show vaC K L t (15, f, 0) from ⟨hf, rfl, hc⟩) z
  intro r
  induction r with
  | zero =>
    intro i w' ho hl he hr
    refine g_iload_n (j := 0) d_A_clear_27 rfl ?_
    refine g_iload_n (j := 1) d_A_clear_28 rfl ?_
    refine g_icmp_ge (tgt := 42) d_A_clear_29 (by decide) (fun _ => ?_) (fun h => absurd ((nI_leI (by omega) (by omega)).mpr (by omega)) h)
    refine g_return d_A_clear_42 rfl (Nat.le_of_ble_eq_true rfl) (Nat.le_of_ble_eq_true rfl) ⟨rfl, hs.clr hf ho hl (fun hc => ?_)⟩
    have h9 := he hc
    have e : (fun j => if j < (t.2.1 f).length then (if j < i then none else some (L.1 (16, f, j))) else none) = fun _ => none := by
      funext j
      by_cases hj : j < (t.2.1 f).length
      · rw [if_pos hj, if_pos (by omega)]
      · rw [if_neg hj]
    rw [e] at h9
    exact h9
  | succ r ih =>
    intro i w' ho hl he hr
    have hc : 0 < L.2.2 f := by omega
    have hel : elC E L f = L.1 (15, f, 0) := if_neg (by omega)
    refine g_iload_n (j := 0) d_A_clear_27 rfl ?_
    refine g_iload_n (j := 1) d_A_clear_28 rfl ?_
    refine g_icmp_ge (tgt := 42) d_A_clear_29 (by decide) (fun h => absurd ((nI_leI (by omega) (by omega)).mp h) (by omega)) (fun _ => ?_)
    refine g_aload_n (j := 2) d_A_clear_32 rfl ?_
    refine g_iload_n (j := 0) d_A_clear_33 rfl ?_
    refine g_null d_A_clear_34 ?_
    refine g_eq (st' := [.null, .int (nI i), .ref (L.1 (15, f, 0))]) rfl (by rw [hel]) rfl ?_
    refine g_aastN (t0 := 6) (j := i) d_A_clear_35 (he hc) rfl rfl (by omega) (by omega) ?_
    refine g_iinc (j := 0) (v := nI (i + 1)) (lv' := [(3, _), (2, _), (1, _), (0, _)]) d_A_clear_36 rfl (nI_1 i) (by decide) rfl ?_
    refine g_goto (tgt := 27) d_A_clear_39 (by decide) ?_
    refine ih (i + 1) (fun b e hb h1 h2 => (ho b e hb h1 h2).un (h2 hc)) (hl.un (nle hc)) (fun _ => ?_) (by omega)
    have e : va_up (fun j => if j < (t.2.1 f).length then (if j < i then none else some (L.1 (16, f, j))) else none) i none = (fun j => if j < (t.2.1 f).length then (if j < i + 1 then none else some (L.1 (16, f, j))) else none) := by
      funext j
      by_cases hj : j = i
      · subst hj
        rw [va_up_self, if_pos (by omega), if_pos (by omega)]
      · rw [va_up_ne _ _ hj]
        by_cases hjl : j < (t.2.1 f).length
        · rw [if_pos hjl, if_pos hjl]
          by_cases hji : j < i
          · rw [if_pos hji, if_pos (by omega)]
          · rw [if_neg hji, if_neg (by omega)]
        · rw [if_neg hjl, if_neg hjl]
    rw [← e]
    exact (he hc).us
set_option maxHeartbeats 4000000 in
set_option maxRecDepth 100000 in
theorem c_A_clear {E : gE} {w : wd} {K : kC} {L : lyC} {t : tC} (hs : SysC E K L t w) (f : Nat) (hf : f < K.2.1) : Cn E y_A_clear 1 0 0 [.ref (L.1 (14, f, 0))] w (fun r w' => r = none ∧ SysC E K (clrL L f) (clrC t f) w') := by
  refine Cn.of (by decide) (Nat.le_of_ble_eq_true rfl) (fun A => ?_)
  show G E y_A_clear _ 0 [(0, .ref (L.1 (14, f, 0)))] [] w 0 0
  have h5 := hs.2.2.2.2 f hf
  have nle : 0 < L.2.2 f → L.1 (15, f, 0) ≠ L.1 (14, f, 0) := fun hc z => by cases hs.2.1 _ _ (show vaC K L t (15, f, 0) from ⟨hf, rfl, hc⟩) (show vaC K L t (14, f, 0) from ⟨hf, rfl⟩) z
  have h0 := hs.lst hf
  refine g_aload_n (j := 0) d_A_clear_0 rfl ?_
  refine g_dup d_A_clear_1 rfl ?_
  refine g_get d_A_clear_2 f_A_63 h0 rfl ?_
  refine g_iconst (v := 1) d_A_clear_5 (by decide) ?_
  refine g_iadd d_A_clear_6 ?_
  refine g_put d_A_clear_7 fw_A_63 (Or.inl rfl) h0 rfl rfl (Nat.le_of_ble_eq_true rfl) ?_
  have h1 := h0.us (e := .inr (9, [.ref (elC E L f), .int (nI (t.2.1 f).length), .int (L.2.1 f + 1)]))
  refine g_aload_n (j := 0) d_A_clear_10 rfl ?_
  refine g_get d_A_clear_11 f_A_9 h1 rfl ?_
  refine g_astore_n (lv' := [(1, _), (0, _)]) d_A_clear_14 (by decide) rfl ?_
  refine g_aload_n (j := 1) d_A_clear_15 rfl ?_
  refine g_get d_A_clear_16 f_A_48 h1 rfl ?_
  refine g_istore_n (lv' := [(2, _), (1, _), (0, _)]) d_A_clear_19 (by decide) rfl ?_
  refine g_aload_n (j := 2) d_A_clear_20 rfl ?_
  refine g_iconst (v := 0) d_A_clear_21 (by decide) ?_
  refine g_dup_x1 d_A_clear_22 rfl rfl ?_
  refine g_put d_A_clear_23 fw_A_48 (Or.inl rfl) h1 rfl rfl (Nat.le_of_ble_eq_true rfl) ?_
  refine g_istore_n (lv' := [(3, _), (2, _), (1, _), (0, _)]) d_A_clear_26 (by decide) rfl ?_
  refine l_A_clear hs f hf (t.2.1 f).length 0 (fun b e hb hn _ => (hb.un hn).un hn) h1.us (fun hc => ?_) (by omega)
  have h9 := ((hs.el hf hc).un (e := .inr (9, [.ref (elC E L f), .int (nI (t.2.1 f).length), .int (L.2.1 f + 1)])) (nle hc)).un (e := .inr (9, [.ref (elC E L f), .int 0, .int (L.2.1 f + 1)])) (nle hc)
  have e : (fun j => if j < (t.2.1 f).length then (if j < 0 then none else some (L.1 (16, f, j))) else none) = fun j => if j < (t.2.1 f).length then some (L.1 (16, f, j)) else none := by
    funext j
    rw [if_neg (c := j < 0) (by omega)]
  rw [e]
  exact h9
