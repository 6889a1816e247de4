/-- the first of a list is taken out: it lies in the hand -/
def rmR (f : Nat) (x : nmC) : nmC := if x = (16, 4, 0) then (16, f, 0) else if x.1 = 16 ∧ x.2.1 = f then (16, f, x.2.2 + 1) else x
def rmL (L : lyC) (f : Nat) : lyC := (fun x => L.1 (rmR f x), upd L.2.1 f (L.2.1 f + 1), L.2.2)
def rmC (t : tC) (f : Nat) : tC := (t.1, fun g => if g = 4 then [(t.2.1 f).getD 0 (0, 0, 0)] else if g = f then (t.2.1 f).tail else t.2.1 g, t.2.2)
theorem SysC.rm {E : gE} {K : kC} {L : lyC} {t : tC} {w w' : wd} (hs : SysC E K L t w) {f m : Nat} (hf : f < K.2.1) (hm : (t.2.1 f).length = m + 1) (ho : ∀ (b : Nat) (e : va_E), wh w b e → b ≠ L.1 (14, f, 0) → (0 < L.2.2 f → b ≠ L.1 (15, f, 0)) → wh w' b e) (h14 : wh w' (L.1 (14, f, 0)) (.inr (9, [.ref (elC E L f), .int (nI m), .int (L.2.1 f + 1)]))) (h15 : wh w' (L.1 (15, f, 0)) (.inl (E.2.2.1 6, L.2.2 f, .inr (.inr (.inr (.inr (fun i => if i < m then some (L.1 (16, f, i + 1)) else none))))))) : SysC E K (rmL L f) (rmC t f) w' := by
  have hK := hs.nc
  have h5 := hs.2.2.2.2 f hf
  have hcap : 0 < L.2.2 f := by omega
  have v14 : vaC K L t (14, f, 0) := show vaC K L t (14, f, 0) from ⟨hf, rfl⟩
  have v15 : vaC K L t (15, f, 0) := show vaC K L t (15, f, 0) from ⟨hf, rfl, hcap⟩
  have v16 : ∀ j, j < (t.2.1 f).length → vaC K L t (16, f, j) := fun j hj => show vaC K L t (16, f, j) from ⟨Or.inl hf, hj⟩
  have e4 : (rmC t f).2.1 4 = [(t.2.1 f).getD 0 (0, 0, 0)] := rfl
  have ef : (rmC t f).2.1 f = (t.2.1 f).tail := (if_neg (by omega)).trans (if_pos rfl)
  have eo : ∀ g, g ≠ f → g ≠ 4 → (rmC t f).2.1 g = t.2.1 g := fun g h1 h2 => (if_neg h2).trans (if_neg h1)
  have hlf : ((rmC t f).2.1 f).length = m := by
    rw [ef, List.length_tail]
    omega
  have r4 : rmR f (16, 4, 0) = (16, f, 0) := if_pos rfl
  have rf : ∀ j, rmR f (16, f, j) = (16, f, j + 1) := fun j => (if_neg (fun z => by have := congrArg (fun x : nmC => x.2.1) z; dsimp only at this; omega)).trans (if_pos ⟨rfl, rfl⟩)
  have rl : ∀ x : nmC, x.1 < 16 → rmR f x = x := fun x hx => (if_neg (fun z => by rw [z] at hx; exact absurd hx (show ¬ 16 < 16 by decide))).trans (if_neg (fun z => by omega))
  have ro : ∀ g j, g ≠ f → g ≠ 4 → rmR f (16, g, j) = (16, g, j) := fun g j h1 h2 => (if_neg (fun z => h2 (congrArg (fun x : nmC => x.2.1) z))).trans (if_neg (fun z => h1 z.2))
  have hL : ∀ x : nmC, x.1 < 15 → (rmL L f).1 x = L.1 x := fun x hx => congrArg L.1 (rl x (by omega))
  have shape : ∀ x, vaC K (rmL L f) (rmC t f) x → vaC K L t (rmR f x) ∧ (x.1 < 16 ∨ x = (16, 4, 0) ∨ (∃ j, x = (16, f, j)) ∨ ∃ g j, x = (16, g, j) ∧ g ≠ f ∧ g ≠ 4) := by
    intro x hx
    by_cases hk : x.1 < 14
    · rw [rl x (by omega)]
      exact ⟨(ceC_nl E K (t := t) (t' := rmC t f) hL rfl rfl x hk).1 hx, Or.inl (by omega)⟩
    · obtain ⟨a, b, c⟩ := x
      match a, hk, hx with
      | 0, hk, _ => exact absurd (show 0 < 14 by decide) hk
      | 1, hk, _ => exact absurd (show 1 < 14 by decide) hk
      | 2, hk, _ => exact absurd (show 2 < 14 by decide) hk
      | 3, hk, _ => exact absurd (show 3 < 14 by decide) hk
      | 4, hk, _ => exact absurd (show 4 < 14 by decide) hk
      | 5, hk, _ => exact absurd (show 5 < 14 by decide) hk
      | 6, hk, _ => exact absurd (show 6 < 14 by decide) hk
      | 7, hk, _ => exact absurd (show 7 < 14 by decide) hk
      | 8, hk, _ => exact absurd (show 8 < 14 by decide) hk
      | 9, hk, _ => exact absurd (show 9 < 14 by decide) hk
      | 10, hk, _ => exact absurd (show 10 < 14 by decide) hk
      | 11, hk, _ => exact absurd (show 11 < 14 by decide) hk
      | 12, hk, _ => exact absurd (show 12 < 14 by decide) hk
      | 13, hk, _ => exact absurd (show 13 < 14 by decide) hk
      | 14, _, hx =>
        rw [rl _ (show 14 < 16 by decide)]
        exact ⟨hx, Or.inl (show 14 < 16 by decide)⟩
      | 15, _, hx =>
        rw [rl _ (show 15 < 16 by decide)]
        exact ⟨hx, Or.inl (show 15 < 16 by decide)⟩
      | 16, _, hx =>
        have q : (b < K.2.1 ∨ b = 4) ∧ c < ((rmC t f).2.1 b).length := hx
        by_cases hb4 : b = 4
        · subst hb4
          rw [e4] at q
          have hc0 : c = 0 := by
            have := q.2
            simp at this
            exact this
          subst hc0
          rw [r4]
          exact ⟨v16 0 (by omega), Or.inr (Or.inl rfl)⟩
        · by_cases hb : b = f
          · subst hb
            rw [hlf] at q
            rw [rf]
            exact ⟨v16 (c + 1) (by omega), Or.inr (Or.inr (Or.inl ⟨c, rfl⟩))⟩
          · rw [eo b hb hb4] at q
            rw [ro b c hb hb4]
            exact ⟨q, Or.inr (Or.inr (Or.inr ⟨b, c, rfl, hb, hb4⟩))⟩
      | a + 17, _, hx =>
        have q : b = 0 ∧ c = 0 ∧ a + 17 < 17 := hx
        omega
  have hown : ∀ g j, vaC K L t (16, g, j) → wh w' (L.1 (16, g, j)) (ceC E K L t (16, g, j)) := fun g j v => ho _ _ (hs.1 _ v) (fun z => by cases hs.2.1 _ _ v v14 z) (fun _ z => by cases hs.2.1 _ _ v v15 z)
  refine hs.ren (rmR f) (fun x hx => (shape x hx).1) ?_ (fun _ _ => rfl) (hs.lists hf hL (fun g hg => ⟨congrArg L.1 (rl _ (show 15 < 16 by decide)), if_neg hg, rfl⟩) (fun g j h1 h2 => congrArg L.1 (ro g j h1 h2)) rfl rfl eo ho ?_ ?_ ?_ ?_) hs.pn (fun g hg => ?_)
  · intro x y hx hy hxy
    rcases (shape x hx).2 with s1 | s1 | ⟨j, s1⟩ | ⟨g, j, s1, s2, s3⟩ <;> rcases (shape y hy).2 with u1 | u1 | ⟨j', u1⟩ | ⟨g', j', u1, u2, u3⟩
    · rw [rl x s1, rl y u1] at hxy
      exact hxy
    · rw [rl x s1, u1, r4] at hxy
      rw [hxy] at s1
      exact absurd s1 (show ¬ 16 < 16 by decide)
    · rw [rl x s1, u1, rf] at hxy
      rw [hxy] at s1
      exact absurd s1 (show ¬ 16 < 16 by decide)
    · rw [rl x s1, u1, ro g' j' u2 u3] at hxy
      rw [hxy] at s1
      exact absurd s1 (show ¬ 16 < 16 by decide)
    · rw [s1, r4, rl y u1] at hxy
      rw [← hxy] at u1
      exact absurd u1 (show ¬ 16 < 16 by decide)
    · rw [s1, u1]
    · rw [s1, u1, r4, rf] at hxy
      have := congrArg (fun x : nmC => x.2.2) hxy
      dsimp only at this
      omega
    · rw [s1, u1, r4, ro g' j' u2 u3] at hxy
      exact absurd (congrArg (fun x : nmC => x.2.1) hxy).symm u2
    · rw [s1, rf, rl y u1] at hxy
      rw [← hxy] at u1
      exact absurd u1 (show ¬ 16 < 16 by decide)
    · rw [s1, u1, r4, rf] at hxy
      have := congrArg (fun x : nmC => x.2.2) hxy
      dsimp only at this
      omega
    · rw [s1, u1, rf, rf] at hxy
      have := congrArg (fun x : nmC => x.2.2) hxy
      dsimp only at this
      rw [s1, u1, show j = j' by omega]
    · rw [s1, u1, rf, ro g' j' u2 u3] at hxy
      exact absurd (congrArg (fun x : nmC => x.2.1) hxy).symm u2
    · rw [s1, ro g j s2 s3, rl y u1] at hxy
      rw [← hxy] at u1
      exact absurd u1 (show ¬ 16 < 16 by decide)
    · rw [s1, u1, r4, ro g j s2 s3] at hxy
      exact absurd (congrArg (fun x : nmC => x.2.1) hxy) s2
    · rw [s1, u1, rf, ro g j s2 s3] at hxy
      exact absurd (congrArg (fun x : nmC => x.2.1) hxy) s2
    · rw [s1, u1, ro g j s2 s3, ro g' j' u2 u3] at hxy
      rw [s1, u1, hxy]
  · show wh w' (L.1 (14, f, 0)) (.inr (9, [.ref (elC E (rmL L f) f), .int (nI ((rmC t f).2.1 f).length), .int ((rmL L f).2.1 f)]))
    have q1 : elC E (rmL L f) f = elC E L f := by
      unfold elC
      rw [show (rmL L f).1 (15, f, 0) = L.1 (15, f, 0) from congrArg L.1 (rl _ (show 15 < 16 by decide))]
      rfl
    have q2 : (rmL L f).2.1 f = L.2.1 f + 1 := if_pos rfl
    rw [hlf, q1, q2]
    exact h14
  · intro _
    rw [show (rmL L f).1 (15, f, 0) = L.1 (15, f, 0) from congrArg L.1 (rl _ (show 15 < 16 by decide))]
    show wh w' (L.1 (15, f, 0)) (.inl (E.2.2.1 6, L.2.2 f, .inr (.inr (.inr (.inr (fun i => if i < ((rmC t f).2.1 f).length then some (L.1 (rmR f (16, f, i))) else none))))))
    rw [hlf, funext (fun i => by rw [rf] : ∀ i, (if i < m then some (L.1 (rmR f (16, f, i))) else none) = if i < m then some (L.1 (16, f, i + 1)) else none)]
    exact h15
  · intro j hj
    rw [hlf] at hj
    have e : ceC E K (rmL L f) (rmC t f) (16, f, j) = ceC E K L t (16, f, j + 1) := by
      show Sum.inr (8, wL (((rmC t f).2.1 f).getD j (0, 0, 0))) = Sum.inr (8, wL ((t.2.1 f).getD (j + 1) (0, 0, 0)))
      rw [ef]
      cases hl : t.2.1 f with
      | nil => rw [hl] at hm; exact absurd hm (by simp)
      | cons a l => rfl
    rw [e, show (rmL L f).1 (16, f, j) = L.1 (16, f, j + 1) from congrArg L.1 (rf j)]
    exact hown f (j + 1) (v16 (j + 1) (by omega))
  · intro j hj
    rw [e4] at hj
    have hj0 : j = 0 := by
      simp at hj
      exact hj
    subst hj0
    have e : ceC E K (rmL L f) (rmC t f) (16, 4, 0) = ceC E K L t (16, f, 0) := by
      show Sum.inr (8, wL (((rmC t f).2.1 4).getD 0 (0, 0, 0))) = Sum.inr (8, wL ((t.2.1 f).getD 0 (0, 0, 0)))
      rw [e4]
      rfl
    rw [e, show (rmL L f).1 (16, 4, 0) = L.1 (16, f, 0) from congrArg L.1 r4]
    exact hown f 0 (v16 0 (by omega))
  · by_cases hgf : g = f
    · subst hgf
      rw [hlf]
      exact ⟨by show m ≤ L.2.2 g; omega, h5.2⟩
    · rw [eo g hgf (by omega)]
      exact hs.2.2.2.2 g hg

theorem cpE_0 (f : Nat) (L : lyC) {n : Nat} (hn : n = 0 + 1) : va_up (fun i => if i < n then some (L.1 (16, f, i)) else none) 0 none = fun i => if i < 0 then some (L.1 (16, f, i + 1)) else none := by
  funext j
  by_cases hj : j = 0
  · subst hj
    rw [va_up_self, if_neg (by omega)]
  · rw [va_up_ne _ _ hj, if_neg (by omega), if_neg (by omega)]
theorem cpE_s (f : Nat) (L : lyC) {n m : Nat} (hn : n = m + 1) : va_up (va_cpy (fun i => if i < n then some (L.1 (16, f, i)) else none) (fun i => if i < n then some (L.1 (16, f, i)) else none) 1 0 m) m none = fun i => if i < m then some (L.1 (16, f, i + 1)) else none := by
  funext j
  by_cases hj : j = m
  · subst hj
    rw [va_up_self, if_neg (by omega)]
  · rw [va_up_ne _ _ hj]
    by_cases hl : j < m
    · rw [pk_cpy_in (by omega) (by omega), if_pos (by omega), if_pos hl, show 1 + (j - 0) = j + 1 by omega]
    · rw [pk_cpy_out (by omega), if_neg (by omega), if_neg hl]

set_option maxHeartbeats 4000000 in
set_option maxRecDepth 100000 in
theorem l_A_fastRemove {E : gE} {L : lyC} {t : tC} {w w1 : wd} (f m : Nat) {g : Nat → Option Nat} (nle : L.1 (14, f, 0) ≠ L.1 (15, f, 0)) (hmc : m < L.2.2 f) (hc9 : L.2.2 f ≤ 1000) (ho : ∀ (b : Nat) (e : va_E), wh w b e → b ≠ L.1 (14, f, 0) → b ≠ L.1 (15, f, 0) → wh w1 b e) (hl : wh w1 (L.1 (14, f, 0)) (.inr (9, [.ref (L.1 (15, f, 0)), .int (nI (t.2.1 f).length), .int (L.2.1 f + 1)]))) (he : wh w1 (L.1 (15, f, 0)) (.inl (E.2.2.1 6, L.2.2 f, .inr (.inr (.inr (.inr (g))))))) (hg : va_up g m none = fun i => if i < m then some (L.1 (16, f, i + 1)) else none) {A : Nat → Prop} : G E y_A_fastRemove (rmD 1 0 0, A, (fun r w' => r = none ∧ (∀ (b : Nat) (e : va_E), wh w b e → b ≠ L.1 (14, f, 0) → b ≠ L.1 (15, f, 0) → wh w' b e) ∧ wh w' (L.1 (14, f, 0)) (.inr (9, [.ref (L.1 (15, f, 0)), .int (nI m), .int (L.2.1 f + 1)])) ∧ wh w' (L.1 (15, f, 0)) (.inl (E.2.2.1 6, L.2.2 f, .inr (.inr (.inr (.inr (fun i => if i < m then some (L.1 (16, f, i + 1)) else none))))))), fun _ => True) 34 [(3, .int (nI m)), (0, .ref (L.1 (14, f, 0))), (1, .ref (L.1 (15, f, 0))), (2, .int (nI 0))] [] w1 0 0 := by
  refine g_aload_n (j := 2) d_A_fastRemove_34 rfl ?_
  refine g_aload_n (j := 1) d_A_fastRemove_35 rfl ?_
  refine g_iload_n (j := 0) d_A_fastRemove_36 rfl ?_
  refine g_dup_x1 d_A_fastRemove_37 rfl rfl ?_
  refine g_put d_A_fastRemove_38 fw_A_48 (Or.inl rfl) hl rfl rfl (Nat.le_of_ble_eq_true rfl) ?_
  refine g_null d_A_fastRemove_41 ?_
  have he2 := he.un (e := .inr (9, [.ref (L.1 (15, f, 0)), .int (nI m), .int (L.2.1 f + 1)])) (Ne.symm nle)
  refine g_aastN (t0 := 6) (j := m) d_A_fastRemove_42 he2 rfl rfl hmc (by omega) ?_
  refine g_return d_A_fastRemove_43 rfl (Nat.le_of_ble_eq_true rfl) (Nat.le_of_ble_eq_true rfl) ⟨rfl, fun b e hb h1 h2 => ((ho b e hb h1 h2).un h1).un h2, hl.us.un nle, ?_⟩
  rw [← hg]
  exact he2.us
set_option maxHeartbeats 4000000 in
set_option maxRecDepth 100000 in
theorem c_A_fastRemove {E : gE} {w : wd} {K : kC} {L : lyC} {t : tC} (hs : SysC E K L t w) (f m : Nat) (hf : f < K.2.1) (hm : (t.2.1 f).length = m + 1) : Cn E y_A_fastRemove 1 0 0 [.ref (L.1 (14, f, 0)), .ref (L.1 (15, f, 0)), .int (nI 0)] w (fun r w' => r = none ∧ (∀ (b : Nat) (e : va_E), wh w b e → b ≠ L.1 (14, f, 0) → b ≠ L.1 (15, f, 0) → wh w' b e) ∧ wh w' (L.1 (14, f, 0)) (.inr (9, [.ref (L.1 (15, f, 0)), .int (nI m), .int (L.2.1 f + 1)])) ∧ wh w' (L.1 (15, f, 0)) (.inl (E.2.2.1 6, L.2.2 f, .inr (.inr (.inr (.inr (fun i => if i < m then some (L.1 (16, f, i + 1)) else none))))))) := by
  refine Cn.of (by decide) (Nat.le_of_ble_eq_true rfl) (fun A => ?_)
  show G E y_A_fastRemove _ 0 [(0, .ref (L.1 (14, f, 0))), (1, .ref (L.1 (15, f, 0))), (2, .int (nI 0))] [] w 0 0
  have h5 := hs.2.2.2.2 f hf
  have hcap : 0 < L.2.2 f := by omega
  have hel : elC E L f = L.1 (15, f, 0) := if_neg (by omega)
  have v14 : vaC K L t (14, f, 0) := show vaC K L t (14, f, 0) from ⟨hf, rfl⟩
  have v15 : vaC K L t (15, f, 0) := show vaC K L t (15, f, 0) from ⟨hf, rfl, hcap⟩
  have nle : L.1 (14, f, 0) ≠ L.1 (15, f, 0) := fun z => by cases hs.2.1 _ _ v14 v15 z
  have h0 := hs.lst hf
  rw [hel] at h0
  refine g_aload_n (j := 0) d_A_fastRemove_0 rfl ?_
  refine g_dup d_A_fastRemove_1 rfl ?_
  refine g_get d_A_fastRemove_2 f_A_63 h0 rfl ?_
  refine g_iconst (v := 1) d_A_fastRemove_5 (by decide) ?_
  refine g_iadd d_A_fastRemove_6 ?_
  refine g_put d_A_fastRemove_7 fw_A_63 (Or.inl rfl) h0 rfl rfl (Nat.le_of_ble_eq_true rfl) ?_
  have h1 := h0.us (e := .inr (9, [.ref (L.1 (15, f, 0)), .int (nI (t.2.1 f).length), .int (L.2.1 f + 1)]))
  have e1 := (hs.el hf hcap).un (e := .inr (9, [.ref (L.1 (15, f, 0)), .int (nI (t.2.1 f).length), .int (L.2.1 f + 1)])) (Ne.symm nle)
  refine g_aload_n (j := 0) d_A_fastRemove_10 rfl ?_
  refine g_get d_A_fastRemove_11 f_A_48 h1 rfl ?_
  refine g_iconst (v := 1) d_A_fastRemove_14 (by decide) ?_
  refine g_isub d_A_fastRemove_15 ?_
  refine g_norm (y := nI m) (by rw [hm]; exact nI_pred m) ?_
  refine g_dup d_A_fastRemove_16 rfl ?_
  refine g_istore_n (lv' := [(3, _), (0, _), (1, _), (2, _)]) d_A_fastRemove_17 (by decide) rfl ?_
  refine g_iload_n (j := 3) d_A_fastRemove_18 rfl ?_
  refine g_icmp_le (tgt := 34) d_A_fastRemove_19 (by decide) (fun h => ?_) (fun h => ?_)
  · have hm0 : m = 0 := by
      have := (nI_leI (by omega) (by omega)).mp h
      omega
    subst hm0
    exact l_A_fastRemove f 0 nle (by omega) h5.2 (fun b e hb h1 _ => hb.un h1) h1 e1 (cpE_0 f L hm)
  · have hm0 : 0 < m := by
      refine Nat.pos_of_ne_zero fun z => h ?_
      rw [z]
      exact Int32.le_refl _
    refine g_aload_n (j := 2) d_A_fastRemove_22 rfl ?_
    refine g_iload_n (j := 3) d_A_fastRemove_23 rfl ?_
    refine g_iconst (v := 1) d_A_fastRemove_24 (by decide) ?_
    refine g_iadd d_A_fastRemove_25 ?_
    refine g_aload_n (j := 2) d_A_fastRemove_26 rfl ?_
    refine g_iload_n (j := 3) d_A_fastRemove_27 rfl ?_
    refine g_iload_n (j := 0) d_A_fastRemove_28 rfl ?_
    refine g_iload_n (j := 3) d_A_fastRemove_29 rfl ?_
    refine g_isub d_A_fastRemove_30 ?_
    refine g_copyq (t0 := 6) (t1 := 6) (sp := 1) (dp := 0) (n := m) d_A_fastRemove_31 lk_A_112 e1 e1 rfl rfl (ci := 8) rfl wc_cast (by decide) rfl (pk_sub (a := m) (b := 0) (by omega)) ⟨by omega, by omega, by omega⟩ (by omega) (by omega) ?_ ⟨(Nat.le_of_ble_eq_true rfl), (Nat.le_of_ble_eq_true rfl)⟩ (Nat.le_of_ble_eq_true rfl) ?_
    · intro i hi q hq
      rw [if_pos (by omega)] at hq
      cases hq
      have hlt : 1 + i < (t.2.1 f).length := by omega
      have v : vaC K L t (16, f, 1 + i) := show vaC K L t (16, f, 1 + i) from ⟨Or.inl hf, hlt⟩
      exact ⟨_, (hs.1 _ v).un (fun z => by cases hs.2.1 _ _ v v14 z)⟩
    · exact l_A_fastRemove f m nle (by omega) h5.2 (fun b e hb h1 h2 => (hb.un h1).un h2) (h1.un nle) e1.us (cpE_s f L hm)

set_option maxHeartbeats 4000000 in
set_option maxRecDepth 100000 in
theorem c_A_remove {E : gE} {w : wd} {K : kC} {L : lyC} {t : tC} (hs : SysC E K L t w) (f m : Nat) (hf : f < K.2.1) (hm : (t.2.1 f).length = m + 1) : Cn E y_A_remove 3 0 0 [.ref (L.1 (14, f, 0)), .int (nI 0)] w (fun r w' => r = some (.ref (L.1 (16, f, 0))) ∧ SysC E K (rmL L f) (rmC t f) w') := by
  refine Cn.of (by decide) (Nat.le_of_ble_eq_true rfl) (fun A => ?_)
  show G E y_A_remove _ 0 [(0, .ref (L.1 (14, f, 0))), (1, .int (nI 0))] [] w 0 0
  have h5 := hs.2.2.2.2 f hf
  have hcap : 0 < L.2.2 f := by omega
  have hel : elC E L f = L.1 (15, f, 0) := if_neg (by omega)
  have h0 := hs.lst hf
  have h0' := h0
  rw [hel] at h0
  refine g_iload_n (j := 1) d_A_remove_0 rfl ?_
  refine g_aload_n (j := 0) d_A_remove_1 rfl ?_
  refine g_get d_A_remove_2 f_A_48 h0 rfl ?_
  refine g_callS (c_O_checkIndex 0 (t.2.1 f).length (by omega) (by omega)) ok_O_checkIndex lk_A_118 st_O_checkIndex d_A_remove_5 rfl rfl (Nat.le_of_ble_eq_true rfl) ⟨(Nat.le_of_ble_eq_true rfl), (Nat.le_of_ble_eq_true rfl)⟩ (Nat.le_of_ble_eq_true rfl) (Nat.le_of_ble_eq_true rfl) (fun r w' hq => ?_)
  obtain ⟨rfl, rfl⟩ := hq
  refine g_pop d_A_remove_8 rfl ?_
  refine g_aload_n (j := 0) d_A_remove_9 rfl ?_
  refine g_get d_A_remove_10 f_A_9 h0 rfl ?_
  refine g_astore_n (lv' := [(2, _), (0, _), (1, _)]) d_A_remove_13 (by decide) rfl ?_
  refine g_aload_n (j := 0) d_A_remove_14 rfl ?_
  refine g_iload_n (j := 2) d_A_remove_15 rfl ?_
  refine g_aald (t0 := 6) (j := 0) d_A_remove_16 (hs.el hf hcap) rfl rfl (by omega) (by omega) (rf_if (by omega)) ?_
  refine g_astore_n (lv' := [(3, _), (2, _), (0, _), (1, _)]) d_A_remove_17 (by decide) rfl ?_
  refine g_aload_n (j := 2) d_A_remove_18 rfl ?_
  refine g_aload_n (j := 1) d_A_remove_19 rfl ?_
  refine g_iload_n (j := 3) d_A_remove_20 rfl ?_
  refine g_callV (c_A_fastRemove hs f m hf hm) ok_A_fastRemove lk_A_144 in_A_fastRemove se_A_fastRemove h0 rfl d_A_remove_21 rfl rfl (Nat.le_of_ble_eq_true rfl) ⟨(Nat.le_of_ble_eq_true rfl), (Nat.le_of_ble_eq_true rfl)⟩ (Nat.le_of_ble_eq_true rfl) (Nat.le_of_ble_eq_true rfl) (fun r w' hq => ?_)
  obtain ⟨rfl, q1, q2, q3⟩ := hq
  refine g_aload_n (j := 0) d_A_remove_24 rfl ?_
  refine g_areturn d_A_remove_25 rfl (Or.inr ⟨_, rfl⟩) (Nat.le_of_ble_eq_true rfl) (Nat.le_of_ble_eq_true rfl) ⟨rfl, hs.rm hf hm (fun b e hb h1 h2 => q1 b e hb h1 (h2 hcap)) ?_ q3⟩
  rw [hel]
  exact q2
