section OZ
variable {K : kC} {N s d : Nat} {r r' : tR} {t t' : tC}
/-- the server's clock goes on -/
theorem RS.time (h : RS K N s d r t) {x : Int32} (hx : tb x 1000) (hN : N ≤ 512) : RS K (N + 1) s d (stF r 4 (r.1 4 + x)) (stC t 2 0 0 (t.1 2 0 0 + x)) := by
  obtain ⟨h1, h2, h3, h4, h5, h6, h7, h8, h9⟩ := h.mono (N' := N + 1) (by omega)
  have hv := h.2.1.2.2.2.2.1
  have hsum : (r.1 4 + x).toInt = (r.1 4).toInt + x.toInt := by
    unfold tb at hv hx
    exact add_toInt (by omega) (by omega)
  have n : ∀ m, m ≠ 4 → (stF r 4 (r.1 4 + x)).1 m = r.1 m := fun m hm => by simp [stF, upd, hm]
  have n4 : (stF r 4 (r.1 4 + x)).1 4 = r.1 4 + x := by simp [stF, upd]
  have q := fun m (hm : m ≠ 2) => stC_k t 2 0 0 (t.1 2 0 0 + x) (m := m) hm
  have ej : ∀ j, j ≠ 0 → (stC t 2 0 0 (t.1 2 0 0 + x)).1 2 0 j = t.1 2 0 j := fun j hj => by simp [stC, upd, hj]
  have e0 : (stC t 2 0 0 (t.1 2 0 0 + x)).1 2 0 0 = t.1 2 0 0 + x := by simp [stC, upd]
  refine ⟨h1.of (fun m hm => n m (by omega)), ?_, h3.of (fun m _ _ => rfl) (q 0 (by decide)), h4.of (fun m _ _ => rfl) (q 1 (by decide)), h5.of rfl rfl rfl rfl (q 3 (by decide)) (q 5 (by decide)) (q 6 (by decide)), fun c f hc hf => ?_, h7.of (n 9 (by decide)) rfl (fun i _ => by rw [q 7 (by decide)]) rfl, h8.of (n 8 (by decide)) (n 5 (by decide)) (fun m _ _ => rfl) (fun f _ => rfl), h9.of (n 8 (by decide)) (n 9 (by decide)) (fun m _ _ => rfl) rfl (fun c' z => z) rfl⟩
  · obtain ⟨v1, v2, v3, v4, v5, v6⟩ := h2
    unfold RV
    rw [n4, n 5 (by decide), n 6 (by decide), n 7 (by decide), e0, ej 1 (by decide), ej 2 (by decide), ej 3 (by decide)]
    refine ⟨by rw [v1], v2, v3, v4, ?_, v6⟩
    unfold tb at hv hx ⊢
    rw [hsum]
    omega
  · rw [q 4 (by decide), n4]
    obtain ⟨a1, a2, a3⟩ := h6 c f hc hf
    refine ⟨a1, a2, ?_⟩
    rcases a3 with a3 | ⟨a3, a4⟩
    · exact Or.inl a3
    · refine Or.inr ⟨?_, ?_⟩
      · rw [Int32.le_iff_toInt_le] at a3 ⊢
        rw [hsum]
        have := hx.1
        omega
      · show r.2 2 (4 * c + f) ≤ r.1 4 + x
        rw [Int32.le_iff_toInt_le] at a4 ⊢
        rw [hsum]
        have := hx.1
        omega
theorem swO_nil (K : kC) : ∀ (n f b : Nat) {t : tC}, (∀ g, f ≤ g → g < f + n → t.2.1 g = []) → swO K n f t b = (t, b) := by
  intro n
  induction n with
  | zero => exact fun f b t _ => rfl
  | succ n ih =>
    intro f b t h
    rw [swO, swI_nil K f (h f (Nat.le_refl _) (by omega))]
    exact ih (f + 1) b (fun g h1 h2 => h g (by omega) (by omega))
theorem RS.down (h : RS K N s d r t) (hd : r.1 5 = 1) : ∀ f, f < K.2.1 → t.2.1 f = [] := by
  intro f hf
  have h8 := h.2.2.2.2.2.2.2.1
  have := h8.len hf
  rw [h8.2.2.2.2 hd] at this
  exact List.length_eq_zero_iff.mp (by omega)
/-- tick -/
theorem sim_tick (h : RS K N s d r t) (x : Int32) (hN : N ≤ 512) (hsd : s + d ≤ 512) : (s_L_tick K t x).2 = (s_R_tick r x).2 ∧ RS K (N + 1) s d (s_R_tick r x).1 (s_L_tick K t x).1 := by
  have hm := h.mono (N' := N + 1) (by omega)
  unfold s_L_tick s_R_tick s_S_letTimeGoBy
  by_cases z : ¬ x < 0 ∧ x ≤ 1000
  · rw [if_neg (fun q => (isStep_e x).mp q z), if_neg z.1, if_pos z.2]
    have ht := h.time (step_b z.1 z.2) hN
    rcases ht.2.1.2.1 with ⟨q1, q2⟩ | ⟨q1, q2⟩
    · rw [if_pos q1]
      obtain ⟨p1, p2⟩ := ht.all hsd
      exact ⟨p2, p1⟩
    · rw [if_neg (by rw [q1]; decide)]
      have e : s_S_storeWhatMay K (stC t 2 0 0 (t.1 2 0 0 + x)) = (stC t 2 0 0 (t.1 2 0 0 + x), 0) := by
        unfold s_S_storeWhatMay
        rw [swO_nil K K.2.1 0 0 (fun g _ hg => ht.down q1 g (by omega))]
        rfl
      rw [e]
      exact ⟨rfl, ht⟩
  · rw [if_pos ((isStep_e x).mpr z)]
    by_cases z1 : x < 0
    · rw [if_pos z1]
      exact ⟨rfl, hm⟩
    · rw [if_neg z1, if_neg (fun q => z ⟨z1, q⟩)]
      exact ⟨rfl, hm⟩
/-- file -/
theorem sim_file (h : RS K N s d r t) {f : Nat} (x : Int32) (hf : f < K.2.1) : s_L_file K t f x = s_R_file r f x := by
  have hK := h.1.2.2.2.2.1
  have h8 := h.2.2.2.2.2.2.2.1
  have h5 := h.2.2.2.2.1.1 f hf
  have hlen := h8.len hf
  have hl2 := h8.2.1
  have e2 : s_A_size K t f = cnL (r.2 6) (nI f) (wN r) := by
    rw [cnL_spec, ← lsR_N, ← h8.2.2.1 f hf]
    rfl
  have e3 : (if s_A_isEmpty K t f = 0 then ((t.2.1 f).getD 0 (0, 0, 0)).1 else -1) = if 0 ≤ s_R_firstOf r f then r.2 5 (foN r f) else -1 := by
    rcases h8.fo hf with ⟨x, y⟩ | ⟨k, l, hk, _, _, y, y2, x⟩
    · rw [isE_nil K x, y, if_neg (by decide), if_neg (by decide)]
    · rw [isE_cons K x (by omega), y, y2, if_pos rfl, if_pos (c := 0 ≤ nI k) ((nI_leI (a := 0) (by omega) (by omega)).mpr (by omega)), x]
      rfl
  unfold s_L_file s_R_file s_F_part
  rw [if_neg (h.1.fl hf), h5.1, h5.2, e2, e3]
  by_cases z0 : x = 0
  · subst z0
    rw [if_pos rfl, if_neg (by decide), if_pos (by decide), if_pos rfl]
  · by_cases z1 : x = 1
    · subst z1
      rw [if_neg (by decide), if_pos rfl, if_neg (by decide), if_pos (by decide), if_neg (by decide), if_pos rfl]
    · by_cases z2 : x = 2
      · subst z2
        rw [if_neg (by decide), if_neg (by decide), if_pos rfl, if_neg (by decide), if_pos (by decide), if_neg (by decide), if_neg (by decide), if_pos rfl]
      · by_cases z3 : x = 3
        · subst z3
          rw [if_neg (c := (3 : Int32) = 0) (by decide), if_neg (c := (3 : Int32) = 1) (by decide), if_neg (c := (3 : Int32) = 2) (by decide), if_pos (c := (3 : Int32) = 3) rfl, if_neg (c := (3 : Int32) < 0) (by decide), if_pos (c := (3 : Int32) ≤ 3) (by decide), if_neg (c := (3 : Int32) = 0) (by decide), if_neg (c := (3 : Int32) = 1) (by decide), if_neg (c := (3 : Int32) = 2) (by decide)]
        · rw [if_neg z0, if_neg z1, if_neg z2, if_neg z3, if_neg z0, if_neg z1, if_neg z2]
          by_cases z4 : x < 0
          · rw [if_pos z4]
          · rw [if_neg z4, if_neg]
            intro z5
            rw [Int32.lt_iff_toInt_lt] at z4
            rw [Int32.le_iff_toInt_le] at z5
            have e0 : (0 : Int32).toInt = 0 := by decide
            have e1 : (1 : Int32).toInt = 1 := by decide
            have e2 : (2 : Int32).toInt = 2 := by decide
            have e3 : (3 : Int32).toInt = 3 := by decide
            have n0 : x.toInt ≠ 0 := fun q => z0 (toInt_inj (by rw [q, e0]))
            have n1 : x.toInt ≠ 1 := fun q => z1 (toInt_inj (by rw [q, e1]))
            have n2 : x.toInt ≠ 2 := fun q => z2 (toInt_inj (by rw [q, e2]))
            have n3 : x.toInt ≠ 3 := fun q => z3 (toInt_inj (by rw [q, e3]))
            omega
/-! the message that was taken out stays as it is -/
def P64 (t t' : tC) : Prop := t'.2.2 ≤ 64 ∧ t'.1 7 64 = t.1 7 64
theorem P64.send {t t' : tC} (h : P64 t t') (k cc ff wo a b e : Int32) : P64 t (s_P_send K t' k cc ff wo a b e) := ⟨snd_n K t' k cc ff wo a b e h.1, (snd_64 K t' k cc ff wo a b e h.1).trans h.2⟩
theorem P64.st {t t' : tC} (h : P64 t t') {k : Nat} (i j : Nat) (x : Int32) (hk : 7 ≠ k) : P64 t (stC t' k i j x) := ⟨h.1, by rw [stC_k _ _ _ _ _ hk]; exact h.2⟩
theorem P64.sf {t t' : tC} (h : P64 t t') (f : Nat) : P64 t (s_S_storeFirst K t' f) := by
  have h0 : P64 t (rmC t' f) := h
  unfold s_S_storeFirst
  split
  · split
    · exact ((h0.st f 0 _ (by decide)).st f 1 _ (by decide)).send _ _ _ _ _ _ _
    · exact ((((h0.st f 0 _ (by decide)).st f 1 _ (by decide)).st 0 _ _ (by decide)).st 0 _ _ (by decide)).send _ _ _ _ _ _ _
  · exact h
theorem P64.inner (f : Nat) : ∀ (n b : Nat) {t t' : tC}, P64 t t' → P64 t (swI K f n t' b).1 := by
  intro n
  induction n with
  | zero => exact fun b t t' h => h
  | succ n ih =>
    intro b t t' h
    unfold swI
    split
    · exact h
    · exact ih (b + 1) (h.sf f)
theorem P64.outer : ∀ (n f b : Nat) {t t' : tC}, P64 t t' → P64 t (swO K n f t' b).1 := by
  intro n
  induction n with
  | zero => exact fun f b t t' h => h
  | succ n ih => exact fun f b t t' h => ih (f + 1) _ (P64.inner f 256 b h)
theorem P64.all {t t' : tC} (h : P64 t t') : P64 t (s_S_storeWhatMay K t').1 := P64.outer K.2.1 0 0 h
end OZ
