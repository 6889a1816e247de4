section OT
variable {K : kC} {N s d : Nat} {r : tR} {t : tC}
/-- a message is taken out -/
theorem RS.out (h : RS K N s d r t) {k : Nat} (hk : k < t.2.2) : RS K N s d (s_R_takeOut r k) (ptC t k t.2.2) := by
  have hp := h.2.2.2.2.2.2.1.pn
  obtain ⟨h1, h2, h3, h4, h5, h6, h7, h8, h9⟩ := h
  have h64 := h7.2.1
  have o : ∀ m, m ≠ 23 → (s_R_takeOut r k).2 m = r.2 m := by
    intro m hm
    simp [s_R_takeOut, saA, stF, hm]
  have n : ∀ m, m ≠ 9 → (s_R_takeOut r k).1 m = r.1 m := by
    intro m hm
    simp [s_R_takeOut, saA, stF, upd, hm]
  have e9 : (s_R_takeOut r k).1 9 = nI (t.2.2 - 1) := by
    simp [s_R_takeOut, saA, stF, upd, hp]
  have e23 : (s_R_takeOut r k).2 23 = shR (r.2 23) (7 * k) (7 * (t.2.2 - 1)) := by
    simp [s_R_takeOut, saA, stF, hp]
  have q : ∀ m, m ≠ 7 → (ptC t k t.2.2).1 m = t.1 m := by
    intro m hm
    funext i
    exact if_neg hm
  have hrow : ∀ i, i < t.2.2 - 1 → ∃ i', i' < t.2.2 ∧ (∀ j, j < 7 → (s_R_takeOut r k).2 23 (7 * i + j) = r.2 23 (7 * i' + j)) ∧ (ptC t k t.2.2).1 7 i = t.1 7 i' := by
    intro i hi
    by_cases z : i < k
    · refine ⟨i, by omega, fun j hj => ?_, ?_⟩
      · rw [e23]
        unfold shR
        rw [if_neg (by omega)]
      · show t.1 7 (pmC k t.2.2 i) = _
        unfold pmC
        rw [if_pos z]
    · refine ⟨i + 1, by omega, fun j hj => ?_, ?_⟩
      · rw [e23]
        unfold shR
        rw [if_pos (by omega), show 7 * i + j + 7 = 7 * (i + 1) + j by omega]
      · show t.1 7 (pmC k t.2.2 i) = _
        unfold pmC
        rw [if_neg z, if_pos (by omega)]
  have hP : RP K (s_R_takeOut r k) (ptC t k t.2.2) := by
    refine ⟨e9, by show t.2.2 - 1 ≤ 64; omega, fun i hi => ?_⟩
    have hi : i < t.2.2 - 1 := hi
    obtain ⟨i', hi', hr, ht⟩ := hrow i hi
    obtain ⟨g1, g2, g3, g4⟩ := h7.2.2 i' hi'
    have r0 := hr 0 (by decide)
    rw [Nat.add_zero, Nat.add_zero] at r0
    rw [ht, r0, hr 1 (by decide), hr 2 (by decide)]
    exact ⟨fun j hj => by rw [hr j hj]; exact g1 j hj, g2, g3, g4⟩
  have hB : RB K s d (s_R_takeOut r k) := by
    obtain ⟨l1, l2⟩ := lsR_of (r := r) (r' := s_R_takeOut r k) (n 8 (by decide)) (fun m _ _ => o m (by omega))
    obtain ⟨b1, b2, b3, b4, b5, b6⟩ := h9
    have hpn := hP.pn
    unfold RB wok at *
    rw [l1, l2, o 10 (by decide), o 11 (by decide), swd_of (o 10 (by decide)), hpn]
    refine ⟨b1, b2, b3, b4, b5, fun i hi => ?_⟩
    have hi : i < t.2.2 - 1 := hi
    obtain ⟨i', hi', hr, _⟩ := hrow i hi
    have r0 := hr 0 (by decide)
    rw [Nat.add_zero, Nat.add_zero] at r0
    rw [r0, hr 1 (by decide), hr 3 (by decide)]
    exact b6 i' (by rw [hp]; exact hi')
  exact ⟨h1.of (fun m hm => n m (by omega)), h2.of (fun m _ _ => n m (by omega)) (by rw [q 2 (by decide)]), h3.of (fun m _ _ => o m (by omega)) (q 0 (by decide)), h4.of (fun m _ _ => o m (by omega)) (q 1 (by decide)), h5.of (o 0 (by decide)) (o 1 (by decide)) (o 3 (by decide)) (o 4 (by decide)) (q 3 (by decide)) (q 5 (by decide)) (q 6 (by decide)), h6.of (o 2 (by decide)) (n 4 (by decide)) (q 4 (by decide)), hP, h8.of (n 8 (by decide)) (n 5 (by decide)) (fun m _ _ => o m (by omega)) (fun f _ => rfl), hB⟩
/-- lose -/
theorem sim_lose (h : RS K N s d r t) {k : Nat} (hk : k < t.2.2) : (s_L_lose K t k).2 = (s_R_lose r k).2 ∧ RS K N s d (s_R_lose r k).1 (s_L_lose K t k).1 := by
  unfold s_L_lose s_R_lose
  rw [if_neg (h.2.2.2.2.2.2.1.ms hk)]
  exact ⟨rfl, h.out hk⟩
theorem crT_o (r : tR) (c : Nat) : ∀ n m, m ≠ 19 → (crT r c n).2 m = r.2 m := by
  intro n
  induction n with
  | zero => exact fun m _ => rfl
  | succ n ih =>
    intro m hm
    rw [crT, stA_k _ _ _ _ hm]
    exact ih m hm
theorem crT_n (r : tR) (c : Nat) : ∀ n, (crT r c n).1 = r.1 := by
  intro n
  induction n with
  | zero => rfl
  | succ n ih => exact ih
theorem crT_i (r : tR) (c : Nat) : ∀ n i, (i < 4 * c ∨ 4 * c + n ≤ i) → (crT r c n).2 19 i = r.2 19 i := by
  intro n
  induction n with
  | zero => exact fun i _ => rfl
  | succ n ih =>
    intro i hi
    rw [crT, stA_c _ _ _ _ _ (by omega)]
    exact ih i (by omega)
theorem fgT_w (t : tC) (c : Nat) : ∀ n, (fgT t c n).2 = t.2 := by
  intro n
  induction n with
  | zero => rfl
  | succ n ih => exact ih
theorem fgT_i (t : tC) (c : Nat) : ∀ n i, (i < 4 * c ∨ 4 * c + n ≤ i) → (fgT t c n).1 1 i = t.1 1 i := by
  intro n
  induction n with
  | zero => exact fun i _ => rfl
  | succ n ih =>
    intro i hi
    rw [fgT, stC_i _ _ _ _ _ (by omega)]
    exact ih i (by omega)
/-- all copies of a client are given up -/
theorem RS.cr (h : RS K N s d r t) {c : Nat} (hc : c < K.1) : ∀ n, n ≤ K.2.1 → RS K N s d (crT r c n) (fgT t c n) ∧ crN r c n = nI (fgN t c n) := by
  intro n
  induction n with
  | zero => exact fun _ => ⟨h, rfl⟩
  | succ n ih =>
    intro hn
    obtain ⟨i1, i2⟩ := ih (by omega)
    refine ⟨i1.drop hc (by omega), ?_⟩
    have y := (i1.2.2.2.1 c n hc (by omega)).1
    rw [crN, fgN, y, i2]
    by_cases z : (crT r c n).2 19 (4 * c + n) = 0
    · rw [if_pos z, if_pos z]
    · rw [if_neg z, if_neg z]
      exact nI_1 _
/-- crash -/
theorem sim_crash (h : RS K N s d r t) {c : Nat} (hc : c < K.1) : (s_L_crash K t c).2 = (s_R_crash r c).2 ∧ RS K N s d (s_R_crash r c).1 (s_L_crash K t c).1 := by
  have hfN : fN r = K.2.1 := pk_cl K.2.1 h.1.2.1 (by have := h.1.2.2.2.2.1; omega)
  unfold s_L_crash s_R_crash s_C_forget
  rw [if_neg (h.1.cl hc), hfN]
  obtain ⟨hh, hn⟩ := h.cr hc K.2.1 (Nat.le_refl _)
  refine ⟨hn.symm, ?_⟩
  generalize crT r c K.2.1 = r1 at hh ⊢
  generalize fgT t c K.2.1 = t1 at hh ⊢
  show RS K N s d (stA (stA r1 11 c 0) 16 c 0) (stC t1 0 c 1 0)
  obtain ⟨h1, h2, h3, h4, h5, h6, h7, h8, h9⟩ := hh
  have o : ∀ m, m ≠ 11 → m ≠ 16 → (stA (stA r1 11 c 0) 16 c 0).2 m = r1.2 m := by
    intro m e1 e2
    rw [stA_k _ _ _ _ e2, stA_k _ _ _ _ e1]
  have q := fun m (hm : m ≠ 0) => stC_k t1 0 c 1 0 (m := m) hm
  obtain ⟨a1, a2, a3, a4, a5, a6, a7⟩ := h3 c hc
  have e11 : (stA (stA r1 11 c 0) 16 c 0).2 11 c = 0 := by simp [stA, upd]
  refine ⟨h1.of (fun m hm => rfl), h2.of (fun m _ _ => rfl) (by rw [q 2 (by decide)]), h3.at c (fun c' z => ⟨fun m _ _ => by rw [stA_c _ _ _ _ _ z, stA_c _ _ _ _ _ z], stC_i _ _ _ _ _ z⟩) (fun _ => ?_), h4.of (fun m _ _ => o m (by omega) (by omega)) (q 1 (by decide)), h5.of (o 0 (by decide) (by decide)) (o 1 (by decide) (by decide)) (o 3 (by decide) (by decide)) (o 4 (by decide) (by decide)) (q 3 (by decide)) (q 5 (by decide)) (q 6 (by decide)), h6.of (o 2 (by decide) (by decide)) rfl (q 4 (by decide)), h7.of rfl (o 23 (by decide) (by decide)) (fun i _ => by rw [q 7 (by decide)]) rfl, h8.of rfl rfl (fun m _ _ => o m (by omega) (by omega)) (fun f _ => rfl), h9.of rfl rfl (fun m _ _ => o m (by omega) (by omega)) (o 10 (by decide) (by decide)) (fun c' z => ?_) (o 23 (by decide) (by decide))⟩
  · rw [e11, o 9 (by decide) (by decide), o 10 (by decide) (by decide), o 17 (by decide) (by decide), o 18 (by decide) (by decide)]
    refine ⟨?_, ?_, ?_, ?_, ?_, a6, fun z => absurd z (by decide)⟩
    all_goals simp [stC, upd, a1, a3, a4, a5]
  · by_cases zz : c' = c
    · subst zz
      rw [e11] at z
      exact absurd z (by decide)
    · rw [stA_c _ _ _ _ _ zz, stA_c _ _ _ _ _ zz] at z
      exact z
end OT
