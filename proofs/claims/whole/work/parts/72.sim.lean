theorem add_toInt {x y : Int32} (hx : 0 ≤ x.toInt ∧ x.toInt ≤ 1000000) (hy : 0 ≤ y.toInt ∧ y.toInt ≤ 1000000) : (x + y).toInt = x.toInt + y.toInt := by
  rw [Int32.toInt_add]
  rw [Int.bmod_def]
  have h1 : (x.toInt + y.toInt) % ((2 ^ 32 : Nat) : Int) = x.toInt + y.toInt := Int.emod_eq_of_lt (by omega) (by omega)
  rw [h1, if_pos (by omega)]
theorem one_toInt : (1 : Int32).toInt = 1 := by decide
theorem nI_inj4 {a b : Nat} (ha : a < 2 ^ 31) (hb : b < 2 ^ 31) (h : nI a = nI b) : a = b := (nI_eq ha hb).mp h
section OP
variable {K : kC} {N s d : Nat} {r : tR} {t : tC}
theorem bg_o (r : tR) (c f : Nat) (y v : Int32) {m : Nat} (h : m < 10 ∨ 16 < m) : (s_R_begin r c f y v).2 m = r.2 m := by
  have h10 : m ≠ 10 := by omega
  have h11 : m ≠ 11 := by omega
  have h12 : m ≠ 12 := by omega
  have h13 : m ≠ 13 := by omega
  have h14 : m ≠ 14 := by omega
  have h15 : m ≠ 15 := by omega
  have h16 : m ≠ 16 := by omega
  simp [s_R_begin, stA, h10, h11, h12, h13, h14, h15, h16]
theorem stA_c (r : tR) (k j : Nat) (x : Int32) (m : Nat) {i : Nat} (h : i ≠ j) : (stA r k j x).2 m i = r.2 m i := by
  by_cases z : m = k
  · subst z
    simp [stA, upd, h]
  · simp [stA, z]
theorem stA_k (r : tR) (k j : Nat) (x : Int32) {m : Nat} (h : m ≠ k) : (stA r k j x).2 m = r.2 m := by
  simp [stA, h]
theorem stA_s (r : tR) (k j : Nat) (x : Int32) : (stA r k j x).2 k j = x := by
  simp [stA, upd]
theorem bg_c (r : tR) (c f : Nat) (y v : Int32) (m : Nat) {c' : Nat} (h : c' ≠ c) : (s_R_begin r c f y v).2 m c' = r.2 m c' := by
  unfold s_R_begin
  rw [stA_c _ _ _ _ _ h, stA_c _ _ _ _ _ h, stA_c _ _ _ _ _ h, stA_c _ _ _ _ _ h, stA_c _ _ _ _ _ h, stA_c _ _ _ _ _ h, stA_c _ _ _ _ _ h]
theorem swd_le (r : tR) {n c : Nat} (h : c < n) : (r.2 10 c).toInt.toNat ≤ swd r n := by
  induction n with
  | zero => omega
  | succ n ih =>
    rw [swd]
    by_cases z : c = n
    · subst z
      omega
    · have := ih (by omega)
      omega
theorem swd_up {r r' : tR} {c : Nat} (ho : ∀ c', c' ≠ c → r'.2 10 c' = r.2 10 c') (hc : (r'.2 10 c).toInt.toNat = (r.2 10 c).toInt.toNat + 1) : ∀ n, swd r' n ≤ swd r n + 1 ∧ (n ≤ c → swd r' n = swd r n) := by
  intro n
  induction n with
  | zero => exact ⟨by rw [swd, swd]; omega, fun _ => rfl⟩
  | succ n ih =>
    rw [swd, swd]
    by_cases z : n = c
    · subst z
      have := ih.2 (Nat.le_refl _)
      exact ⟨by omega, fun h => by omega⟩
    · rw [ho n z]
      refine ⟨by have := ih.1; omega, fun h => ?_⟩
      rw [ih.2 (by omega)]
/-- the counts, when a client begins an operation -/
theorem RB.bg (h : RB K s d r) {c f : Nat} (y v : Int32) (hc : c < K.1) (hs : s ≤ 1000) : RB K (s + 1) d (s_R_begin r c f y v) ∧ wok (s_R_begin r c f y v) c ((s_R_begin r c f y v).2 10 c) := by
  obtain ⟨b1, b2, b3, b4, b5, b6⟩ := h
  have e10 : (s_R_begin r c f y v).2 10 c = r.2 10 c + 1 := by
    simp [s_R_begin, stA, upd]
  have hb := swd_le r hc
  have h0 := (b1 c hc).1
  have hi : (r.2 10 c + 1).toInt = (r.2 10 c).toInt + 1 := by
    rw [add_toInt ⟨h0, by omega⟩ (by rw [one_toInt]; omega), one_toInt]
  obtain ⟨h1, h2⟩ := lsR_of (r := r) (r' := s_R_begin r c f y v) rfl (fun m _ _ => bg_o r c f y v (by omega))
  have hw : ∀ c' x, wok r c' x → wok (s_R_begin r c f y v) c' x := by
    intro c' x hx
    unfold wok at *
    by_cases z : c' = c
    · subst z
      rw [e10, hi]
      omega
    · rw [bg_c r c f y v 10 z]
      exact hx
  refine ⟨⟨fun c' hc' => ?_, ?_, by rw [h2]; exact b3, ?_, by rw [h1]; exact b5, ?_⟩, ?_⟩
  · by_cases z : c' = c
    · subst z
      rw [e10, hi]
      exact ⟨by omega, fun _ => by omega⟩
    · rw [bg_c r c f y v 10 z, bg_c r c f y v 11 z]
      exact b1 c' hc'
  · have := (swd_up (r := r) (r' := s_R_begin r c f y v) (c := c) (fun c' z => bg_c r c f y v 10 z) (by rw [e10, hi]; omega) K.1).1
    omega
  · rw [h1]
    exact fun e he c' hc' hh => hw c' _ (b4 e he c' hc' hh)
  · rw [bg_o r c f y v (m := 23) (by omega)]
    exact fun i hi1 hk c' hc' hh => hw c' _ (b6 i hi1 hk c' hc' hh)
  · unfold wok
    rw [e10, hi]
    omega
theorem stC_k (t : tC) (k i j : Nat) (x : Int32) {m : Nat} (h : m ≠ k) : (stC t k i j x).1 m = t.1 m := by
  funext i'
  exact stC_oth t j x (fun z => h (congrArg Prod.fst z))
theorem stC_i (t : tC) (k i j : Nat) (x : Int32) {m i' : Nat} (h : i' ≠ i) : (stC t k i j x).1 m i' = t.1 m i' := stC_oth t j x (fun z => h (congrArg Prod.snd z))
theorem so_o (K : kC) (t : tC) (c f : Nat) (x : Int32) {m : Nat} (h : m ≠ 0) : (s_C_startOperation K t c f x).1 m = t.1 m := by
  unfold s_C_startOperation
  rw [stC_k _ _ _ _ _ h, stC_k _ _ _ _ _ h, stC_k _ _ _ _ _ h, stC_k _ _ _ _ _ h, stC_k _ _ _ _ _ h, stC_k _ _ _ _ _ h]
theorem so_c (K : kC) (t : tC) (c f : Nat) (x : Int32) {c' : Nat} (h : c' ≠ c) : (s_C_startOperation K t c f x).1 0 c' = t.1 0 c' := by
  unfold s_C_startOperation
  rw [stC_i _ _ _ _ _ h, stC_i _ _ _ _ _ h, stC_i _ _ _ _ _ h, stC_i _ _ _ _ _ h, stC_i _ _ _ _ _ h, stC_i _ _ _ _ _ h]
/-- an operation begins -/
theorem RS.bg (h : RS K N s d r t) {c f : Nat} (hc : c < K.1) (hf : f < K.2.1) (hs : s ≤ 1000) : RS K N (s + 1) d (s_R_begin r c f 0 0) (s_C_startOperation K t c f 1) := by
  obtain ⟨h1, h2, h3, h4, h5, h6, h7, h8, h9⟩ := h
  have o := fun m (hm : m < 10 ∨ 16 < m) => bg_o r c f 0 0 (m := m) hm
  have q := fun m (hm : m ≠ 0) => so_o K t c f 1 (m := m) hm
  obtain ⟨a1, a2, a3, a4, a5, a6, a7⟩ := h3 c hc
  refine ⟨h1.of (fun m hm => rfl), h2.of (fun m _ _ => rfl) (by rw [q 2 (by decide)]), h3.at c (fun c' z => ⟨fun m _ _ => bg_c r c f 0 0 m z, so_c K t c f 1 z⟩) (fun _ => ?_), h4.of (fun m _ _ => o m (by omega)) (q 1 (by decide)), h5.of (o 0 (by decide)) (o 1 (by decide)) (o 3 (by decide)) (o 4 (by decide)) (q 3 (by decide)) (q 5 (by decide)) (q 6 (by decide)), h6.of (o 2 (by decide)) rfl (q 4 (by decide)), h7.of rfl (o 23 (by decide)) (fun i _ => by rw [q 7 (by decide)]) rfl, h8.of rfl rfl (fun m _ _ => o m (by omega)) (fun f _ => rfl), (h9.bg 0 0 hc hs).1⟩
  rw [o 9 (by decide), o 17 (by decide), o 18 (by decide)]
  refine ⟨?_, ?_, ?_, ?_, ?_, a6, fun _ => ⟨?_, ?_, ?_, ?_, ⟨f, hf, ?_⟩, Or.inl ⟨?_, ?_⟩⟩⟩
  all_goals simp [s_R_begin, s_C_startOperation, stA, stC, upd, a1, a3, a4, a5, a6]
/-- a write begins: its own copy is given up -/
theorem RS.bw (h : RS K N s d r t) {c f : Nat} (x : Int32) (hc : c < K.1) (hf : f < K.2.1) (hs : s ≤ 1000) : RS K N (s + 1) d (stA (s_R_begin r c f 1 x) 19 (4 * c + f) 0) (stC (stC (s_C_startOperation K t c f 0) 0 c 5 x) 1 (4 * c + f) 0 0) := by
  obtain ⟨h1, h2, h3, h4, h5, h6, h7, h8, h9⟩ := h
  have o := fun m (hm : m < 10 ∨ 16 < m) (hn : m ≠ 19) => (stA_k (s_R_begin r c f 1 x) 19 (4 * c + f) 0 (m := m) hn).trans (bg_o r c f 1 x (m := m) hm)
  have q := fun m (hm : m ≠ 0) (hn : m ≠ 1) => (stC_k (stC (s_C_startOperation K t c f 0) 0 c 5 x) 1 (4 * c + f) 0 0 (m := m) hn).trans ((stC_k (s_C_startOperation K t c f 0) 0 c 5 x (m := m) hm).trans (so_o K t c f 0 (m := m) hm))
  obtain ⟨a1, a2, a3, a4, a5, a6, a7⟩ := h3 c hc
  have hB := (h9.bg (f := f) 1 x hc hs).1
  refine ⟨h1.of (fun m hm => rfl), h2.of (fun m _ _ => rfl) (by rw [q 2 (by decide) (by decide)]), h3.at c (fun c' z => ⟨fun m _ _ => by rw [stA_k _ _ _ _ (by omega)]; exact bg_c r c f 1 x m z, by rw [stC_k _ _ _ _ _ (by decide), stC_i _ _ _ _ _ z]; exact so_c K t c f 0 z⟩) (fun _ => ?_), fun c' f' hc' hf' => ?_, h5.of (o 0 (by decide) (by decide)) (o 1 (by decide) (by decide)) (o 3 (by decide) (by decide)) (o 4 (by decide) (by decide)) (q 3 (by decide) (by decide)) (q 5 (by decide) (by decide)) (q 6 (by decide) (by decide)), h6.of (o 2 (by decide) (by decide)) rfl (q 4 (by decide) (by decide)), h7.of rfl (o 23 (by decide) (by decide)) (fun i _ => by rw [q 7 (by decide) (by decide)]) rfl, h8.of rfl rfl (fun m _ _ => o m (by omega) (by omega)) (fun f _ => rfl), hB.of rfl rfl (fun m _ _ => stA_k _ _ _ _ (by omega)) (stA_k _ _ _ _ (by decide)) (fun c' z => by rw [stA_k _ _ _ _ (by decide)] at z; exact z) (stA_k _ _ _ _ (by decide))⟩
  · rw [o 9 (by decide) (by decide), o 17 (by decide) (by decide), o 18 (by decide) (by decide)]
    refine ⟨?_, ?_, ?_, ?_, ?_, a6, fun _ => ⟨?_, ?_, ?_, ?_, ⟨f, hf, ?_⟩, Or.inr ⟨?_, ?_, ?_⟩⟩⟩
    all_goals simp [s_R_begin, s_C_startOperation, stA, stC, upd, a1, a3, a4, a5, a6]
  · rw [o 20 (by decide) (by decide), o 21 (by decide) (by decide), o 22 (by decide) (by decide)]
    obtain ⟨y1, y2, y3, y4, y5⟩ := h4 c' f' hc' hf'
    by_cases z : 4 * c' + f' = 4 * c + f
    · rw [z] at y2 y3 y4 y5 ⊢
      refine ⟨?_, ?_, ?_, ?_, y5⟩
      all_goals simp [s_C_startOperation, stA, stC, upd, y2, y3, y4]
    · rw [stC_i _ _ _ _ _ z, stA_c _ _ _ _ _ z, stC_k _ _ _ _ _ (by decide), so_o K t c f 0 (by decide), bg_o r c f 1 x (by decide)]
      exact ⟨y1, y2, y3, y4, y5⟩
end OP
