section PB
variable {K : kC} {N s d : Nat} {r r' : tR} {t t' : tC}
theorem haT_2 (r : tR) : ∀ n k, k < n → (haT r n).2 2 k = 0 := by
  intro n
  induction n with
  | zero => exact fun k hk => absurd hk (Nat.not_lt_zero _)
  | succ n ih =>
    intro k hk
    rw [haT]
    by_cases z : k = n
    · subst z
      exact stA_s _ _ _ _
    · rw [stA_c _ _ _ _ _ z]
      exact ih k (by omega)
theorem haT_o (r : tR) : ∀ n m, m ≠ 2 → (haT r n).2 m = r.2 m := by
  intro n
  induction n with
  | zero => exact fun m _ => rfl
  | succ n ih =>
    intro m hm
    rw [haT, stA_k _ _ _ _ hm]
    exact ih m hm
theorem haT_n (r : tR) : ∀ n, (haT r n).1 = r.1 := by
  intro n
  induction n with
  | zero => rfl
  | succ n ih => exact ih
theorem enL_f (t : tC) (f : Nat) (x : Int32) : ∀ n, (enL t f x n).2 = t.2 ∧ (∀ m, m ≠ 4 → (enL t f x n).1 m = t.1 m) ∧ (∀ f' c, f' ≠ f → (enL t f x n).1 4 f' c = t.1 4 f' c) ∧ ∀ c, c < n → (enL t f x n).1 4 f c = x := by
  intro n
  induction n with
  | zero => exact ⟨rfl, fun _ _ => rfl, fun _ _ _ => rfl, fun c hc => absurd hc (Nat.not_lt_zero _)⟩
  | succ n ih =>
    obtain ⟨i1, i2, i3, i4⟩ := ih
    rw [enL]
    refine ⟨i1, fun m hm => (stC_k _ _ _ _ _ hm).trans (i2 m hm), fun f' c hf => ?_, fun c hc => ?_⟩
    · rw [stC_i _ _ _ _ _ hf]
      exact i3 f' c hf
    · by_cases z : c = n
      · subst z
        simp [stC, upd]
      · rw [stC_4 _ _ _ _ (fun q => z (congrArg Prod.snd q))]
        exact i4 c (by omega)
theorem gdC_f (K : kC) (t : tC) : ∀ n, (gdC K t n).2.2 = t.2.2 ∧ (∀ m, m ≠ 4 → (gdC K t n).1 m = t.1 m) ∧ (∀ g, g < n → (gdC K t n).2.1 g = []) ∧ (∀ g, n ≤ g → (gdC K t n).2.1 g = t.2.1 g) ∧ ∀ f c, f < n → c < K.1 → (gdC K t n).1 4 f c = t.1 2 0 0 := by
  intro n
  induction n with
  | zero => exact ⟨rfl, fun _ _ => rfl, fun g hg => absurd hg (Nat.not_lt_zero _), fun _ _ => rfl, fun f c hf => absurd hf (Nat.not_lt_zero _)⟩
  | succ n ih =>
    obtain ⟨i1, i2, i3, i4, i5⟩ := ih
    obtain ⟨e1, e2, e3, e4⟩ := enL_f (clrC (gdC K t n) n) n ((clrC (gdC K t n) n).1 2 0 0) K.1
    rw [gdC]
    unfold s_F_endLeases
    have hx : (clrC (gdC K t n) n).1 2 0 0 = t.1 2 0 0 := by
      show (gdC K t n).1 2 0 0 = _
      rw [i2 2 (by decide)]
    refine ⟨by rw [e1]; exact i1, fun m hm => (e2 m hm).trans (i2 m hm), fun g hg => ?_, fun g hg => ?_, fun f c hf hc => ?_⟩
    · rw [e1]
      show (if g = n then [] else (gdC K t n).2.1 g) = []
      by_cases z : g = n
      · rw [if_pos z]
      · rw [if_neg z]
        exact i3 g (by omega)
    · rw [e1]
      show (if g = n then [] else (gdC K t n).2.1 g) = _
      rw [if_neg (by omega)]
      exact i4 g (by omega)
    · by_cases z : f = n
      · subst z
        rw [e4 c hc]
        exact hx
      · rw [e3 f c z]
        exact i5 f c (by omega) hc
def smF (l : List (Int32 × Int32 × Int32 × Int32)) : Nat → Nat
  | 0 => 0
  | n + 1 => smF l n + (flt n l).length
theorem smF_c {e : Int32 × Int32 × Int32 × Int32} (l : List (Int32 × Int32 × Int32 × Int32)) {f0 : Nat} (h : e.1 = nI f0) (h4 : f0 < 4) : ∀ n, n ≤ 4 → smF (e :: l) n = smF l n + (if f0 < n then 1 else 0) := by
  intro n
  induction n with
  | zero => exact fun _ => rfl
  | succ n ih =>
    intro hn
    rw [smF, smF, ih (by omega)]
    by_cases z : f0 = n
    · subst z
      rw [flt_yes h, if_neg (Nat.lt_irrefl _), if_pos (Nat.lt_succ_self _), List.length_cons]
      omega
    · rw [flt_no (fun q => z (nI_inj4 (by omega) (by omega) (h.symm.trans q)))]
      by_cases z2 : f0 < n
      · rw [if_pos z2, if_pos (by omega)]
        omega
      · rw [if_neg z2, if_neg (by omega)]
        omega
theorem smF_e {n : Nat} (hn : n ≤ 4) : ∀ (l : List (Int32 × Int32 × Int32 × Int32)), (∀ e ∈ l, ∃ f, f < n ∧ e.1 = nI f) → smF l n = l.length := by
  intro l
  induction l with
  | nil =>
    intro _
    have : ∀ m, smF [] m = 0 := by
      intro m
      induction m with
      | zero => rfl
      | succ m ih => rw [smF, ih]; rfl
    exact this n
  | cons e l ih =>
    intro h
    obtain ⟨f0, h1, h2⟩ := h e List.mem_cons_self
    rw [smF_c l h2 (by omega) n hn, if_pos h1, ih (fun e he => h e (List.mem_cons_of_mem _ he))]
    rfl
theorem gdN_f (h : RW K r t) : ∀ n, n ≤ K.2.1 → gdN K t n = smF (lsR r) n := by
  intro n
  induction n with
  | zero => exact fun _ => rfl
  | succ n ih =>
    intro hn
    rw [gdN, smF, ih (by omega), (gdC_f K t n).2.2.2.1 n (Nat.le_refl _), h.2.2.1 n (by omega)]
/-- halt -/
theorem sim_halt (h : RS K N s d r t) : (s_L_halt K t).2 = (s_R_halt r).2 ∧ RS K N s d (s_R_halt r).1 (s_L_halt K t).1 := by
  have hK := h.1.2.2.2.2.1
  unfold s_L_halt s_R_halt s_S_goDown
  rcases h.2.1.2.1 with ⟨q1, q2⟩ | ⟨q1, q2⟩
  · rw [if_pos q1, if_neg (by rw [q2]; decide)]
    obtain ⟨h1, h2, h3, h4, h5, h6, h7, h8, h9⟩ := h
    obtain ⟨c1, c2, c3, c4, c5⟩ := gdC_f K t K.2.1
    have hv := h2.2.2.2.2.1
    refine ⟨?_, ?_⟩
    · show nI (gdN K t K.2.1) = r.1 8
      rw [gdN_f h8 K.2.1 (Nat.le_refl _), smF_e hK.2.2.2 _ (fun e he => (h8.2.2.2.1 e he).1), lsR_N, lsN_len]
      exact h8.1.symm
    · have o : ∀ m, m ≠ 2 → (haT (stF (stF r 5 1) 8 0) 16).2 m = r.2 m := fun m hm => haT_o _ 16 m hm
      have n : ∀ m, m ≠ 5 → m ≠ 8 → (haT (stF (stF r 5 1) 8 0) 16).1 m = r.1 m := by
        intro m e1 e2
        rw [haT_n]
        simp [stF, upd, e1, e2]
      have n5 : (haT (stF (stF r 5 1) 8 0) 16).1 5 = 1 := by
        rw [haT_n]
        simp [stF, upd]
      have n8 : (haT (stF (stF r 5 1) 8 0) 16).1 8 = 0 := by
        rw [haT_n]
        simp [stF, upd]
      have hw : wN (haT (stF (stF r 5 1) 8 0) 16) = 0 := pk_cl 0 n8 (by decide)
      have hls : lsR (haT (stF (stF r 5 1) 8 0) 16) = [] := by
        rw [lsR_N, hw]
        rfl
      have q : ∀ m, m ≠ 2 → m ≠ 4 → (stC (gdC K t K.2.1) 2 0 1 0).1 m = t.1 m := fun m e1 e2 => (stC_k _ _ _ _ _ e1).trans (c2 m e2)
      have ej : ∀ j, j ≠ 1 → (stC (gdC K t K.2.1) 2 0 1 0).1 2 0 j = t.1 2 0 j := by
        intro j hj
        have : (gdC K t K.2.1).1 2 0 j = t.1 2 0 j := by rw [c2 2 (by decide)]
        rw [← this]
        simp [stC, upd, hj]
      have e1 : (stC (gdC K t K.2.1) 2 0 1 0).1 2 0 1 = 0 := by simp [stC, upd]
      have p9 : pN (haT (stF (stF r 5 1) 8 0) 16) = pN r := by
        unfold pN
        rw [n 9 (by decide) (by decide)]
      obtain ⟨v1, v2, v3, v4, v5, v6⟩ := h2
      obtain ⟨b1, b2, b3, b4, b5, b6⟩ := h9
      refine ⟨h1.of (fun m hm => n m (by omega) (by omega)), ⟨?_, Or.inr ⟨n5, e1⟩, ?_, ?_, ?_, ?_⟩, h3.of (fun m _ _ => o m (by omega)) (q 0 (by decide) (by decide)), h4.of (fun m _ _ => o m (by omega)) (q 1 (by decide) (by decide)), h5.of (o 0 (by decide)) (o 1 (by decide)) (o 3 (by decide)) (o 4 (by decide)) (q 3 (by decide) (by decide)) (q 5 (by decide) (by decide)) (q 6 (by decide) (by decide)), fun c f hc hf => ?_, h7.of (n 9 (by decide) (by decide)) (o 23 (by decide)) (fun i _ => by rw [q 7 (by decide) (by decide)]) c1, ⟨by rw [hw, n8]; rfl, Nat.le_trans (Nat.le_of_eq hw) (Nat.zero_le _), fun f hf => ?_, ?_, fun _ => hw⟩, ⟨?_, ?_, Nat.le_trans (Nat.le_of_eq hw) (Nat.zero_le _), ?_, ?_, ?_⟩⟩
      · rw [ej 0 (by decide), n 4 (by decide) (by decide)]
        exact v1
      · rw [ej 2 (by decide), n 6 (by decide) (by decide)]
        exact v3
      · rw [ej 3 (by decide), n 7 (by decide) (by decide)]
        exact v4
      · rw [n 4 (by decide) (by decide)]
        exact v5
      · rw [n 7 (by decide) (by decide)]
        exact v6
      · have x1 : (stC (gdC K t K.2.1) 2 0 1 0).1 4 f c = r.1 4 := by
          rw [stC_k _ _ _ _ _ (by decide), c5 f c hf hc]
          exact v1
        have x2 : (haT (stF (stF r 5 1) 8 0) 16).2 2 (4 * c + f) = 0 := haT_2 _ 16 _ (by omega)
        rw [x1, x2, n 4 (by decide) (by decide)]
        have e0 : (0 : Int32).toInt = 0 := by decide
        refine ⟨v5.mono (by omega), ⟨by rw [e0]; omega, by rw [e0]; omega⟩, Or.inr ⟨Int32.le_refl _, ?_⟩⟩
        rw [Int32.le_iff_toInt_le, e0]
        exact v5.1
      · rw [hls]
        exact c3 f hf
      · rw [hls]
        exact fun e he => by cases he
      · rw [o 10 (by decide), o 11 (by decide)]
        exact b1
      · rw [swd_of (o 10 (by decide))]
        exact b2
      · rw [hls]
        exact fun e he => by cases he
      · rw [hls]
        exact List.nodup_nil
      · unfold wok at *
        rw [p9, o 23 (by decide), o 10 (by decide)]
        exact b6
  · rw [if_neg (c := r.1 5 = 0) (by rw [q1]; decide), if_pos q2]
    exact ⟨rfl, h⟩
theorem clR_e (x y : Int32) (hy : 1 ≤ y.toInt) : clR x y = s_L_clamp x y := by
  have e1 : (1 : Int32).toInt = 1 := by decide
  unfold clR s_L_clamp
  by_cases z1 : 1 ≤ x
  · rw [if_pos z1]
    rw [Int32.le_iff_toInt_le] at z1
    by_cases z2 : x ≤ y
    · rw [if_pos z2]
      rw [Int32.le_iff_toInt_le] at z2
      rw [if_neg (c := y < x) (by rw [Int32.lt_iff_toInt_lt]; omega)]
      by_cases z3 : 1 < x
      · rw [if_pos z3]
      · rw [if_neg z3]
        rw [Int32.lt_iff_toInt_lt] at z3
        exact toInt_inj (by omega)
    · rw [if_neg z2]
      rw [Int32.le_iff_toInt_le] at z2
      rw [if_pos (c := y < x) (by rw [Int32.lt_iff_toInt_lt]; omega)]
      by_cases z3 : 1 < y
      · rw [if_pos z3]
      · rw [if_neg z3]
        rw [Int32.lt_iff_toInt_lt] at z3
        exact toInt_inj (by omega)
  · rw [if_neg z1]
    rw [Int32.le_iff_toInt_le] at z1
    rw [if_neg (c := y < x) (by rw [Int32.lt_iff_toInt_lt]; omega), if_neg (by rw [Int32.lt_iff_toInt_lt]; omega)]
/-- a new object -/
theorem sim_init (x1 x2 x3 x4 : Int32) : RS (kI x1 x2 x3 x4) 0 0 0 (iniR x1 x2 x3 x4) tI := by
  have e0 : (0 : Int32).toInt = 0 := by decide
  have e1000 : (1000 : Int32).toInt = 1000 := by decide
  obtain ⟨k1, k2, k3⟩ := kn_e x1
  obtain ⟨l1, l2, l3⟩ := kn_e x2
  have c3 := clamp_b x3 1000 (by decide)
  have c4 := clamp_b x4 (s_L_clamp x3 1000) c3.1
  have hw : wN (iniR x1 x2 x3 x4) = 0 := by
    show (0 : Int32).toNatClampNeg = 0
    decide
  have hls : lsR (iniR x1 x2 x3 x4) = [] := by
    rw [lsR_N, hw]
    rfl
  have z0 : ∀ B : Nat, tb 0 B := fun B => ⟨by rw [e0]; omega, by rw [e0]; omega⟩
  refine ⟨⟨?_, ?_, ?_, ?_, ⟨k2, k3, l2, l3⟩, ⟨?_, ?_⟩, ⟨?_, ?_⟩⟩, ⟨rfl, Or.inl ⟨rfl, rfl⟩, rfl, rfl, z0 _, z0 _⟩, fun c hc => ⟨rfl, rfl, rfl, rfl, rfl, z0 _, fun z => absurd z (show ¬ (0 : Int32) = 2 by decide)⟩, fun c f hc hf => ⟨rfl, rfl, rfl, rfl, z0 _⟩, ⟨fun f hf => ⟨rfl, rfl⟩, fun c hc => ⟨rfl, rfl⟩⟩, fun c f hc hf => ⟨z0 _, z0 _, Or.inl rfl⟩, ⟨rfl, Nat.zero_le _, fun i hi => absurd hi (Nat.not_lt_zero _)⟩, ⟨(by rw [hw]; rfl), (Nat.le_trans (Nat.le_of_eq hw) (Nat.zero_le _)), (fun f hf => by rw [hls]; rfl), (fun e he => absurd (hls ▸ he) List.not_mem_nil), fun _ => hw⟩, ⟨(fun c hc => ⟨Int.le_of_eq e0.symm, fun z => absurd z (show ¬ (0 : Int32) = 2 by decide)⟩), ?_, (Nat.le_of_eq hw), (fun e he => absurd (hls ▸ he) List.not_mem_nil), (by rw [hls]; exact List.nodup_nil), fun i hi => ?_⟩⟩
  · show clR x1 4 = nI (kn x1)
    rw [clR_e x1 4 (by decide)]
    exact k1
  · show clR x2 4 = nI (kn x2)
    rw [clR_e x2 4 (by decide)]
    exact l1
  · exact clR_e x3 1000 (by decide)
  · show clR x4 (clR x3 1000) = _
    rw [clR_e x3 1000 (by decide), clR_e x4 _ c3.1]
    rfl
  · show 0 ≤ (s_L_clamp x3 1000).toInt
    omega
  · show (s_L_clamp x3 1000).toInt ≤ 1000
    omega
  · show 0 ≤ (s_L_clamp x4 (s_L_clamp x3 1000)).toInt
    omega
  · show (s_L_clamp x4 (s_L_clamp x3 1000)).toInt ≤ 1000
    omega
  · have : ∀ n, swd (iniR x1 x2 x3 x4) n = 0 := by
      intro n
      induction n with
      | zero => rfl
      | succ n ih =>
        rw [swd, ih]
        show 0 + (0 : Int32).toInt.toNat = 0
        rw [e0]
        rfl
    rw [this]
    exact Nat.le_refl _
  · have : pN (iniR x1 x2 x3 x4) = 0 := by
      show (0 : Int32).toNatClampNeg = 0
      decide
    rw [this] at hi
    exact absurd hi (Nat.not_lt_zero _)
end PB
