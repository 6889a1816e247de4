section OY
variable {K : kC} {N s d : Nat} {r r' : tR} {t t' : tC}
/-- the first waiting write of a file is stored -/
theorem RS.store (h : RS K N s d r t) {f k m : Nat} {l : List (Int32 × Int32 × Int32)} (hf : f < K.2.1) (hm : wN r = m + 1) (hk : k < wN r) (h1 : r.2 6 k = nI f) (h2 : ∀ j, j < k → ¬ r.2 6 j = nI f) (hl : t.2.1 f = (enR r k).2 :: l) : RS K N s d (s_R_store r m k) (s_S_storeFirst K t f) ∧ (s_S_storeFirst K t f).2.1 f = l := by
  have hK := h.1.2.2.2.2.1
  have h8 := h.2.2.2.2.2.2.2.1
  have h5 := h.2.2.2.2.1
  have hlen := h8.len hf
  have hl2 := h8.2.1
  have hmem : enR r k ∈ lsR r := List.mem_map.mpr ⟨k, List.mem_range.mpr hk, rfl⟩
  obtain ⟨_, c, hc, hce⟩ := h8.2.2.2.1 _ hmem
  have hce : r.2 5 k = nI c := hce
  have hcl : clN r k = c := pk_cl c hce (by omega)
  have hfl : flN r k = f := pk_cl f h1 (by omega)
  have hg : (t.2.1 f).getD 0 (0, 0, 0) = (r.2 5 k, r.2 7 k, r.2 8 k) := by
    rw [hl]
    rfl
  have hwc : wcN (r.2 5 k, r.2 7 k, r.2 8 k) = c := pk_cl c hce (by omega)
  have ef : (rmC t f).2.1 f = l := by
    refine ((if_neg (by omega)).trans (if_pos rfl)).trans ?_
    show (t.2.1 f).tail = l
    rw [hl]
    rfl
  unfold s_R_store s_S_storeFirst
  rw [isE_cons K hl (by omega), if_pos rfl, hg, hwc, hcl, hfl]
  dsimp only
  have x1 : (stA r 0 f (r.2 8 k)).2 1 f = r.2 1 f := by rw [stA_k _ _ _ _ (by decide)]
  have x2 : (stC (rmC t f) 3 f 0 (r.2 8 k)).1 3 f 1 = r.2 1 f := by
    have := (h5.1 f hf).2
    simp [stC, upd, rmC, this]
  rw [x1, x2]
  have hfile := h.file hf (r.2 8 k) (r.2 1 f + 1)
  have y1 : (stA (stA r 0 f (r.2 8 k)) 1 f (r.2 1 f + 1)).2 3 c = r.2 3 c := by rw [stA_k _ _ _ _ (by decide), stA_k _ _ _ _ (by decide)]
  have y2 : (stC (stC (rmC t f) 3 f 0 (r.2 8 k)) 3 f 1 (r.2 1 f + 1)).1 5 0 c = r.2 3 c := by
    rw [stC_k _ _ _ _ _ (by decide), stC_k _ _ _ _ _ (by decide)]
    exact (h5.2 c hc).1
  have y3 : (stC (stC (rmC t f) 3 f 0 (r.2 8 k)) 3 f 1 (r.2 1 f + 1)).1 3 f 1 = r.2 1 f + 1 := by simp [stC, upd]
  rw [y1, y2]
  by_cases z : r.2 7 k ≤ r.2 3 c
  · rw [if_pos z, if_pos z, y3]
    have hrem := hfile.rem (k := k) (m := m) hf hm hk (by rw [stA_k _ _ _ _ (by decide), stA_k _ _ _ _ (by decide)]; exact h1) (fun j hj => by rw [stA_k _ _ _ _ (by decide), stA_k _ _ _ _ (by decide)]; exact h2 j hj)
    have e1 : (s4R (stF (stA (stA r 0 f (r.2 8 k)) 1 f (r.2 1 f + 1)) 8 (nI m)) k m).2 1 f = r.2 1 f + 1 := (congrFun (remR_o (stA (stA r 0 f (r.2 8 k)) 1 f (r.2 1 f + 1)) k m (i := 1) (by decide)) f).trans (stA_s _ _ _ _)
    rw [e1]
    refine ⟨hrem.send (kn := 3) (by decide) hc hf rfl rfl rfl _ _ _ (fun z => absurd z (by decide)), ?_⟩
    rw [snd_w]
    exact ef
  · have y4 : (stC (stC (stC (rmC t f) 3 f 0 (r.2 8 k)) 3 f 1 (r.2 1 f + 1)) 5 0 c (r.2 7 k)).1 3 f 1 = r.2 1 f + 1 := by rw [stC_k _ _ _ _ _ (by decide)]; exact y3
    have y5 : (stA (stA (stA r 0 f (r.2 8 k)) 1 f (r.2 1 f + 1)) 3 c (r.2 7 k)).2 1 f = r.2 1 f + 1 := by rw [stA_k _ _ _ _ (by decide)]; exact stA_s _ _ _ _
    rw [if_neg z, if_neg z, y4, y5]
    have y6 : (stC (stC (stC (stC (rmC t f) 3 f 0 (r.2 8 k)) 3 f 1 (r.2 1 f + 1)) 5 0 c (r.2 7 k)) 6 0 c (r.2 1 f + 1)).1 3 f 1 = r.2 1 f + 1 := by rw [stC_k _ _ _ _ _ (by decide)]; exact y4
    rw [y6]
    have hlast := hfile.last (c := c) (r.2 7 k) (r.2 1 f + 1)
    have hrem := hlast.rem (k := k) (m := m) hf hm hk (by rw [stA_k _ _ _ _ (by decide), stA_k _ _ _ _ (by decide), stA_k _ _ _ _ (by decide), stA_k _ _ _ _ (by decide)]; exact h1) (fun j hj => by rw [stA_k _ _ _ _ (by decide), stA_k _ _ _ _ (by decide), stA_k _ _ _ _ (by decide), stA_k _ _ _ _ (by decide)]; exact h2 j hj)
    have e1 : (s4R (stF (stA (stA (stA (stA r 0 f (r.2 8 k)) 1 f (r.2 1 f + 1)) 3 c (r.2 7 k)) 4 c (r.2 1 f + 1)) 8 (nI m)) k m).2 1 f = r.2 1 f + 1 := (congrFun (remR_o (stA (stA (stA (stA r 0 f (r.2 8 k)) 1 f (r.2 1 f + 1)) 3 c (r.2 7 k)) 4 c (r.2 1 f + 1)) k m (i := 1) (by decide)) f).trans (by rw [stA_k _ _ _ _ (by decide), stA_k _ _ _ _ (by decide)]; exact stA_s _ _ _ _)
    rw [e1]
    refine ⟨hrem.send (kn := 3) (by decide) hc hf rfl rfl rfl _ _ _ (fun z => absurd z (by decide)), ?_⟩
    rw [snd_w]
    exact ef
theorem frL_spec (r : tR) (f : Nat) : ∀ n, (frL r f n = 0 ∧ (r.1 4 < r.1 7 ∨ ∃ c, c < n ∧ ¬ r.2 2 (4 * c + f) ≤ r.1 4)) ∨ (frL r f n = 1 ∧ ¬ r.1 4 < r.1 7 ∧ ∀ c, c < n → r.2 2 (4 * c + f) ≤ r.1 4) := by
  intro n
  induction n with
  | zero =>
    rw [frL]
    by_cases z : r.1 4 < r.1 7
    · rw [if_pos z]
      exact Or.inl ⟨rfl, Or.inl z⟩
    · rw [if_neg z]
      exact Or.inr ⟨rfl, z, fun c hc => absurd hc (Nat.not_lt_zero _)⟩
  | succ n ih =>
    rw [frL]
    unfold s_R_isLeased
    rcases ih with ⟨a, b⟩ | ⟨a, b, e⟩
    · rw [if_pos a]
      refine Or.inl ⟨rfl, ?_⟩
      rcases b with b | ⟨c, hc, b⟩
      · exact Or.inl b
      · exact Or.inr ⟨c, by omega, b⟩
    · rw [a, if_neg (by decide)]
      by_cases z : r.2 2 (4 * n + f) ≤ r.1 4
      · rw [if_pos z, if_pos rfl]
        refine Or.inr ⟨rfl, b, fun c hc => ?_⟩
        by_cases q : c = n
        · rw [q]
          exact z
        · exact e c (by omega)
      · rw [if_neg z, if_neg (by decide)]
        exact Or.inl ⟨rfl, Or.inr ⟨n, Nat.lt_succ_self n, z⟩⟩
theorem ilL_spec (g : Nat → Int32) (x : Int32) : ∀ r n, (ilL g x r n = 0 ∧ ∀ c, n ≤ c → c < n + r → g c ≤ x) ∨ (ilL g x r n = 1 ∧ ∃ c, n ≤ c ∧ c < n + r ∧ ¬ g c ≤ x) := by
  intro r
  induction r with
  | zero => exact fun n => Or.inl ⟨rfl, fun c h1 h2 => by omega⟩
  | succ r ih =>
    intro n
    rw [ilL]
    by_cases z : g n ≤ x
    · rw [if_pos z]
      rcases ih (n + 1) with ⟨a, b⟩ | ⟨a, c, c1, c2, c3⟩
      · refine Or.inl ⟨a, fun c h1 h2 => ?_⟩
        by_cases q : c = n
        · rw [q]
          exact z
        · exact b c (by omega) (by omega)
      · exact Or.inr ⟨a, c, by omega, by omega, c3⟩
    · rw [if_neg z]
      exact Or.inr ⟨rfl, n, Nat.le_refl _, by omega, z⟩
/-- may it be stored: the same on both sides -/
theorem RS.may (h : RS K N s d r t) {f : Nat} {e : Int32 × Int32 × Int32} {l : List (Int32 × Int32 × Int32)} (hf : f < K.2.1) (hl : t.2.1 f = e :: l) : s_S_mayStore K t f = s_R_isFree r f := by
  have hK := h.1.2.2.2.2.1
  have h8 := h.2.2.2.2.2.2.2.1
  have hlen := h8.len hf
  have hl2 := h8.2.1
  have hV := h.2.1
  have hL := h.2.2.2.2.2.1
  have hcN : cN r = K.1 := pk_cl K.1 h.1.1 (by omega)
  unfold s_S_mayStore s_R_isFree s_F_isLeasedAt
  rw [isE_cons K hl (by omega), if_pos rfl, hV.1, hV.2.2.2.1, hcN]
  rcases frL_spec r f K.1 with ⟨a, b⟩ | ⟨a, b, e9⟩
  · rw [a]
    rcases b with b | ⟨c, hc, b⟩
    · rw [if_pos b]
    · by_cases z : r.1 4 < r.1 7
      · rw [if_pos z]
      · rw [if_neg z]
        rcases ilL_spec (t.1 4 f) (r.1 4) K.1 0 with ⟨_, q⟩ | ⟨q, _⟩
        · exact absurd ((hL.gt hc hf).mp (q c (Nat.zero_le _) (by omega))) b
        · rw [q, if_neg (by decide)]
  · rw [a, if_neg b]
    rcases ilL_spec (t.1 4 f) (r.1 4) K.1 0 with ⟨q, _⟩ | ⟨_, c, _, hc, q⟩
    · rw [q, if_pos rfl]
    · exact absurd ((hL.gt (by omega) hf).mpr (e9 c (by omega))) q
theorem may_nil (K : kC) {t : tC} {f : Nat} (h : t.2.1 f = []) : s_S_mayStore K t f = 0 := by
  unfold s_S_mayStore
  rw [isE_nil K h, if_neg (by decide)]
theorem swI_nil (K : kC) (f : Nat) {t : tC} (h : t.2.1 f = []) (n b : Nat) : swI K f n t b = (t, b) := by
  cases n with
  | zero => rfl
  | succ n => rw [swI, may_nil K h, if_pos rfl]
/-- one file: all that may be stored -/
theorem RS.inner {f : Nat} (hf : f < K.2.1) : ∀ (n1 n2 b : Nat) {r : tR} {t : tC}, RS K N s d r t → (t.2.1 f).length ≤ n1 → (t.2.1 f).length ≤ n2 → RS K N s d (inL f n1 r).1 (swI K f n2 t b).1 ∧ (swI K f n2 t b).2 = b + (inL f n1 r).2 := by
  intro n1
  induction n1 with
  | zero =>
    intro n2 b r t h h1 h2
    have : t.2.1 f = [] := List.length_eq_zero_iff.mp (by omega)
    rw [swI_nil K f this]
    exact ⟨h, rfl⟩
  | succ n1 ih =>
    intro n2 b r t h h1 h2
    have h8 := h.2.2.2.2.2.2.2.1
    have hl2 := h8.2.1
    rw [inL]
    rcases h8.fo hf with ⟨x, y⟩ | ⟨k, l, hk, g1, g2, y, y2, x⟩
    · rw [swI_nil K f x, y, if_pos (by decide)]
      exact ⟨h, rfl⟩
    · rw [y, y2, if_neg (c := nI k < 0) (nI_pos (by omega))]
      rw [x] at h1 h2
      obtain ⟨n3, rfl⟩ : ∃ n3, n2 = n3 + 1 := ⟨n2 - 1, by have : 1 ≤ n2 := Nat.le_trans (Nat.succ_le_succ (Nat.zero_le _)) h2; omega⟩
      rw [swI, h.may hf x]
      by_cases z : s_R_isFree r f = 0
      · rw [if_pos z, if_pos z]
        exact ⟨h, rfl⟩
      · rw [if_neg z, if_neg z]
        obtain ⟨m, hm⟩ : ∃ m, wN r = m + 1 := ⟨wN r - 1, by omega⟩
        obtain ⟨q1, q2⟩ := h.store hf hm hk g1 g2 x
        rw [hm, Nat.add_sub_cancel]
        have e1 : l.length ≤ n1 := Nat.le_of_succ_le_succ h1
        have e2 : l.length ≤ n3 := Nat.le_of_succ_le_succ h2
        obtain ⟨p1, p2⟩ := ih n3 (b + 1) q1 (by rw [q2]; exact e1) (by rw [q2]; exact e2)
        refine ⟨p1, ?_⟩
        rw [p2]
        show b + 1 + (inL f n1 (s_R_store r m k)).2 = b + ((inL f n1 (s_R_store r m k)).2 + 1)
        omega
/-- all files -/
theorem RS.outer (hsd : s + d ≤ 512) : ∀ (n f b : Nat) {t : tC}, n + f = K.2.1 → RS K N s d (saL r f).1 t → b = (saL r f).2 → RS K N s d (saL r K.2.1).1 (swO K n f t b).1 ∧ (swO K n f t b).2 = (saL r K.2.1).2 := by
  intro n
  induction n with
  | zero =>
    intro f b t hn h hb
    have : f = K.2.1 := by omega
    subst this
    exact ⟨h, hb⟩
  | succ n ih =>
    intro f b t hn h hb
    have hf : f < K.2.1 := by omega
    have hw := h.wlen hf
    have hlen := h.2.2.2.2.2.2.2.1.len hf
    obtain ⟨p1, p2⟩ := RS.inner hf (wN (saL r f).1) 256 b h hlen (by omega)
    rw [swO]
    refine ih (f + 1) _ (by omega) ?_ ?_
    · rw [saL]
      exact p1
    · rw [saL, p2, hb]
theorem RS.all (h : RS K N s d r t) (hsd : s + d ≤ 512) : RS K N s d (s_R_storeAll r).1 (s_S_storeWhatMay K t).1 ∧ (s_S_storeWhatMay K t).2 = (s_R_storeAll r).2 := by
  have hfN : fN r = K.2.1 := pk_cl K.2.1 h.1.2.1 (by have := h.1.2.2.2.2.1; omega)
  obtain ⟨p1, p2⟩ := RS.outer (r := r) hsd K.2.1 0 0 (t := t) (by omega) h rfl
  unfold s_R_storeAll s_S_storeWhatMay
  rw [hfN]
  exact ⟨p1, congrArg nI p2⟩
end OY
