theorem flt_len (f : Nat) (l : List (Int32 × Int32 × Int32 × Int32)) : (flt f l).length ≤ l.length := List.length_filterMap_le _ _
theorem isE_nil (K : kC) {t : tC} {f : Nat} (h : t.2.1 f = []) : s_A_isEmpty K t f = 1 := by
  unfold s_A_isEmpty
  rw [h]
  rfl
theorem isE_cons (K : kC) {t : tC} {f : Nat} {e : Int32 × Int32 × Int32} {l : List (Int32 × Int32 × Int32)} (h : t.2.1 f = e :: l) (hl : (t.2.1 f).length < 2 ^ 31) : s_A_isEmpty K t f = 0 := by
  unfold s_A_isEmpty
  rw [if_neg]
  intro z
  have : (t.2.1 f).length = 0 := (nI_eq (b := 0) hl (by omega)).mp z
  rw [h] at this
  cases this
theorem isF_nil (K : kC) {t : tC} {f : Nat} (h : t.2.1 f = []) (x y : Int32) : s_F_isFirst K t f x y = 0 := by
  unfold s_F_isFirst
  rw [isE_nil K h, if_neg (by decide)]
theorem isF_cons (K : kC) {t : tC} {f : Nat} {e : Int32 × Int32 × Int32} {l : List (Int32 × Int32 × Int32)} (h : t.2.1 f = e :: l) (hl : (t.2.1 f).length < 2 ^ 31) (x y : Int32) : s_F_isFirst K t f x y = if e.1 = x ∧ e.2.1 = y then 1 else 0 := by
  unfold s_F_isFirst s_W_isOf
  rw [isE_cons K h hl, if_pos rfl, h]
  show (if (if e.1 = x then (if e.2.1 = y then (1 : Int32) else 0) else 0) = 0 then (0 : Int32) else 1) = _
  by_cases z1 : e.1 = x
  · by_cases z2 : e.2.1 = y
    · rw [if_pos z1, if_pos z2, if_pos (c := e.1 = x ∧ e.2.1 = y) ⟨z1, z2⟩]
      rfl
    · rw [if_pos z1, if_neg z2, if_neg (c := e.1 = x ∧ e.2.1 = y) (fun z => z2 z.2)]
      rfl
  · rw [if_neg z1, if_neg (c := e.1 = x ∧ e.2.1 = y) (fun z => z1 z.1)]
    rfl
section OU
variable {K : kC} {N s d : Nat} {r r' : tR} {t t' : tC}
theorem RW.len (h : RW K r t) {f : Nat} (hf : f < K.2.1) : (t.2.1 f).length ≤ wN r := by
  rw [h.2.2.1 f hf]
  refine Nat.le_trans (flt_len f _) ?_
  rw [lsR_N, lsN_len]
  exact Nat.le_refl _
/-- the first of a file, on both sides -/
theorem RW.fo (h : RW K r t) {f : Nat} (hf : f < K.2.1) : (t.2.1 f = [] ∧ s_R_firstOf r f = -1) ∨ ∃ k l, k < wN r ∧ r.2 6 k = nI f ∧ (∀ j, j < k → ¬ r.2 6 j = nI f) ∧ s_R_firstOf r f = nI k ∧ foN r f = k ∧ t.2.1 f = (enR r k).2 :: l := by
  have h2 := h.2.1
  rcases foL_spec r f (wN r) (-1) with ⟨a, b, _⟩ | ⟨k, hk, a, b, e⟩
  · refine Or.inl ⟨?_, b⟩
    rw [h.2.2.1 f hf, lsR_N]
    exact a
  · obtain ⟨l, hl⟩ := flt_first r f hk a b
    refine Or.inr ⟨k, l, hk, a, b, e, pk_cl k e (by omega), ?_⟩
    rw [h.2.2.1 f hf, lsR_N]
    exact hl
theorem RL.at (h : RL K N r t) (c f : Nat) (hf4 : K.2.1 ≤ 4) (hf : f < K.2.1) (e4 : r'.1 4 = r.1 4) (eo : ∀ i, i ≠ 4 * c + f → r'.2 2 i = r.2 2 i) (et : ∀ f' c', (f', c') ≠ (f, c) → t'.1 4 f' c' = t.1 4 f' c') (hi : tb (t'.1 4 f c) (1000 * N + 1000) ∧ tb (r'.2 2 (4 * c + f)) (1000 * N + 1000) ∧ (t'.1 4 f c = r'.2 2 (4 * c + f) ∨ t'.1 4 f c ≤ r'.1 4 ∧ r'.2 2 (4 * c + f) ≤ r'.1 4)) : RL K N r' t' := by
  intro c' f' hc' hf'
  by_cases z : (f', c') = (f, c)
  · cases z
    exact hi
  · have hne : 4 * c' + f' ≠ 4 * c + f := by
      intro q
      have : c' = c ∧ f' = f := by omega
      exact z (by rw [this.1, this.2])
    rw [et f' c' z, eo _ hne, e4]
    exact h c' f' hc' hf'
theorem stC_4 (t : tC) (f c : Nat) (x : Int32) {f' c' : Nat} (h : (f', c') ≠ (f, c)) : (stC t 4 f c x).1 4 f' c' = t.1 4 f' c' := by
  by_cases z : f' = f
  · subst z
    have hc : c' ≠ c := fun q => h (by rw [q])
    simp [stC, upd, hc]
  · rw [stC_i _ _ _ _ _ z]
/-- a lease is written, on both sides or where it is over anyway -/
theorem RS.lease (h : RS K N s d r t) {c f : Nat} (hf : f < K.2.1) (x y : Int32) (hx : tb x (1000 * N + 1000)) (hy : tb y (1000 * N + 1000)) (hxy : x = y ∨ x ≤ r.1 4 ∧ y ≤ r.1 4) : RS K N s d (stA r 2 (4 * c + f) y) (stC t 4 f c x) := by
  have hK := h.1.2.2.2.2.1
  obtain ⟨h1, h2, h3, h4, h5, h6, h7, h8, h9⟩ := h
  have o := fun m (hm : m ≠ 2) => stA_k r 2 (4 * c + f) y (m := m) hm
  have q := fun m (hm : m ≠ 4) => stC_k t 4 f c x (m := m) hm
  refine ⟨h1.of (fun m hm => rfl), h2.of (fun m _ _ => rfl) (by rw [q 2 (by decide)]), h3.of (fun m _ _ => o m (by omega)) (q 0 (by decide)), h4.of (fun m _ _ => o m (by omega)) (q 1 (by decide)), h5.of (o 0 (by decide)) (o 1 (by decide)) (o 3 (by decide)) (o 4 (by decide)) (q 3 (by decide)) (q 5 (by decide)) (q 6 (by decide)), h6.at c f hK.2.2.2 hf rfl (fun i hi => stA_c r 2 _ y 2 hi) (fun f' c' hh => stC_4 t f c x hh) ?_, h7.of rfl (o 23 (by decide)) (fun i _ => by rw [q 7 (by decide)]) rfl, h8.of rfl rfl (fun m _ _ => o m (by omega)) (fun f _ => rfl), h9.of rfl rfl (fun m _ _ => o m (by omega)) (o 10 (by decide)) (fun c' z => by rw [o 11 (by decide)] at z; exact z) (o 23 (by decide))⟩
  have e1 : (stC t 4 f c x).1 4 f c = x := by simp [stC, upd]
  rw [e1, stA_s]
  exact ⟨hx, hy, hxy⟩
theorem send_lease (r : tR) (i : Nat) (v k cc ff wo a b e : Int32) : stA (s_R_send r k cc ff wo a b e) 2 i v = s_R_send (stA r 2 i v) k cc ff wo a b e := by
  unfold s_R_send
  have hp : pN (stA r 2 i v) = pN r := rfl
  rw [hp]
  split
  · rfl
  · refine Prod.ext rfl (funext fun m => ?_)
    by_cases z2 : m = 2
    · subst z2
      simp [stF, stA]
    · by_cases z23 : m = 23
      · subst z23
        simp [stF, stA]
      · simp [stF, stA, z2, z23]
/-- ASK comes -/
theorem RS.asked (h : RS K N s d r t) {c f : Nat} (hc : c < K.1) (hf : f < K.2.1) {wo : Int32} (m1 : t.1 7 64 1 = nI c) (m2 : t.1 7 64 2 = nI f) (m3 : t.1 7 64 3 = wo) (hN : N ≤ 513) : RS K N s d (s_R_asked r c f wo) (s_S_receiveAsk K t) := by
  have hK := h.1.2.2.2.2.1
  have hmf : mfC t 64 = f := pk_cl f m2 (by omega)
  have hmc : mcC t 64 = c := pk_cl c m1 (by omega)
  have h8 := h.2.2.2.2.2.2.2.1
  have h5 := h.2.2.2.2.1.1 f hf
  have hV := h.2.1
  have e7 : (stC t 4 f c (t.1 2 0 0 + K.2.2.1)).1 7 = t.1 7 := stC_k _ _ _ _ _ (by decide)
  have e3 : (stC t 4 f c (t.1 2 0 0 + K.2.2.1)).1 3 = t.1 3 := stC_k _ _ _ _ _ (by decide)
  have hlen := h8.len hf
  have hl2 := h8.2.1
  unfold s_R_asked s_S_receiveAsk
  rw [hmf, hmc, e7, e3, m3, h5.1, h5.2]
  rcases h8.fo hf with ⟨a, b⟩ | ⟨k, l, hk, _, _, b, _, a⟩
  · rw [b, if_neg (by decide), isE_nil K a, if_neg (c := (1 : Int32) = 0) (by decide), if_neg (c := (1 : Int32) = 0) (by decide), if_neg (c := (1 : Int32) = 0) (by decide), if_neg (c := (1 : Int32) = 0) (by decide)]
    have e4 : (s_R_send r 2 (nI c) (nI f) wo (r.2 0 f) (r.2 1 f) 1).1 4 = r.1 4 := sendR_n _ _ _ _ _ _ _ _ (by decide)
    have e2 : (s_R_send r 2 (nI c) (nI f) wo (r.2 0 f) (r.2 1 f) 1).1 2 = r.1 2 := sendR_n _ _ _ _ _ _ _ _ (by decide)
    rw [e4, e2, send_lease, hV.1, h.1.2.2.1]
    have ht := h.1.2.2.2.2.2.1
    have hv := hV.2.2.2.2.1
    have hb : tb (r.1 4 + K.2.2.1) (1000 * N + 1000) := by
      unfold tb at ht hv ⊢
      rw [add_toInt (by omega) (by omega)]
      omega
    exact (h.lease hf _ _ hb hb (Or.inl rfl)).send (kn := 2) (by decide) hc hf rfl rfl rfl _ _ _ (fun z => absurd z (by decide))
  · rw [b, if_pos (c := 0 ≤ nI k) ((nI_leI (a := 0) (by omega) (by omega)).mpr (by omega)), isE_cons K a (by omega), if_pos (c := (0 : Int32) = 0) rfl, if_pos (c := (0 : Int32) = 0) rfl, if_pos (c := (0 : Int32) = 0) rfl, if_pos (c := (0 : Int32) = 0) rfl]
    exact h.send (kn := 2) (by decide) hc hf rfl rfl rfl _ _ _ (fun z => absurd z (by decide))
/-- FREE comes -/
theorem RS.freed (h : RS K N s d r t) {c f : Nat} (hc : c < K.1) (hf : f < K.2.1) {wo a b : Int32} (m1 : t.1 7 64 1 = nI c) (m2 : t.1 7 64 2 = nI f) (m3 : t.1 7 64 3 = wo) (m4 : t.1 7 64 4 = a) (m5 : t.1 7 64 5 = b) (hN : N ≤ 513) : RS K N s d (s_R_freed r c f wo a b) (s_S_receiveFree K t) := by
  have hK := h.1.2.2.2.2.1
  have hmf : mfC t 64 = f := pk_cl f m2 (by omega)
  have hmc : mcC t 64 = c := pk_cl c m1 (by omega)
  have h8 := h.2.2.2.2.2.2.2.1
  have hV := h.2.1
  have hL := h.2.2.2.2.2.1
  have hlen := h8.len hf
  have hl2 := h8.2.1
  unfold s_R_freed s_S_receiveFree
  rw [hmf, hmc, m3, m4, m5, hV.2.2.1, hV.1]
  by_cases zb : b = r.1 6
  · rw [if_pos zb, if_pos zb]
    rcases h8.fo hf with ⟨x, y⟩ | ⟨k, l, hk, _, _, y, y2, x⟩
    · rw [y, if_pos (by decide), isF_nil K x, if_pos rfl]
      exact h
    · rw [y, y2, if_neg (c := nI k < 0) (nI_pos (by omega)), isF_cons K x (by omega)]
      show RS K N s d (if r.2 5 k = a then (if r.2 7 k = wo then _ else r) else r) (if (if r.2 5 k = a ∧ r.2 7 k = wo then (1 : Int32) else 0) = 0 then t else _)
      by_cases z : r.2 5 k = a ∧ r.2 7 k = wo
      · rw [if_pos z.1, if_pos z.2, if_pos z, if_neg (c := (1 : Int32) = 0) (by decide)]
        have hv := hV.2.2.2.2.1
        have hv2 : tb (r.1 4) (1000 * N + 1000) := hv.mono (by omega)
        unfold s_R_isLeased
        by_cases zl : r.2 2 (4 * c + f) ≤ r.1 4
        · rw [if_pos zl, if_pos rfl]
          exact h.lease hf _ _ hv2 (hL c f hc hf).2.1 (Or.inr ⟨Int32.le_refl _, zl⟩)
        · rw [if_neg zl, if_neg (c := (1 : Int32) = 0) (by decide)]
          exact h.lease hf _ _ hv2 hv2 (Or.inl rfl)
      · rw [if_neg z, if_pos rfl]
        by_cases z1 : r.2 5 k = a
        · rw [if_pos z1, if_neg (fun z2 => z ⟨z1, z2⟩)]
          exact h
        · rw [if_neg z1]
          exact h
  · rw [if_neg zb, if_neg zb]
    exact h
end OU
