section OW
variable {K : kC} {N s d : Nat} {r r' : tR} {t t' : tC}
theorem RS.dm (h : RS K N s d r t) {d' : Nat} (hd : d ≤ d') : RS K N s d' r t := by
  obtain ⟨h1, h2, h3, h4, h5, h6, h7, h8, b1, b2, b3, b4⟩ := h
  exact ⟨h1, h2, h3, h4, h5, h6, h7, h8, b1, b2, Nat.le_trans b3 hd, b4⟩
theorem RS.rc (h : RS K N s d r t) {c f : Nat} (hc : c < K.1) (hf : f < K.2.1) {wo : Int32} (m1 : t.1 7 64 1 = nI c) (m2 : t.1 7 64 2 = nI f) (m3 : t.1 7 64 3 = wo) : ∀ n, n ≤ K.1 → RS K N s d (rcL r c f wo n) (rcC K t n) := by
  have hK := h.1.2.2.2.2.1
  have hmf : mfC t 64 = f := pk_cl f m2 (by omega)
  have hmc : mcC t 64 = c := pk_cl c m1 (by omega)
  have hp := h.2.2.2.2.2.2.1.2.1
  intro n
  induction n with
  | zero => exact fun _ => h
  | succ n ih =>
    intro hn
    have i := ih (by omega)
    have e64 := (rcC_k K t hp n).2.1
    have hV := i.2.1
    have hg := i.2.2.2.2.2.1.gt (c := n) (f := f) (by omega) hf
    rw [rcL, rcC, hmf, hmc, e64, m3, hV.1, hV.2.2.1]
    unfold s_R_isLeased
    by_cases z : (rcL r c f wo n).2 2 (4 * n + f) ≤ (rcL r c f wo n).1 4
    · rw [if_pos z, if_pos rfl, if_pos (hg.mpr z)]
      exact i
    · rw [if_neg z, if_neg (c := (1 : Int32) = 0) (by decide), if_neg (fun q => z (hg.mp q))]
      exact i.send (kn := 4) (by decide) (c := n) (by omega) hf rfl rfl rfl _ _ _ (fun z => absurd z (by decide))
/-- recalls go out if it is the first -/
theorem RS.put160 (h : RS K N s d r t) {c f : Nat} (hc : c < K.1) (hf : f < K.2.1) {wo : Int32} (m1 : t.1 7 64 1 = nI c) (m2 : t.1 7 64 2 = nI f) (m3 : t.1 7 64 3 = wo) (hne : t.2.1 f ≠ []) : RS K N s d (s_R_put160 r c f wo) (s_S_put99 K t) := by
  have hK := h.1.2.2.2.2.1
  have hmf : mfC t 64 = f := pk_cl f m2 (by omega)
  have hmc : mcC t 64 = c := pk_cl c m1 (by omega)
  have h8 := h.2.2.2.2.2.2.2.1
  have hlen := h8.len hf
  have hl2 := h8.2.1
  have hcN : cN r = K.1 := pk_cl K.1 h.1.1 (by omega)
  unfold s_R_put160 s_S_put99 s_S_recall
  rcases h8.fo hf with ⟨x, _⟩ | ⟨k, l, hk, _, _, _, y2, x⟩
  · exact absurd x hne
  · rw [hmf, hmc, m3, y2, isF_cons K x (by omega), hcN]
    show RS K N s d (if r.2 5 k = nI c then (if r.2 7 k = wo then _ else r) else r) (if (if r.2 5 k = nI c ∧ r.2 7 k = wo then (1 : Int32) else 0) = 0 then t else _)
    by_cases z : r.2 5 k = nI c ∧ r.2 7 k = wo
    · rw [if_pos z.1, if_pos z.2, if_pos z, if_neg (c := (1 : Int32) = 0) (by decide)]
      exact h.rc hc hf m1 m2 m3 K.1 (Nat.le_refl _)
    · rw [if_neg z, if_pos rfl]
      by_cases z1 : r.2 5 k = nI c
      · rw [if_pos z1, if_neg (fun z2 => z ⟨z1, z2⟩)]
        exact h
      · rw [if_neg z1]
        exact h
/-- PUT comes -/
theorem RS.putCame (h : RS K N s d r t) {c f : Nat} (hc : c < K.1) (hf : f < K.2.1) {wo v : Int32} (m1 : t.1 7 64 1 = nI c) (m2 : t.1 7 64 2 = nI f) (m3 : t.1 7 64 3 = wo) (m4 : t.1 7 64 4 = v) (hw : wok r c wo) (hup : r.1 5 = 0) (hsd : s + d + 1 ≤ 512) : RS K N s (d + 1) (s_R_putCame r c f wo v) (s_S_receivePut K t) := by
  have hK := h.1.2.2.2.2.1
  have hmf : mfC t 64 = f := pk_cl f m2 (by omega)
  have hmc : mcC t 64 = c := pk_cl c m1 (by omega)
  have h8 := h.2.2.2.2.2.2.2.1
  have hF := h.2.2.2.2.1.2 c hc
  have hwl := h.wlen hf
  have hwd : wN r ≤ d := h.2.2.2.2.2.2.2.2.2.2.1
  have hls := h8.2.2.1 f hf
  unfold s_R_putCame s_S_receivePut
  rw [hmf, hmc, m3, m4, hF.1, hF.2]
  by_cases z : wo = r.2 3 c
  · rw [if_pos z, if_pos z]
    exact (h.dm (Nat.le_succ d)).send (kn := 3) (by decide) hc hf rfl rfl rfl _ _ _ (fun z => absurd z (by decide))
  · rw [if_neg z, if_neg z]
    by_cases z1 : r.2 3 c ≤ wo
    · have z2 : r.2 3 c < wo := by
        rw [Int32.le_iff_toInt_le] at z1
        rw [Int32.lt_iff_toInt_lt]
        have : (r.2 3 c).toInt ≠ wo.toInt := fun q => z (toInt_inj q.symm)
        omega
      rw [if_pos z1, if_pos z2]
      rcases anL_spec r c f wo (wN r) with ⟨g1, g2⟩ | ⟨g1, e, he, g2⟩
      · have hiw : s_F_isWaiting K t f (nI c) wo = 0 := by
          rcases iw_mem K t f (nI c) wo with ⟨q, _⟩ | ⟨_, x, hx, hh⟩
          · exact q
          · rw [hls] at hx
            exact absurd ⟨rfl, hh⟩ (g2 _ (mem_flt.mp hx))
        rw [if_pos g1, if_pos hiw]
        have hp := h.put hc hf v hw g2 (by omega) (by omega) hup
        have e1 := adl_1 K t f (nI c) wo v
        have ea := (adl_eq K (t := t) (f := f) (nI c) wo v (by omega) (by omega)).1
        exact hp.put160 hc hf (by rw [e1]; exact m1) (by rw [e1]; exact m2) (by rw [e1]; exact m3) (by rw [ea]; simp)
      · have hm : e.2 ∈ t.2.1 f := by
          rw [hls]
          refine mem_flt.mpr ?_
          rw [← g2.1]
          exact he
        have hiw : s_F_isWaiting K t f (nI c) wo = 1 := by
          rcases iw_mem K t f (nI c) wo with ⟨_, q⟩ | ⟨q, _⟩
          · exact absurd ⟨g2.2.1, g2.2.2⟩ (q _ hm)
          · exact q
        rw [g1, hiw, if_neg (c := (1 : Int32) = 0) (by decide), if_neg (c := (1 : Int32) = 0) (by decide)]
        exact (h.dm (Nat.le_succ d)).put160 hc hf m1 m2 m3 (fun q => by rw [q] at hm; cases hm)
    · have z2 : ¬ r.2 3 c < wo := by
        rw [Int32.le_iff_toInt_le] at z1
        rw [Int32.lt_iff_toInt_lt]
        omega
      rw [if_neg z1, if_neg z2]
      exact h.dm (Nat.le_succ d)
end OW
