/-! what the contracts ask, out of RS -/
theorem has_or {n : Nat} (hn : n < 1000) (x : Int32) : (∃ c, c < n ∧ x = nI c) ∨ (if x < 0 then (0 : Int32) else if nI n ≤ x then 0 else 1) = 0 := by
  by_cases h1 : x < 0
  · exact Or.inr (by rw [if_pos h1])
  · by_cases h2 : nI n ≤ x
    · exact Or.inr (by rw [if_neg h1, if_pos h2])
    · refine Or.inl ⟨x.toInt.toNat, ?_, toInt_inj ?_⟩
      · rw [Int32.lt_iff_toInt_lt] at h1
        rw [Int32.le_iff_toInt_le, nI_toInt (by omega)] at h2
        have e0 : (0 : Int32).toInt = 0 := by decide
        omega
      · rw [Int32.lt_iff_toInt_lt] at h1
        rw [Int32.le_iff_toInt_le, nI_toInt (by omega)] at h2
        have e0 : (0 : Int32).toInt = 0 := by decide
        rw [nI_toInt (by omega)]
        omega
section PC
variable {K : kC} {N s d : Nat} {r : tR} {t : tC}
theorem RS.cl_or (h : RS K N s d r t) (x : Int32) : (∃ c, c < K.1 ∧ x = nI c) ∨ (s_L_hasClient K t x = 0 ∧ s_R_isClient r x = 0) := by
  have hK := h.1.2.2.2.2.1
  rcases has_or (n := K.1) (by omega) x with z | z
  · exact Or.inl z
  · refine Or.inr ⟨z, ?_⟩
    unfold s_R_isClient
    rw [h.1.1]
    exact z
theorem RS.fl_or (h : RS K N s d r t) (x : Int32) : (∃ f, f < K.2.1 ∧ x = nI f) ∨ (s_L_hasFile K t x = 0 ∧ s_R_isFile r x = 0) := by
  have hK := h.1.2.2.2.2.1
  rcases has_or (n := K.2.1) (by omega) x with z | z
  · exact Or.inl z
  · refine Or.inr ⟨z, ?_⟩
    unfold s_R_isFile
    rw [h.1.2.1]
    exact z
theorem RS.ms_or (h : RS K N s d r t) (x : Int32) : (∃ k, k < t.2.2 ∧ x = nI k) ∨ (s_P_holds K t x = 0 ∧ s_R_isMessage r x = 0) := by
  have h7 := h.2.2.2.2.2.2.1
  have h64 := h7.2.1
  rcases has_or (n := t.2.2) (by omega) x with z | z
  · exact Or.inl z
  · refine Or.inr ⟨z, ?_⟩
    unfold s_R_isMessage
    rw [h7.1]
    exact z
theorem RS.okP (h : RS K N s d r t) : okP r := h.2.2.2.2.2.2.1.ok
theorem RS.okW (h : RS K N s d r t) : okW r := ⟨h.2.2.2.2.2.2.2.1.1, by have := h.2.2.2.2.2.2.2.1.2.1; omega⟩
theorem RS.okC (h : RS K N s d r t) : okC r := by
  have hK := h.1.2.2.2.2.1
  have e : cN r = K.1 := pk_cl K.1 h.1.1 (by omega)
  exact ⟨by rw [e]; exact h.1.1, by omega⟩
theorem RS.okF (h : RS K N s d r t) : okF r := by
  have hK := h.1.2.2.2.2.1
  have e : fN r = K.2.1 := pk_cl K.2.1 h.1.2.1 (by omega)
  exact ⟨by rw [e]; exact h.1.2.1, by omega⟩
theorem RS.wf (h : RS K N s d r t) : wfR r := by
  have hK := h.1.2.2.2.2.1
  refine ⟨h.okP, h.okW, h.okC, h.okF, fun k hk => ?_⟩
  obtain ⟨⟨f, hf, ef⟩, c, hc, ec⟩ := h.2.2.2.2.2.2.2.1.2.2.2.1 (enR r k) (List.mem_map.mpr ⟨k, List.mem_range.mpr hk, rfl⟩)
  have ef : r.2 6 k = nI f := ef
  have ec : r.2 5 k = nI c := ec
  have e1 : clN r k = c := pk_cl c ec (by omega)
  have e2 : flN r k = f := pk_cl f ef (by omega)
  exact ⟨by rw [e1]; exact ec, by omega, by rw [e2]; exact ef, by omega⟩
theorem RS.okM (h : RS K N s d r t) {k : Nat} (hk : k < t.2.2) : okM r k ∧ okMC K t k ∧ k < pN r := by
  have hK := h.1.2.2.2.2.1
  have h7 := h.2.2.2.2.2.2.1
  obtain ⟨g1, _, ⟨c, hc, g3⟩, f, hf, g4⟩ := h7.2.2 k hk
  have e1 : mcN r k = c := pk_cl c g3 (by omega)
  have e2 : mfN r k = f := pk_cl f g4 (by omega)
  have m1 := (g1 1 (by decide)).trans g3
  have m2 := (g1 2 (by decide)).trans g4
  have e3 : mcC t k = c := pk_cl c m1 (by omega)
  have e4 : mfC t k = f := pk_cl f m2 (by omega)
  exact ⟨⟨by rw [e1]; exact g3, by omega, by rw [e2]; exact g4, by omega⟩, ⟨by rw [e3]; exact m1, by omega, by rw [e4]; exact m2, by omega⟩, by rw [h7.pn]; exact hk⟩
theorem RS.okWC (h : RS K N s d r t) : okWC K t := by
  have hK := h.1.2.2.2.2.1
  have h8 := h.2.2.2.2.2.2.2.1
  intro f hf e he
  rw [h8.2.2.1 f hf] at he
  obtain ⟨_, c, hc, ec⟩ := h8.2.2.2.1 _ (mem_flt.mp he)
  have ec : e.1 = nI c := ec
  have e1 : wcN e = c := pk_cl c ec (by omega)
  exact ⟨by rw [e1]; exact ec, by omega⟩
end PC
