section OQ
variable {K : kC} {N s d : Nat} {r : tR} {t : tC}
theorem RK.cl (h : RK K r) {c : Nat} (hc : c < K.1) : ¬ s_R_isClient r (nI c) = 0 := by
  unfold s_R_isClient
  rw [h.1]
  exact has_gen hc (by have := h.2.2.2.2.1; omega)
theorem RK.fl (h : RK K r) {f : Nat} (hf : f < K.2.1) : ¬ s_R_isFile r (nI f) = 0 := by
  unfold s_R_isFile
  rw [h.2.1]
  exact has_gen hf (by have := h.2.2.2.2.1; omega)
theorem RP.ms (h : RP K r t) {k : Nat} (hk : k < t.2.2) : ¬ s_R_isMessage r (nI k) = 0 := by
  unfold s_R_isMessage
  rw [h.1]
  exact has_gen hk (by have := h.2.1; omega)
/-- a client's request goes out -/
theorem RS.req (h : RS K N s d r t) {c : Nat} (hc : c < K.1) (h2 : r.2 11 c = 2) : RS K N s d (s_R_sendOperation r c) (s_C_sendRequest K t c) := by
  have h3 := h.2.2.1
  have hB := h.2.2.2.2.2.2.2.2
  obtain ⟨a1, a2, a3, a4, a5, a6, a7⟩ := h3 c hc
  obtain ⟨b1, b2, b3, b4, ⟨f, hf, b5⟩, b6⟩ := a7 h2
  have hw : wok r c (r.2 10 c) := ⟨(hB.1 c hc).2 h2, Int.le_refl _⟩
  have hK := h.1.2.2.2.2.1
  have hw2 : ∀ c', c' < K.1 → nI c = nI c' → wok r c' (r.2 10 c) := by
    intro c' hc' z
    have : c = c' := nI_inj4 (by omega) (by omega) z
    subst this
    exact hw
  unfold s_R_sendOperation s_C_sendRequest
  rcases b6 with ⟨w1, w2⟩ | ⟨w1, w2, w3⟩
  · rw [if_pos w1, if_neg (by rw [w2]; decide), b1, a3]
    exact h.send (kn := 0) (by decide) hc hf rfl rfl b5 0 0 0 (fun z => absurd z (by decide))
  · rw [if_neg (by rw [w1]; decide), if_pos w2, b1, a3, w3]
    exact h.send (kn := 1) (by decide) hc hf rfl rfl b5 _ 0 0 (fun _ => hw2)
theorem req_0 (K : kC) (t : tC) (c : Nat) {m : Nat} (hm : m ≠ 7) : (s_C_sendRequest K t c).1 m = t.1 m := by
  unfold s_C_sendRequest
  split
  · exact snd_r K t _ _ _ _ _ _ _ hm
  · exact snd_r K t _ _ _ _ _ _ _ hm
theorem fin_c (r : tR) (c : Nat) (x y : Int32) (m : Nat) {c' : Nat} (h : c' ≠ c) : (s_R_finish r c x y).2 m c' = r.2 m c' := by
  unfold s_R_finish
  rw [stA_c _ _ _ _ _ h, stA_c _ _ _ _ _ h, stA_c _ _ _ _ _ h]
theorem fin_o (r : tR) (c : Nat) (x y : Int32) {m : Nat} (h : m ≠ 11 ∧ m ≠ 17 ∧ m ≠ 18) : (s_R_finish r c x y).2 m = r.2 m := by
  unfold s_R_finish
  rw [stA_k _ _ _ _ h.2.2, stA_k _ _ _ _ h.2.1, stA_k _ _ _ _ h.1]
theorem fic_o (K : kC) (t : tC) (c : Nat) (x y : Int32) {m : Nat} (h : m ≠ 0) : (s_C_finish K t c x y).1 m = t.1 m := by
  unfold s_C_finish
  rw [stC_k _ _ _ _ _ h, stC_k _ _ _ _ _ h, stC_k _ _ _ _ _ h]
theorem fic_c (K : kC) (t : tC) (c : Nat) (x y : Int32) {c' : Nat} (h : c' ≠ c) : (s_C_finish K t c x y).1 0 c' = t.1 0 c' := by
  unfold s_C_finish
  rw [stC_i _ _ _ _ _ h, stC_i _ _ _ _ _ h, stC_i _ _ _ _ _ h]
/-- an operation is done -/
theorem RS.fin (h : RS K N s d r t) {c : Nat} (hc : c < K.1) (x y : Int32) : RS K N s d (s_R_finish r c x y) (s_C_finish K t c x y) := by
  obtain ⟨h1, h2, h3, h4, h5, h6, h7, h8, h9⟩ := h
  have o := fun m (hm : m ≠ 11 ∧ m ≠ 17 ∧ m ≠ 18) => fin_o r c x y (m := m) hm
  have q := fun m (hm : m ≠ 0) => fic_o K t c x y (m := m) hm
  obtain ⟨a1, a2, a3, a4, a5, a6, a7⟩ := h3 c hc
  have e11 : (s_R_finish r c x y).2 11 c = 1 := by simp [s_R_finish, stA, upd]
  refine ⟨h1.of (fun m hm => rfl), h2.of (fun m _ _ => rfl) (by rw [q 2 (by decide)]), h3.at c (fun c' z => ⟨fun m _ _ => fin_c r c x y m z, fic_c K t c x y z⟩) (fun _ => ?_), h4.of (fun m _ _ => o m (by omega)) (q 1 (by decide)), h5.of (o 0 (by decide)) (o 1 (by decide)) (o 3 (by decide)) (o 4 (by decide)) (q 3 (by decide)) (q 5 (by decide)) (q 6 (by decide)), h6.of (o 2 (by decide)) rfl (q 4 (by decide)), h7.of rfl (o 23 (by decide)) (fun i _ => by rw [q 7 (by decide)]) rfl, h8.of rfl rfl (fun m _ _ => o m (by omega)) (fun f _ => rfl), h9.of rfl rfl (fun m _ _ => o m (by omega)) (o 10 (by decide)) (fun c' z => ?_) (o 23 (by decide))⟩
  · rw [o 9 (by decide), o 10 (by decide), e11]
    refine ⟨?_, ?_, ?_, ?_, ?_, a6, fun z => absurd z (by decide)⟩
    all_goals simp [s_R_finish, s_C_finish, stA, stC, upd, a1, a3]
  · by_cases zz : c' = c
    · subst zz
      rw [e11] at z
      exact absurd z (by decide)
    · rw [fin_c r c x y 11 zz] at z
      exact z
/-- read -/
theorem sim_read (h : RS K N s d r t) {c f : Nat} (hc : c < K.1) (hf : f < K.2.1) (hs : s ≤ 1000) : (s_L_read K t c f).2 = (s_R_read r c f).2 ∧ RS K N (s + 1) d (s_R_read r c f).1 (s_L_read K t c f).1 := by
  have h3 := h.2.2.1
  have h4 := h.2.2.2.1
  obtain ⟨a1, a2, a3, a4, a5, a6, a7⟩ := h3 c hc
  obtain ⟨y1, y2, y3, y4, y5⟩ := h4 c f hc hf
  have hbg := h.bg hc hf hs
  have b11 : (s_R_begin r c f 0 0).2 11 c = 2 := by simp [s_R_begin, stA, upd]
  have c11 : (s_C_startOperation K t c f 1).1 0 c 1 = 2 := by simp [s_C_startOperation, stC, upd]
  have c10 : (s_C_startOperation K t c f 1).1 0 c 0 = t.1 0 c 0 := by simp [s_C_startOperation, stC, upd]
  have hmono : RS K N (s + 1) d r t := by
    obtain ⟨h1, h2, h3, h4, h5, h6, h7, h8, b1, b2, b3⟩ := h
    exact ⟨h1, h2, h3, h4, h5, h6, h7, h8, b1, by omega, b3⟩
  unfold s_L_read s_R_read s_C_startRead s_Y_isGoodAt
  rw [if_neg (h.1.cl hc), if_neg (h.1.fl hf), a2, so_o K t c f 1 (m := 1) (by decide), c10, y1, y2, y3, y4, bg_o r c f 0 0 (m := 19) (by decide), bg_o r c f 0 0 (m := 20) (by decide), bg_o r c f 0 0 (m := 21) (by decide), bg_o r c f 0 0 (m := 22) (by decide), bg_o r c f 0 0 (m := 9) (by decide), a1]
  by_cases z : r.2 11 c = 2
  · rw [if_pos z, if_pos z]
    exact ⟨rfl, hmono⟩
  · rw [if_neg z, if_neg z]
    by_cases z1 : r.2 19 (4 * c + f) = 0
    · rw [if_pos z1, if_pos z1, if_pos rfl]
      refine ⟨?_, hbg.req hc b11⟩
      show (s_C_sendRequest K (s_C_startOperation K t c f 1) c).1 0 c 1 = 2
      rw [req_0 _ _ _ (by decide)]
      exact c11
    · rw [if_neg z1, if_neg z1]
      by_cases z2 : r.2 20 (4 * c + f) ≤ r.2 9 c
      · rw [if_pos z2, if_pos z2, if_pos rfl]
        refine ⟨?_, hbg.req hc b11⟩
        show (s_C_sendRequest K (s_C_startOperation K t c f 1) c).1 0 c 1 = 2
        rw [req_0 _ _ _ (by decide)]
        exact c11
      · rw [if_neg z2, if_neg z2, if_neg (by decide)]
        refine ⟨?_, hbg.fin hc _ _⟩
        simp [s_C_finish, stC, upd]
/-- write -/
theorem sim_write (h : RS K N s d r t) {c f : Nat} (x : Int32) (hc : c < K.1) (hf : f < K.2.1) (hs : s ≤ 1000) : (s_L_write K t c f x).2 = (s_R_write r c f x).2 ∧ RS K N (s + 1) d (s_R_write r c f x).1 (s_L_write K t c f x).1 := by
  have h3 := h.2.2.1
  obtain ⟨a1, a2, a3, a4, a5, a6, a7⟩ := h3 c hc
  have hbw := h.bw x hc hf hs
  have b11 : (stA (s_R_begin r c f 1 x) 19 (4 * c + f) 0).2 11 c = 2 := by simp [s_R_begin, stA, upd]
  have hmono : RS K N (s + 1) d r t := by
    obtain ⟨h1, h2, h3, h4, h5, h6, h7, h8, b1, b2, b3⟩ := h
    exact ⟨h1, h2, h3, h4, h5, h6, h7, h8, b1, by omega, b3⟩
  unfold s_L_write s_R_write s_C_startWrite
  rw [if_neg (h.1.cl hc), if_neg (h.1.fl hf), a2]
  by_cases z : r.2 11 c = 2
  · rw [if_pos z, if_pos z]
    exact ⟨rfl, hmono⟩
  · rw [if_neg z, if_neg z]
    refine ⟨?_, hbw.req hc b11⟩
    show (s_C_sendRequest K _ c).1 0 c 1 = 2
    rw [req_0 _ _ _ (by decide)]
    simp [s_C_startOperation, stC, upd]
/-- retry -/
theorem sim_retry (h : RS K N s d r t) {c : Nat} (hc : c < K.1) : (s_L_retry K t c).2 = (s_R_retry r c).2 ∧ RS K N s d (s_R_retry r c).1 (s_L_retry K t c).1 := by
  have h3 := h.2.2.1
  obtain ⟨a1, a2, a3, a4, a5, a6, a7⟩ := h3 c hc
  unfold s_L_retry s_R_retry s_C_sendAgain
  rw [if_neg (h.1.cl hc), a2]
  by_cases z : r.2 11 c = 2
  · rw [if_pos z, if_pos z]
    have hq := h.req hc z
    obtain ⟨g1, g2, g3, g4, g5, g6, g7⟩ := hq.2.2.1 c hc
    exact ⟨g3, hq⟩
  · rw [if_neg z, if_neg z]
    exact ⟨rfl, h⟩
theorem isStep_e (x : Int32) : s_L_isStep x = 0 ↔ ¬ (¬ x < 0 ∧ x ≤ 1000) := by
  unfold s_L_isStep
  by_cases h1 : x < 0
  · rw [if_pos h1]
    exact ⟨fun _ z => z.1 h1, fun _ => rfl⟩
  · rw [if_neg h1]
    by_cases h2 : 1000 < x
    · rw [if_pos h2]
      rw [Int32.lt_iff_toInt_lt] at h2
      refine ⟨fun _ z => ?_, fun _ => rfl⟩
      have h3 := z.2
      rw [Int32.le_iff_toInt_le] at h3
      omega
    · rw [if_neg h2]
      rw [Int32.lt_iff_toInt_lt] at h2
      refine ⟨fun z => absurd z (by decide), fun z => absurd ⟨h1, ?_⟩ z⟩
      rw [Int32.le_iff_toInt_le]
      omega
theorem step_b {x : Int32} (h1 : ¬ x < 0) (h2 : x ≤ 1000) : tb x 1000 := by
  rw [Int32.lt_iff_toInt_lt] at h1
  rw [Int32.le_iff_toInt_le] at h2
  have e0 : (0 : Int32).toInt = 0 := by decide
  have e1 : (1000 : Int32).toInt = 1000 := by decide
  exact ⟨by omega, by omega⟩
/-- pass -/
theorem sim_pass (h : RS K N s d r t) {c : Nat} (x : Int32) (hc : c < K.1) (hN : N ≤ 512) : (s_L_pass K t c x).2 = (s_R_pass r c x).2 ∧ RS K (N + 1) s d (s_R_pass r c x).1 (s_L_pass K t c x).1 := by
  have hm := h.mono (N' := N + 1) (by omega)
  have h3 := h.2.2.1
  obtain ⟨a1, a2, a3, a4, a5, a6, a7⟩ := h3 c hc
  unfold s_L_pass s_R_pass
  rw [if_neg (h.1.cl hc)]
  by_cases z : ¬ x < 0 ∧ x ≤ 1000
  · rw [if_neg (fun q => (isStep_e x).mp q z), if_neg z.1, if_pos z.2]
    have hx := step_b z.1 z.2
    have hsum : ((r.2 9 c) + x).toInt = (r.2 9 c).toInt + x.toInt := by
      unfold tb at a6 hx
      exact add_toInt (by omega) (by omega)
    refine ⟨?_, ?_⟩
    · simp [stA, stC, upd, a1]
    · obtain ⟨h1, h2, h3, h4, h5, h6, h7, h8, h9⟩ := hm
      obtain ⟨g1, g2, g3, g4, g5, g6, g7⟩ := h3 c hc
      have o := fun m (hm : m ≠ 9) => stA_k r 9 c (r.2 9 c + x) (m := m) hm
      have q := fun m (hm : m ≠ 0) => stC_k t 0 c 0 (t.1 0 c 0 + x) (m := m) hm
      refine ⟨h1.of (fun m hm => rfl), h2.of (fun m _ _ => rfl) (by rw [q 2 (by decide)]), h3.at c (fun c' z => ⟨fun m _ _ => stA_c r 9 c _ m z, stC_i t 0 c 0 _ z⟩) (fun _ => ?_), h4.of (fun m _ _ => o m (by omega)) (q 1 (by decide)), h5.of (o 0 (by decide)) (o 1 (by decide)) (o 3 (by decide)) (o 4 (by decide)) (q 3 (by decide)) (q 5 (by decide)) (q 6 (by decide)), h6.of (o 2 (by decide)) rfl (q 4 (by decide)), h7.of rfl (o 23 (by decide)) (fun i _ => by rw [q 7 (by decide)]) rfl, h8.of rfl rfl (fun m _ _ => o m (by omega)) (fun f _ => rfl), h9.of rfl rfl (fun m _ _ => o m (by omega)) (o 10 (by decide)) (fun c' z => by rw [o 11 (by decide)] at z; exact z) (o 23 (by decide))⟩
      unfold RO at g7 ⊢
      rw [o 10 (by decide), o 11 (by decide), o 12 (by decide), o 13 (by decide), o 14 (by decide), o 15 (by decide), o 16 (by decide), o 17 (by decide), o 18 (by decide), stA_s]
      have e0 : (stC t 0 c 0 (t.1 0 c 0 + x)).1 0 c 0 = t.1 0 c 0 + x := by simp [stC, upd]
      have ej : ∀ j, j ≠ 0 → (stC t 0 c 0 (t.1 0 c 0 + x)).1 0 c j = t.1 0 c j := fun j hj => by simp [stC, upd, hj]
      rw [e0, ej 1 (by decide), ej 2 (by decide), ej 3 (by decide), ej 4 (by decide), ej 5 (by decide), ej 6 (by decide), ej 7 (by decide), ej 8 (by decide), ej 9 (by decide)]
      refine ⟨by rw [a1], g2, g3, g4, g5, ?_, g7⟩
      unfold tb at a6 hx ⊢
      rw [hsum]
      omega
  · have hz := (isStep_e x).mpr z
    rw [if_pos hz]
    by_cases z1 : x < 0
    · rw [if_pos z1]
      exact ⟨rfl, hm⟩
    · rw [if_neg z1, if_neg (fun q => z ⟨z1, q⟩)]
      exact ⟨rfl, hm⟩
end OQ
