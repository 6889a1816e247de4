section OS
variable {K : kC} {N s d : Nat} {r r' : tR} {t t' : tC}
theorem RY.at (h : RY K N r t) (i0 : Nat) (eo : ∀ i, i ≠ i0 → (∀ m, 19 ≤ m → m ≤ 22 → r'.2 m i = r.2 m i) ∧ t'.1 1 i = t.1 1 i) (hi : t'.1 1 i0 0 = r'.2 19 i0 ∧ t'.1 1 i0 1 = r'.2 21 i0 ∧ t'.1 1 i0 2 = r'.2 22 i0 ∧ t'.1 1 i0 3 = r'.2 20 i0 ∧ tb (r'.2 20 i0) (1000 * N + 1000)) : RY K N r' t' := by
  intro c f hc hf
  by_cases z : 4 * c + f = i0
  · rw [z]
    exact hi
  · obtain ⟨e, et⟩ := eo _ z
    rw [et, e 19 (by decide) (by decide), e 20 (by decide) (by decide), e 21 (by decide) (by decide), e 22 (by decide) (by decide)]
    exact h c f hc hf
/-- a copy is given up -/
theorem RS.drop (h : RS K N s d r t) {c f : Nat} (hc : c < K.1) (hf : f < K.2.1) : RS K N s d (stA r 19 (4 * c + f) 0) (stC t 1 (4 * c + f) 0 0) := by
  obtain ⟨h1, h2, h3, h4, h5, h6, h7, h8, h9⟩ := h
  have o := fun m (hm : m ≠ 19) => stA_k r 19 (4 * c + f) 0 (m := m) hm
  have q := fun m (hm : m ≠ 1) => stC_k t 1 (4 * c + f) 0 0 (m := m) hm
  obtain ⟨y1, y2, y3, y4, y5⟩ := h4 c f hc hf
  refine ⟨h1.of (fun m hm => rfl), h2.of (fun m _ _ => rfl) (by rw [q 2 (by decide)]), h3.of (fun m _ _ => o m (by omega)) (q 0 (by decide)), h4.at (4 * c + f) (fun i z => ⟨fun m _ _ => stA_c r 19 _ 0 m z, stC_i t 1 _ 0 0 z⟩) ?_, h5.of (o 0 (by decide)) (o 1 (by decide)) (o 3 (by decide)) (o 4 (by decide)) (q 3 (by decide)) (q 5 (by decide)) (q 6 (by decide)), h6.of (o 2 (by decide)) rfl (q 4 (by decide)), h7.of rfl (o 23 (by decide)) (fun i _ => by rw [q 7 (by decide)]) rfl, h8.of rfl rfl (fun m _ _ => o m (by omega)) (fun f _ => rfl), h9.of rfl rfl (fun m _ _ => o m (by omega)) (o 10 (by decide)) (fun c' z => by rw [o 11 (by decide)] at z; exact z) (o 23 (by decide))⟩
  rw [o 20 (by decide), o 21 (by decide), o 22 (by decide)]
  refine ⟨?_, ?_, ?_, ?_, y5⟩
  all_goals simp [stA, stC, upd, y2, y3, y4]
/-- a read under way is spoiled -/
theorem RS.spoil (h : RS K N s d r t) {c : Nat} (hc : c < K.1) : RS K N s d (stA r 16 c 1) (stC t 0 c 7 1) := by
  obtain ⟨h1, h2, h3, h4, h5, h6, h7, h8, h9⟩ := h
  have o := fun m (hm : m ≠ 16) => stA_k r 16 c 1 (m := m) hm
  have q := fun m (hm : m ≠ 0) => stC_k t 0 c 7 1 (m := m) hm
  refine ⟨h1.of (fun m hm => rfl), h2.of (fun m _ _ => rfl) (by rw [q 2 (by decide)]), h3.at c (fun c' z => ⟨fun m _ _ => stA_c r 16 c 1 m z, stC_i t 0 c 7 1 z⟩) (fun _ => ?_), h4.of (fun m _ _ => o m (by omega)) (q 1 (by decide)), h5.of (o 0 (by decide)) (o 1 (by decide)) (o 3 (by decide)) (o 4 (by decide)) (q 3 (by decide)) (q 5 (by decide)) (q 6 (by decide)), h6.of (o 2 (by decide)) rfl (q 4 (by decide)), h7.of rfl (o 23 (by decide)) (fun i _ => by rw [q 7 (by decide)]) rfl, h8.of rfl rfl (fun m _ _ => o m (by omega)) (fun f _ => rfl), h9.of rfl rfl (fun m _ _ => o m (by omega)) (o 10 (by decide)) (fun c' z => by rw [o 11 (by decide)] at z; exact z) (o 23 (by decide))⟩
  obtain ⟨a1, a2, a3, a4, a5, a6, a7⟩ := h3 c hc
  have ej : ∀ j, j ≠ 7 → (stC t 0 c 7 1).1 0 c j = t.1 0 c j := fun j hj => by simp [stC, upd, hj]
  have e7 : (stC t 0 c 7 1).1 0 c 7 = 1 := by simp [stC, upd]
  unfold RO at a7 ⊢
  rw [o 9 (by decide), o 10 (by decide), o 11 (by decide), o 12 (by decide), o 13 (by decide), o 14 (by decide), o 15 (by decide), o 17 (by decide), o 18 (by decide), stA_s, e7, ej 0 (by decide), ej 1 (by decide), ej 2 (by decide), ej 3 (by decide), ej 4 (by decide), ej 5 (by decide), ej 6 (by decide), ej 8 (by decide), ej 9 (by decide)]
  refine ⟨a1, a2, a3, a4, a5, a6, fun z => ?_⟩
  obtain ⟨b1, b2, b3, b4, b5, b6⟩ := a7 z
  exact ⟨b1, b2, rfl, b4, b5, b6⟩
/-- a copy is held -/
theorem RS.hold (h : RS K N s d r t) {c f : Nat} (x y z : Int32) (hz : tb z (1000 * N + 1000)) : RS K N s d (stA (stA (stA (stA r 19 (4 * c + f) 1) 20 (4 * c + f) z) 21 (4 * c + f) x) 22 (4 * c + f) y) (s_Y_hold K t c f x y z) := by
  obtain ⟨h1, h2, h3, h4, h5, h6, h7, h8, h9⟩ := h
  have o : ∀ m, m < 19 ∨ 22 < m → (stA (stA (stA (stA r 19 (4 * c + f) 1) 20 (4 * c + f) z) 21 (4 * c + f) x) 22 (4 * c + f) y).2 m = r.2 m := by
    intro m hm
    rw [stA_k _ _ _ _ (by omega), stA_k _ _ _ _ (by omega), stA_k _ _ _ _ (by omega), stA_k _ _ _ _ (by omega)]
  have q : ∀ m, m ≠ 1 → (s_Y_hold K t c f x y z).1 m = t.1 m := by
    intro m hm
    unfold s_Y_hold
    rw [stC_k _ _ _ _ _ hm, stC_k _ _ _ _ _ hm, stC_k _ _ _ _ _ hm, stC_k _ _ _ _ _ hm]
  refine ⟨h1.of (fun m hm => rfl), h2.of (fun m _ _ => rfl) (by rw [q 2 (by decide)]), h3.of (fun m _ _ => o m (by omega)) (q 0 (by decide)), h4.at (4 * c + f) (fun i zz => ⟨fun m _ _ => ?_, ?_⟩) ?_, h5.of (o 0 (by decide)) (o 1 (by decide)) (o 3 (by decide)) (o 4 (by decide)) (q 3 (by decide)) (q 5 (by decide)) (q 6 (by decide)), h6.of (o 2 (by decide)) rfl (q 4 (by decide)), h7.of rfl (o 23 (by decide)) (fun i _ => by rw [q 7 (by decide)]) rfl, h8.of rfl rfl (fun m _ _ => o m (by omega)) (fun f _ => rfl), h9.of rfl rfl (fun m _ _ => o m (by omega)) (o 10 (by decide)) (fun c' z => by rw [o 11 (by decide)] at z; exact z) (o 23 (by decide))⟩
  · rw [stA_c _ _ _ _ _ zz, stA_c _ _ _ _ _ zz, stA_c _ _ _ _ _ zz, stA_c _ _ _ _ _ zz]
  · unfold s_Y_hold
    rw [stC_i _ _ _ _ _ zz, stC_i _ _ _ _ _ zz, stC_i _ _ _ _ _ zz, stC_i _ _ _ _ _ zz]
  · have e20 : (stA (stA (stA (stA r 19 (4 * c + f) 1) 20 (4 * c + f) z) 21 (4 * c + f) x) 22 (4 * c + f) y).2 20 (4 * c + f) = z := by simp [stA, upd]
    rw [e20]
    refine ⟨?_, ?_, ?_, ?_, hz⟩
    all_goals simp [s_Y_hold, stA, stC, upd]
/-- GIVEN comes -/
theorem RS.given (h : RS K N s d r t) {c f : Nat} (hc : c < K.1) (hf : f < K.2.1) {wo a b e : Int32} (m2 : t.1 7 64 2 = nI f) (m3 : t.1 7 64 3 = wo) (m4 : t.1 7 64 4 = a) (m5 : t.1 7 64 5 = b) (m6 : t.1 7 64 6 = e) (hN : N ≤ 513) : RS K N s d (s_R_given r c f wo a b e) (s_C_receiveGiven K t c 64) := by
  have hK := h.1.2.2.2.2.1
  have hmf : mfC t 64 = f := pk_cl f m2 (by omega)
  obtain ⟨a1, a2, a3, a4, a5, a6, a7⟩ := h.2.2.1 c hc
  unfold s_R_given s_C_receiveGiven s_C_waitsToRead
  rw [fic_o K t c _ _ (m := 7) (by decide), m3, m4, m5, m6, hmf, a2, a3]
  by_cases z : r.2 11 c = 2
  · rw [if_pos z, if_pos z]
    obtain ⟨b1, b2, b3, b4, b5, b6⟩ := a7 z
    rcases b6 with ⟨w1, w2⟩ | ⟨w1, w2, w3⟩
    · rw [if_pos w1, w2, if_neg (c := (1 : Int32) = 0) (by decide), if_neg (c := (1 : Int32) = 0) (by decide)]
      by_cases zw : r.2 10 c = wo
      · rw [if_pos zw, if_pos zw.symm]
        have hfin := h.fin hc a b
        by_cases ze : e = 1
        · rw [if_pos ze, if_pos ze]
          have e16 : (s_R_finish r c a b).2 16 c = r.2 16 c := by rw [fin_o r c a b (by decide)]
          have c7 : (s_C_finish K t c a b).1 0 c 7 = t.1 0 c 7 := by simp [s_C_finish, stC, upd]
          have c6 : (s_C_finish K t c a b).1 0 c 6 = t.1 0 c 6 := by simp [s_C_finish, stC, upd]
          rw [e16, c7, b3]
          by_cases zs : r.2 16 c = 0
          · rw [if_pos zs, if_pos zs, c6, b2]
            have e15 : (stA (s_R_finish r c a b) 19 (4 * c + f) 1).2 15 c = r.2 15 c := by rw [stA_k _ _ _ _ (by decide), fin_o r c a b (by decide)]
            have e3 : (stA (s_R_finish r c a b) 19 (4 * c + f) 1).1 3 = K.2.2.2 := h.1.2.2.2.1
            rw [e15, e3]
            refine hfin.hold a b _ ?_
            have ht := h.1.2.2.2.2.2.2
            unfold tb at b4 ht ⊢
            rw [add_toInt (by omega) (by omega)]
            omega
          · rw [if_neg zs, if_neg zs]
            exact hfin
        · rw [if_neg ze, if_neg ze]
          exact hfin
      · rw [if_neg zw, if_neg (fun q => zw q.symm)]
        exact h
    · rw [if_neg (by rw [w1]; decide), w2, if_pos (c := (0 : Int32) = 0) rfl, if_pos (c := (0 : Int32) = 0) rfl]
      exact h
  · rw [if_neg z, if_neg z, if_pos (c := (0 : Int32) = 0) rfl]
    exact h
/-- STORED comes -/
theorem RS.stored (h : RS K N s d r t) {c : Nat} (hc : c < K.1) {wo a : Int32} (m3 : t.1 7 64 3 = wo) (m4 : t.1 7 64 4 = a) : RS K N s d (s_R_stored r c wo a) (s_C_receiveStored K t c 64) := by
  obtain ⟨a1, a2, a3, a4, a5, a6, a7⟩ := h.2.2.1 c hc
  unfold s_R_stored s_C_receiveStored s_C_waitsToWrite
  rw [m3, m4, a2, a3]
  by_cases z : r.2 11 c = 2
  · rw [if_pos z, if_pos z]
    obtain ⟨b1, b2, b3, b4, b5, b6⟩ := a7 z
    rcases b6 with ⟨w1, w2⟩ | ⟨w1, w2, w3⟩
    · rw [if_pos w1, w2, if_neg (c := (1 : Int32) = 0) (by decide), if_pos (c := (0 : Int32) = 0) rfl]
      exact h
    · rw [if_neg (by rw [w1]; decide), w2, if_pos (c := (0 : Int32) = 0) rfl, if_neg (c := (1 : Int32) = 0) (by decide)]
      by_cases zw : r.2 10 c = wo
      · rw [if_pos zw, if_pos zw.symm]
        exact h.fin hc a a
      · rw [if_neg zw, if_neg (fun q => zw q.symm)]
        exact h
  · rw [if_neg z, if_neg z, if_pos (c := (0 : Int32) = 0) rfl]
    exact h
/-- RECALL comes -/
theorem RS.recalled (h : RS K N s d r t) {c f : Nat} (hc : c < K.1) (hf : f < K.2.1) {wo a b : Int32} (m2 : t.1 7 64 2 = nI f) (m3 : t.1 7 64 3 = wo) (m4 : t.1 7 64 4 = a) (m5 : t.1 7 64 5 = b) : RS K N s d (s_R_recalled r c f wo a b) (s_C_receiveRecall K t c 64) := by
  have hK := h.1.2.2.2.2.1
  have hmf : mfC t 64 = f := pk_cl f m2 (by omega)
  have hd := h.drop hc hf
  have snd := fun {r : tR} {t : tC} (hh : RS K N s d r t) => hh.send (kn := 5) (by decide) hc hf (k := 5) rfl rfl rfl (wo := wo) a b 0 (fun z => absurd z (by decide))
  obtain ⟨a1, a2, a3, a4, a5, a6, a7⟩ := hd.2.2.1 c hc
  unfold s_R_recalled s_C_receiveRecall s_C_waitsToRead
  have e7 : (stC t 1 (4 * c + f) 0 0).1 7 = t.1 7 := stC_k t 1 _ 0 0 (by decide)
  have e8 : (stC (stC t 1 (4 * c + f) 0 0) 0 c 7 1).1 7 = t.1 7 := (stC_k _ 0 c 7 1 (by decide)).trans e7
  rw [hmf, e7, e8, m3, m4, m5, a2]
  by_cases z : (stA r 19 (4 * c + f) 0).2 11 c = 2
  · rw [if_pos z, if_pos z]
    obtain ⟨b1, b2, b3, b4, b5, b6⟩ := a7 z
    rcases b6 with ⟨w1, w2⟩ | ⟨w1, w2, w3⟩
    · rw [if_pos w1, w2, if_neg (c := (1 : Int32) = 0) (by decide), if_neg (c := (1 : Int32) = 0) (by decide), b1]
      by_cases zf : (stA r 19 (4 * c + f) 0).2 13 c = nI f
      · rw [if_pos zf, if_pos zf.symm]
        exact snd (hd.spoil hc)
      · rw [if_neg zf, if_neg (fun q => zf q.symm)]
        exact snd hd
    · rw [if_neg (by rw [w1]; decide), w2, if_pos (c := (0 : Int32) = 0) rfl, if_pos (c := (0 : Int32) = 0) rfl]
      exact snd hd
  · rw [if_neg z, if_neg z, if_pos (c := (0 : Int32) = 0) rfl]
    exact snd hd
end OS
