theorem sub_toInt {x y : Int32} (hx : 0 ≤ x.toInt ∧ x.toInt ≤ 1000000) (hy : 0 ≤ y.toInt ∧ y.toInt ≤ 1000000) : (x - y).toInt = x.toInt - y.toInt := by
  rw [Int32.toInt_sub]
  exact Int.bmod_eq_of_le (by omega) (by omega)
theorem tl_rest {x y : Int32} (hx : tb x 1000000) (hy : tb y 1000000) : s_L_timeLeft x y = s_R_rest x y := by
  unfold tb at hx hy
  have hs := sub_toInt (x := x) (y := y) (by omega) (by omega)
  have e0 : (0 : Int32).toInt = 0 := by decide
  unfold s_L_timeLeft s_R_rest
  by_cases z : x ≤ y
  · rw [if_pos z]
    rw [Int32.le_iff_toInt_le] at z
    rw [if_neg]
    rw [Int32.lt_iff_toInt_lt]
    omega
  · rw [if_neg z]
    rw [Int32.le_iff_toInt_le] at z
    rw [if_pos]
    rw [Int32.lt_iff_toInt_lt]
    omega
section OR
variable {K : kC} {N s d : Nat} {r : tR} {t : tC}
theorem sim_status (h : RS K N s d r t) {c : Nat} (hc : c < K.1) : s_L_status K t c = s_R_status r c := by
  obtain ⟨a1, a2, a3, a4, a5, a6, a7⟩ := h.2.2.1 c hc
  unfold s_L_status s_R_status
  rw [if_neg (h.1.cl hc), a2]
theorem sim_result (h : RS K N s d r t) {c : Nat} (hc : c < K.1) : s_L_result K t c = s_R_result r c := by
  obtain ⟨a1, a2, a3, a4, a5, a6, a7⟩ := h.2.2.1 c hc
  unfold s_L_result s_R_result s_L_isDone
  rw [if_neg (h.1.cl hc), a2, a4]
  by_cases z : r.2 11 c = 1
  · rw [if_pos z, if_pos z, if_neg (by decide)]
  · rw [if_neg z, if_neg z, if_pos rfl]
theorem sim_version (h : RS K N s d r t) {c : Nat} (hc : c < K.1) : s_L_version K t c = s_R_version r c := by
  obtain ⟨a1, a2, a3, a4, a5, a6, a7⟩ := h.2.2.1 c hc
  unfold s_L_version s_R_version s_L_isDone
  rw [if_neg (h.1.cl hc), a2, a5]
  by_cases z : r.2 11 c = 1
  · rw [if_pos z, if_pos z, if_neg (by decide)]
  · rw [if_neg z, if_neg z, if_pos rfl]
theorem sim_pending (h : RS K N s d r t) : s_L_pending K t = s_R_pending r := h.2.2.2.2.2.2.1.1.symm
theorem sim_message (h : RS K N s d r t) {k j : Nat} (hk : k < t.2.2) (hj : j < 7) : s_L_message K t k (nI j) = s_R_message r k j := by
  have h7 := h.2.2.2.2.2.2.1
  have g := (h7.2.2 k hk).1
  unfold s_L_message s_R_message s_M_part
  rw [if_neg (h7.ms hk), if_neg (nI_pos (by omega)), if_neg (c := (6 : Int32) < nI j) (fun z => absurd ((nI_ltI (a := 6) (by omega) (by omega)).mp z) (by omega))]
  rw [← g j hj]
  match j, hj with
  | 0, _ => rfl
  | 1, _ => rfl
  | 2, _ => rfl
  | 3, _ => rfl
  | 4, _ => rfl
  | 5, _ => rfl
  | 6, _ => rfl
theorem sim_message_out (K : kC) (t : tC) (k : Nat) {y : Int32} (hy : y < 0 ∨ 6 < y) : s_L_message K t k y = -1 := by
  have n : ∀ j : Nat, j < 7 → ¬ y = nI j := by
    intro j hj z
    rw [z] at hy
    rcases hy with hy | hy
    · exact nI_pos (by omega) hy
    · exact absurd ((nI_ltI (a := 6) (by omega) (by omega)).mp hy) (by omega)
  unfold s_L_message s_M_part
  rw [if_neg (c := y = 0) (n 0 (by decide)), if_neg (c := y = 1) (n 1 (by decide)), if_neg (c := y = 2) (n 2 (by decide)), if_neg (c := y = 3) (n 3 (by decide)), if_neg (c := y = 4) (n 4 (by decide)), if_neg (c := y = 5) (n 5 (by decide)), if_neg (c := y = 6) (n 6 (by decide))]
theorem sim_copy (h : RS K N s d r t) {c f : Nat} (x : Int32) (hc : c < K.1) (hf : f < K.2.1) (hN : N ≤ 513) : s_L_copy K t c f x = s_R_copy r c f x := by
  obtain ⟨a1, a2, a3, a4, a5, a6, a7⟩ := h.2.2.1 c hc
  obtain ⟨y1, y2, y3, y4, y5⟩ := h.2.2.2.1 c f hc hf
  unfold s_L_copy s_R_copy s_Y_part
  rw [if_neg (h.1.cl hc), if_neg (h.1.fl hf), y1, y2, y3, y4, a1, tl_rest (y5.mono (by omega)) (a6.mono (by omega))]
  by_cases z : r.2 19 (4 * c + f) = 0
  · rw [if_pos z, if_pos z]
  · rw [if_neg z, if_neg z]
    by_cases z0 : x = 0
    · subst z0
      rw [if_pos rfl, if_neg (by decide), if_pos (by decide), if_pos rfl]
    · by_cases z1 : x = 1
      · subst z1
        rw [if_neg (by decide), if_pos rfl, if_neg (by decide), if_pos (by decide), if_neg (by decide), if_pos rfl]
      · by_cases z2 : x = 2
        · subst z2
          rw [if_neg (by decide), if_neg (by decide), if_pos rfl, if_neg (by decide), if_pos (by decide), if_neg (by decide), if_neg (by decide)]
        · rw [if_neg z0, if_neg z1, if_neg z2, if_neg z0, if_neg z1]
          by_cases z3 : x < 0
          · rw [if_pos z3]
          · rw [if_neg z3, if_neg]
            intro z4
            rw [Int32.lt_iff_toInt_lt] at z3
            rw [Int32.le_iff_toInt_le] at z4
            have e0 : (0 : Int32).toInt = 0 := by decide
            have e1 : (1 : Int32).toInt = 1 := by decide
            have e2 : (2 : Int32).toInt = 2 := by decide
            have n0 : x.toInt ≠ 0 := fun q => z0 (toInt_inj (by rw [q, e0]))
            have n1 : x.toInt ≠ 1 := fun q => z1 (toInt_inj (by rw [q, e1]))
            have n2 : x.toInt ≠ 2 := fun q => z2 (toInt_inj (by rw [q, e2]))
            omega
theorem RL.rest (h : RL K N r t) {c f : Nat} (hc : c < K.1) (hf : f < K.2.1) : s_R_rest (t.1 4 f c) (r.1 4) = s_R_rest (r.2 2 (4 * c + f)) (r.1 4) := by
  obtain ⟨_, _, a | ⟨a, b⟩⟩ := h c f hc hf
  · rw [a]
  · unfold s_R_rest
    rw [if_pos a, if_pos b]
theorem RL.gt (h : RL K N r t) {c f : Nat} (hc : c < K.1) (hf : f < K.2.1) : t.1 4 f c ≤ r.1 4 ↔ r.2 2 (4 * c + f) ≤ r.1 4 := by
  obtain ⟨_, _, a | ⟨a, b⟩⟩ := h c f hc hf
  · rw [a]
  · exact ⟨fun _ => b, fun _ => a⟩
theorem sim_lease (h : RS K N s d r t) {c f : Nat} (hc : c < K.1) (hf : f < K.2.1) (hN : N ≤ 513) : s_L_lease K t c f = s_R_lease r c f := by
  have hL := h.2.2.2.2.2.1
  have hV := h.2.1
  unfold s_L_lease s_R_lease
  rw [if_neg (h.1.cl hc), if_neg (h.1.fl hf), hV.1, tl_rest ((hL c f hc hf).1.mono (by omega)) (hV.2.2.2.2.1.mono (by omega)), hL.rest hc hf]
theorem sim_server (h : RS K N s d r t) (x : Int32) (hN : N ≤ 513) : s_L_server K t x = s_R_server r x := by
  obtain ⟨v1, v2, v3, v4, v5, v6⟩ := h.2.1
  unfold s_L_server s_R_server s_S_part
  rw [v1, v3, v4, tl_rest (v6.mono (by omega)) (v5.mono (by omega))]
  rcases v2 with ⟨q1, q2⟩ | ⟨q1, q2⟩
  · rw [q1, q2, if_neg (c := (1 : Int32) = 0) (by decide), if_pos (c := (0 : Int32) = 0) rfl]
  · rw [q1, q2, if_pos (c := (0 : Int32) = 0) rfl, if_neg (c := (1 : Int32) = 0) (by decide)]
theorem sim_client (h : RS K N s d r t) {c : Nat} (x : Int32) (hc : c < K.1) : s_L_client K t c x = s_R_client r c x := by
  obtain ⟨a1, a2, a3, a4, a5, a6, a7⟩ := h.2.2.1 c hc
  unfold s_L_client s_R_client s_C_part s_C_waitsToRead
  rw [if_neg (h.1.cl hc), a1, a2, a3]
  by_cases z : r.2 11 c = 2
  · obtain ⟨b1, b2, b3, b4, b5, b6⟩ := a7 z
    rw [b3, if_pos z, if_pos z]
    rcases b6 with ⟨w1, w2⟩ | ⟨w1, w2, w3⟩
    · rw [w1, w2, if_neg (c := (1 : Int32) = 0) (by decide), if_pos (c := (0 : Int32) = 0) rfl, if_neg (c := (1 : Int32) = 0) (by decide)]
      by_cases z1 : r.2 16 c = 0
      · rw [if_pos z1, if_pos z1]
        rfl
      · rw [if_neg z1, if_neg z1]
        first | done | rfl
    · rw [w1, w2, if_pos (c := (0 : Int32) = 0) rfl, if_pos (c := (0 : Int32) = 0) rfl, if_neg (c := (1 : Int32) = 0) (by decide)]
  · rw [if_neg z, if_neg z, if_pos (c := (0 : Int32) = 0) rfl]
    rfl
/-- restart -/
theorem sim_restart (h : RS K N s d r t) (hN : N ≤ 512) : (s_L_restart K t).2 = (s_R_restart r).2 ∧ RS K N s d (s_R_restart r).1 (s_L_restart K t).1 := by
  obtain ⟨v1, v2, v3, v4, v5, v6⟩ := h.2.1
  have hk := h.1
  unfold s_L_restart s_R_restart
  rcases v2 with ⟨q1, q2⟩ | ⟨q1, q2⟩
  · rw [if_pos q1, q2, if_neg (by decide)]
    exact ⟨rfl, h⟩
  · rw [if_neg (c := r.1 5 = 0) (by rw [q1]; decide), if_pos q2]
    obtain ⟨h1, h2, h3, h4, h5, h6, h7, h8, h9⟩ := h
    have q : ∀ m, m ≠ 2 → (s_S_comeUp K t).1.1 m = t.1 m := by
      intro m hm
      unfold s_S_comeUp
      rw [stC_k _ _ _ _ _ hm, stC_k _ _ _ _ _ hm, stC_k _ _ _ _ _ hm]
    have hg : (r.1 4 + K.2.2.1).toInt = (r.1 4).toInt + K.2.2.1.toInt := by
      have := h1.2.2.2.2.2.1
      unfold tb at this v5
      exact add_toInt (by omega) (by omega)
    refine ⟨?_, h1.of (fun m hm => ?_), ⟨?_, Or.inl ⟨?_, ?_⟩, ?_, ?_, ?_, ?_⟩, h3.of (fun m _ _ => rfl) (q 0 (by decide)), h4.of (fun m _ _ => rfl) (q 1 (by decide)), h5.of rfl rfl rfl rfl (q 3 (by decide)) (q 5 (by decide)) (q 6 (by decide)), h6.of rfl ?_ (q 4 (by decide)), h7.of ?_ rfl (fun i _ => by rw [q 7 (by decide)]) rfl, ?_, h9.of ?_ ?_ (fun m _ _ => rfl) rfl (fun c' z => z) rfl⟩
    · simp [s_S_comeUp, stC, stF, upd, v3]
    · have m5 : m ≠ 5 := by omega
      have m6 : m ≠ 6 := by omega
      have m7 : m ≠ 7 := by omega
      simp [stF, upd, m5, m6, m7]
    · simp [s_S_comeUp, stC, stF, upd, v1]
    · simp [stF, upd]
    · simp [s_S_comeUp, stC, upd]
    · simp [s_S_comeUp, stC, stF, upd, v3]
    · simp [s_S_comeUp, stC, stF, upd, v1, h1.2.2.1]
    · have e : ∀ x y z : Int32, (stF (stF (stF r 5 x) 6 y) 7 z).1 4 = r.1 4 := fun x y z => by simp [stF, upd]
      rw [e]
      exact v5
    · have e : (stF (stF (stF r 5 0) 6 ((stF r 5 0).1 6 + 1)) 7 ((stF (stF r 5 0) 6 ((stF r 5 0).1 6 + 1)).1 4 + (stF (stF r 5 0) 6 ((stF r 5 0).1 6 + 1)).1 2)).1 7 = r.1 4 + K.2.2.1 := by simp [stF, upd, h1.2.2.1]
      rw [e]
      have := h1.2.2.2.2.2.1
      unfold tb at this v5 ⊢
      rw [hg]
      omega
    · simp [stF, upd]
    · simp [stF, upd]
    · obtain ⟨w1, w2, w3, w4, w5⟩ := h8
      have e8 : ∀ x y z : Int32, (stF (stF (stF r 5 x) 6 y) 7 z).1 8 = r.1 8 := fun x y z => by simp [stF, upd]
      obtain ⟨l1, l2⟩ := lsR_of (r := r) (r' := stF (stF (stF r 5 0) 6 ((stF r 5 0).1 6 + 1)) 7 ((stF (stF r 5 0) 6 ((stF r 5 0).1 6 + 1)).1 4 + (stF (stF r 5 0) 6 ((stF r 5 0).1 6 + 1)).1 2)) (e8 _ _ _) (fun m _ _ => rfl)
      unfold RW
      rw [l1, l2, e8]
      refine ⟨w1, w2, w3, w4, fun z => ?_⟩
      simp [stF, upd] at z
    · simp [stF, upd]
    · simp [stF, upd]
end OR
