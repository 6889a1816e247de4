theorem q01 : (((0 : Int32) = 1) = False) := eq_false (by decide)
theorem q02 : (((0 : Int32) = 2) = False) := eq_false (by decide)
theorem q03 : (((0 : Int32) = 3) = False) := eq_false (by decide)
theorem q04 : (((0 : Int32) = 4) = False) := eq_false (by decide)
theorem q05 : (((0 : Int32) = 5) = False) := eq_false (by decide)
theorem q10 : (((1 : Int32) = 0) = False) := eq_false (by decide)
theorem q12 : (((1 : Int32) = 2) = False) := eq_false (by decide)
theorem q13 : (((1 : Int32) = 3) = False) := eq_false (by decide)
theorem q14 : (((1 : Int32) = 4) = False) := eq_false (by decide)
theorem q15 : (((1 : Int32) = 5) = False) := eq_false (by decide)
theorem q20 : (((2 : Int32) = 0) = False) := eq_false (by decide)
theorem q21 : (((2 : Int32) = 1) = False) := eq_false (by decide)
theorem q23 : (((2 : Int32) = 3) = False) := eq_false (by decide)
theorem q24 : (((2 : Int32) = 4) = False) := eq_false (by decide)
theorem q25 : (((2 : Int32) = 5) = False) := eq_false (by decide)
theorem q30 : (((3 : Int32) = 0) = False) := eq_false (by decide)
theorem q31 : (((3 : Int32) = 1) = False) := eq_false (by decide)
theorem q32 : (((3 : Int32) = 2) = False) := eq_false (by decide)
theorem q34 : (((3 : Int32) = 4) = False) := eq_false (by decide)
theorem q35 : (((3 : Int32) = 5) = False) := eq_false (by decide)
theorem q40 : (((4 : Int32) = 0) = False) := eq_false (by decide)
theorem q41 : (((4 : Int32) = 1) = False) := eq_false (by decide)
theorem q42 : (((4 : Int32) = 2) = False) := eq_false (by decide)
theorem q43 : (((4 : Int32) = 3) = False) := eq_false (by decide)
theorem q45 : (((4 : Int32) = 5) = False) := eq_false (by decide)
theorem q50 : (((5 : Int32) = 0) = False) := eq_false (by decide)
theorem q51 : (((5 : Int32) = 1) = False) := eq_false (by decide)
theorem q52 : (((5 : Int32) = 2) = False) := eq_false (by decide)
theorem q53 : (((5 : Int32) = 3) = False) := eq_false (by decide)
theorem q54 : (((5 : Int32) = 4) = False) := eq_false (by decide)
section PA
variable {K : kC} {N s d : Nat} {r r' : tR} {t t' : tC}
theorem p64_put (hp : t.2.2 ≤ 64) : P64 t (s_S_receivePut K t) := by
  have h0 : P64 t t := ⟨hp, rfl⟩
  have key : ∀ t', P64 t t' → P64 t (s_S_put99 K t') := by
    intro t' h
    unfold s_S_put99
    split
    · exact h
    · have q := rcC_k K t' h.1 K.1
      exact ⟨q.1, q.2.1.trans h.2⟩
  unfold s_S_receivePut
  split
  · exact h0.send _ _ _ _ _ _ _
  · split
    · refine key _ ?_
      split
      · refine ⟨?_, by rw [adl_1]⟩
        unfold s_F_addLast
        split
        · exact hp
        · exact hp
      · exact h0
    · exact h0
theorem p64_ask (hp : t.2.2 ≤ 64) : P64 t (s_S_receiveAsk K t) := by
  have h0 : P64 t t := ⟨hp, rfl⟩
  unfold s_S_receiveAsk
  split
  · exact h0.send _ _ _ _ _ _ _
  · exact (h0.st (k := 4) _ _ _ (by decide)).send _ _ _ _ _ _ _
theorem p64_free (hp : t.2.2 ≤ 64) : P64 t (s_S_receiveFree K t) := by
  have h0 : P64 t t := ⟨hp, rfl⟩
  unfold s_S_receiveFree
  split
  · split
    · exact h0
    · exact h0.st _ _ _ (by decide)
  · exact h0
theorem p64_cli (hp : t.2.2 ≤ 64) (c : Nat) : P64 t (s_C_receive K t c 64) := by
  have h0 : P64 t t := ⟨hp, rfl⟩
  have hfin : ∀ x y, P64 t (s_C_finish K t c x y) := fun x y => ((h0.st (k := 0) _ _ _ (by decide)).st (k := 0) _ _ _ (by decide)).st (k := 0) _ _ _ (by decide)
  unfold s_C_receive
  split
  · unfold s_C_receiveGiven
    repeat' split
    all_goals first | exact h0 | exact hfin _ _ | exact (((((hfin _ _).st (k := 1) _ _ _ (by decide)).st (k := 1) _ _ _ (by decide)).st (k := 1) _ _ _ (by decide)).st (k := 1) _ _ _ (by decide))
  · split
    · unfold s_C_receiveStored
      repeat' split
      all_goals first | exact h0 | exact hfin _ _
    · split
      · unfold s_C_receiveRecall
        split
        · exact (h0.st (k := 1) _ _ _ (by decide)).send _ _ _ _ _ _ _
        · split
          · exact ((h0.st (k := 1) _ _ _ (by decide)).st (k := 0) _ _ _ (by decide)).send _ _ _ _ _ _ _
          · exact (h0.st (k := 1) _ _ _ (by decide)).send _ _ _ _ _ _ _
      · exact h0
/-- deliver -/
theorem sim_deliver (h : RS K N s d r t) {k : Nat} (hk : k < t.2.2) (hN : N ≤ 512) (hsd : s + d + 1 ≤ 512) : (s_L_deliver K t k).2 = (s_R_deliver r k).2 ∧ RS K N s (d + 1) (s_R_deliver r k).1 (s_L_deliver K t k).1 := by
  have hK := h.1.2.2.2.2.1
  have h7 := h.2.2.2.2.2.2.1
  have h64 := h7.2.1
  have ho := h.out hk
  have hod := ho.dm (Nat.le_succ d)
  obtain ⟨g1, ⟨kn, hkn, g2⟩, ⟨c, hc, g3⟩, f, hf, g4⟩ := h7.2.2 k hk
  have hmc : mcN r k = c := pk_cl c g3 (by omega)
  have hmf : mfN r k = f := pk_cl f g4 (by omega)
  have e64 : (ptC t k t.2.2).1 7 64 = t.1 7 k := pt64 hk h64
  have m := fun j (hj : j < 7) => (congrFun e64 j).trans (g1 j hj)
  have m0 := m 0 (by decide)
  rw [Nat.add_zero] at m0
  have m1 := (m 1 (by decide)).trans g3
  have m2 := (m 2 (by decide)).trans g4
  have m3 := m 3 (by decide)
  have m4 := m 4 (by decide)
  have m5 := m 5 (by decide)
  have m6 := m 6 (by decide)
  have hcc : mcC (ptC t k t.2.2) 64 = c := pk_cl c m1 (by omega)
  have hp1 : (ptC t k t.2.2).2.2 ≤ 64 := by
    show t.2.2 - 1 ≤ 64
    omega
  have h9 := h.2.2.2.2.2.2.2.2.2.2.2.2.2 k (by rw [h7.pn]; exact hk)
  have o10 : (s_R_takeOut r k).2 10 = r.2 10 := by simp [s_R_takeOut, saA, stF]
  have hput : r.2 23 (7 * k) = 1 → wok (s_R_takeOut r k) c (r.2 23 (7 * k + 3)) := by
    intro z
    have q := h9 z c hc g3
    unfold wok at q ⊢
    rw [o10]
    exact q
  unfold s_L_deliver s_R_deliver
  rw [if_neg (h7.ms hk), hmc, hmf, hcc]
  generalize s_R_takeOut r k = r1 at ho hod hput ⊢
  generalize ptC t k t.2.2 = t1 at ho hod m0 m1 m2 m3 m4 m5 m6 hp1 ⊢
  have hcr : ∀ j, (s_C_receive K t1 c 64).1 7 64 j = t1.1 7 64 j := fun j => congrFun (p64_cli hp1 c).2 j
  have srv : ∀ {ra : tR} {ta : tC}, RS K N s (d + 1) ra ta → P64 t1 ta → ((s_S_storeWhatMay K ta).1.1 7 64 0 = r.2 23 (7 * k) ∧ RS K N s (d + 1) (s_R_storeAll ra).1 (s_S_storeWhatMay K ta).1) := by
    intro ra ta ha hpa
    exact ⟨(congrFun (hpa.all (K := K)).2 0).trans m0, (ha.all (by omega)).1⟩
  unfold s_M_goesToServer s_S_receive
  rw [m0]
  obtain z | z | z | z | z | z : kn = 0 ∨ kn = 1 ∨ kn = 2 ∨ kn = 3 ∨ kn = 4 ∨ kn = 5 := by omega
  all_goals subst z
  · have e : r.2 23 (7 * k) = 0 := g2
    rw [e, if_pos rfl, if_neg (c := (1 : Int32) = 0) (by decide), if_neg (c := (0 : Int32) = 2) (by decide), if_neg (c := (0 : Int32) = 3) (by decide), if_neg (c := (0 : Int32) = 4) (by decide)]
    rcases hod.2.1.2.1 with ⟨q1, q2⟩ | ⟨q1, q2⟩
    · rw [if_pos q1, q2, if_neg (c := (1 : Int32) = 0) (by decide), if_pos (c := (0 : Int32) = 0) rfl, if_neg (c := (1 : Int32) = 0) (by decide), if_pos (c := (0 : Int32) = 0) rfl]
      obtain ⟨p1, p2⟩ := srv (hod.asked hc hf m1 m2 m3 (by omega)) (p64_ask hp1)
      rw [e] at p1
      exact ⟨p1, p2⟩
    · rw [if_neg (c := r1.1 5 = 0) (by rw [q1]; decide), q2, if_pos (c := (0 : Int32) = 0) rfl, if_pos (c := (0 : Int32) = 0) rfl]
      exact ⟨rfl, hod⟩
  · have e : r.2 23 (7 * k) = 1 := g2
    rw [e, if_neg (c := (1 : Int32) = 0) (by decide), if_pos (c := (1 : Int32) = 1) rfl, if_neg (c := (1 : Int32) = 0) (by decide), if_neg (c := (1 : Int32) = 2) (by decide), if_neg (c := (1 : Int32) = 3) (by decide), if_neg (c := (1 : Int32) = 4) (by decide)]
    rcases hod.2.1.2.1 with ⟨q1, q2⟩ | ⟨q1, q2⟩
    · simp only [q1, q2, q01, q02, q03, q04, q05, q10, q12, q13, q14, q15, q20, q21, q23, q24, q25, q30, q31, q32, q34, q35, q40, q41, q42, q43, q45, q50, q51, q52, q53, q54, eq_self, if_true, if_false]
      obtain ⟨p1, p2⟩ := srv (ho.putCame hc hf m1 m2 m3 m4 (hput e) q1 hsd) (p64_put hp1)
      rw [e] at p1
      exact ⟨p1, p2⟩
    · simp only [q1, q2, q01, q02, q03, q04, q05, q10, q12, q13, q14, q15, q20, q21, q23, q24, q25, q30, q31, q32, q34, q35, q40, q41, q42, q43, q45, q50, q51, q52, q53, q54, eq_self, if_true, if_false]
      exact ⟨by first | trivial | rfl, hod⟩
  · have e : r.2 23 (7 * k) = 2 := g2
    rw [e] at m0
    have er : s_C_receive K t1 c 64 = s_C_receiveGiven K t1 c 64 := by
      unfold s_C_receive
      rw [if_pos m0]
    simp only [e, q01, q02, q03, q04, q05, q10, q12, q13, q14, q15, q20, q21, q23, q24, q25, q30, q31, q32, q34, q35, q40, q41, q42, q43, q45, q50, q51, q52, q53, q54, eq_self, if_true, if_false]
    refine ⟨(hcr 0).trans m0, ?_⟩
    rw [er]
    exact hod.given hc hf m2 m3 m4 m5 m6 (by omega)
  · have e : r.2 23 (7 * k) = 3 := g2
    rw [e] at m0
    have er : s_C_receive K t1 c 64 = s_C_receiveStored K t1 c 64 := by
      unfold s_C_receive
      rw [m0, if_neg (by decide), if_pos rfl]
    simp only [e, q01, q02, q03, q04, q05, q10, q12, q13, q14, q15, q20, q21, q23, q24, q25, q30, q31, q32, q34, q35, q40, q41, q42, q43, q45, q50, q51, q52, q53, q54, eq_self, if_true, if_false]
    refine ⟨(hcr 0).trans m0, ?_⟩
    rw [er]
    exact hod.stored hc m3 m4
  · have e : r.2 23 (7 * k) = 4 := g2
    rw [e] at m0
    have er : s_C_receive K t1 c 64 = s_C_receiveRecall K t1 c 64 := by
      unfold s_C_receive
      rw [m0, if_neg (by decide), if_neg (by decide), if_pos rfl]
    simp only [e, q01, q02, q03, q04, q05, q10, q12, q13, q14, q15, q20, q21, q23, q24, q25, q30, q31, q32, q34, q35, q40, q41, q42, q43, q45, q50, q51, q52, q53, q54, eq_self, if_true, if_false]
    refine ⟨(hcr 0).trans m0, ?_⟩
    rw [er]
    exact hod.recalled hc hf m2 m3 m4 m5
  · have e : r.2 23 (7 * k) = 5 := g2
    rcases hod.2.1.2.1 with ⟨q1, q2⟩ | ⟨q1, q2⟩
    · simp only [e, q1, q2, q01, q02, q03, q04, q05, q10, q12, q13, q14, q15, q20, q21, q23, q24, q25, q30, q31, q32, q34, q35, q40, q41, q42, q43, q45, q50, q51, q52, q53, q54, eq_self, if_true, if_false]
      obtain ⟨p1, p2⟩ := srv (hod.freed hc hf m1 m2 m3 m4 m5 (by omega)) (p64_free hp1)
      rw [e] at p1
      exact ⟨p1, p2⟩
    · simp only [e, q1, q2, q01, q02, q03, q04, q05, q10, q12, q13, q14, q15, q20, q21, q23, q24, q25, q30, q31, q32, q34, q35, q40, q41, q42, q43, q45, q50, q51, q52, q53, q54, eq_self, if_true, if_false]
      exact ⟨by first | trivial | rfl, hod⟩
end PA
