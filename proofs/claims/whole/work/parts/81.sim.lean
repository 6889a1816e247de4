/-- what comes behind place k -/
def sfx (r : tR) (k n : Nat) : List (Int32 × Int32 × Int32 × Int32) := (List.range n).map (fun j => enR r (k + 1 + j))
theorem sfx_s (r : tR) (k n : Nat) : sfx r k (n + 1) = sfx r k n ++ [enR r (k + 1 + n)] := by
  unfold sfx
  rw [List.range_succ, List.map_append]
  rfl
theorem lsN_split (r : tR) (k : Nat) : ∀ n, lsN r (k + 1 + n) = lsN r k ++ enR r k :: sfx r k n := by
  intro n
  induction n with
  | zero => rw [Nat.add_zero, lsN_s]; rfl
  | succ n ih =>
    rw [show k + 1 + (n + 1) = k + 1 + n + 1 by omega, lsN_s, ih, sfx_s, List.append_assoc]
    rfl
def remR (r : tR) (k m : Nat) : tR := s4R (stF r 8 (nI m)) k m
theorem remR_o (r : tR) (k m : Nat) {i : Nat} (h : i < 5 ∨ 8 < i) : (remR r k m).2 i = r.2 i := by
  show (if i = 5 ∨ i = 6 ∨ i = 7 ∨ i = 8 then _ else r.2 i) = _
  rw [if_neg (by omega)]
theorem remR_n (r : tR) (k m : Nat) {i : Nat} (h : i ≠ 8) : (remR r k m).1 i = r.1 i := by
  show upd r.1 8 (nI m) i = _
  simp [upd, h]
theorem remR_e (r : tR) (k m j : Nat) : enR (remR r k m) j = if k ≤ j ∧ j < m then enR r (j + 1) else enR r j := by
  have e : ∀ i, i = 5 ∨ i = 6 ∨ i = 7 ∨ i = 8 → (remR r k m).2 i j = if k ≤ j ∧ j < m then r.2 i (j + 1) else r.2 i j := by
    intro i hi
    show (if i = 5 ∨ i = 6 ∨ i = 7 ∨ i = 8 then sh1 (r.2 i) k m else r.2 i) j = _
    rw [if_pos hi]
    rfl
  unfold enR
  rw [e 5 (by omega), e 6 (by omega), e 7 (by omega), e 8 (by omega)]
  by_cases z : k ≤ j ∧ j < m
  · rw [if_pos z, if_pos z, if_pos z, if_pos z, if_pos z]
  · rw [if_neg z, if_neg z, if_neg z, if_neg z, if_neg z]
theorem remR_ls (r : tR) {k m : Nat} (hk : k ≤ m) (hm : m < 1000) : wN (remR r k m) = m ∧ lsR (remR r k m) = lsN r k ++ sfx r k (m - k) := by
  have e8 : (remR r k m).1 8 = nI m := by
    show upd r.1 8 (nI m) 8 = _
    simp [upd]
  have hn : wN (remR r k m) = m := pk_cl m e8 (by omega)
  refine ⟨hn, ?_⟩
  rw [lsR_N, hn]
  have h0 : lsN (remR r k m) k = lsN r k := by
    unfold lsN
    refine List.map_congr_left (fun j hj => ?_)
    have := List.mem_range.mp hj
    rw [remR_e, if_neg (by omega)]
  have key : ∀ n, k + n ≤ m → lsN (remR r k m) (k + n) = lsN r k ++ sfx r k n := by
    intro n
    induction n with
    | zero =>
      intro _
      rw [Nat.add_zero, h0]
      simp [sfx]
    | succ n ih =>
      intro hn2
      rw [show k + (n + 1) = k + n + 1 by omega, lsN_s, ih (by omega), sfx_s, remR_e, if_pos (by omega), List.append_assoc, show k + n + 1 = k + 1 + n by omega]
  have := key (m - k) (by omega)
  rw [show k + (m - k) = m by omega] at this
  exact this
section OX
variable {K : kC} {N s d : Nat} {r r' : tR} {t t' : tC}
/-- the first waiting write of a file goes -/
theorem RS.rem (h : RS K N s d r t) {f k m : Nat} (hf : f < K.2.1) (hm : wN r = m + 1) (hk : k < wN r) (h1 : r.2 6 k = nI f) (h2 : ∀ j, j < k → ¬ r.2 6 j = nI f) : RS K N s d (remR r k m) (rmC t f) := by
  have hK := h.1.2.2.2.2.1
  obtain ⟨g1, g2, g3, g4, g5, g6, g7, g8, g9⟩ := h
  have hw2 := g8.2.1
  obtain ⟨l1, l2⟩ := remR_ls r (k := k) (m := m) (by omega) (by omega)
  have hsp : lsR r = lsN r k ++ enR r k :: sfx r k (m - k) := by
    rw [lsR_N, hm, show m + 1 = k + 1 + (m - k) by omega, lsN_split]
  have hP : flt f (lsN r k) = [] := by
    have : ∀ n, n ≤ k → flt f (lsN r n) = [] := by
      intro n
      induction n with
      | zero => exact fun _ => rfl
      | succ n ih =>
        intro hn
        rw [lsN_s, flt_app, ih (by omega), flt_no (show ¬ (enR r n).1 = nI f from h2 n (by omega))]
        rfl
    exact this k (Nat.le_refl _)
  have hsub : (lsN r k ++ sfx r k (m - k)).Sublist (lsR r) := by
    rw [hsp]
    exact (List.sublist_cons_self (enR r k) (sfx r k (m - k))).append_left (lsN r k)
  have o := fun i (hi : i < 5 ∨ 8 < i) => remR_o r k m (i := i) hi
  have n := fun i (hi : i ≠ 8) => remR_n r k m (i := i) hi
  have e8 : (remR r k m).1 8 = nI m := by
    show upd r.1 8 (nI m) 8 = _
    simp [upd]
  have eo : ∀ g, g ≠ f → g ≠ 4 → (rmC t f).2.1 g = t.2.1 g := fun g h1 h2 => (if_neg h2).trans (if_neg h1)
  have ef : (rmC t f).2.1 f = (t.2.1 f).tail := (if_neg (by omega)).trans (if_pos rfl)
  obtain ⟨w1, w2, w3, w4, w5⟩ := g8
  obtain ⟨b1, b2, b3, b4, b5, b6⟩ := g9
  refine ⟨g1.of (fun i hi => n i (by omega)), g2.of (fun i _ _ => n i (by omega)) rfl, g3.of (fun i _ _ => o i (by omega)) rfl, g4.of (fun i _ _ => o i (by omega)) rfl, g5.of (o 0 (by decide)) (o 1 (by decide)) (o 3 (by decide)) (o 4 (by decide)) rfl rfl rfl, g6.of (o 2 (by decide)) (n 4 (by decide)) rfl, g7.of (n 9 (by decide)) (o 23 (by decide)) (fun i _ => rfl) rfl, ⟨by rw [l1]; exact e8, by omega, fun g hg => ?_, fun e he => ?_, fun z => ?_⟩, ⟨?_, ?_, by omega, ?_, ?_, ?_⟩⟩
  · rw [l2, flt_app]
    by_cases z : g = f
    · subst z
      rw [ef, w3 g hg, hsp, flt_app, hP, flt_yes (show (enR r k).1 = nI g from h1)]
      rfl
    · rw [eo g z (by omega), w3 g hg, hsp, flt_app, flt_no (e := enR r k) (fun y => z (nI_inj4 (by omega) (by omega) (y.symm.trans h1)))]
  · rw [l2] at he
    exact w4 e (hsub.mem he)
  · rw [n 5 (by decide)] at z
    have := w5 z
    omega
  · rw [o 10 (by decide), o 11 (by decide)]
    exact b1
  · rw [swd_of (o 10 (by decide))]
    exact b2
  · rw [l2]
    unfold wok at *
    rw [o 10 (by decide)]
    exact fun e he => b4 e (hsub.mem he)
  · rw [l2]
    exact List.Nodup.sublist (hsub.map _) b5
  · have hp : pN (remR r k m) = pN r := by
      unfold pN
      rw [n 9 (by decide)]
    unfold wok at *
    rw [hp, o 23 (by decide), o 10 (by decide)]
    exact b6
/-- a file's value and version -/
theorem RS.file (h : RS K N s d r t) {f : Nat} (hf : f < K.2.1) (v x : Int32) : RS K N s d (stA (stA r 0 f v) 1 f x) (stC (stC t 3 f 0 v) 3 f 1 x) := by
  obtain ⟨h1, h2, h3, h4, h5, h6, h7, h8, h9⟩ := h
  have o : ∀ m, m ≠ 0 → m ≠ 1 → (stA (stA r 0 f v) 1 f x).2 m = r.2 m := by
    intro m e1 e2
    rw [stA_k _ _ _ _ e2, stA_k _ _ _ _ e1]
  have q : ∀ m, m ≠ 3 → (stC (stC t 3 f 0 v) 3 f 1 x).1 m = t.1 m := by
    intro m e1
    rw [stC_k _ _ _ _ _ e1, stC_k _ _ _ _ _ e1]
  refine ⟨h1.of (fun m hm => rfl), h2.of (fun m _ _ => rfl) (by rw [q 2 (by decide)]), h3.of (fun m _ _ => o m (by omega) (by omega)) (q 0 (by decide)), h4.of (fun m _ _ => o m (by omega) (by omega)) (q 1 (by decide)), ⟨fun g hg => ?_, fun c hc => ?_⟩, h6.of (o 2 (by decide) (by decide)) rfl (q 4 (by decide)), h7.of rfl (o 23 (by decide) (by decide)) (fun i _ => by rw [q 7 (by decide)]) rfl, h8.of rfl rfl (fun m _ _ => o m (by omega) (by omega)) (fun f _ => rfl), h9.of rfl rfl (fun m _ _ => o m (by omega) (by omega)) (o 10 (by decide) (by decide)) (fun c' z => by rw [o 11 (by decide) (by decide)] at z; exact z) (o 23 (by decide) (by decide))⟩
  · by_cases z : g = f
    · subst z
      refine ⟨?_, ?_⟩
      all_goals simp [stA, stC, upd]
    · rw [stC_i _ _ _ _ _ z, stC_i _ _ _ _ _ z, stA_c _ _ _ _ _ z, stA_c _ _ _ _ _ z, stA_c _ _ _ _ _ z, stA_c _ _ _ _ _ z]
      exact h5.1 g hg
  · rw [q 5 (by decide), q 6 (by decide), o 3 (by decide) (by decide), o 4 (by decide) (by decide)]
    exact h5.2 c hc
/-- a client's last word and version -/
theorem RS.last (h : RS K N s d r t) {c : Nat} (v x : Int32) : RS K N s d (stA (stA r 3 c v) 4 c x) (stC (stC t 5 0 c v) 6 0 c x) := by
  obtain ⟨h1, h2, h3, h4, h5, h6, h7, h8, h9⟩ := h
  have o : ∀ m, m ≠ 3 → m ≠ 4 → (stA (stA r 3 c v) 4 c x).2 m = r.2 m := by
    intro m e1 e2
    rw [stA_k _ _ _ _ e2, stA_k _ _ _ _ e1]
  have q : ∀ m, m ≠ 5 → m ≠ 6 → (stC (stC t 5 0 c v) 6 0 c x).1 m = t.1 m := by
    intro m e1 e2
    rw [stC_k _ _ _ _ _ e2, stC_k _ _ _ _ _ e1]
  refine ⟨h1.of (fun m hm => rfl), h2.of (fun m _ _ => rfl) (by rw [q 2 (by decide) (by decide)]), h3.of (fun m _ _ => o m (by omega) (by omega)) (q 0 (by decide) (by decide)), h4.of (fun m _ _ => o m (by omega) (by omega)) (q 1 (by decide) (by decide)), ⟨fun g hg => ?_, fun c' hc' => ?_⟩, h6.of (o 2 (by decide) (by decide)) rfl (q 4 (by decide) (by decide)), h7.of rfl (o 23 (by decide) (by decide)) (fun i _ => by rw [q 7 (by decide) (by decide)]) rfl, h8.of rfl rfl (fun m _ _ => o m (by omega) (by omega)) (fun f _ => rfl), h9.of rfl rfl (fun m _ _ => o m (by omega) (by omega)) (o 10 (by decide) (by decide)) (fun c' z => by rw [o 11 (by decide) (by decide)] at z; exact z) (o 23 (by decide) (by decide))⟩
  · rw [q 3 (by decide) (by decide), o 0 (by decide) (by decide), o 1 (by decide) (by decide)]
    exact h5.1 g hg
  · obtain ⟨u1, u2⟩ := h5.2 c' hc'
    by_cases z : c' = c
    · subst z
      refine ⟨?_, ?_⟩
      all_goals simp [stA, stC, upd]
    · refine ⟨?_, ?_⟩
      all_goals simp [stA, stC, upd, z, u1, u2]
end OX
