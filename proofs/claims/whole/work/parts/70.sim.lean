/-! the class and the reference side by side -/
def tb (x : Int32) (B : Nat) : Prop := 0 ≤ x.toInt ∧ x.toInt ≤ B
def RK (K : kC) (r : tR) : Prop := r.1 0 = nI K.1 ∧ r.1 1 = nI K.2.1 ∧ r.1 2 = K.2.2.1 ∧ r.1 3 = K.2.2.2 ∧ (1 ≤ K.1 ∧ K.1 ≤ 4 ∧ 1 ≤ K.2.1 ∧ K.2.1 ≤ 4) ∧ tb K.2.2.1 1000 ∧ tb K.2.2.2 1000
def RV (N : Nat) (r : tR) (t : tC) : Prop := t.1 2 0 0 = r.1 4 ∧ (r.1 5 = 0 ∧ t.1 2 0 1 = 1 ∨ r.1 5 = 1 ∧ t.1 2 0 1 = 0) ∧ t.1 2 0 2 = r.1 6 ∧ t.1 2 0 3 = r.1 7 ∧ tb (r.1 4) (1000 * N) ∧ tb (r.1 7) (1000 * N + 1000)
/-- an operation under way -/
def RO (K : kC) (N : Nat) (r : tR) (g : Nat → Int32) (c : Nat) : Prop := g 4 = r.2 13 c ∧ g 6 = r.2 15 c ∧ g 7 = r.2 16 c ∧ tb (r.2 15 c) (1000 * N) ∧ (∃ f, f < K.2.1 ∧ r.2 13 c = nI f) ∧ (r.2 12 c = 0 ∧ g 3 = 1 ∨ r.2 12 c = 1 ∧ g 3 = 0 ∧ g 5 = r.2 14 c)
def RC (K : kC) (N : Nat) (r : tR) (t : tC) : Prop := ∀ c, c < K.1 → t.1 0 c 0 = r.2 9 c ∧ t.1 0 c 1 = r.2 11 c ∧ t.1 0 c 2 = r.2 10 c ∧ t.1 0 c 8 = r.2 17 c ∧ t.1 0 c 9 = r.2 18 c ∧ tb (r.2 9 c) (1000 * N) ∧ (r.2 11 c = 2 → RO K N r (t.1 0 c) c)
def RY (K : kC) (N : Nat) (r : tR) (t : tC) : Prop := ∀ c f, c < K.1 → f < K.2.1 → t.1 1 (4 * c + f) 0 = r.2 19 (4 * c + f) ∧ t.1 1 (4 * c + f) 1 = r.2 21 (4 * c + f) ∧ t.1 1 (4 * c + f) 2 = r.2 22 (4 * c + f) ∧ t.1 1 (4 * c + f) 3 = r.2 20 (4 * c + f) ∧ tb (r.2 20 (4 * c + f)) (1000 * N + 1000)
def RF (K : kC) (r : tR) (t : tC) : Prop := (∀ f, f < K.2.1 → t.1 3 f 0 = r.2 0 f ∧ t.1 3 f 1 = r.2 1 f) ∧ ∀ c, c < K.1 → t.1 5 0 c = r.2 3 c ∧ t.1 6 0 c = r.2 4 c
def RL (K : kC) (N : Nat) (r : tR) (t : tC) : Prop := ∀ c f, c < K.1 → f < K.2.1 → tb (t.1 4 f c) (1000 * N + 1000) ∧ tb (r.2 2 (4 * c + f)) (1000 * N + 1000) ∧ (t.1 4 f c = r.2 2 (4 * c + f) ∨ t.1 4 f c ≤ r.1 4 ∧ r.2 2 (4 * c + f) ≤ r.1 4)
def RP (K : kC) (r : tR) (t : tC) : Prop := r.1 9 = nI t.2.2 ∧ t.2.2 ≤ 64 ∧ ∀ i, i < t.2.2 → (∀ j, j < 7 → t.1 7 i j = r.2 23 (7 * i + j)) ∧ (∃ k, k ≤ 5 ∧ r.2 23 (7 * i) = nI k) ∧ (∃ c, c < K.1 ∧ r.2 23 (7 * i + 1) = nI c) ∧ ∃ f, f < K.2.1 ∧ r.2 23 (7 * i + 2) = nI f
/-- a message's numbers -/
def m7 (k cc ff wo a b d : Int32) (j : Nat) : Int32 := match j with
  | 0 => k
  | 1 => cc
  | 2 => ff
  | 3 => wo
  | 4 => a
  | 5 => b
  | _ => d
theorem RP.pn {K : kC} {r : tR} {t : tC} (h : RP K r t) : pN r = t.2.2 := pk_cl t.2.2 h.1 (by have := h.2.1; omega)
theorem RP.ok {K : kC} {r : tR} {t : tC} (h : RP K r t) : okP r := ⟨by rw [h.pn]; exact h.1, by rw [h.pn]; exact h.2.1⟩
theorem sendR_23 (r : tR) (k cc ff wo a b d : Int32) (h : ¬ nI (pN r) = 64) {i j : Nat} (hj : j < 7) : (s_R_send r k cc ff wo a b d).2 23 (7 * i + j) = if i = pN r then m7 k cc ff wo a b d j else r.2 23 (7 * i + j) := by
  unfold s_R_send
  rw [if_neg h]
  generalize pN r = n
  by_cases hi : i = n
  · subst hi
    rw [if_pos rfl]
    match j, hj with
    | 0, _ => simp [stF, stA, upd, m7]
    | 1, _ => simp [stF, stA, upd, m7]
    | 2, _ => simp [stF, stA, upd, m7]
    | 3, _ => simp [stF, stA, upd, m7]
    | 4, _ => simp [stF, stA, upd, m7]
    | 5, _ => simp [stF, stA, upd, m7]
    | 6, _ => simp [stF, stA, upd, m7]
  · rw [if_neg hi]
    have h0 : 7 * i + j ≠ 7 * n := by omega
    have h1 : 7 * i + j ≠ 7 * n + 1 := by omega
    have h2 : 7 * i + j ≠ 7 * n + 2 := by omega
    have h3 : 7 * i + j ≠ 7 * n + 3 := by omega
    have h4 : 7 * i + j ≠ 7 * n + 4 := by omega
    have h5 : 7 * i + j ≠ 7 * n + 5 := by omega
    have h6 : 7 * i + j ≠ 7 * n + 6 := by omega
    simp [stF, stA, upd, h0, h1, h2, h3, h4, h5, h6]
theorem sendR_o (r : tR) (k cc ff wo a b d : Int32) {m : Nat} (hm : m ≠ 23) : (s_R_send r k cc ff wo a b d).2 m = r.2 m := by
  unfold s_R_send
  split
  · rfl
  · simp [stF, stA, hm]
theorem sendR_n (r : tR) (k cc ff wo a b d : Int32) {m : Nat} (hm : m ≠ 9) : (s_R_send r k cc ff wo a b d).1 m = r.1 m := by
  unfold s_R_send
  split
  · rfl
  · simp [stF, stA, upd, hm]
theorem sendC_7 (K : kC) (t : tC) (k cc ff wo a b d : Int32) (h : nI t.2.2 < 64) {j : Nat} (hj : j < 7) : (s_P_send K t k cc ff wo a b d).1 7 t.2.2 j = m7 k cc ff wo a b d j := by
  unfold s_P_send
  rw [if_pos h]
  match j, hj with
  | 0, _ => simp [cnC, stC, upd, m7]
  | 1, _ => simp [cnC, stC, upd, m7]
  | 2, _ => simp [cnC, stC, upd, m7]
  | 3, _ => simp [cnC, stC, upd, m7]
  | 4, _ => simp [cnC, stC, upd, m7]
  | 5, _ => simp [cnC, stC, upd, m7]
  | 6, _ => simp [cnC, stC, upd, m7]
theorem RP.send {K : kC} {r : tR} {t : tC} (h : RP K r t) {kn c f : Nat} (hk : kn ≤ 5) (hc : c < K.1) (hf : f < K.2.1) {k cc ff : Int32} (ek : k = nI kn) (ec : cc = nI c) (ef : ff = nI f) (wo a b d : Int32) : RP K (s_R_send r k cc ff wo a b d) (s_P_send K t k cc ff wo a b d) := by
  have hp := h.pn
  obtain ⟨h1, h2, h3⟩ := h
  by_cases hz : t.2.2 = 64
  · have e1 : s_R_send r k cc ff wo a b d = r := by
      unfold s_R_send
      rw [if_pos (by rw [hp, hz]; rfl)]
    have e2 : s_P_send K t k cc ff wo a b d = t := by
      unfold s_P_send
      rw [if_neg (by rw [hz]; decide)]
    rw [e1, e2]
    exact ⟨h1, h2, h3⟩
  · have hlt : nI t.2.2 < 64 := (nI_ltI (b := 64) (by omega) (by omega)).mpr (by omega)
    have hne : ¬ nI (pN r) = 64 := by
      rw [hp]
      intro z
      exact hz ((nI_eq (b := 64) (by omega) (by omega)).mp z)
    have en : (s_P_send K t k cc ff wo a b d).2.2 = t.2.2 + 1 := by
      unfold s_P_send
      rw [if_pos hlt]
      rfl
    have e9 : (s_R_send r k cc ff wo a b d).1 9 = nI (t.2.2 + 1) := by
      unfold s_R_send
      rw [if_neg hne, hp]
      simp [stF, upd]
    refine ⟨by rw [en]; exact e9, by rw [en]; omega, fun i hi => ?_⟩
    rw [en] at hi
    have s0 := sendR_23 r k cc ff wo a b d hne (i := i) (j := 0) (by decide)
    have s1 := sendR_23 r k cc ff wo a b d hne (i := i) (j := 1) (by decide)
    have s2 := sendR_23 r k cc ff wo a b d hne (i := i) (j := 2) (by decide)
    rw [Nat.add_zero] at s0
    by_cases hin : i = t.2.2
    · subst hin
      rw [if_pos hp.symm] at s0 s1 s2
      refine ⟨fun j hj => ?_, ⟨kn, hk, s0.trans ek⟩, ⟨c, hc, s1.trans ec⟩, ⟨f, hf, s2.trans ef⟩⟩
      rw [sendC_7 K t k cc ff wo a b d hlt hj, sendR_23 r k cc ff wo a b d hne hj, if_pos hp.symm]
    · have hni : i ≠ pN r := by rw [hp]; exact hin
      rw [if_neg hni] at s0 s1 s2
      obtain ⟨g1, g2, g3, g4⟩ := h3 i (by omega)
      refine ⟨fun j hj => ?_, ?_, ?_, ?_⟩
      · rw [snd_k K t k cc ff wo a b d (fun z => hin (congrArg Prod.snd z)), sendR_23 r k cc ff wo a b d hne hj, if_neg hni]
        exact g1 j hj
      · rw [s0]
        exact g2
      · rw [s1]
        exact g3
      · rw [s2]
        exact g4
