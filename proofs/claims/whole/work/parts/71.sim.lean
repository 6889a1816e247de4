/-- the reference's waiting writes: file, client, word, value -/
def enR (r : tR) (k : Nat) : Int32 × Int32 × Int32 × Int32 := (r.2 6 k, r.2 5 k, r.2 7 k, r.2 8 k)
def lsR (r : tR) : List (Int32 × Int32 × Int32 × Int32) := (List.range (wN r)).map (enR r)
def flt (f : Nat) (l : List (Int32 × Int32 × Int32 × Int32)) : List (Int32 × Int32 × Int32) := l.filterMap (fun e => if e.1 = nI f then some e.2 else none)
def RW (K : kC) (r : tR) (t : tC) : Prop := r.1 8 = nI (wN r) ∧ wN r ≤ 512 ∧ (∀ f, f < K.2.1 → t.2.1 f = flt f (lsR r)) ∧ (∀ e ∈ lsR r, (∃ f, f < K.2.1 ∧ e.1 = nI f) ∧ ∃ c, c < K.1 ∧ e.2.1 = nI c) ∧ (r.1 5 = 1 → wN r = 0)
/-- how many operations the first n clients began -/
def swd (r : tR) : Nat → Nat
  | 0 => 0
  | n + 1 => swd r n + (r.2 10 n).toInt.toNat
/-- a word that its client has given -/
def wok (r : tR) (c : Nat) (x : Int32) : Prop := 1 ≤ x.toInt ∧ x.toInt ≤ (r.2 10 c).toInt
def RB (K : kC) (s d : Nat) (r : tR) : Prop := (∀ c, c < K.1 → 0 ≤ (r.2 10 c).toInt ∧ (r.2 11 c = 2 → 1 ≤ (r.2 10 c).toInt)) ∧ swd r K.1 ≤ s ∧ wN r ≤ d ∧ (∀ e ∈ lsR r, ∀ c, c < K.1 → e.2.1 = nI c → wok r c e.2.2.1) ∧ ((lsR r).map (fun e => (e.1, e.2.1, e.2.2.1))).Nodup ∧ ∀ i, i < pN r → r.2 23 (7 * i) = 1 → ∀ c, c < K.1 → r.2 23 (7 * i + 1) = nI c → wok r c (r.2 23 (7 * i + 3))
/-- all together, behind N calls: s began an operation, d delivered -/
def RS (K : kC) (N s d : Nat) (r : tR) (t : tC) : Prop := RK K r ∧ RV N r t ∧ RC K N r t ∧ RY K N r t ∧ RF K r t ∧ RL K N r t ∧ RP K r t ∧ RW K r t ∧ RB K s d r
section CO
variable {K : kC} {N s d : Nat} {r r' : tR} {t t' : tC}
theorem tb.mono {x : Int32} {A B : Nat} (h : tb x A) (hh : A ≤ B) : tb x B := ⟨h.1, by have := h.2; omega⟩
theorem RK.of (h : RK K r) (e : ∀ m, m < 4 → r'.1 m = r.1 m) : RK K r' := by
  unfold RK
  rw [e 0 (by decide), e 1 (by decide), e 2 (by decide), e 3 (by decide)]
  exact h
theorem RV.of (h : RV N r t) (e : ∀ m, 4 ≤ m → m ≤ 7 → r'.1 m = r.1 m) (et : t'.1 2 0 = t.1 2 0) : RV N r' t' := by
  unfold RV
  rw [e 4 (by decide) (by decide), e 5 (by decide) (by decide), e 6 (by decide) (by decide), e 7 (by decide) (by decide), et]
  exact h
theorem RC.at (h : RC K N r t) (c : Nat) (eo : ∀ c', c' ≠ c → (∀ m, 9 ≤ m → m ≤ 18 → r'.2 m c' = r.2 m c') ∧ t'.1 0 c' = t.1 0 c') (hc : c < K.1 → t'.1 0 c 0 = r'.2 9 c ∧ t'.1 0 c 1 = r'.2 11 c ∧ t'.1 0 c 2 = r'.2 10 c ∧ t'.1 0 c 8 = r'.2 17 c ∧ t'.1 0 c 9 = r'.2 18 c ∧ tb (r'.2 9 c) (1000 * N) ∧ (r'.2 11 c = 2 → RO K N r' (t'.1 0 c) c)) : RC K N r' t' := by
  intro c' hc'
  by_cases z : c' = c
  · subst z
    exact hc hc'
  · obtain ⟨e, et⟩ := eo c' z
    have q := h c' hc'
    unfold RO at q ⊢
    rw [et, e 9 (by decide) (by decide), e 10 (by decide) (by decide), e 11 (by decide) (by decide), e 12 (by decide) (by decide), e 13 (by decide) (by decide), e 14 (by decide) (by decide), e 15 (by decide) (by decide), e 16 (by decide) (by decide), e 17 (by decide) (by decide), e 18 (by decide) (by decide)]
    exact q
theorem RC.of (h : RC K N r t) (e : ∀ m, 9 ≤ m → m ≤ 18 → r'.2 m = r.2 m) (et : t'.1 0 = t.1 0) : RC K N r' t' := by
  refine h.at K.1 (fun c' _ => ⟨fun m h1 h2 => by rw [e m h1 h2], by rw [et]⟩) (fun z => absurd z (Nat.lt_irrefl _))
theorem RY.of (h : RY K N r t) (e : ∀ m, 19 ≤ m → m ≤ 22 → r'.2 m = r.2 m) (et : t'.1 1 = t.1 1) : RY K N r' t' := by
  unfold RY
  rw [et, e 19 (by decide) (by decide), e 20 (by decide) (by decide), e 21 (by decide) (by decide), e 22 (by decide) (by decide)]
  exact h
theorem RF.of (h : RF K r t) (e0 : r'.2 0 = r.2 0) (e1 : r'.2 1 = r.2 1) (e3 : r'.2 3 = r.2 3) (e4 : r'.2 4 = r.2 4) (t3 : t'.1 3 = t.1 3) (t5 : t'.1 5 = t.1 5) (t6 : t'.1 6 = t.1 6) : RF K r' t' := by
  unfold RF
  rw [e0, e1, e3, e4, t3, t5, t6]
  exact h
theorem RL.of (h : RL K N r t) (e2 : r'.2 2 = r.2 2) (e4 : r'.1 4 = r.1 4) (t4 : t'.1 4 = t.1 4) : RL K N r' t' := by
  unfold RL
  rw [e2, e4, t4]
  exact h
theorem RP.of (h : RP K r t) (e9 : r'.1 9 = r.1 9) (e23 : r'.2 23 = r.2 23) (t7 : ∀ i, i < 64 → t'.1 7 i = t.1 7 i) (tn : t'.2.2 = t.2.2) : RP K r' t' := by
  unfold RP
  rw [e9, e23, tn]
  refine ⟨h.1, h.2.1, fun i hi => ?_⟩
  rw [t7 i (by have := h.2.1; omega)]
  exact h.2.2 i hi
theorem lsR_of (e8 : r'.1 8 = r.1 8) (e : ∀ m, 5 ≤ m → m ≤ 8 → r'.2 m = r.2 m) : lsR r' = lsR r ∧ wN r' = wN r := by
  have hw : wN r' = wN r := by
    unfold wN
    rw [e8]
  refine ⟨?_, hw⟩
  unfold lsR
  rw [hw]
  refine List.map_congr_left (fun k _ => ?_)
  unfold enR
  rw [e 5 (by decide) (by decide), e 6 (by decide) (by decide), e 7 (by decide) (by decide), e 8 (by decide) (by decide)]
theorem RW.of (h : RW K r t) (e8 : r'.1 8 = r.1 8) (e5 : r'.1 5 = r.1 5) (e : ∀ m, 5 ≤ m → m ≤ 8 → r'.2 m = r.2 m) (tw : ∀ f, f < K.2.1 → t'.2.1 f = t.2.1 f) : RW K r' t' := by
  obtain ⟨h1, h2⟩ := lsR_of e8 e
  unfold RW
  rw [h1, h2, e8, e5]
  exact ⟨h.1, h.2.1, fun f hf => (tw f hf).trans (h.2.2.1 f hf), h.2.2.2⟩
theorem swd_of (e : r'.2 10 = r.2 10) : ∀ n, swd r' n = swd r n := by
  intro n
  induction n with
  | zero => rfl
  | succ n ih => rw [swd, swd, ih, e]
theorem RB.of (h : RB K s d r) (e8 : r'.1 8 = r.1 8) (e9 : r'.1 9 = r.1 9) (e : ∀ m, 5 ≤ m → m ≤ 8 → r'.2 m = r.2 m) (e10 : r'.2 10 = r.2 10) (e11 : ∀ c, r'.2 11 c = 2 → r.2 11 c = 2) (e23 : r'.2 23 = r.2 23) : RB K s d r' := by
  obtain ⟨h1, h2⟩ := lsR_of e8 e
  have hp : pN r' = pN r := by
    unfold pN
    rw [e9]
  obtain ⟨b1, b2, b3, b4, b5, b6⟩ := h
  unfold RB wok at *
  rw [h1, h2, hp, e10, e23, swd_of e10]
  exact ⟨fun c hc => ⟨(b1 c hc).1, fun z => (b1 c hc).2 (e11 c z)⟩, b2, b3, b4, b5, b6⟩
theorem RS.mono (h : RS K N s d r t) {N' : Nat} (hN : N ≤ N') : RS K N' s d r t := by
  obtain ⟨h1, h2, h3, h4, h5, h6, h7⟩ := h
  refine ⟨h1, ⟨h2.1, h2.2.1, h2.2.2.1, h2.2.2.2.1, h2.2.2.2.2.1.mono (by omega), h2.2.2.2.2.2.mono (by omega)⟩, fun c hc => ?_, fun c f hc hf => ?_, h5, fun c f hc hf => ?_, h7⟩
  · obtain ⟨a1, a2, a3, a4, a5, a6, a7⟩ := h3 c hc
    refine ⟨a1, a2, a3, a4, a5, a6.mono (by omega), fun z => ?_⟩
    obtain ⟨b1, b2, b3, b4, b5⟩ := a7 z
    exact ⟨b1, b2, b3, b4.mono (by omega), b5⟩
  · obtain ⟨a1, a2, a3, a4, a5⟩ := h4 c f hc hf
    exact ⟨a1, a2, a3, a4, a5.mono (by omega)⟩
  · obtain ⟨a1, a2, a3⟩ := h6 c f hc hf
    exact ⟨a1.mono (by omega), a2.mono (by omega), a3⟩
theorem snd_r (K : kC) (t : tC) (k cc ff wo a b d : Int32) {m : Nat} (hm : m ≠ 7) : (s_P_send K t k cc ff wo a b d).1 m = t.1 m := funext fun i => snd_k K t k cc ff wo a b d (fun z => hm (congrArg Prod.fst z))
theorem RB.send (h : RB K s d r) (hp : okP r) {k cc ff wo : Int32} (a b e : Int32) (hk : k = 1 → ∀ c, c < K.1 → cc = nI c → wok r c wo) : RB K s d (s_R_send r k cc ff wo a b e) := by
  by_cases hz : nI (pN r) = 64
  · have e1 : s_R_send r k cc ff wo a b e = r := by
      unfold s_R_send
      rw [if_pos hz]
    rw [e1]
    exact h
  · have o10 := sendR_o r k cc ff wo a b e (m := 10) (by decide)
    obtain ⟨h1, h2⟩ := lsR_of (r := r) (r' := s_R_send r k cc ff wo a b e) (sendR_n r k cc ff wo a b e (m := 8) (by decide)) (fun m _ _ => sendR_o r k cc ff wo a b e (by omega))
    have en : pN (s_R_send r k cc ff wo a b e) = pN r + 1 := by
      have : (s_R_send r k cc ff wo a b e).1 9 = nI (pN r + 1) := by
        unfold s_R_send
        rw [if_neg hz]
        simp [stF, upd]
      exact pk_cl _ this (by have := hp.2; omega)
    obtain ⟨b1, b2, b3, b4, b5, b6⟩ := h
    unfold RB wok at *
    rw [h1, h2, en, o10, swd_of o10, sendR_o r k cc ff wo a b e (m := 11) (by decide)]
    refine ⟨b1, b2, b3, b4, b5, fun i hi => ?_⟩
    have s0 := sendR_23 r k cc ff wo a b e hz (i := i) (j := 0) (by decide)
    rw [Nat.add_zero] at s0
    rw [s0, sendR_23 r k cc ff wo a b e hz (i := i) (j := 1) (by decide), sendR_23 r k cc ff wo a b e hz (i := i) (j := 3) (by decide)]
    by_cases hin : i = pN r
    · rw [if_pos hin, if_pos hin, if_pos hin]
      exact hk
    · rw [if_neg hin, if_neg hin, if_neg hin]
      exact b6 i (by omega)
theorem RS.send (h : RS K N s d r t) {kn c f : Nat} (hk : kn ≤ 5) (hc : c < K.1) (hf : f < K.2.1) {k cc ff : Int32} (ek : k = nI kn) (ec : cc = nI c) (ef : ff = nI f) {wo : Int32} (a b e : Int32) (hw : k = 1 → ∀ c, c < K.1 → cc = nI c → wok r c wo) : RS K N s d (s_R_send r k cc ff wo a b e) (s_P_send K t k cc ff wo a b e) := by
  obtain ⟨h1, h2, h3, h4, h5, h6, h7, h8, h9⟩ := h
  have o := fun m (hm : m ≠ 23) => sendR_o r k cc ff wo a b e (m := m) hm
  have n := fun m (hm : m ≠ 9) => sendR_n r k cc ff wo a b e (m := m) hm
  have q := fun m (hm : m ≠ 7) => snd_r K t k cc ff wo a b e (m := m) hm
  refine ⟨h1.of (fun m hm => n m (by omega)), h2.of (fun m _ _ => n m (by omega)) (by rw [q 2 (by decide)]), h3.of (fun m _ _ => o m (by omega)) (q 0 (by decide)), h4.of (fun m _ _ => o m (by omega)) (q 1 (by decide)), h5.of (o 0 (by decide)) (o 1 (by decide)) (o 3 (by decide)) (o 4 (by decide)) (q 3 (by decide)) (q 5 (by decide)) (q 6 (by decide)), h6.of (o 2 (by decide)) (n 4 (by decide)) (q 4 (by decide)), h7.send hk hc hf ek ec ef wo a b e, h8.of (n 8 (by decide)) (n 5 (by decide)) (fun m _ _ => o m (by omega)) (fun f _ => by rw [snd_w]), h9.send h7.ok a b e hw⟩
end CO
