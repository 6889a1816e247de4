/-- the first k clients -/
def clD (E : gE) (B : dC) (q4 : Nat) (m m6 : Nat → Nat) (m7 : Nat → Nat → Nat) (nc nf : Nat) (te : Int32) (k : Nat) : dC := fun x => if x = (4, 0, 0) then some (q4, .inl (E.2.2.1 3, nc, .inr (.inr (.inr (.inr (fun i => if i < k then some (m i) else none)))))) else if x.1 = 5 ∧ x.2.1 < k ∧ x.2.2 = 0 then some (m x.2.1, .inr (2, clL (nI x.2.1) te (m6 x.2.1) (fun _ => 0))) else if x.1 = 6 ∧ x.2.1 < k ∧ x.2.2 = 0 then some (m6 x.2.1, .inl (E.2.2.1 4, nf, .inr (.inr (.inr (.inr (fun i => if i < nf then some (m7 x.2.1 i) else none)))))) else if x.1 = 7 ∧ x.2.1 < k ∧ x.2.2 < nf then some (m7 x.2.1 x.2.2, .inr (3, yL (fun _ => 0))) else B x
theorem clD_s (E : gE) (B : dC) (q4 : Nat) (m m6 : Nat → Nat) (m7 : Nat → Nat → Nat) (nc nf : Nat) (te : Int32) (k q q6 : Nat) (mm : Nat → Nat) {e1 : va_E} : dU (ciD E (dU (clD E B q4 m m6 m7 nc nf te k) (5, k, 0) (q, e1)) k q q6 mm nf te nf) (4, 0, 0) (q4, .inl (E.2.2.1 3, nc, .inr (.inr (.inr (.inr (va_up (fun i => if i < k then some (m i) else none) k (some q))))))) = clD E B q4 (mU m k q) (mU m6 k q6) (fun c => if c = k then mm else m7 c) nc nf te (k + 1) := by
  funext x
  by_cases h4 : x = (4, 0, 0)
  · subst h4
    rw [dU_s, row_s]
    rfl
  · rw [dU_o _ _ h4]
    by_cases hk : x.2.1 = k
    · obtain ⟨a, b, c⟩ := x
      have hk : b = k := hk
      subst hk
      by_cases h5 : a = 5 ∧ c = 0
      · obtain ⟨rfl, rfl⟩ := h5
        simp [ciD, clD, mU]
      · by_cases h6 : a = 6 ∧ c = 0
        · obtain ⟨rfl, rfl⟩ := h6
          simp [ciD, clD, mU]
        · by_cases h7 : a = 7 ∧ c < nf
          · obtain ⟨rfl, h7⟩ := h7
            simp [ciD, clD, mU, h7]
          · have n5 : ¬ (a, b, c) = (5, b, 0) := fun z => h5 ⟨congrArg Prod.fst z, congrArg (fun x : nmC => x.2.2) z⟩
            have n6 : ¬ (a, b, c) = (6, b, 0) := fun z => h6 ⟨congrArg Prod.fst z, congrArg (fun x : nmC => x.2.2) z⟩
            unfold ciD
            rw [if_neg n5, if_neg n6, if_neg (fun z => h7 ⟨z.1, z.2.2⟩), dU_o _ _ n5]
            unfold clD
            rw [if_neg h4, if_neg h4]
            rw [if_neg (fun z => h5 ⟨z.1, z.2.2⟩), if_neg (fun z => h6 ⟨z.1, z.2.2⟩), if_neg (fun z => h7 ⟨z.1, z.2.2⟩), if_neg (fun z => h5 ⟨z.1, z.2.2⟩), if_neg (fun z => h6 ⟨z.1, z.2.2⟩), if_neg (fun z => h7 ⟨z.1, z.2.2⟩)]
    · have n5 : ¬ x = (5, k, 0) := fun z => hk (congrArg (fun x : nmC => x.2.1) z)
      have n6 : ¬ x = (6, k, 0) := fun z => hk (congrArg (fun x : nmC => x.2.1) z)
      unfold ciD
      rw [if_neg n5, if_neg n6, if_neg (fun z => hk z.2.1), dU_o _ _ n5]
      have e5 : x.2.1 < k + 1 ↔ x.2.1 < k := by omega
      unfold clD
      simp only [e5, mU, if_neg hk]
      rw [if_neg h4, if_neg h4]

/-- all but the clients -/
def baD (E : gE) (D : dC) (a q1 q2 : Nat) (mm : Nat → Nat) (q8 q9 q12 q13 : Nat) (n n1 n2 : Nat → Nat) (q4 nc nf : Nat) (te : Int32) : dC := dU (svD E (dU (dU (plD E (dU D (1, 0, 0) (q1, .inr (5, [.null, .int 0, .null]))) q1 q2 mm 64) (0, 0, 0) (a, .inr (1, [.ref q1, .null, .null, .int (nI nf)]))) (8, 0, 0) (q8, .inr (7, [.int 0, .null, .null, .null, .int 0, .int 0, .int 0, .int 0]))) q8 q9 q12 q13 n n1 n2 nc nf te nf) (0, 0, 0) (a, .inr (1, [.ref q1, .ref q8, .ref q4, .int (nI nf)]))
def tI : tC := (fun k _ j => if k = 2 ∧ j = 1 then 1 else 0, fun _ => [], 0)
theorem row_eq {n : Nat} {u v : Nat → Nat} (h : ∀ i, i < n → u i = v i) : (fun i => if i < n then some (v i) else none) = fun i => if i < n then some (u i) else none := by
  funext i
  by_cases hi : i < n
  · rw [if_pos hi, if_pos hi, h i hi]
  · rw [if_neg hi, if_neg hi]
def lyI (D : dC) : lyC := (fun x => ((D x).map Prod.fst).getD 0, fun _ => 0, fun _ => 0)
theorem lyI_e {D : dC} {x : nmC} {q : Nat} {e : va_E} (h : D x = some (q, e)) : (lyI D).1 x = q := by
  show ((D x).map Prod.fst).getD 0 = q
  rw [h]
  rfl

set_option maxHeartbeats 4000000 in
set_option maxRecDepth 100000 in
theorem SysC.ini {E : gE} {D : dC} {w : wd} {a q1 q2 q8 q9 q12 q13 q4 nc nf : Nat} {mm n n1 n2 m m6 : Nat → Nat} {m7 : Nat → Nat → Nat} {te te2 : Int32} (hc : 1 ≤ nc ∧ nc ≤ 4 ∧ 1 ≤ nf ∧ nf ≤ 4) (h : SX (clD E (baD E D a q1 q2 mm q8 q9 q12 q13 n n1 n2 q4 nc nf te) q4 m m6 m7 nc nf te2 nc) w) : ∃ L : lyC, L.1 (0, 0, 0) = a ∧ SysC E (nc, nf, te, te2) L tI w := by
  generalize hG : clD E (baD E D a q1 q2 mm q8 q9 q12 q13 n n1 n2 q4 nc nf te) q4 m m6 m7 nc nf te2 nc = G at h
  have G0 : G (0, 0, 0) = some (a, .inr (1, [.ref q1, .ref q8, .ref q4, .int (nI nf)])) := by rw [← hG]; simp [clD, baD, dU]
  have G1 : G (1, 0, 0) = some (q1, .inr (5, [.ref q2, .int 0, .ref (mm 64)])) := by rw [← hG]; simp [clD, baD, dU, svD, plD]
  have G2 : G (2, 0, 0) = some (q2, .inl (E.2.2.1 2, 64, .inr (.inr (.inr (.inr (fun i => if i < 64 then some (mm i) else none)))))) := by rw [← hG]; simp [clD, baD, dU, svD, plD]
  have G3 : ∀ i, i ≤ 64 → G (3, i, 0) = some (mm i, .inr (4, mL (fun _ => 0))) := by
    intro i hi
    have : i < 64 ∨ i = 64 := by omega
    rw [← hG]
    simp [clD, baD, dU, svD, plD, this]
  have G4 : G (4, 0, 0) = some (q4, .inl (E.2.2.1 3, nc, .inr (.inr (.inr (.inr (fun i => if i < nc then some (m i) else none)))))) := by rw [← hG]; simp [clD]
  have G5 : ∀ i, i < nc → G (5, i, 0) = some (m i, .inr (2, clL (nI i) te2 (m6 i) (fun _ => 0))) := by
    intro i hi
    rw [← hG]
    simp [clD, hi]
  have G6 : ∀ i, i < nc → G (6, i, 0) = some (m6 i, .inl (E.2.2.1 4, nf, .inr (.inr (.inr (.inr (fun j => if j < nf then some (m7 i j) else none)))))) := by
    intro i hi
    rw [← hG]
    simp [clD, hi]
  have G7 : ∀ i j, i < nc → j < nf → G (7, i, j) = some (m7 i j, .inr (3, yL (fun _ => 0))) := by
    intro i j hi hj
    rw [← hG]
    simp [clD, hi, hj]
  have G8 : G (8, 0, 0) = some (q8, .inr (7, svL te q9 q12 q13 (fun j => if j = 1 then 1 else 0))) := by rw [← hG]; simp [clD, baD, dU, svD]
  have G9 : G (9, 0, 0) = some (q9, .inl (E.2.2.1 5, nf, .inr (.inr (.inr (.inr (fun i => if i < nf then some (n i) else none)))))) := by rw [← hG]; simp [clD, baD, dU, svD]
  have G10 : ∀ i, i < nf → G (10, i, 0) = some (n i, .inr (6, flL (n1 i) (n2 i) (fun _ => 0))) := by
    intro i hi
    rw [← hG]
    simp [clD, baD, dU, svD, hi]
  have G11 : ∀ i, i < nf → G (11, i, 0) = some (n1 i, .inl (E.2.2.1 0, nc, .inl (fun _ => 0))) := by
    intro i hi
    rw [← hG]
    simp [clD, baD, dU, svD, hi]
  have G12 : G (12, 0, 0) = some (q12, .inl (E.2.2.1 0, nc, .inl (fun _ => 0))) := by rw [← hG]; simp [clD, baD, dU, svD]
  have G13 : G (13, 0, 0) = some (q13, .inl (E.2.2.1 0, nc, .inl (fun _ => 0))) := by rw [← hG]; simp [clD, baD, dU, svD]
  have G14 : ∀ i, i < nf → G (14, i, 0) = some (n2 i, .inr (9, [.ref (E.2.2.2 0), .int 0, .int 0])) := by
    intro i hi
    rw [← hG]
    simp [clD, baD, dU, svD, hi]
  clear hG
  have key : ∀ x, vaC (nc, nf, te, te2) (lyI G) tI x → ∃ q, G x = some (q, ceC E (nc, nf, te, te2) (lyI G) tI x) := by
    intro x hx
    obtain ⟨i, b, c⟩ := x
    match i, hx with
    | 0, hx =>
      have z : b = 0 ∧ c = 0 ∧ 0 < 17 := hx
      obtain ⟨rfl, rfl, -⟩ := z
      refine ⟨a, G0.trans ?_⟩
      show _ = some (a, Sum.inr (1, [Value.ref ((lyI G).1 (1, 0, 0)), Value.ref ((lyI G).1 (8, 0, 0)), Value.ref ((lyI G).1 (4, 0, 0)), Value.int (nI nf)]))
      rw [lyI_e G1, lyI_e G8, lyI_e G4]
    | 1, hx =>
      have z : b = 0 ∧ c = 0 ∧ 1 < 17 := hx
      obtain ⟨rfl, rfl, -⟩ := z
      refine ⟨q1, G1.trans ?_⟩
      show _ = some (q1, Sum.inr (5, [Value.ref ((lyI G).1 (2, 0, 0)), Value.int 0, Value.ref ((lyI G).1 (3, 64, 0))]))
      rw [lyI_e G2, lyI_e (G3 64 (Nat.le_refl _))]
    | 2, hx =>
      have z : b = 0 ∧ c = 0 ∧ 2 < 17 := hx
      obtain ⟨rfl, rfl, -⟩ := z
      refine ⟨q2, G2.trans ?_⟩
      exact congrArg (fun r => some (q2, (Sum.inl (E.2.2.1 2, 64, Sum.inr (Sum.inr (Sum.inr (Sum.inr r)))) : va_E))) (row_eq (u := fun i => (lyI G).1 (3, i, 0)) (v := mm) (fun i hi => lyI_e (G3 i (by omega))))
    | 3, hx =>
      have z : b ≤ 64 ∧ c = 0 := hx
      obtain ⟨z1, rfl⟩ := z
      exact ⟨mm b, G3 b z1⟩
    | 4, hx =>
      have z : b = 0 ∧ c = 0 ∧ 4 < 17 := hx
      obtain ⟨rfl, rfl, -⟩ := z
      refine ⟨q4, G4.trans ?_⟩
      exact congrArg (fun r => some (q4, (Sum.inl (E.2.2.1 3, nc, Sum.inr (Sum.inr (Sum.inr (Sum.inr r)))) : va_E))) (row_eq (u := fun i => (lyI G).1 (5, i, 0)) (v := m) (fun i hi => lyI_e (G5 i hi)))
    | 5, hx =>
      have z : b < nc ∧ c = 0 := hx
      obtain ⟨z1, rfl⟩ := z
      refine ⟨m b, (G5 b z1).trans ?_⟩
      show _ = some (m b, Sum.inr (2, clL (nI b) te2 ((lyI G).1 (6, b, 0)) (tI.1 0 b)))
      rw [lyI_e (G6 b z1)]
      rfl
    | 6, hx =>
      have z : b < nc ∧ c = 0 := hx
      obtain ⟨z1, rfl⟩ := z
      refine ⟨m6 b, (G6 b z1).trans ?_⟩
      exact congrArg (fun r => some (m6 b, (Sum.inl (E.2.2.1 4, nf, Sum.inr (Sum.inr (Sum.inr (Sum.inr r)))) : va_E))) (row_eq (u := fun i => (lyI G).1 (7, b, i)) (v := m7 b) (fun i hi => lyI_e (G7 b i z1 hi)))
    | 7, hx =>
      have z : b < nc ∧ c < nf := hx
      exact ⟨m7 b c, G7 b c z.1 z.2⟩
    | 8, hx =>
      have z : b = 0 ∧ c = 0 ∧ 8 < 17 := hx
      obtain ⟨rfl, rfl, -⟩ := z
      refine ⟨q8, G8.trans ?_⟩
      show _ = some (q8, Sum.inr (7, svL te ((lyI G).1 (9, 0, 0)) ((lyI G).1 (12, 0, 0)) ((lyI G).1 (13, 0, 0)) (tI.1 2 0)))
      rw [lyI_e G9, lyI_e G12, lyI_e G13]
      rfl
    | 9, hx =>
      have z : b = 0 ∧ c = 0 ∧ 9 < 17 := hx
      obtain ⟨rfl, rfl, -⟩ := z
      refine ⟨q9, G9.trans ?_⟩
      exact congrArg (fun r => some (q9, (Sum.inl (E.2.2.1 5, nf, Sum.inr (Sum.inr (Sum.inr (Sum.inr r)))) : va_E))) (row_eq (u := fun i => (lyI G).1 (10, i, 0)) (v := n) (fun i hi => lyI_e (G10 i hi)))
    | 10, hx =>
      have z : b < nf ∧ c = 0 := hx
      obtain ⟨z1, rfl⟩ := z
      refine ⟨n b, (G10 b z1).trans ?_⟩
      show _ = some (n b, Sum.inr (6, flL ((lyI G).1 (11, b, 0)) ((lyI G).1 (14, b, 0)) (tI.1 3 b)))
      rw [lyI_e (G11 b z1), lyI_e (G14 b z1)]
      rfl
    | 11, hx =>
      have z : b < nf ∧ c = 0 := hx
      obtain ⟨z1, rfl⟩ := z
      exact ⟨n1 b, G11 b z1⟩
    | 12, hx =>
      have z : b = 0 ∧ c = 0 ∧ 12 < 17 := hx
      obtain ⟨rfl, rfl, -⟩ := z
      exact ⟨q12, G12⟩
    | 13, hx =>
      have z : b = 0 ∧ c = 0 ∧ 13 < 17 := hx
      obtain ⟨rfl, rfl, -⟩ := z
      exact ⟨q13, G13⟩
    | 14, hx =>
      have z : b < nf ∧ c = 0 := hx
      obtain ⟨z1, rfl⟩ := z
      exact ⟨n2 b, G14 b z1⟩
    | 15, hx =>
      have z : b < nf ∧ c = 0 ∧ 0 < 0 := hx
      exact absurd z.2.2 (Nat.lt_irrefl 0)
    | 16, hx =>
      have z : (b < nf ∨ b = 4) ∧ c < 0 := hx
      exact absurd z.2 (Nat.not_lt_zero _)
    | i + 17, hx =>
      have z : b = 0 ∧ c = 0 ∧ i + 17 < 17 := hx
      omega
  have key2 : ∀ x, vaC (nc, nf, te, te2) (lyI G) tI x → G x = some ((lyI G).1 x, ceC E (nc, nf, te, te2) (lyI G) tI x) := by
    intro x hx
    obtain ⟨q, hq⟩ := key x hx
    rw [lyI_e hq]
    exact hq
  exact ⟨lyI G, lyI_e G0, fun x hx => h.1 _ _ _ (key2 x hx), fun x y hx hy hxy => h.2 x y _ _ _ (key2 x hx) (by rw [hxy]; exact key2 y hy), hc, Nat.zero_le _, fun f _ => ⟨Nat.le_refl _, Nat.zero_le _⟩⟩
