/-- a new row for a list -/
def gwL (L : lyC) (f q c : Nat) : lyC := (fun x => if x = (15, f, 0) then q else L.1 x, L.2.1, fun g => if g = f then c else L.2.2 g)
theorem gw15 (L : lyC) (f q c : Nat) : (gwL L f q c).1 (15, f, 0) = q := if_pos rfl
theorem gwo (L : lyC) (f q c : Nat) {x : nmC} (h : x ≠ (15, f, 0)) : (gwL L f q c).1 x = L.1 x := if_neg h
theorem gwc (L : lyC) (f q c : Nat) : (gwL L f q c).2.2 f = c := if_pos rfl
theorem SysC.gw {E : gE} {K : kC} {L : lyC} {t : tC} {w w' : wd} (hs : SysC E K L t w) {f : Nat} (hf : f < K.2.1) {q c : Nat} (hq : q ∉ w.1) (hc : (t.2.1 f).length < c) (hc2 : c ≤ 1000) (ho : ∀ (b : Nat) (e : va_E), wh w b e → b ≠ L.1 (14, f, 0) → wh w' b e) (h14 : wh w' (L.1 (14, f, 0)) (.inr (9, [.ref q, .int (nI (t.2.1 f).length), .int (L.2.1 f)]))) (h15 : wh w' q (.inl (E.2.2.1 6, c, .inr (.inr (.inr (.inr (fun i => if i < (t.2.1 f).length then some (L.1 (16, f, i)) else none))))))) : SysC E K (gwL L f q c) t w' := by
  have hK := hs.nc
  have v14 : vaC K L t (14, f, 0) := show vaC K L t (14, f, 0) from ⟨hf, rfl⟩
  have n16 : ∀ g j, ((16, g, j) : nmC) ≠ (15, f, 0) := fun g j z => by cases z
  have hown : ∀ g j, vaC K L t (16, g, j) → wh w' (L.1 (16, g, j)) (ceC E K L t (16, g, j)) := fun g j v => ho _ _ (hs.1 _ v) (fun z => by cases hs.2.1 _ _ v v14 z)
  have hL : ∀ x : nmC, x.1 < 15 → (gwL L f q c).1 x = L.1 x := fun x hx => gwo L f q c (fun z => by rw [z] at hx; exact absurd hx (show ¬ 15 < 15 by decide))
  refine hs.fr (15, f, 0) hq (fun x hx hne => ?_) (fun x hx => gwo L f q c hx) (gw15 L f q c) (hs.lists hf hL (fun g hg => ⟨gwo L f q c (fun z => hg (congrArg (fun x : nmC => x.2.1) z)), rfl, if_neg hg⟩) (fun g j _ _ => gwo L f q c (n16 g j)) rfl rfl (fun _ _ _ => rfl) (fun b e hb h1 _ => ho b e hb h1) ?_ ?_ ?_ ?_) hs.pn (fun g hg => ?_)
  · by_cases hk : x.1 < 14
    · exact (ceC_nl E K (t := t) (t' := t) hL rfl rfl x hk).1 hx
    · obtain ⟨a, b, d⟩ := x
      match a, hk, hx with
      | 0, hk, _ => exact absurd (show 0 < 14 by decide) hk
      | 1, hk, _ => exact absurd (show 1 < 14 by decide) hk
      | 2, hk, _ => exact absurd (show 2 < 14 by decide) hk
      | 3, hk, _ => exact absurd (show 3 < 14 by decide) hk
      | 4, hk, _ => exact absurd (show 4 < 14 by decide) hk
      | 5, hk, _ => exact absurd (show 5 < 14 by decide) hk
      | 6, hk, _ => exact absurd (show 6 < 14 by decide) hk
      | 7, hk, _ => exact absurd (show 7 < 14 by decide) hk
      | 8, hk, _ => exact absurd (show 8 < 14 by decide) hk
      | 9, hk, _ => exact absurd (show 9 < 14 by decide) hk
      | 10, hk, _ => exact absurd (show 10 < 14 by decide) hk
      | 11, hk, _ => exact absurd (show 11 < 14 by decide) hk
      | 12, hk, _ => exact absurd (show 12 < 14 by decide) hk
      | 13, hk, _ => exact absurd (show 13 < 14 by decide) hk
      | 14, _, hx => exact hx
      | 15, _, hx =>
        have z : b < K.2.1 ∧ d = 0 ∧ 0 < (gwL L f q c).2.2 b := hx
        obtain ⟨z1, rfl, z3⟩ := z
        have hb : b ≠ f := fun z => hne (by rw [z])
        rw [show (gwL L f q c).2.2 b = L.2.2 b from if_neg hb] at z3
        exact show vaC K L t (15, b, 0) from ⟨z1, rfl, z3⟩
      | 16, _, hx => exact hx
      | a + 17, _, hx =>
        have z : b = 0 ∧ d = 0 ∧ a + 17 < 17 := hx
        omega
  · show wh w' (L.1 (14, f, 0)) (.inr (9, [.ref (elC E (gwL L f q c) f), .int (nI (t.2.1 f).length), .int (L.2.1 f)]))
    have e : elC E (gwL L f q c) f = q := by
      unfold elC
      rw [gwc, gw15, if_neg (by omega)]
    rw [e]
    exact h14
  · intro _
    rw [gw15]
    show wh w' q (.inl (E.2.2.1 6, (gwL L f q c).2.2 f, .inr (.inr (.inr (.inr (fun i => if i < (t.2.1 f).length then some ((gwL L f q c).1 (16, f, i)) else none))))))
    rw [gwc, funext (fun i => by rw [gwo L f q c (n16 f i)] : ∀ i, (if i < (t.2.1 f).length then some ((gwL L f q c).1 (16, f, i)) else none) = if i < (t.2.1 f).length then some (L.1 (16, f, i)) else none)]
    exact h15
  · intro j hj
    rw [gwo L f q c (n16 f j)]
    exact hown f j (show vaC K L t (16, f, j) from ⟨Or.inl hf, hj⟩)
  · intro j hj
    rw [gwo L f q c (n16 4 j)]
    exact hown 4 j (show vaC K L t (16, 4, j) from ⟨Or.inr rfl, hj⟩)
  · by_cases hgf : g = f
    · subst hgf
      rw [gwc]
      exact ⟨by omega, hc2⟩
    · rw [show (gwL L f q c).2.2 g = L.2.2 g from if_neg hgf]
      exact hs.2.2.2.2 g hg
/-- a list's count of changes -/
def moL (L : lyC) (f : Nat) : lyC := (L.1, upd L.2.1 f (L.2.1 f + 1), L.2.2)
theorem SysC.mo {E : gE} {K : kC} {L : lyC} {t : tC} {w w' : wd} (hs : SysC E K L t w) {f : Nat} (hf : f < K.2.1) (ho : ∀ (b : Nat) (e : va_E), wh w b e → b ≠ L.1 (14, f, 0) → wh w' b e) (h14 : wh w' (L.1 (14, f, 0)) (.inr (9, [.ref (elC E L f), .int (nI (t.2.1 f).length), .int (L.2.1 f + 1)]))) : SysC E K (moL L f) t w' := by
  have v14 : vaC K L t (14, f, 0) := show vaC K L t (14, f, 0) from ⟨hf, rfl⟩
  have hown : ∀ x, vaC K L t x → x ≠ (14, f, 0) → wh w' (L.1 x) (ceC E K L t x) := fun x v n => ho _ _ (hs.1 _ v) (fun z => n (hs.2.1 _ _ v v14 z))
  refine hs.ren id (fun x hx => hx) (fun _ _ _ _ h => h) (fun _ _ => rfl) (hs.lists hf (fun _ _ => rfl) (fun g hg => ⟨rfl, if_neg hg, rfl⟩) (fun _ _ _ _ => rfl) rfl rfl (fun _ _ _ => rfl) (fun b e hb h1 _ => ho b e hb h1) ?_ ?_ ?_ ?_) hs.pn hs.2.2.2.2
  · show wh w' (L.1 (14, f, 0)) (.inr (9, [.ref (elC E L f), .int (nI (t.2.1 f).length), .int ((moL L f).2.1 f)]))
    rw [show (moL L f).2.1 f = L.2.1 f + 1 from if_pos rfl]
    exact h14
  · exact fun hc => hown (15, f, 0) (show vaC K L t (15, f, 0) from ⟨hf, rfl, hc⟩) (fun z => by cases z)
  · exact fun j hj => hown (16, f, j) (show vaC K L t (16, f, j) from ⟨Or.inl hf, hj⟩) (fun z => by cases z)
  · exact fun j hj => hown (16, 4, j) (show vaC K L t (16, 4, j) from ⟨Or.inr rfl, hj⟩) (fun z => by cases z)
/-- what is in the hand comes to the end of a list -/
def adR (f n : Nat) (x : nmC) : nmC := if x = (16, f, n) then (16, 4, 0) else x
def adL (L : lyC) (f n : Nat) : lyC := (fun x => L.1 (adR f n x), L.2)
def adC (t : tC) (f : Nat) : tC := (t.1, fun g => if g = 4 then [] else if g = f then t.2.1 f ++ [(t.2.1 4).getD 0 (0, 0, 0)] else t.2.1 g, t.2.2)
theorem SysC.ad {E : gE} {K : kC} {L : lyC} {t : tC} {w w' : wd} (hs : SysC E K L t w) {f : Nat} (hf : f < K.2.1) {n : Nat} (hn : (t.2.1 f).length = n) (hnc : n < L.2.2 f) (h4 : (t.2.1 4).length = 1) (ho : ∀ (b : Nat) (e : va_E), wh w b e → b ≠ L.1 (14, f, 0) → (0 < L.2.2 f → b ≠ L.1 (15, f, 0)) → wh w' b e) (h14 : wh w' (L.1 (14, f, 0)) (.inr (9, [.ref (elC E L f), .int (nI (n + 1)), .int (L.2.1 f)]))) (h15 : wh w' (L.1 (15, f, 0)) (.inl (E.2.2.1 6, L.2.2 f, .inr (.inr (.inr (.inr (va_up (fun i => if i < (t.2.1 f).length then some (L.1 (16, f, i)) else none) n (some (L.1 (16, 4, 0)))))))))) : SysC E K (adL L f n) (adC t f) w' := by
  have hK := hs.nc
  have h5 := hs.2.2.2.2 f hf
  have v14 : vaC K L t (14, f, 0) := show vaC K L t (14, f, 0) from ⟨hf, rfl⟩
  have v15 : vaC K L t (15, f, 0) := show vaC K L t (15, f, 0) from ⟨hf, rfl, show 0 < L.2.2 f by omega⟩
  have v4 : vaC K L t (16, 4, 0) := show vaC K L t (16, 4, 0) from ⟨Or.inr rfl, by rw [h4]; decide⟩
  have e4 : (adC t f).2.1 4 = [] := rfl
  have ef : (adC t f).2.1 f = t.2.1 f ++ [(t.2.1 4).getD 0 (0, 0, 0)] := (if_neg (by omega)).trans (if_pos rfl)
  have eo : ∀ g, g ≠ f → g ≠ 4 → (adC t f).2.1 g = t.2.1 g := fun g h1 h2 => (if_neg h2).trans (if_neg h1)
  have hlf : ((adC t f).2.1 f).length = n + 1 := by
    rw [ef, List.length_append, hn]
    rfl
  have rn : adR f n (16, f, n) = (16, 4, 0) := if_pos rfl
  have ro : ∀ x : nmC, x ≠ (16, f, n) → adR f n x = x := fun x hx => if_neg hx
  have rl : ∀ x : nmC, x.1 < 16 → adR f n x = x := fun x hx => ro x (fun z => by rw [z] at hx; exact absurd hx (show ¬ 16 < 16 by decide))
  have hL : ∀ x : nmC, x.1 < 15 → (adL L f n).1 x = L.1 x := fun x hx => congrArg L.1 (rl x (by omega))
  have hown : ∀ g j, vaC K L t (16, g, j) → wh w' (L.1 (16, g, j)) (ceC E K L t (16, g, j)) := fun g j v => ho _ _ (hs.1 _ v) (fun z => by cases hs.2.1 _ _ v v14 z) (fun _ z => by cases hs.2.1 _ _ v v15 z)
  have shape : ∀ x, vaC K (adL L f n) (adC t f) x → vaC K L t (adR f n x) ∧ x ≠ (16, 4, 0) := by
    intro x hx
    by_cases hk : x.1 < 14
    · rw [rl x (by omega)]
      exact ⟨(ceC_nl E K (t := t) (t' := adC t f) hL rfl rfl x hk).1 hx, fun z => by rw [z] at hk; exact absurd hk (show ¬ 16 < 14 by decide)⟩
    · obtain ⟨a, b, c⟩ := x
      match a, hk, hx with
      | 0, hk, _ => exact absurd (show 0 < 14 by decide) hk
      | 1, hk, _ => exact absurd (show 1 < 14 by decide) hk
      | 2, hk, _ => exact absurd (show 2 < 14 by decide) hk
      | 3, hk, _ => exact absurd (show 3 < 14 by decide) hk
      | 4, hk, _ => exact absurd (show 4 < 14 by decide) hk
      | 5, hk, _ => exact absurd (show 5 < 14 by decide) hk
      | 6, hk, _ => exact absurd (show 6 < 14 by decide) hk
      | 7, hk, _ => exact absurd (show 7 < 14 by decide) hk
      | 8, hk, _ => exact absurd (show 8 < 14 by decide) hk
      | 9, hk, _ => exact absurd (show 9 < 14 by decide) hk
      | 10, hk, _ => exact absurd (show 10 < 14 by decide) hk
      | 11, hk, _ => exact absurd (show 11 < 14 by decide) hk
      | 12, hk, _ => exact absurd (show 12 < 14 by decide) hk
      | 13, hk, _ => exact absurd (show 13 < 14 by decide) hk
      | 14, _, hx =>
        rw [rl _ (show 14 < 16 by decide)]
        exact ⟨hx, fun z => by cases z⟩
      | 15, _, hx =>
        rw [rl _ (show 15 < 16 by decide)]
        exact ⟨hx, fun z => by cases z⟩
      | 16, _, hx =>
        have q : (b < K.2.1 ∨ b = 4) ∧ c < ((adC t f).2.1 b).length := hx
        by_cases hb4 : b = 4
        · subst hb4
          rw [e4] at q
          exact absurd q.2 (by simp)
        · refine ⟨?_, fun z => hb4 (congrArg (fun x : nmC => x.2.1) z)⟩
          by_cases hb : b = f
          · subst hb
            rw [hlf] at q
            by_cases hc : c = n
            · rw [hc, rn]
              exact v4
            · rw [ro _ (fun z => hc (congrArg (fun x : nmC => x.2.2) z))]
              have hlt : c < (t.2.1 b).length := by omega
              exact show vaC K L t (16, b, c) from ⟨Or.inl hf, hlt⟩
          · rw [eo b hb hb4] at q
            rw [ro _ (fun z => hb (congrArg (fun x : nmC => x.2.1) z))]
            exact q
      | a + 17, _, hx =>
        have q : b = 0 ∧ c = 0 ∧ a + 17 < 17 := hx
        omega
  refine hs.ren (adR f n) (fun x hx => (shape x hx).1) ?_ (fun _ _ => rfl) (hs.lists hf hL (fun g hg => ⟨congrArg L.1 (rl _ (show 15 < 16 by decide)), rfl, rfl⟩) (fun g j h1 _ => congrArg L.1 (ro _ (fun z => h1 (congrArg (fun x : nmC => x.2.1) z)))) rfl rfl eo ho ?_ ?_ ?_ (fun j hj => by rw [e4] at hj; exact absurd hj (by simp))) hs.pn (fun g hg => ?_)
  · intro x y hx hy hxy
    by_cases h1 : x = (16, f, n)
    · by_cases h2 : y = (16, f, n)
      · rw [h1, h2]
      · rw [h1, rn, ro y h2] at hxy
        exact absurd hxy.symm (shape y hy).2
    · by_cases h2 : y = (16, f, n)
      · rw [h2, rn, ro x h1] at hxy
        exact absurd hxy (shape x hx).2
      · rw [ro x h1, ro y h2] at hxy
        exact hxy
  · show wh w' (L.1 (14, f, 0)) (.inr (9, [.ref (elC E (adL L f n) f), .int (nI ((adC t f).2.1 f).length), .int (L.2.1 f)]))
    have q1 : elC E (adL L f n) f = elC E L f := by
      unfold elC
      rw [show (adL L f n).1 (15, f, 0) = L.1 (15, f, 0) from congrArg L.1 (rl _ (show 15 < 16 by decide))]
      rfl
    rw [hlf, q1]
    exact h14
  · intro _
    rw [show (adL L f n).1 (15, f, 0) = L.1 (15, f, 0) from congrArg L.1 (rl _ (show 15 < 16 by decide))]
    show wh w' (L.1 (15, f, 0)) (.inl (E.2.2.1 6, L.2.2 f, .inr (.inr (.inr (.inr (fun i => if i < ((adC t f).2.1 f).length then some (L.1 (adR f n (16, f, i))) else none))))))
    have e : (fun i => if i < ((adC t f).2.1 f).length then some (L.1 (adR f n (16, f, i))) else none) = va_up (fun i => if i < (t.2.1 f).length then some (L.1 (16, f, i)) else none) n (some (L.1 (16, 4, 0))) := by
      funext i
      rw [hlf]
      by_cases hi : i = n
      · rw [hi, va_up_self, if_pos (by omega), rn]
      · rw [va_up_ne _ _ hi, ro _ (fun z => hi (congrArg (fun x : nmC => x.2.2) z)), hn]
        by_cases hin : i < n
        · rw [if_pos hin, if_pos (by omega)]
        · rw [if_neg hin, if_neg (by omega)]
    rw [e]
    exact h15
  · intro j hj
    rw [hlf] at hj
    by_cases hjn : j = n
    · have e : ceC E K (adL L f n) (adC t f) (16, f, j) = ceC E K L t (16, 4, 0) := by
        show Sum.inr (8, wL (((adC t f).2.1 f).getD j (0, 0, 0))) = Sum.inr (8, wL ((t.2.1 4).getD 0 (0, 0, 0)))
        rw [ef, hjn, ← hn]
        simp [List.getD]
      rw [e, hjn, show (adL L f n).1 (16, f, n) = L.1 (16, 4, 0) from congrArg L.1 rn]
      exact hown 4 0 v4
    · have hlt : j < (t.2.1 f).length := by omega
      have e : ceC E K (adL L f n) (adC t f) (16, f, j) = ceC E K L t (16, f, j) := by
        show Sum.inr (8, wL (((adC t f).2.1 f).getD j (0, 0, 0))) = Sum.inr (8, wL ((t.2.1 f).getD j (0, 0, 0)))
        rw [ef]
        simp [List.getD, List.getElem?_append_left hlt]
      rw [e, show (adL L f n).1 (16, f, j) = L.1 (16, f, j) from congrArg L.1 (ro _ (fun z => hjn (congrArg (fun x : nmC => x.2.2) z)))]
      exact hown f j (show vaC K L t (16, f, j) from ⟨Or.inl hf, hlt⟩)
  · by_cases hgf : g = f
    · subst hgf
      rw [hlf]
      exact ⟨hnc, h5.2⟩
    · rw [eo g hgf (by omega)]
      exact hs.2.2.2.2 g hg
