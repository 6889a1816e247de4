/-! the reference's list -/
theorem flt_nil (f : Nat) : flt f [] = [] := rfl
theorem flt_app (f : Nat) (l l' : List (Int32 × Int32 × Int32 × Int32)) : flt f (l ++ l') = flt f l ++ flt f l' := List.filterMap_append
theorem flt_yes {f : Nat} {e : Int32 × Int32 × Int32 × Int32} (h : e.1 = nI f) (l : List (Int32 × Int32 × Int32 × Int32)) : flt f (e :: l) = e.2 :: flt f l := by
  unfold flt
  rw [List.filterMap_cons, if_pos h]
theorem flt_no {f : Nat} {e : Int32 × Int32 × Int32 × Int32} (h : ¬ e.1 = nI f) (l : List (Int32 × Int32 × Int32 × Int32)) : flt f (e :: l) = flt f l := by
  unfold flt
  rw [List.filterMap_cons, if_neg h]
/-- the first n entries -/
def lsN (r : tR) (n : Nat) : List (Int32 × Int32 × Int32 × Int32) := (List.range n).map (enR r)
theorem lsN_s (r : tR) (n : Nat) : lsN r (n + 1) = lsN r n ++ [enR r n] := by
  unfold lsN
  rw [List.range_succ, List.map_append]
  rfl
theorem lsN_len (r : tR) (n : Nat) : (lsN r n).length = n := by
  unfold lsN
  rw [List.length_map, List.length_range]
theorem lsR_N (r : tR) : lsR r = lsN r (wN r) := rfl
/-- firstOf: the smallest place with that file, or what came before -/
theorem foL_spec (r : tR) (f : Nat) : ∀ (n : Nat) (a : Int32), (flt f (lsN r n) = [] ∧ foL (r.2 6) (nI f) n a = a ∧ ∀ k, k < n → ¬ r.2 6 k = nI f) ∨ ∃ k, k < n ∧ r.2 6 k = nI f ∧ (∀ j, j < k → ¬ r.2 6 j = nI f) ∧ foL (r.2 6) (nI f) n a = nI k := by
  intro n
  induction n with
  | zero => exact fun a => Or.inl ⟨rfl, rfl, fun k hk => absurd hk (Nat.not_lt_zero _)⟩
  | succ n ih =>
    intro a
    rw [foL]
    rcases ih (if r.2 6 n = nI f then nI n else a) with ⟨h1, h2, h3⟩ | ⟨k, hk, h1, h2, h3⟩
    · rw [h2]
      by_cases z : r.2 6 n = nI f
      · rw [if_pos z]
        exact Or.inr ⟨n, Nat.lt_succ_self n, z, h3, rfl⟩
      · rw [if_neg z]
        refine Or.inl ⟨?_, rfl, fun k hk => ?_⟩
        · rw [lsN_s, flt_app, h1, flt_no (show ¬ (enR r n).1 = nI f from z)]
          rfl
        · by_cases zz : k = n
          · rw [zz]
            exact z
          · exact h3 k (by omega)
    · exact Or.inr ⟨k, by omega, h1, h2, h3⟩
theorem cnL_spec (r : tR) (f : Nat) : ∀ n, cnL (r.2 6) (nI f) n = nI (flt f (lsN r n)).length := by
  intro n
  induction n with
  | zero => rfl
  | succ n ih =>
    rw [cnL, lsN_s, flt_app, List.length_append, ih]
    by_cases z : r.2 6 n = nI f
    · rw [if_pos z, flt_yes (show (enR r n).1 = nI f from z)]
      exact nI_1 _
    · rw [if_neg z, flt_no (show ¬ (enR r n).1 = nI f from z)]
      rfl
/-- the list cut at the first place of the file -/
theorem flt_first (r : tR) (f : Nat) {k n : Nat} (hk : k < n) (h1 : r.2 6 k = nI f) (h2 : ∀ j, j < k → ¬ r.2 6 j = nI f) : ∃ l, flt f (lsN r n) = (enR r k).2 :: l := by
  have h0 : ∀ m, m ≤ k → flt f (lsN r m) = [] := by
    intro m
    induction m with
    | zero => exact fun _ => rfl
    | succ m ih =>
      intro hm
      rw [lsN_s, flt_app, ih (by omega), flt_no (show ¬ (enR r m).1 = nI f from h2 m (by omega))]
      rfl
  obtain ⟨m, rfl⟩ : ∃ m, n = k + 1 + m := ⟨n - (k + 1), by omega⟩
  clear hk
  induction m with
  | zero =>
    refine ⟨[], ?_⟩
    rw [Nat.add_zero, lsN_s, flt_app, h0 k (Nat.le_refl _), flt_yes (show (enR r k).1 = nI f from h1)]
    rfl
  | succ m ih =>
    obtain ⟨l, hl⟩ := ih
    refine ⟨l ++ flt f [enR r (k + 1 + m)], ?_⟩
    rw [show k + 1 + (m + 1) = k + 1 + m + 1 by omega, lsN_s, flt_app, hl]
    rfl
/-- anL: is it there already -/
theorem anL_spec (r : tR) (c f : Nat) (wo : Int32) : ∀ n, (anL r c f wo n = 0 ∧ ∀ e ∈ lsN r n, ¬ (e.1 = nI f ∧ e.2.1 = nI c ∧ e.2.2.1 = wo)) ∨ (anL r c f wo n = 1 ∧ ∃ e ∈ lsN r n, e.1 = nI f ∧ e.2.1 = nI c ∧ e.2.2.1 = wo) := by
  intro n
  induction n with
  | zero => exact Or.inl ⟨rfl, fun e he => by simp [lsN] at he⟩
  | succ n ih =>
    rw [anL, lsN_s]
    rcases ih with ⟨h1, h2⟩ | ⟨h1, e, he, h2⟩
    · rw [if_pos h1]
      by_cases z : (r.2 5 n = nI c ∧ r.2 6 n = nI f) ∧ r.2 7 n = wo
      · rw [if_pos z.1.1, if_pos z.1.2, if_pos z.2]
        exact Or.inr ⟨rfl, enR r n, List.mem_append_right _ (List.mem_singleton.mpr rfl), z.1.2, z.1.1, z.2⟩
      · refine Or.inl ⟨?_, fun e he hh => ?_⟩
        · by_cases z1 : r.2 5 n = nI c
          · rw [if_pos z1]
            by_cases z2 : r.2 6 n = nI f
            · rw [if_pos z2, if_neg (fun z3 => z ⟨⟨z1, z2⟩, z3⟩)]
            · rw [if_neg z2]
          · rw [if_neg z1]
        · rcases List.mem_append.mp he with he | he
          · exact h2 e he hh
          · rw [List.mem_singleton.mp he] at hh
            exact z ⟨⟨hh.2.1, hh.1⟩, hh.2.2⟩
    · rw [h1, if_neg (by decide)]
      exact Or.inr ⟨rfl, e, List.mem_append_left _ he, h2⟩
theorem mem_flt {f : Nat} {l : List (Int32 × Int32 × Int32 × Int32)} {x : Int32 × Int32 × Int32} : x ∈ flt f l ↔ (nI f, x) ∈ l := by
  unfold flt
  rw [List.mem_filterMap]
  constructor
  · rintro ⟨e, he, hx⟩
    by_cases z : e.1 = nI f
    · rw [if_pos z] at hx
      cases hx
      rw [← z]
      exact he
    · rw [if_neg z] at hx
      cases hx
  · intro h
    exact ⟨_, h, if_pos rfl⟩
theorem gtD {α : Type} (l : List α) {j : Nat} (h : j < l.length) {a : α} : l.getD j a = l[j] := by
  rw [List.getD, List.getElem?_eq_getElem h]
  rfl
/-- the class's search -/
theorem iwL_spec (K : kC) (t : tC) (f : Nat) (x y : Int32) : ∀ (r n : Nat), (iwL K t f x y r n = 0 ∧ ∀ j, n ≤ j → j < n + r → ¬ (((t.2.1 f).getD j (0, 0, 0)).1 = x ∧ ((t.2.1 f).getD j (0, 0, 0)).2.1 = y)) ∨ (iwL K t f x y r n = 1 ∧ ∃ j, n ≤ j ∧ j < n + r ∧ ((t.2.1 f).getD j (0, 0, 0)).1 = x ∧ ((t.2.1 f).getD j (0, 0, 0)).2.1 = y) := by
  intro r
  induction r with
  | zero => exact fun n => Or.inl ⟨rfl, fun j h1 h2 => by omega⟩
  | succ r ih =>
    intro n
    rw [iwL]
    by_cases z : ((t.2.1 f).getD n (0, 0, 0)).1 = x ∧ ((t.2.1 f).getD n (0, 0, 0)).2.1 = y
    · have e : s_W_isOf K t f n x y = 1 := by
        unfold s_W_isOf
        rw [if_pos z.1, if_pos z.2]
      rw [e, if_neg (by decide)]
      exact Or.inr ⟨rfl, n, Nat.le_refl _, by omega, z⟩
    · have e : s_W_isOf K t f n x y = 0 := by
        unfold s_W_isOf
        by_cases z1 : ((t.2.1 f).getD n (0, 0, 0)).1 = x
        · rw [if_pos z1, if_neg (fun z2 => z ⟨z1, z2⟩)]
        · rw [if_neg z1]
      rw [e, if_pos rfl]
      rcases ih (n + 1) with ⟨h1, h2⟩ | ⟨h1, j, j1, j2, j3⟩
      · refine Or.inl ⟨h1, fun j a b => ?_⟩
        by_cases q : j = n
        · rw [q]
          exact z
        · exact h2 j (by omega) (by omega)
      · exact Or.inr ⟨h1, j, by omega, by omega, j3⟩
theorem iw_mem (K : kC) (t : tC) (f : Nat) (x y : Int32) : (s_F_isWaiting K t f x y = 0 ∧ ∀ e ∈ t.2.1 f, ¬ (e.1 = x ∧ e.2.1 = y)) ∨ (s_F_isWaiting K t f x y = 1 ∧ ∃ e ∈ t.2.1 f, e.1 = x ∧ e.2.1 = y) := by
  unfold s_F_isWaiting
  rcases iwL_spec K t f x y (t.2.1 f).length 0 with ⟨h1, h2⟩ | ⟨h1, j, _, j2, j3⟩
  · refine Or.inl ⟨h1, fun e he hh => ?_⟩
    obtain ⟨j, hj, rfl⟩ := List.getElem_of_mem he
    refine h2 j (Nat.zero_le _) (by omega) ?_
    rw [gtD _ hj]
    exact hh
  · have hj : j < (t.2.1 f).length := by omega
    rw [gtD _ hj] at j3
    exact Or.inr ⟨h1, _, List.getElem_mem hj, j3⟩
