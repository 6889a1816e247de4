/-! two worlds side by side -/
def wj (u v : wd) : wd := (u.1 ++ v.1, fun b => if b ∈ u.1 then u.2 b else v.2 b)
def wdj (u v : wd) : Prop := ∀ b ∈ v.1, b ∉ u.1
theorem wl_wj {u v : wd} (h : wdj u v) : wl (wj u v) = wl u ++ wl v := by
  show (u.1 ++ v.1).map (fun a => (a, (wj u v).2 a)) = u.1.map (fun a => (a, u.2 a)) ++ v.1.map (fun a => (a, v.2 a))
  rw [List.map_append]
  congr 1
  · refine List.map_congr_left (fun a ha => ?_)
    show (a, if a ∈ u.1 then u.2 a else v.2 a) = _
    rw [if_pos ha]
  · refine List.map_congr_left (fun a ha => ?_)
    show (a, if a ∈ u.1 then u.2 a else v.2 a) = _
    rw [if_neg (h a ha)]
theorem wj_l {u v : wd} {a : Nat} {e : va_E} (h : wh u a e) : wh (wj u v) a e := ⟨List.mem_append_left _ h.1, (if_pos h.1).trans h.2⟩
theorem wj_r {u v : wd} (hd : wdj u v) {a : Nat} {e : va_E} (h : wh v a e) : wh (wj u v) a e := ⟨List.mem_append_right _ h.1, (if_neg (hd a h.1)).trans h.2⟩
theorem wl_in {u : wd} {k a : Nat} {e : va_E} (h : (wl u)[k]? = some (a, e)) : a ∈ u.1 := by
  have hm := List.mem_of_getElem? h
  obtain ⟨b, hb, he⟩ := List.mem_map.mp hm
  cases he
  exact hb
theorem va_D_r {A : Nat → Prop} {w1 w2 : va_W} (h : va_D A (w1 ++ w2)) : va_D A w2 := by
  have e : ∀ i : Nat, (w1 ++ w2)[w1.length + i]? = w2[i]? := fun i => by rw [List.getElem?_append_right (Nat.le_add_right _ _), Nat.add_sub_cancel_left]
  refine ⟨fun i j p q hi hj hpq => ?_, fun k q hk => h.2 (w1.length + k) q (by rw [e]; exact hk)⟩
  have := h.1 (w1.length + i) (w1.length + j) p q (by rw [e]; exact hi) (by rw [e]; exact hj) hpq
  omega
theorem va_D_l {A : Nat → Prop} {w1 w2 : va_W} (h : va_D A (w1 ++ w2)) : va_D A w1 := by
  have e : ∀ (i : Nat) (q : Nat × va_E), w1[i]? = some q → (w1 ++ w2)[i]? = some q := fun i q hi => by
    have hl : i < w1.length := by
      obtain ⟨x, _⟩ := List.getElem?_eq_some_iff.mp hi
      exact x
    rw [List.getElem?_append_left hl]
    exact hi
  exact ⟨fun i j p q hi hj hpq => h.1 i j p q (e i p hi) (e j q hj) hpq, fun k q hk => h.2 k q (e k q hk)⟩
theorem va_P_r {D : va_G} {cl : List vw_C} {w1 w2 : va_W} {H : Heap} (h : va_P D cl (w1 ++ w2) H) : va_P D cl w2 H := fun k q hk => h (w1.length + k) q (by rw [List.getElem?_append_right (Nat.le_add_right _ _), Nat.add_sub_cancel_left]; exact hk)
theorem va_P_l {D : va_G} {cl : List vw_C} {w1 w2 : va_W} {H : Heap} (h : va_P D cl (w1 ++ w2) H) : va_P D cl w1 H := fun k q hk => h k q (by
  have hl : k < w1.length := by
    obtain ⟨x, _⟩ := List.getElem?_eq_some_iff.mp hk
    exact x
  rw [List.getElem?_append_left hl]
  exact hk)
/-- what the callee left alone stands as it stood -/
theorem wj_back {E : gE} {A : Nat → Prop} {u u' v : wd} {H H1 : Heap} (hd : wdj u v) (hP : va_P E.2.1 vwCl (wl u ++ wl v) H) (hD : va_D A (wl u ++ wl v)) (hA : ∀ q : Nat, H.size ≤ q → A q) (hP1 : va_P E.2.1 vwCl (wl u') H1) (hD1 : va_D (va_A (wl u) H.size) (wl u')) (hk : ∀ q : Nat, q < H.size → ¬ va_A (wl u) H.size q → H1[q]? = H[q]?) : wdj u' v ∧ va_P E.2.1 vwCl (wl (wj u' v)) H1 ∧ va_D A (wl (wj u' v)) := by
  have hlt : ∀ b ∈ v.1, b < H.size := fun b hb => va_pl_lt (X := wl u) (f := v.2) hP hb
  have hnA : ∀ b ∈ v.1, ¬ va_A (wl u) H.size b := by
    intro b hb z
    rcases z with ⟨k, e, z⟩ | z
    · exact hd b hb (wl_in z)
    · exact absurd (hlt b hb) (by omega)
  have hd1 : wdj u' v := by
    intro b hb hu
    obtain ⟨k, hk1⟩ := va_pl_get (X := []) (f := u'.2) hu
    exact hnA b hb (hD1.2 k _ hk1)
  refine ⟨hd1, ?_, ?_⟩
  · rw [wl_wj hd1]
    refine va_P.app hP1 ((va_P_r hP).kept (fun k q hq => ?_))
    have hm : q.1 ∈ v.1 := wl_in (u := v) (k := k) (a := q.1) (e := q.2) hq
    exact hk q.1 (hlt _ hm) (hnA _ hm)
  · rw [wl_wj hd1]
    have hF : ∀ q, va_A (wl u) H.size q → A q := by
      intro q z
      rcases z with ⟨k, e, z⟩ | z
      · exact (va_D_l hD).2 k (q, e) z
      · exact hA q z
    refine va_D.app (hD1.weaken (fun _ q _ z => hF q.1 z)) (va_D_r hD) (fun i j p q hi hj hpq => ?_)
    have h1 : p.1 ∈ u'.1 := wl_in (u := u') (k := i) (a := p.1) (e := p.2) hi
    have h2 : q.1 ∈ v.1 := wl_in (u := v) (k := j) (a := q.1) (e := q.2) hj
    exact hd1 q.1 h2 (hpq ▸ h1)
