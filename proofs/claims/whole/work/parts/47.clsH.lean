theorem wc_nat : Cond.native arraycopyName ∈ WS := ws_at 479 (by decide +kernel) rfl
theorem wc_st : Cond.static arraycopyName ∈ WS := ws_at 478 (by decide +kernel) rfl
theorem wc_in : Cond.initialized "java/lang/System" ∈ WS := ws_at 18 (by decide +kernel) rfl
theorem wc_cast : Cond.castable "LeasedFiles$Write" "java/lang/Object" ∈ lw_tbl := List.mem_append_right _ (List.mem_of_getElem? (i := 938) (by decide +kernel))
/-- System.arraycopy of references -/
theorem g_copyq {E : gE} {Y : mY} {Z : gZ} {pc : Nat} {lv : List (Nat × Value)} {st : List Value} {w : wd} {ce sl a0 a n0 n1 t0 t1 ci N index sp dp n : Nat} {c0 c1 : ClassId} {f g : Nat → Option Nat} {E0 E1 C : String} {T : u_T} {x y z : Int32} (hd : decode Y.2.1 pc = .ok (.invokestatic index, 3)) (hlk : Cond.methodLink Y.1.cls index arraycopyName ∈ WS) (ha0 : wh w a0 (.inl (c0, n0, .inr (.inr (.inr (.inr f)))))) (ha1 : wh w a (.inl (c1, n1, .inr (.inr (.inr (.inr g)))))) (ht0 : (tyl E)[t0]? = some (c0, .object E0)) (ht1 : (tyl E)[t1]? = some (c1, .object E1)) (hc : vwCl[ci]? = some (C, T, N)) (hca : Cond.castable C E1 ∈ lw_tbl) (hx : x = nI sp) (hy : y = nI dp) (hz : z = nI n) (hb : sp < 2 ^ 31 ∧ dp < 2 ^ 31 ∧ n < 2 ^ 31) (h4 : sp + n ≤ n0) (h5 : dp + n ≤ n1) (hel : ∀ i, i < n → ∀ q, f (sp + i) = some q → ∃ fs, wh w q (.inr (ci, fs))) (hZ : 1 ≤ Z.1.frames ∧ 28 ≤ Z.1.locals) (hcat : (st.map fun v => v.category).sum ≤ 8) (k : G E Y Z (pc + 3) lv st (wu w a (.inl (c1, n1, .inr (.inr (.inr (.inr (va_cpy f g sp dp n))))))) ce sl) : G E Y Z pc lv (.int z :: .int y :: .ref a :: .int x :: .ref a0 :: st) w ce sl := by
  intro p e s m args below meth c H locs ls X hl hP hD hS
  obtain ⟨q0, hq0⟩ := ha0.at
  obtain ⟨q1, hq1⟩ := ha1.at
  have cx : x.toNatClampNeg = sp := pk_cl sp hx hb.1
  have cy : y.toNatClampNeg = dp := pk_cl dp hy hb.2.1
  have cz : z.toNatClampNeg = n := pk_cl n hz hb.2.2
  have hl2 := hZ.2
  refine va_copyq X.x X.b (by rw [X.ml]; exact hl.1.symm) X.own (X.ts _ hlk) (X.ts _ wc_nat) (X.ts _ wc_st) (X.ts _ wc_in) X.K.1 hP hD hS q0 q1 t0 t1 (C := C) hq0 hq1 ht0 ht1 (by rw [hx]; exact nI_pos hb.1) (by rw [hy]; exact nI_pos hb.2.1) (by rw [hz]; exact nI_pos hb.2.2) (by rw [cx, cz]; exact h4) (by rw [cy, cz]; exact h5) ?_ (vb_asgC (X.K.2.1 _ hca rfl)) hZ.1 ?_ hd (fun H1 locs1 hP1 hD1 hS1 => ?_)
  · rw [cx, cz]
    intro i hi q hq
    obtain ⟨fs, hw⟩ := hel i hi q hq
    exact g_recv X.K hP hw hc
  · have e : nativeFrameWords "java/lang/System" "arraycopy" 5 = 7 := by decide
    rw [e]
    omega
  · rw [cx, cy, cz, ha1.set hD hq1] at hP1 hD1
    exact k p e s m args below meth c H1 locs1 ls X hl hP1 hD1 hS1
/-- names moved, nothing new -/
theorem SysC.ren {E : gE} {K : kC} {L L' : lyC} {t t' : tC} {w w' : wd} (h : SysC E K L t w) (ρ : nmC → nmC) (hv : ∀ x, vaC K L' t' x → vaC K L t (ρ x)) (hi : ∀ x y, vaC K L' t' x → vaC K L' t' y → ρ x = ρ y → x = y) (hL : ∀ x, vaC K L' t' x → L'.1 x = L.1 (ρ x)) (hc : ∀ x, vaC K L' t' x → wh w' (L'.1 x) (ceC E K L' t' x)) (hn : t'.2.2 ≤ 64) (hl : ∀ f, f < K.2.1 → (t'.2.1 f).length ≤ L'.2.2 f ∧ L'.2.2 f ≤ 1000) : SysC E K L' t' w' := by
  refine ⟨hc, fun x y hx hy hxy => hi x y hx hy ?_, h.2.2.1, hn, hl⟩
  rw [hL x hx, hL y hy] at hxy
  exact h.2.1 _ _ (hv x hx) (hv y hy) hxy
/-- one name more, or one name's cell made anew -/
theorem SysC.fr {E : gE} {K : kC} {L L' : lyC} {t t' : tC} {w w' : wd} (h : SysC E K L t w) (x0 : nmC) {q : Nat} (hq : q ∉ w.1) (hv : ∀ x, vaC K L' t' x → x ≠ x0 → vaC K L t x) (hL : ∀ x, x ≠ x0 → L'.1 x = L.1 x) (hL0 : L'.1 x0 = q) (hc : ∀ x, vaC K L' t' x → wh w' (L'.1 x) (ceC E K L' t' x)) (hn : t'.2.2 ≤ 64) (hl : ∀ f, f < K.2.1 → (t'.2.1 f).length ≤ L'.2.2 f ∧ L'.2.2 f ≤ 1000) : SysC E K L' t' w' := by
  refine ⟨hc, fun x y hx hy hxy => ?_, h.2.2.1, hn, hl⟩
  by_cases h1 : x = x0
  · by_cases h2 : y = x0
    · rw [h1, h2]
    · rw [h1, hL0, hL y h2] at hxy
      exact absurd (h.1 y (hv y hy h2)).1 (hxy ▸ hq)
  · by_cases h2 : y = x0
    · rw [h2, hL0, hL x h1] at hxy
      exact absurd (h.1 x (hv x hx h1)).1 (hxy.symm ▸ hq)
    · rw [hL x h1, hL y h2] at hxy
      exact h.2.1 _ _ (hv x hx h1) (hv y hy h2) hxy
/-- cells that have nothing of the lists -/
theorem ceC_nl (E : gE) (K : kC) {L L' : lyC} {t t' : tC} (hL : ∀ x : nmC, x.1 < 15 → L'.1 x = L.1 x) (ht : t'.1 = t.1) (hn : t'.2.2 = t.2.2) (x : nmC) (h : x.1 < 14) : (vaC K L' t' x → vaC K L t x) ∧ ceC E K L' t' x = ceC E K L t x := by
  obtain ⟨a, b, c⟩ := x
  obtain ⟨u, v, r⟩ := t
  obtain ⟨u', v', r'⟩ := t'
  dsimp only at ht hn
  subst ht hn
  have z : ∀ (k i j : Nat), k < 15 → L'.1 (k, i, j) = L.1 (k, i, j) := fun k i j hk => hL (k, i, j) hk
  match a, h with
  | 0, _ => exact ⟨fun h => h, by show Sum.inr (1, [Value.ref (L'.1 (1, 0, 0)), Value.ref (L'.1 (8, 0, 0)), Value.ref (L'.1 (4, 0, 0)), Value.int (nI K.2.1)]) = _; rw [z 1 0 0 (by decide), z 8 0 0 (by decide), z 4 0 0 (by decide)]; rfl⟩
  | 1, _ => exact ⟨fun h => h, by show Sum.inr (5, [Value.ref (L'.1 (2, 0, 0)), Value.int (nI r'), Value.ref (L'.1 (3, 64, 0))]) = _; rw [z 2 0 0 (by decide), z 3 64 0 (by decide)]; rfl⟩
  | 2, _ => exact ⟨fun h => h, by show Sum.inl (E.2.2.1 2, 64, Sum.inr (Sum.inr (Sum.inr (Sum.inr (fun i => if i < 64 then some (L'.1 (3, i, 0)) else none))))) = _; rw [funext (fun i => by rw [z 3 i 0 (by decide)] : ∀ i, (if i < 64 then some (L'.1 (3, i, 0)) else none) = if i < 64 then some (L.1 (3, i, 0)) else none)]; rfl⟩
  | 3, _ => exact ⟨fun h => h, rfl⟩
  | 4, _ => exact ⟨fun h => h, by show Sum.inl (E.2.2.1 3, K.1, Sum.inr (Sum.inr (Sum.inr (Sum.inr (fun i => if i < K.1 then some (L'.1 (5, i, 0)) else none))))) = _; rw [funext (fun i => by rw [z 5 i 0 (by decide)] : ∀ i, (if i < K.1 then some (L'.1 (5, i, 0)) else none) = if i < K.1 then some (L.1 (5, i, 0)) else none)]; rfl⟩
  | 5, _ => exact ⟨fun h => h, by show Sum.inr (2, clL (nI b) K.2.2.2 (L'.1 (6, b, 0)) (u' 0 b)) = _; rw [z 6 b 0 (by decide)]; rfl⟩
  | 6, _ => exact ⟨fun h => h, by show Sum.inl (E.2.2.1 4, K.2.1, Sum.inr (Sum.inr (Sum.inr (Sum.inr (fun i => if i < K.2.1 then some (L'.1 (7, b, i)) else none))))) = _; rw [funext (fun i => by rw [z 7 b i (by decide)] : ∀ i, (if i < K.2.1 then some (L'.1 (7, b, i)) else none) = if i < K.2.1 then some (L.1 (7, b, i)) else none)]; rfl⟩
  | 7, _ => exact ⟨fun h => h, rfl⟩
  | 8, _ => exact ⟨fun h => h, by show Sum.inr (7, svL K.2.2.1 (L'.1 (9, 0, 0)) (L'.1 (12, 0, 0)) (L'.1 (13, 0, 0)) (u' 2 0)) = _; rw [z 9 0 0 (by decide), z 12 0 0 (by decide), z 13 0 0 (by decide)]; rfl⟩
  | 9, _ => exact ⟨fun h => h, by show Sum.inl (E.2.2.1 5, K.2.1, Sum.inr (Sum.inr (Sum.inr (Sum.inr (fun i => if i < K.2.1 then some (L'.1 (10, i, 0)) else none))))) = _; rw [funext (fun i => by rw [z 10 i 0 (by decide)] : ∀ i, (if i < K.2.1 then some (L'.1 (10, i, 0)) else none) = if i < K.2.1 then some (L.1 (10, i, 0)) else none)]; rfl⟩
  | 10, _ => exact ⟨fun h => h, by show Sum.inr (6, flL (L'.1 (11, b, 0)) (L'.1 (14, b, 0)) (u' 3 b)) = _; rw [z 11 b 0 (by decide), z 14 b 0 (by decide)]; rfl⟩
  | 11, _ => exact ⟨fun h => h, rfl⟩
  | 12, _ => exact ⟨fun h => h, rfl⟩
  | 13, _ => exact ⟨fun h => h, rfl⟩
