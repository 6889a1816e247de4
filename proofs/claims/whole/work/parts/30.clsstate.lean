/-! the class's state: numbers by kind, place, part; the waiting writes of each file; how many messages -/
abbrev tC : Type := (Nat → Nat → Nat → Int32) × (Nat → List (Int32 × Int32 × Int32)) × Nat
/-- clients, files, the server's term, the clients' term -/
abbrev kC : Type := Nat × Nat × Int32 × Int32
abbrev nmC : Type := Nat × Nat × Nat
/-- addresses by names; the lists' own: how often changed, how many places -/
abbrev lyC : Type := (nmC → Nat) × (Nat → Int32) × (Nat → Nat)
def stC (t : tC) (k i j : Nat) (x : Int32) : tC := (fun k' i' => if k' = k ∧ i' = i then upd (t.1 k i) j x else t.1 k' i', t.2)
def mL (g : Nat → Int32) : List Value := [.int (g 0), .int (g 1), .int (g 2), .int (g 3), .int (g 4), .int (g 5), .int (g 6)]
def clL (n sh : Int32) (cp : Nat) (g : Nat → Int32) : List Value := [.int n, .int sh, .ref cp, .int (g 0), .int (g 1), .int (g 2), .int (g 3), .int (g 4), .int (g 5), .int (g 6), .int (g 7), .int (g 8), .int (g 9)]
def yL (g : Nat → Int32) : List Value := [.int (g 0), .int (g 1), .int (g 2), .int (g 3)]
def svL (te : Int32) (fa lw lv : Nat) (g : Nat → Int32) : List Value := [.int te, .ref fa, .ref lw, .ref lv, .int (g 0), .int (g 1), .int (g 2), .int (g 3)]
def flL (le li : Nat) (g : Nat → Int32) : List Value := [.ref le, .ref li, .int (g 0), .int (g 1)]
def wL (e : Int32 × Int32 × Int32) : List Value := [.int e.1, .int e.2.1, .int e.2.2]
def elC (E : gE) (L : lyC) (f : Nat) : Nat := if L.2.2 f = 0 then E.2.2.2 0 else L.1 (15, f, 0)
def vaC (K : kC) (L : lyC) (t : tC) (x : nmC) : Prop := match x.1 with
  | 3 => x.2.1 ≤ 64 ∧ x.2.2 = 0
  | 5 => x.2.1 < K.1 ∧ x.2.2 = 0
  | 6 => x.2.1 < K.1 ∧ x.2.2 = 0
  | 7 => x.2.1 < K.1 ∧ x.2.2 < K.2.1
  | 10 => x.2.1 < K.2.1 ∧ x.2.2 = 0
  | 11 => x.2.1 < K.2.1 ∧ x.2.2 = 0
  | 14 => x.2.1 < K.2.1 ∧ x.2.2 = 0
  | 15 => x.2.1 < K.2.1 ∧ x.2.2 = 0 ∧ 0 < L.2.2 x.2.1
  | 16 => (x.2.1 < K.2.1 ∨ x.2.1 = 4) ∧ x.2.2 < (t.2.1 x.2.1).length
  | k => x.2.1 = 0 ∧ x.2.2 = 0 ∧ k < 17
def ceC (E : gE) (K : kC) (L : lyC) (t : tC) (x : nmC) : va_E := match x.1 with
  | 0 => .inr (1, [.ref (L.1 (1, 0, 0)), .ref (L.1 (8, 0, 0)), .ref (L.1 (4, 0, 0)), .int (nI K.2.1)])
  | 1 => .inr (5, [.ref (L.1 (2, 0, 0)), .int (nI t.2.2), .ref (L.1 (3, 64, 0))])
  | 2 => .inl (E.2.2.1 2, 64, .inr (.inr (.inr (.inr (fun i => if i < 64 then some (L.1 (3, i, 0)) else none)))))
  | 3 => .inr (4, mL (t.1 7 x.2.1))
  | 4 => .inl (E.2.2.1 3, K.1, .inr (.inr (.inr (.inr (fun i => if i < K.1 then some (L.1 (5, i, 0)) else none)))))
  | 5 => .inr (2, clL (nI x.2.1) K.2.2.2 (L.1 (6, x.2.1, 0)) (t.1 0 x.2.1))
  | 6 => .inl (E.2.2.1 4, K.2.1, .inr (.inr (.inr (.inr (fun i => if i < K.2.1 then some (L.1 (7, x.2.1, i)) else none)))))
  | 7 => .inr (3, yL (t.1 1 (4 * x.2.1 + x.2.2)))
  | 8 => .inr (7, svL K.2.2.1 (L.1 (9, 0, 0)) (L.1 (12, 0, 0)) (L.1 (13, 0, 0)) (t.1 2 0))
  | 9 => .inl (E.2.2.1 5, K.2.1, .inr (.inr (.inr (.inr (fun i => if i < K.2.1 then some (L.1 (10, i, 0)) else none)))))
  | 10 => .inr (6, flL (L.1 (11, x.2.1, 0)) (L.1 (14, x.2.1, 0)) (t.1 3 x.2.1))
  | 11 => .inl (E.2.2.1 0, K.1, .inl (t.1 4 x.2.1))
  | 12 => .inl (E.2.2.1 0, K.1, .inl (t.1 5 0))
  | 13 => .inl (E.2.2.1 0, K.1, .inl (t.1 6 0))
  | 14 => .inr (9, [.ref (elC E L x.2.1), .int (nI (t.2.1 x.2.1).length), .int (L.2.1 x.2.1)])
  | 15 => .inl (E.2.2.1 6, L.2.2 x.2.1, .inr (.inr (.inr (.inr (fun i => if i < (t.2.1 x.2.1).length then some (L.1 (16, x.2.1, i)) else none)))))
  | _ => .inr (8, wL ((t.2.1 x.2.1).getD x.2.2 (0, 0, 0)))
def SysC (E : gE) (K : kC) (L : lyC) (t : tC) (w : wd) : Prop := (∀ x, vaC K L t x → wh w (L.1 x) (ceC E K L t x)) ∧ (∀ x y, vaC K L t x → vaC K L t y → L.1 x = L.1 y → x = y) ∧ (1 ≤ K.1 ∧ K.1 ≤ 4 ∧ 1 ≤ K.2.1 ∧ K.2.1 ≤ 4) ∧ t.2.2 ≤ 64 ∧ ∀ f, f < K.2.1 → (t.2.1 f).length ≤ L.2.2 f ∧ L.2.2 f ≤ 1000
theorem SysC.main {E : gE} {K : kC} {L : lyC} {t : tC} {w : wd} (h : SysC E K L t w) : wh w (L.1 (0, 0, 0)) (.inr (1, [.ref (L.1 (1, 0, 0)), .ref (L.1 (8, 0, 0)), .ref (L.1 (4, 0, 0)), .int (nI K.2.1)])) := h.1 (0, 0, 0) (show vaC K L t (0, 0, 0) from ⟨rfl, rfl, by decide⟩)
theorem SysC.pool {E : gE} {K : kC} {L : lyC} {t : tC} {w : wd} (h : SysC E K L t w) : wh w (L.1 (1, 0, 0)) (.inr (5, [.ref (L.1 (2, 0, 0)), .int (nI t.2.2), .ref (L.1 (3, 64, 0))])) := h.1 (1, 0, 0) (show vaC K L t (1, 0, 0) from ⟨rfl, rfl, by decide⟩)
theorem SysC.msgs {E : gE} {K : kC} {L : lyC} {t : tC} {w : wd} (h : SysC E K L t w) : wh w (L.1 (2, 0, 0)) (.inl (E.2.2.1 2, 64, .inr (.inr (.inr (.inr (fun i => if i < 64 then some (L.1 (3, i, 0)) else none)))))) := h.1 (2, 0, 0) (show vaC K L t (2, 0, 0) from ⟨rfl, rfl, by decide⟩)
theorem SysC.msg {E : gE} {K : kC} {L : lyC} {t : tC} {w : wd} (h : SysC E K L t w) {i : Nat} (hi : i ≤ 64) : wh w (L.1 (3, i, 0)) (.inr (4, mL (t.1 7 i))) := h.1 (3, i, 0) (show vaC K L t (3, i, 0) from ⟨hi, rfl⟩)
theorem SysC.clis {E : gE} {K : kC} {L : lyC} {t : tC} {w : wd} (h : SysC E K L t w) : wh w (L.1 (4, 0, 0)) (.inl (E.2.2.1 3, K.1, .inr (.inr (.inr (.inr (fun i => if i < K.1 then some (L.1 (5, i, 0)) else none)))))) := h.1 (4, 0, 0) (show vaC K L t (4, 0, 0) from ⟨rfl, rfl, by decide⟩)
theorem SysC.cli {E : gE} {K : kC} {L : lyC} {t : tC} {w : wd} (h : SysC E K L t w) {c : Nat} (hc : c < K.1) : wh w (L.1 (5, c, 0)) (.inr (2, clL (nI c) K.2.2.2 (L.1 (6, c, 0)) (t.1 0 c))) := h.1 (5, c, 0) (show vaC K L t (5, c, 0) from ⟨hc, rfl⟩)
theorem SysC.cps {E : gE} {K : kC} {L : lyC} {t : tC} {w : wd} (h : SysC E K L t w) {c : Nat} (hc : c < K.1) : wh w (L.1 (6, c, 0)) (.inl (E.2.2.1 4, K.2.1, .inr (.inr (.inr (.inr (fun i => if i < K.2.1 then some (L.1 (7, c, i)) else none)))))) := h.1 (6, c, 0) (show vaC K L t (6, c, 0) from ⟨hc, rfl⟩)
theorem SysC.cp {E : gE} {K : kC} {L : lyC} {t : tC} {w : wd} (h : SysC E K L t w) {c f : Nat} (hc : c < K.1) (hf : f < K.2.1) : wh w (L.1 (7, c, f)) (.inr (3, yL (t.1 1 (4 * c + f)))) := h.1 (7, c, f) (show vaC K L t (7, c, f) from ⟨hc, hf⟩)
theorem SysC.srv {E : gE} {K : kC} {L : lyC} {t : tC} {w : wd} (h : SysC E K L t w) : wh w (L.1 (8, 0, 0)) (.inr (7, svL K.2.2.1 (L.1 (9, 0, 0)) (L.1 (12, 0, 0)) (L.1 (13, 0, 0)) (t.1 2 0))) := h.1 (8, 0, 0) (show vaC K L t (8, 0, 0) from ⟨rfl, rfl, by decide⟩)
theorem SysC.fls {E : gE} {K : kC} {L : lyC} {t : tC} {w : wd} (h : SysC E K L t w) : wh w (L.1 (9, 0, 0)) (.inl (E.2.2.1 5, K.2.1, .inr (.inr (.inr (.inr (fun i => if i < K.2.1 then some (L.1 (10, i, 0)) else none)))))) := h.1 (9, 0, 0) (show vaC K L t (9, 0, 0) from ⟨rfl, rfl, by decide⟩)
theorem SysC.fl {E : gE} {K : kC} {L : lyC} {t : tC} {w : wd} (h : SysC E K L t w) {f : Nat} (hf : f < K.2.1) : wh w (L.1 (10, f, 0)) (.inr (6, flL (L.1 (11, f, 0)) (L.1 (14, f, 0)) (t.1 3 f))) := h.1 (10, f, 0) (show vaC K L t (10, f, 0) from ⟨hf, rfl⟩)
theorem SysC.ends {E : gE} {K : kC} {L : lyC} {t : tC} {w : wd} (h : SysC E K L t w) {f : Nat} (hf : f < K.2.1) : wh w (L.1 (11, f, 0)) (.inl (E.2.2.1 0, K.1, .inl (t.1 4 f))) := h.1 (11, f, 0) (show vaC K L t (11, f, 0) from ⟨hf, rfl⟩)
theorem SysC.lws {E : gE} {K : kC} {L : lyC} {t : tC} {w : wd} (h : SysC E K L t w) : wh w (L.1 (12, 0, 0)) (.inl (E.2.2.1 0, K.1, .inl (t.1 5 0))) := h.1 (12, 0, 0) (show vaC K L t (12, 0, 0) from ⟨rfl, rfl, by decide⟩)
theorem SysC.lvs {E : gE} {K : kC} {L : lyC} {t : tC} {w : wd} (h : SysC E K L t w) : wh w (L.1 (13, 0, 0)) (.inl (E.2.2.1 0, K.1, .inl (t.1 6 0))) := h.1 (13, 0, 0) (show vaC K L t (13, 0, 0) from ⟨rfl, rfl, by decide⟩)
theorem SysC.lst {E : gE} {K : kC} {L : lyC} {t : tC} {w : wd} (h : SysC E K L t w) {f : Nat} (hf : f < K.2.1) : wh w (L.1 (14, f, 0)) (.inr (9, [.ref (elC E L f), .int (nI (t.2.1 f).length), .int (L.2.1 f)])) := h.1 (14, f, 0) (show vaC K L t (14, f, 0) from ⟨hf, rfl⟩)
theorem SysC.el {E : gE} {K : kC} {L : lyC} {t : tC} {w : wd} (h : SysC E K L t w) {f : Nat} (hf : f < K.2.1) (hcap : 0 < L.2.2 f) : wh w (L.1 (15, f, 0)) (.inl (E.2.2.1 6, L.2.2 f, .inr (.inr (.inr (.inr (fun i => if i < (t.2.1 f).length then some (L.1 (16, f, i)) else none)))))) := h.1 (15, f, 0) (show vaC K L t (15, f, 0) from ⟨hf, rfl, hcap⟩)
theorem SysC.wr {E : gE} {K : kC} {L : lyC} {t : tC} {w : wd} (h : SysC E K L t w) {f j : Nat} (hf : f < K.2.1 ∨ f = 4) (hj : j < (t.2.1 f).length) : wh w (L.1 (16, f, j)) (.inr (8, wL ((t.2.1 f).getD j (0, 0, 0)))) := h.1 (16, f, j) (show vaC K L t (16, f, j) from ⟨hf, hj⟩)
theorem SysC.nc {E : gE} {K : kC} {L : lyC} {t : tC} {w : wd} (h : SysC E K L t w) : 1 ≤ K.1 ∧ K.1 ≤ 4 ∧ 1 ≤ K.2.1 ∧ K.2.1 ≤ 4 := h.2.2.1
theorem SysC.pn {E : gE} {K : kC} {L : lyC} {t : tC} {w : wd} (h : SysC E K L t w) : t.2.2 ≤ 64 := h.2.2.2.1
/-- which row of numbers a cell shows -/
def rowC (x : nmC) : Option (Nat × Nat) := match x.1 with
  | 3 => some (7, x.2.1)
  | 5 => some (0, x.2.1)
  | 7 => some (1, 4 * x.2.1 + x.2.2)
  | 8 => some (2, 0)
  | 10 => some (3, x.2.1)
  | 11 => some (4, x.2.1)
  | 12 => some (5, 0)
  | 13 => some (6, 0)
  | _ => none
theorem stC_row (t : tC) (k i j : Nat) (x : Int32) : (stC t k i j x).1 k i = upd (t.1 k i) j x := if_pos ⟨rfl, rfl⟩
theorem stC_oth (t : tC) {k i k' i' : Nat} (j : Nat) (x : Int32) (h : (k', i') ≠ (k, i)) : (stC t k i j x).1 k' i' = t.1 k' i' := if_neg (fun z => h (by rw [z.1, z.2]))
theorem ceC_oth (E : gE) (K : kC) (L : lyC) (t : tC) (k i j : Nat) (x : Int32) (y : nmC) (h : rowC y ≠ some (k, i)) : ceC E K L (stC t k i j x) y = ceC E K L t y := by
  have hz : ∀ k' i', rowC y = some (k', i') → (stC t k i j x).1 k' i' = t.1 k' i' := fun k' i' he => stC_oth t j x (fun z => h (he.trans (congrArg some z)))
  obtain ⟨a, b, c⟩ := y
  match a, hz with
  | 0, _ => rfl
  | 1, _ => rfl
  | 2, _ => rfl
  | 3, hz =>
    have e := hz 7 b rfl
    show Sum.inr (4, mL ((stC t k i j x).1 7 b)) = Sum.inr (4, mL (t.1 7 b))
    rw [e]
  | 4, _ => rfl
  | 5, hz =>
    have e := hz 0 b rfl
    show Sum.inr (2, clL (nI b) K.2.2.2 (L.1 (6, b, 0)) ((stC t k i j x).1 0 b)) = Sum.inr (2, clL (nI b) K.2.2.2 (L.1 (6, b, 0)) (t.1 0 b))
    rw [e]
  | 6, _ => rfl
  | 7, hz =>
    have e := hz 1 (4 * b + c) rfl
    show Sum.inr (3, yL ((stC t k i j x).1 1 (4 * b + c))) = Sum.inr (3, yL (t.1 1 (4 * b + c)))
    rw [e]
  | 8, hz =>
    have e := hz 2 0 rfl
    show Sum.inr (7, svL K.2.2.1 (L.1 (9, 0, 0)) (L.1 (12, 0, 0)) (L.1 (13, 0, 0)) ((stC t k i j x).1 2 0)) = Sum.inr (7, svL K.2.2.1 (L.1 (9, 0, 0)) (L.1 (12, 0, 0)) (L.1 (13, 0, 0)) (t.1 2 0))
    rw [e]
  | 9, _ => rfl
  | 10, hz =>
    have e := hz 3 b rfl
    show Sum.inr (6, flL (L.1 (11, b, 0)) (L.1 (14, b, 0)) ((stC t k i j x).1 3 b)) = Sum.inr (6, flL (L.1 (11, b, 0)) (L.1 (14, b, 0)) (t.1 3 b))
    rw [e]
  | 11, hz =>
    have e := hz 4 b rfl
    show Sum.inl (E.2.2.1 0, K.1, Sum.inl ((stC t k i j x).1 4 b)) = Sum.inl (E.2.2.1 0, K.1, Sum.inl (t.1 4 b))
    rw [e]
  | 12, hz =>
    have e := hz 5 0 rfl
    show Sum.inl (E.2.2.1 0, K.1, Sum.inl ((stC t k i j x).1 5 0)) = Sum.inl (E.2.2.1 0, K.1, Sum.inl (t.1 5 0))
    rw [e]
  | 13, hz =>
    have e := hz 6 0 rfl
    show Sum.inl (E.2.2.1 0, K.1, Sum.inl ((stC t k i j x).1 6 0)) = Sum.inl (E.2.2.1 0, K.1, Sum.inl (t.1 6 0))
    rw [e]
  | 14, _ => rfl
  | 15, _ => rfl
  | _ + 16, _ => rfl
/-- a row belongs to one cell -/
theorem rowC_inj {K : kC} {L : lyC} {t : tC} (hK : K.2.1 ≤ 4) {x y : nmC} {r : Nat × Nat} (hx : vaC K L t x) (hy : vaC K L t y) (ex : rowC x = some r) (ey : rowC y = some r) : x = y := by
  have e := ex.trans ey.symm
  have n1 : rowC x ≠ none := by rw [ex]; exact fun z => by cases z
  have n2 : rowC y ≠ none := by rw [ey]; exact fun z => by cases z
  clear ex ey
  obtain ⟨a, b, c⟩ := x
  obtain ⟨a', b', c'⟩ := y
  have key : ∀ (u v u' v' : Nat), some (u, v) = some (u', v') → u = u' ∧ v = v' := fun u v u' v' h => ⟨congrArg Prod.fst (Option.some.inj h), congrArg Prod.snd (Option.some.inj h)⟩
  have shape : ∀ (a b c : Nat), rowC (a, b, c) ≠ none → vaC K L t (a, b, c) → (a = 3 ∧ rowC (a, b, c) = some (7, b) ∧ c = 0) ∨ (a = 5 ∧ rowC (a, b, c) = some (0, b) ∧ c = 0) ∨ (a = 7 ∧ rowC (a, b, c) = some (1, 4 * b + c) ∧ c < 4) ∨ (a = 8 ∧ rowC (a, b, c) = some (2, 0) ∧ b = 0 ∧ c = 0) ∨ (a = 10 ∧ rowC (a, b, c) = some (3, b) ∧ c = 0) ∨ (a = 11 ∧ rowC (a, b, c) = some (4, b) ∧ c = 0) ∨ (a = 12 ∧ rowC (a, b, c) = some (5, 0) ∧ b = 0 ∧ c = 0) ∨ (a = 13 ∧ rowC (a, b, c) = some (6, 0) ∧ b = 0 ∧ c = 0) := by
    intro a b c hn hv
    match a, hn, hv with
    | 0, hn, _ => exact absurd rfl hn
    | 1, hn, _ => exact absurd rfl hn
    | 2, hn, _ => exact absurd rfl hn
    | 3, _, hv => exact Or.inl ⟨rfl, rfl, hv.2⟩
    | 4, hn, _ => exact absurd rfl hn
    | 5, _, hv => exact Or.inr (Or.inl ⟨rfl, rfl, hv.2⟩)
    | 6, hn, _ => exact absurd rfl hn
    | 7, _, hv => exact Or.inr (Or.inr (Or.inl ⟨rfl, rfl, Nat.lt_of_lt_of_le hv.2 hK⟩))
    | 8, _, hv => exact Or.inr (Or.inr (Or.inr (Or.inl ⟨rfl, rfl, hv.1, hv.2.1⟩)))
    | 9, hn, _ => exact absurd rfl hn
    | 10, _, hv => exact Or.inr (Or.inr (Or.inr (Or.inr (Or.inl ⟨rfl, rfl, hv.2⟩))))
    | 11, _, hv => exact Or.inr (Or.inr (Or.inr (Or.inr (Or.inr (Or.inl ⟨rfl, rfl, hv.2⟩)))))
    | 12, _, hv => exact Or.inr (Or.inr (Or.inr (Or.inr (Or.inr (Or.inr (Or.inl ⟨rfl, rfl, hv.1, hv.2.1⟩))))))
    | 13, _, hv => exact Or.inr (Or.inr (Or.inr (Or.inr (Or.inr (Or.inr (Or.inr ⟨rfl, rfl, hv.1, hv.2.1⟩))))))
    | 14, hn, _ => exact absurd rfl hn
    | 15, hn, _ => exact absurd rfl hn
    | _ + 16, hn, _ => exact absurd rfl hn
  have s1 := shape a b c n1 hx
  have s2 := shape a' b' c' n2 hy
  rcases s1 with s1 | s1 | s1 | s1 | s1 | s1 | s1 | s1 <;> rcases s2 with s2 | s2 | s2 | s2 | s2 | s2 | s2 | s2 <;>
    (rw [s1.2.1, s2.2.1] at e
     have q := key _ _ _ _ e
     have p1 := s1.2.2
     have p2 := s2.2.2
     obtain ⟨h1, -⟩ := s1
     obtain ⟨h2, -⟩ := s2
     first
       | (exfalso; omega)
       | (have e1 : a = a' := by omega
          have e2 : b = b' := by omega
          have e3 : c = c' := by omega
          rw [e1, e2, e3]))
/-- one number is written -/
theorem SysC.put {E : gE} {K : kC} {L : lyC} {t : tC} {w : wd} (h : SysC E K L t w) {y : nmC} {k i j : Nat} {x : Int32} (hy : vaC K L t y) (hr : rowC y = some (k, i)) {e : va_E} (he : ceC E K L (stC t k i j x) y = e) : SysC E K L (stC t k i j x) (wu w (L.1 y) e) := by
  obtain ⟨h1, h2, h3, h4, h5⟩ := h
  refine ⟨fun z hz => ?_, fun z z' hz hz' => h2 z z' hz hz', h3, h4, h5⟩
  have hz : vaC K L t z := hz
  by_cases hzy : z = y
  · subst hzy
    rw [he]
    exact (h1 z hz).us
  · rw [ceC_oth E K L t k i j x z (fun q => hzy (rowC_inj h3.2.2.2 hz hy q hr))]
    exact (h1 z hz).un (fun q => hzy (h2 z y hz hy q))
theorem rf_if {n j a : Nat} (h : j < n) : va_rf (if j < n then some a else none) = .ref a := by
  rw [if_pos h]
  rfl
section KK
variable {E : gE} {Y : mY} {Z : gZ} {pc : Nat} {lv : List (Nat × Value)} {st : List Value} {w : wd} {ce sl : Nat} {K : kC} {L : lyC} {t : tC}
theorem k_msg {idx jj j : Nat} {x : Int32} {ty : FieldType} {i : Nat} (hi : i ≤ 64) (hd : decode Y.2.1 pc = .ok (.putfield idx, 3)) (hf0 : fdw Y.1.cls 4 jj idx ty false) (hs : SysC E K L t w) (he : ∀ g : Nat → Int32, (mL g).set jj (.int x) = mL (upd g j x)) (hn : narrow ty (.int x) = .int x) (hfit : fits ty (.int x) = true) (hl : jj < (mL (t.1 7 i)).length) (kk : ∀ w' : wd, SysC E K L (stC t 7 i j x) w' → G E Y Z (pc + 3) lv st w' ce sl) : G E Y Z pc lv (.int x :: .ref (L.1 (3, i, 0)) :: st) w ce sl := by
  refine g_put hd hf0 (Or.inl rfl) (hs.msg hi) hn hfit hl (kk _ ?_)
  refine hs.put (y := (3, i, 0)) (show vaC K L t (3, i, 0) from ⟨hi, rfl⟩) rfl ?_
  show Sum.inr (4, mL ((stC t 7 i j x).1 7 i)) = _
  rw [stC_row, he]
theorem k_cli {idx jj j : Nat} {x : Int32} {ty : FieldType} {c : Nat} (hc : c < K.1) (hd : decode Y.2.1 pc = .ok (.putfield idx, 3)) (hf0 : fdw Y.1.cls 2 jj idx ty false) (hs : SysC E K L t w) (he : ∀ g : Nat → Int32, (clL (nI c) K.2.2.2 (L.1 (6, c, 0)) g).set jj (.int x) = clL (nI c) K.2.2.2 (L.1 (6, c, 0)) (upd g j x)) (hn : narrow ty (.int x) = .int x) (hfit : fits ty (.int x) = true) (hl : jj < (clL (nI c) K.2.2.2 (L.1 (6, c, 0)) (t.1 0 c)).length) (kk : ∀ w' : wd, SysC E K L (stC t 0 c j x) w' → G E Y Z (pc + 3) lv st w' ce sl) : G E Y Z pc lv (.int x :: .ref (L.1 (5, c, 0)) :: st) w ce sl := by
  refine g_put hd hf0 (Or.inl rfl) (hs.cli hc) hn hfit hl (kk _ ?_)
  refine hs.put (y := (5, c, 0)) (show vaC K L t (5, c, 0) from ⟨hc, rfl⟩) rfl ?_
  show Sum.inr (2, clL (nI c) K.2.2.2 (L.1 (6, c, 0)) ((stC t 0 c j x).1 0 c)) = _
  rw [stC_row, he]
theorem k_cp {idx jj j : Nat} {x : Int32} {ty : FieldType} {c f : Nat} (hc : c < K.1) (hf : f < K.2.1) (hd : decode Y.2.1 pc = .ok (.putfield idx, 3)) (hf0 : fdw Y.1.cls 3 jj idx ty false) (hs : SysC E K L t w) (he : ∀ g : Nat → Int32, (yL g).set jj (.int x) = yL (upd g j x)) (hn : narrow ty (.int x) = .int x) (hfit : fits ty (.int x) = true) (hl : jj < (yL (t.1 1 (4 * c + f))).length) (kk : ∀ w' : wd, SysC E K L (stC t 1 (4 * c + f) j x) w' → G E Y Z (pc + 3) lv st w' ce sl) : G E Y Z pc lv (.int x :: .ref (L.1 (7, c, f)) :: st) w ce sl := by
  refine g_put hd hf0 (Or.inl rfl) (hs.cp hc hf) hn hfit hl (kk _ ?_)
  refine hs.put (y := (7, c, f)) (show vaC K L t (7, c, f) from ⟨hc, hf⟩) rfl ?_
  show Sum.inr (3, yL ((stC t 1 (4 * c + f) j x).1 1 (4 * c + f))) = _
  rw [stC_row, he]
theorem k_srv {idx jj j : Nat} {x : Int32} {ty : FieldType} (hd : decode Y.2.1 pc = .ok (.putfield idx, 3)) (hf0 : fdw Y.1.cls 7 jj idx ty false) (hs : SysC E K L t w) (he : ∀ g : Nat → Int32, (svL K.2.2.1 (L.1 (9, 0, 0)) (L.1 (12, 0, 0)) (L.1 (13, 0, 0)) g).set jj (.int x) = svL K.2.2.1 (L.1 (9, 0, 0)) (L.1 (12, 0, 0)) (L.1 (13, 0, 0)) (upd g j x)) (hn : narrow ty (.int x) = .int x) (hfit : fits ty (.int x) = true) (hl : jj < (svL K.2.2.1 (L.1 (9, 0, 0)) (L.1 (12, 0, 0)) (L.1 (13, 0, 0)) (t.1 2 0)).length) (kk : ∀ w' : wd, SysC E K L (stC t 2 0 j x) w' → G E Y Z (pc + 3) lv st w' ce sl) : G E Y Z pc lv (.int x :: .ref (L.1 (8, 0, 0)) :: st) w ce sl := by
  refine g_put hd hf0 (Or.inl rfl) (hs.srv ) hn hfit hl (kk _ ?_)
  refine hs.put (y := (8, 0, 0)) (show vaC K L t (8, 0, 0) from ⟨rfl, rfl, by decide⟩) rfl ?_
  show Sum.inr (7, svL K.2.2.1 (L.1 (9, 0, 0)) (L.1 (12, 0, 0)) (L.1 (13, 0, 0)) ((stC t 2 0 j x).1 2 0)) = _
  rw [stC_row, he]
theorem k_fl {idx jj j : Nat} {x : Int32} {ty : FieldType} {f : Nat} (hf : f < K.2.1) (hd : decode Y.2.1 pc = .ok (.putfield idx, 3)) (hf0 : fdw Y.1.cls 6 jj idx ty false) (hs : SysC E K L t w) (he : ∀ g : Nat → Int32, (flL (L.1 (11, f, 0)) (L.1 (14, f, 0)) g).set jj (.int x) = flL (L.1 (11, f, 0)) (L.1 (14, f, 0)) (upd g j x)) (hn : narrow ty (.int x) = .int x) (hfit : fits ty (.int x) = true) (hl : jj < (flL (L.1 (11, f, 0)) (L.1 (14, f, 0)) (t.1 3 f)).length) (kk : ∀ w' : wd, SysC E K L (stC t 3 f j x) w' → G E Y Z (pc + 3) lv st w' ce sl) : G E Y Z pc lv (.int x :: .ref (L.1 (10, f, 0)) :: st) w ce sl := by
  refine g_put hd hf0 (Or.inl rfl) (hs.fl hf) hn hfit hl (kk _ ?_)
  refine hs.put (y := (10, f, 0)) (show vaC K L t (10, f, 0) from ⟨hf, rfl⟩) rfl ?_
  show Sum.inr (6, flL (L.1 (11, f, 0)) (L.1 (14, f, 0)) ((stC t 3 f j x).1 3 f)) = _
  rw [stC_row, he]
theorem k_ends {j : Nat} {x i0 : Int32} {f : Nat} (hf : f < K.2.1) (hd : decode Y.2.1 pc = .ok (.iastore, 1)) (hs : SysC E K L t w) (hi : i0 = nI j) (hj : j < K.1) (kk : ∀ w' : wd, SysC E K L (stC t 4 f j x) w' → G E Y Z (pc + 1) lv st w' ce sl) : G E Y Z pc lv (.int x :: .int i0 :: .ref (L.1 (11, f, 0)) :: st) w ce sl := by
  have h4 := hs.nc
  refine g_iast hd (hs.ends hf) hi hj (by omega) (kk _ ?_)
  refine hs.put (y := (11, f, 0)) (show vaC K L t (11, f, 0) from ⟨hf, rfl⟩) rfl ?_
  show Sum.inl (E.2.2.1 0, K.1, Sum.inl ((stC t 4 f j x).1 4 f)) = _
  rw [stC_row]
theorem k_lws {j : Nat} {x i0 : Int32} (hd : decode Y.2.1 pc = .ok (.iastore, 1)) (hs : SysC E K L t w) (hi : i0 = nI j) (hj : j < K.1) (kk : ∀ w' : wd, SysC E K L (stC t 5 0 j x) w' → G E Y Z (pc + 1) lv st w' ce sl) : G E Y Z pc lv (.int x :: .int i0 :: .ref (L.1 (12, 0, 0)) :: st) w ce sl := by
  have h4 := hs.nc
  refine g_iast hd (hs.lws ) hi hj (by omega) (kk _ ?_)
  refine hs.put (y := (12, 0, 0)) (show vaC K L t (12, 0, 0) from ⟨rfl, rfl, by decide⟩) rfl ?_
  show Sum.inl (E.2.2.1 0, K.1, Sum.inl ((stC t 5 0 j x).1 5 0)) = _
  rw [stC_row]
theorem k_lvs {j : Nat} {x i0 : Int32} (hd : decode Y.2.1 pc = .ok (.iastore, 1)) (hs : SysC E K L t w) (hi : i0 = nI j) (hj : j < K.1) (kk : ∀ w' : wd, SysC E K L (stC t 6 0 j x) w' → G E Y Z (pc + 1) lv st w' ce sl) : G E Y Z pc lv (.int x :: .int i0 :: .ref (L.1 (13, 0, 0)) :: st) w ce sl := by
  have h4 := hs.nc
  refine g_iast hd (hs.lvs ) hi hj (by omega) (kk _ ?_)
  refine hs.put (y := (13, 0, 0)) (show vaC K L t (13, 0, 0) from ⟨rfl, rfl, by decide⟩) rfl ?_
  show Sum.inl (E.2.2.1 0, K.1, Sum.inl ((stC t 6 0 j x).1 6 0)) = _
  rw [stC_row]
/-- one message more -/
def cnC (t : tC) (n : Nat) : tC := (t.1, t.2.1, n)
theorem SysC.cnt {E : gE} {K : kC} {L : lyC} {t : tC} {w : wd} (h : SysC E K L t w) {n : Nat} (hn : n ≤ 64) : SysC E K L (cnC t n) (wu w (L.1 (1, 0, 0)) (.inr (5, [.ref (L.1 (2, 0, 0)), .int (nI n), .ref (L.1 (3, 64, 0))]))) := by
  have hp := h.pool
  obtain ⟨h1, h2, h3, h4, h5⟩ := h
  refine ⟨fun z hz => ?_, fun z z' hz hz' => h2 z z' hz hz', h3, hn, h5⟩
  have hz : vaC K L t z := hz
  by_cases hzy : z = (1, 0, 0)
  · subst hzy
    exact hp.us
  · have e : ceC E K L (cnC t n) z = ceC E K L t z := by
      obtain ⟨a, b, c⟩ := z
      match a, hz, hzy with
      | 0, _, _ => rfl
      | 1, hz, hzy =>
        exfalso
        have q : b = 0 ∧ c = 0 ∧ 1 < 17 := hz
        exact hzy (by rw [q.1, q.2.1])
      | 2, _, _ => rfl
      | 3, _, _ => rfl
      | 4, _, _ => rfl
      | 5, _, _ => rfl
      | 6, _, _ => rfl
      | 7, _, _ => rfl
      | 8, _, _ => rfl
      | 9, _, _ => rfl
      | 10, _, _ => rfl
      | 11, _, _ => rfl
      | 12, _, _ => rfl
      | 13, _, _ => rfl
      | 14, _, _ => rfl
      | 15, _, _ => rfl
      | _ + 16, _, _ => rfl
    rw [e]
    exact (h1 z hz).un (fun q => hzy (h2 z (1, 0, 0) hz (show vaC K L t (1, 0, 0) from ⟨rfl, rfl, by decide⟩) q))
end KK
