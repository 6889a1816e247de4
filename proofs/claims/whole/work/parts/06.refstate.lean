/-! the reference's state: its numbers, its rows of numbers -/
abbrev tR : Type := (Nat → Int32) × (Nat → Nat → Int32)
def lnR (k : Nat) : Nat := match k with
  | 0 => 4
  | 1 => 4
  | 2 => 16
  | 3 => 4
  | 4 => 4
  | 5 => 520
  | 6 => 520
  | 7 => 520
  | 8 => 520
  | 9 => 4
  | 10 => 4
  | 11 => 4
  | 12 => 4
  | 13 => 4
  | 14 => 4
  | 15 => 4
  | 16 => 4
  | 17 => 4
  | 18 => 4
  | 19 => 16
  | 20 => 16
  | 21 => 16
  | 22 => 16
  | _ => 448
def kdR (k : Nat) : Nat := match k with
  | 12 => 1
  | 16 => 1
  | 19 => 1
  | _ => 0
def ceR (ad : Nat → Nat) (t : tR) : List Value := [.int (t.1 0), .int (t.1 1), .int (t.1 2), .int (t.1 3), .ref (ad 1), .ref (ad 2), .int (t.1 4), .int (t.1 5), .int (t.1 6), .int (t.1 7), .ref (ad 3), .ref (ad 4), .ref (ad 5), .int (t.1 8), .ref (ad 6), .ref (ad 7), .ref (ad 8), .ref (ad 9), .ref (ad 10), .ref (ad 11), .ref (ad 12), .ref (ad 13), .ref (ad 14), .ref (ad 15), .ref (ad 16), .ref (ad 17), .ref (ad 18), .ref (ad 19), .ref (ad 20), .ref (ad 21), .ref (ad 22), .ref (ad 23), .int (t.1 9), .ref (ad 24)]
def SysR (E : gE) (ad : Nat → Nat) (t : tR) (w : wd) : Prop := wh w (ad 0) (.inr (0, ceR ad t)) ∧ (∀ k, k < 24 → wh w (ad (k + 1)) (.inl (E.2.2.1 (kdR k), lnR k, .inl (t.2 k)))) ∧ ∀ i j, i < 25 → j < 25 → ad i = ad j → i = j
def stA (t : tR) (k j : Nat) (x : Int32) : tR := (t.1, fun k' => if k' = k then upd (t.2 k) j x else t.2 k')
def stF (t : tR) (k : Nat) (x : Int32) : tR := (upd t.1 k x, t.2)
theorem SysR.obj {E : gE} {ad : Nat → Nat} {t : tR} {w : wd} (h : SysR E ad t w) : wh w (ad 0) (.inr (0, ceR ad t)) := h.1
theorem SysR.a0 {E : gE} {ad : Nat → Nat} {t : tR} {w : wd} (h : SysR E ad t w) : wh w (ad 1) (.inl (E.2.2.1 0, 4, .inl (t.2 0))) := h.2.1 0 (by decide)
theorem SysR.a1 {E : gE} {ad : Nat → Nat} {t : tR} {w : wd} (h : SysR E ad t w) : wh w (ad 2) (.inl (E.2.2.1 0, 4, .inl (t.2 1))) := h.2.1 1 (by decide)
theorem SysR.a2 {E : gE} {ad : Nat → Nat} {t : tR} {w : wd} (h : SysR E ad t w) : wh w (ad 3) (.inl (E.2.2.1 0, 16, .inl (t.2 2))) := h.2.1 2 (by decide)
theorem SysR.a3 {E : gE} {ad : Nat → Nat} {t : tR} {w : wd} (h : SysR E ad t w) : wh w (ad 4) (.inl (E.2.2.1 0, 4, .inl (t.2 3))) := h.2.1 3 (by decide)
theorem SysR.a4 {E : gE} {ad : Nat → Nat} {t : tR} {w : wd} (h : SysR E ad t w) : wh w (ad 5) (.inl (E.2.2.1 0, 4, .inl (t.2 4))) := h.2.1 4 (by decide)
theorem SysR.a5 {E : gE} {ad : Nat → Nat} {t : tR} {w : wd} (h : SysR E ad t w) : wh w (ad 6) (.inl (E.2.2.1 0, 520, .inl (t.2 5))) := h.2.1 5 (by decide)
theorem SysR.a6 {E : gE} {ad : Nat → Nat} {t : tR} {w : wd} (h : SysR E ad t w) : wh w (ad 7) (.inl (E.2.2.1 0, 520, .inl (t.2 6))) := h.2.1 6 (by decide)
theorem SysR.a7 {E : gE} {ad : Nat → Nat} {t : tR} {w : wd} (h : SysR E ad t w) : wh w (ad 8) (.inl (E.2.2.1 0, 520, .inl (t.2 7))) := h.2.1 7 (by decide)
theorem SysR.a8 {E : gE} {ad : Nat → Nat} {t : tR} {w : wd} (h : SysR E ad t w) : wh w (ad 9) (.inl (E.2.2.1 0, 520, .inl (t.2 8))) := h.2.1 8 (by decide)
theorem SysR.a9 {E : gE} {ad : Nat → Nat} {t : tR} {w : wd} (h : SysR E ad t w) : wh w (ad 10) (.inl (E.2.2.1 0, 4, .inl (t.2 9))) := h.2.1 9 (by decide)
theorem SysR.a10 {E : gE} {ad : Nat → Nat} {t : tR} {w : wd} (h : SysR E ad t w) : wh w (ad 11) (.inl (E.2.2.1 0, 4, .inl (t.2 10))) := h.2.1 10 (by decide)
theorem SysR.a11 {E : gE} {ad : Nat → Nat} {t : tR} {w : wd} (h : SysR E ad t w) : wh w (ad 12) (.inl (E.2.2.1 0, 4, .inl (t.2 11))) := h.2.1 11 (by decide)
theorem SysR.a12 {E : gE} {ad : Nat → Nat} {t : tR} {w : wd} (h : SysR E ad t w) : wh w (ad 13) (.inl (E.2.2.1 1, 4, .inl (t.2 12))) := h.2.1 12 (by decide)
theorem SysR.a13 {E : gE} {ad : Nat → Nat} {t : tR} {w : wd} (h : SysR E ad t w) : wh w (ad 14) (.inl (E.2.2.1 0, 4, .inl (t.2 13))) := h.2.1 13 (by decide)
theorem SysR.a14 {E : gE} {ad : Nat → Nat} {t : tR} {w : wd} (h : SysR E ad t w) : wh w (ad 15) (.inl (E.2.2.1 0, 4, .inl (t.2 14))) := h.2.1 14 (by decide)
theorem SysR.a15 {E : gE} {ad : Nat → Nat} {t : tR} {w : wd} (h : SysR E ad t w) : wh w (ad 16) (.inl (E.2.2.1 0, 4, .inl (t.2 15))) := h.2.1 15 (by decide)
theorem SysR.a16 {E : gE} {ad : Nat → Nat} {t : tR} {w : wd} (h : SysR E ad t w) : wh w (ad 17) (.inl (E.2.2.1 1, 4, .inl (t.2 16))) := h.2.1 16 (by decide)
theorem SysR.a17 {E : gE} {ad : Nat → Nat} {t : tR} {w : wd} (h : SysR E ad t w) : wh w (ad 18) (.inl (E.2.2.1 0, 4, .inl (t.2 17))) := h.2.1 17 (by decide)
theorem SysR.a18 {E : gE} {ad : Nat → Nat} {t : tR} {w : wd} (h : SysR E ad t w) : wh w (ad 19) (.inl (E.2.2.1 0, 4, .inl (t.2 18))) := h.2.1 18 (by decide)
theorem SysR.a19 {E : gE} {ad : Nat → Nat} {t : tR} {w : wd} (h : SysR E ad t w) : wh w (ad 20) (.inl (E.2.2.1 1, 16, .inl (t.2 19))) := h.2.1 19 (by decide)
theorem SysR.a20 {E : gE} {ad : Nat → Nat} {t : tR} {w : wd} (h : SysR E ad t w) : wh w (ad 21) (.inl (E.2.2.1 0, 16, .inl (t.2 20))) := h.2.1 20 (by decide)
theorem SysR.a21 {E : gE} {ad : Nat → Nat} {t : tR} {w : wd} (h : SysR E ad t w) : wh w (ad 22) (.inl (E.2.2.1 0, 16, .inl (t.2 21))) := h.2.1 21 (by decide)
theorem SysR.a22 {E : gE} {ad : Nat → Nat} {t : tR} {w : wd} (h : SysR E ad t w) : wh w (ad 23) (.inl (E.2.2.1 0, 16, .inl (t.2 22))) := h.2.1 22 (by decide)
theorem SysR.a23 {E : gE} {ad : Nat → Nat} {t : tR} {w : wd} (h : SysR E ad t w) : wh w (ad 24) (.inl (E.2.2.1 0, 448, .inl (t.2 23))) := h.2.1 23 (by decide)
theorem SysR.st {E : gE} {ad : Nat → Nat} {t : tR} {w : wd} (h : SysR E ad t w) {k j : Nat} {x : Int32} (hk : k < 24) : SysR E ad (stA t k j x) (wu w (ad (k + 1)) (.inl (E.2.2.1 (kdR k), lnR k, .inl (upd (t.2 k) j x)))) := by
  obtain ⟨h1, h2, h3⟩ := h
  refine ⟨h1.un (fun z => ?_), fun k' hk' => ?_, h3⟩
  · have := h3 _ _ (by omega) (by omega) z
    omega
  · by_cases he : k' = k
    · subst he
      have e : (stA t k' j x).2 k' = upd (t.2 k') j x := if_pos rfl
      rw [e]
      exact (h2 k' hk').us
    · have e : (stA t k j x).2 k' = t.2 k' := if_neg he
      rw [e]
      refine (h2 k' hk').un (fun z => ?_)
      have := h3 _ _ (by omega) (by omega) z
      omega
theorem SysR.sf {E : gE} {ad : Nat → Nat} {t t' : tR} {w : wd} (h : SysR E ad t w) {fs : List Value} (e1 : fs = ceR ad t') (e2 : t'.2 = t.2) : SysR E ad t' (wu w (ad 0) (.inr (0, fs))) := by
  obtain ⟨h1, h2, h3⟩ := h
  subst e1
  refine ⟨h1.us, fun k hk => ?_, h3⟩
  rw [e2]
  refine (h2 k hk).un (fun z => ?_)
  have := h3 _ _ (by omega) (by omega) z
  omega
theorem lnR_lt (k : Nat) : lnR k < 2 ^ 31 := by
  unfold lnR
  split <;> decide
section RR
variable {E : gE} {Y : mY} {Z : gZ} {pc : Nat} {lv : List (Nat × Value)} {st : List Value} {w : wd} {ce sl : Nat} {ad : Nat → Nat} {t : tR}
theorem r_iald {i : Int32} {k j : Nat} (hd : decode Y.2.1 pc = .ok (.iaload, 1)) (hs : SysR E ad t w) (hk : k < 24) (hkd : kdR k = 0) (hi : i = nI j) (hj : j < lnR k) (kk : G E Y Z (pc + 1) lv (.int (t.2 k j) :: st) w ce sl) : G E Y Z pc lv (.int i :: .ref (ad (k + 1)) :: st) w ce sl := by
  have h := hs.2.1 k hk
  rw [hkd] at h
  exact g_iald hd h hi hj (lnR_lt k) kk
theorem r_zald {i : Int32} {k j : Nat} (hd : decode Y.2.1 pc = .ok (.baload, 1)) (hs : SysR E ad t w) (hk : k < 24) (hkd : kdR k = 1) (hi : i = nI j) (hj : j < lnR k) (kk : G E Y Z (pc + 1) lv (.int (t.2 k j) :: st) w ce sl) : G E Y Z pc lv (.int i :: .ref (ad (k + 1)) :: st) w ce sl := by
  have h := hs.2.1 k hk
  rw [hkd] at h
  exact g_zald hd h hi hj (lnR_lt k) kk
theorem r_iast {i x : Int32} {k j : Nat} (hd : decode Y.2.1 pc = .ok (.iastore, 1)) (hs : SysR E ad t w) (hk : k < 24) (hkd : kdR k = 0) (hi : i = nI j) (hj : j < lnR k) (kk : ∀ w' : wd, SysR E ad (stA t k j x) w' → G E Y Z (pc + 1) lv st w' ce sl) : G E Y Z pc lv (.int x :: .int i :: .ref (ad (k + 1)) :: st) w ce sl := by
  have h := hs.2.1 k hk
  have h2 := hs.st (j := j) (x := x) hk
  rw [hkd] at h h2
  exact g_iast hd h hi hj (lnR_lt k) (kk _ h2)
theorem r_zast {i x : Int32} {k j : Nat} (hd : decode Y.2.1 pc = .ok (.bastore, 1)) (hs : SysR E ad t w) (hk : k < 24) (hkd : kdR k = 1) (hi : i = nI j) (hj : j < lnR k) (hx : vp_nar .boolean x = x) (kk : ∀ w' : wd, SysR E ad (stA t k j x) w' → G E Y Z (pc + 1) lv st w' ce sl) : G E Y Z pc lv (.int x :: .int i :: .ref (ad (k + 1)) :: st) w ce sl := by
  have h := hs.2.1 k hk
  have h2 := hs.st (j := j) (x := x) hk
  rw [hkd] at h h2
  exact g_zast hd h hi hj (lnR_lt k) hx (kk _ h2)
/-- another writing of the number on top -/
theorem g_norm {x y : Int32} (h : x = y) (k : G E Y Z pc lv (.int y :: st) w ce sl) : G E Y Z pc lv (.int x :: st) w ce sl := by
  subst h
  exact k
end RR
theorem nI_dec (a : Nat) : nI a + Int32.ofInt (-1) = nI a - 1 := by
  rw [Int32.sub_eq_add_neg]
  rfl
/-- how many messages, how many writes wait -/
def pN (t : tR) : Nat := (t.1 9).toNatClampNeg
def wN (t : tR) : Nat := (t.1 8).toNatClampNeg
def okP (t : tR) : Prop := t.1 9 = nI (pN t) ∧ pN t ≤ 64
def okW (t : tR) : Prop := t.1 8 = nI (wN t) ∧ wN t ≤ 519
def saA (t : tR) (k : Nat) (g : Nat → Int32) : tR := (t.1, fun k' => if k' = k then g else t.2 k')
theorem stA_saA (t : tR) (k j : Nat) (g : Nat → Int32) (x : Int32) : stA (saA t k g) k j x = saA t k (upd g j x) := by
  refine Prod.ext rfl (funext fun k' => ?_)
  show (if k' = k then upd (if k = k then g else t.2 k) j x else if k' = k then g else t.2 k') = if k' = k then upd g j x else t.2 k'
  by_cases h : k' = k
  · rw [if_pos h, if_pos rfl, if_pos h]
  · rw [if_neg h, if_neg h, if_neg h]
theorem saA_at (t : tR) (k : Nat) (g : Nat → Int32) : (saA t k g).2 k = g := if_pos rfl
theorem saA_ne (t : tR) {k k' : Nat} (g : Nat → Int32) (h : k' ≠ k) : (saA t k g).2 k' = t.2 k' := if_neg h
theorem saA_self (t : tR) (k : Nat) : saA t k (t.2 k) = t := by
  refine Prod.ext rfl (funext fun k' => ?_)
  show (if k' = k then t.2 k else t.2 k') = t.2 k'
  by_cases h : k' = k
  · rw [if_pos h, h]
  · rw [if_neg h]
theorem ix_mul (a b : Nat) : (Int32.ofNat a) * nI b = nI (a * b) := pk_mul a b
