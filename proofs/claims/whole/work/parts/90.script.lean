section SC
variable {E : gE} {Y : mY} {Z : gZ} {pc : Nat} {lv : List (Nat × Value)} {st : List Value} {w : wd} {ce sl : Nat}
/-- a number of the script -/
theorem g_sld {b L j : Nat} {xs : Nat → Int32} {i : Int32} (hex : ∀ s, Z.2.2.2 s → va_X b L xs s s.heap ∧ b < s.heap.size) (hbA : ¬ Z.2.1 b) (hi : i = nI j) (hj : j < L) (hL : L < 2 ^ 31) (hd : decode Y.2.1 pc = .ok (.iaload, 1)) (k : G E Y Z (pc + 1) lv (.int (xs j) :: st) w ce sl) : G E Y Z pc lv (.int i :: .ref b :: st) w ce sl := by
  intro p e s m args below meth c H locs ls X hl hP hD hS
  obtain ⟨hX, hbl⟩ := hex s X.ex
  have hc : i.toNatClampNeg = j := pk_cl j hi (by omega)
  refine va_sld X.x X.b hX hbl hbA hS (i := i) (fun z => ?_) hd ?_
  · rcases z with z | z
    · rw [hi] at z
      exact nI_pos (by omega) z
    · rw [hc] at z
      omega
  · rw [hc]
    exact k p e s m args below meth c H locs ls X hl hP hD hS
/-- how long the script is -/
theorem g_slen {b L : Nat} {xs : Nat → Int32} (hex : ∀ s, Z.2.2.2 s → va_X b L xs s s.heap ∧ b < s.heap.size) (hbA : ¬ Z.2.1 b) (hd : decode Y.2.1 pc = .ok (.arraylength, 1)) (k : G E Y Z (pc + 1) lv (.int (nI L) :: st) w ce sl) : G E Y Z pc lv (.ref b :: st) w ce sl := by
  intro p e s m args below meth c H locs ls X hl hP hD hS
  obtain ⟨hX, hbl⟩ := hex s X.ex
  exact va_slen X.x X.b hX hbl hbA hS hd (k p e s m args below meth c H locs ls X hl hP hD hS)
end SC
