theorem sf_w (K : kC) (t : tC) (f g : Nat) (hg : g ≠ 4) : ∀ e ∈ (s_S_storeFirst K t f).2.1 g, e ∈ t.2.1 g := by
  intro e
  have key : ∀ e ∈ (rmC t f).2.1 g, e ∈ t.2.1 g := by
    intro e he
    have q : (rmC t f).2.1 g = if g = f then (t.2.1 f).tail else t.2.1 g := if_neg hg
    rw [q] at he
    by_cases h : g = f
    · rw [if_pos h] at he
      rw [h]
      exact List.mem_of_mem_tail he
    · rw [if_neg h] at he
      exact he
  unfold s_S_storeFirst
  split
  · split
    · rw [snd_w]
      exact key e
    · rw [snd_w]
      exact key e
  · exact id
theorem okWC.sf {K : kC} {t : tC} (h : okWC K t) (h4 : K.2.1 ≤ 4) (f : Nat) : okWC K (s_S_storeFirst K t f) := fun g hg e he => h g hg e (sf_w K t f g (by omega) e he)
/-- what may be stored of one file, at most r writes -/
def swI (K : kC) (f : Nat) : Nat → tC → Nat → tC × Nat
  | 0, t, b => (t, b)
  | r + 1, t, b => if s_S_mayStore K t f = 0 then (t, b) else swI K f r (s_S_storeFirst K t f) (b + 1)
theorem okWC.sw {K : kC} (h4 : K.2.1 ≤ 4) (f : Nat) : ∀ (r : Nat) {t : tC} (b : Nat), okWC K t → okWC K (swI K f r t b).1 := by
  intro r
  induction r with
  | zero => exact fun b h => h
  | succ r ih =>
    intro t b h
    unfold swI
    split
    · exact h
    · exact ih _ (h.sf h4 f)
/-- file by file -/
def swO (K : kC) : Nat → Nat → tC → Nat → tC × Nat
  | 0, _, t, b => (t, b)
  | r + 1, f, t, b => swO K r (f + 1) (swI K f 256 t b).1 (swI K f 256 t b).2
def s_S_storeWhatMay (K : kC) (t : tC) : tC × Int32 := ((swO K K.2.1 0 t 0).1, nI (swO K K.2.1 0 t 0).2)

set_option maxHeartbeats 4000000 in
set_option maxRecDepth 100000 in
theorem l_S_swI {E : gE} {K : kC} {L0 : lyC} {ce sl f : Nat} {A : Nat → Prop} {Q : Option Value → wd → Prop} (hf : f < K.2.1) {V : tC × Nat} (hce : ce ≤ 0) (hsl : sl ≤ 0) (kk : ∀ {L : lyC} {w : wd} (t : tC) (b n : Nat), t = V.1 → b = V.2 → (∀ x : nmC, x.1 < 15 → L.1 x = L0.1 x) → SysC E K L t w → G E y_S_storeWhatMay (rmD 5 0 0, A, Q, fun _ => True) 52 [(3, .int (nI f)), (2, .int (nI b)), (4, .int (nI n)), (0, .ref (L.1 (8, 0, 0))), (1, .ref (L.1 (1, 0, 0)))] [] w ce sl) : ∀ (r n b : Nat) {L : lyC} {t : tC} {w : wd}, swI K f r t b = V → (∀ x : nmC, x.1 < 15 → L.1 x = L0.1 x) → okWC K t → SysC E K L t w → r + n = 256 → G E y_S_storeWhatMay (rmD 5 0 0, A, Q, fun _ => True) 16 [(4, .int (nI n)), (3, .int (nI f)), (2, .int (nI b)), (0, .ref (L.1 (8, 0, 0))), (1, .ref (L.1 (1, 0, 0)))] [] w ce sl := by
  intro r
  induction r with
  | zero =>
    intro n b L t w hV hL hW hs hr
    have h4 := hs.nc
    refine g_iload (j := 0) d_S_storeWhatMay_16 rfl ?_
    refine g_sipush (v := 256) d_S_storeWhatMay_18 (by decide) ?_
    refine g_icmp_ge (tgt := 52) d_S_storeWhatMay_21 (by decide) (fun h1 => ?_) (fun h => absurd ((nI_leI (a := 256) (by omega) (by omega)).mpr (by omega)) h)
    refine g_lv [1, 2, 0, 3, 4] rfl ?_
    exact kk _ _ _ (by rw [← hV, swI]) (by rw [← hV, swI]) hL hs
  | succ r ih =>
    intro n b L t w hV hL hW hs hr
    have h4 := hs.nc
    refine g_iload (j := 0) d_S_storeWhatMay_16 rfl ?_
    refine g_sipush (v := 256) d_S_storeWhatMay_18 (by decide) ?_
    refine g_icmp_ge (tgt := 52) d_S_storeWhatMay_21 (by decide) (fun h => absurd h (fun z => absurd ((nI_leI (a := 256) (by omega) (by omega)).mp z) (by omega))) (fun h1 => ?_)
    refine g_aload_n (j := 3) d_S_storeWhatMay_24 rfl ?_
    refine g_aload_n (j := 3) d_S_storeWhatMay_25 rfl ?_
    refine g_get d_S_storeWhatMay_26 f_S_37 hs.srv rfl ?_
    refine g_iload_n (j := 1) d_S_storeWhatMay_29 rfl ?_
    refine g_aald (t0 := 5) (j := f) d_S_storeWhatMay_30 hs.fls rfl rfl (by omega) (by omega) (rf_if (by omega)) ?_
    refine g_callV (c_S_mayStore hs f (by omega)) ok_S_mayStore lk_S_132 in_S_mayStore se_S_mayStore hs.srv rfl d_S_storeWhatMay_31 rfl rfl (Nat.le_of_ble_eq_true rfl) ⟨(Nat.le_of_ble_eq_true rfl), (Nat.le_of_ble_eq_true rfl)⟩ (by show ce + 0 ≤ 0; omega) (by show sl + 0 ≤ 0; omega) (fun r w' hq => ?_)
    obtain ⟨rfl, rfl⟩ := hq
    refine g_if_eq (tgt := 52) d_S_storeWhatMay_34 (by decide) (fun h2 => ?_) (fun h2 => ?_)
    · skip
      refine g_lv [1, 2, 0, 3, 4] rfl ?_
      exact kk _ _ _ (by rw [← hV, swI, if_pos h2]) (by rw [← hV, swI, if_pos h2]) hL hs
    · skip
      refine g_aload_n (j := 3) d_S_storeWhatMay_37 rfl ?_
      refine g_iload_n (j := 1) d_S_storeWhatMay_38 rfl ?_
      refine g_aload_n (j := 4) d_S_storeWhatMay_39 rfl ?_
      refine g_callV (c_S_storeFirst hs f (by omega) hW) ok_S_storeFirst lk_S_136 in_S_storeFirst se_S_storeFirst hs.srv rfl d_S_storeWhatMay_40 rfl rfl (Nat.le_of_ble_eq_true rfl) ⟨(Nat.le_of_ble_eq_true rfl), (Nat.le_of_ble_eq_true rfl)⟩ (by show ce + 0 ≤ 0; omega) (by show sl + 0 ≤ 0; omega) (fun r w' hq => ?_)
      obtain ⟨rfl, L4, hL5, hs3⟩ := hq
      rw [← hL5 (8, 0, 0) (show 8 < 15 by decide), ← hL5 (1, 0, 0) (show 1 < 15 by decide)]
      refine g_iinc (j := 2) (v := nI (b + 1)) (lv' := [(2, _), (4, _), (3, _), (0, _), (1, _)]) d_S_storeWhatMay_43 rfl (nI_1 b) (by decide) rfl ?_
      refine g_iinc (j := 1) (v := nI (n + 1)) (lv' := [(4, _), (2, _), (3, _), (0, _), (1, _)]) d_S_storeWhatMay_46 rfl (nI_1 n) (by decide) rfl ?_
      refine g_goto (tgt := 16) d_S_storeWhatMay_49 (by decide) ?_
      refine g_lv [0, 2, 1, 3, 4] rfl ?_
      exact ih (n + 1) (b + 1) (by rw [← hV, swI, if_neg h2]) (fun x hx => (hL5 x hx).trans (hL x hx)) (hW.sf h4.2.2.2 f) hs3 (by omega)
