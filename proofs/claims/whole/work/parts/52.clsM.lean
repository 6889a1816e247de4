set_option maxHeartbeats 4000000 in
set_option maxRecDepth 100000 in
theorem c_A_grow1 {E : gE} {w : wd} {K : kC} {L : lyC} {t : tC} (hs : SysC E K L t w) (f : Nat) (hf : f < K.2.1) (hfull : (t.2.1 f).length = L.2.2 f) (hle : (t.2.1 f).length ≤ 256) : Cn E y_A_grow1 4 1 400 [.ref (L.1 (14, f, 0)), .int (nI ((t.2.1 f).length + 1))] w (fun r w' => ∃ q c : Nat, (t.2.1 f).length < c ∧ r = some (.ref q) ∧ SysC E K (gwL L f q c) t w') := by
  refine Cn.of (by decide) (Nat.le_of_ble_eq_true rfl) (fun A => ?_)
  show G E y_A_grow1 _ 0 [(0, .ref (L.1 (14, f, 0))), (1, .int (nI ((t.2.1 f).length + 1)))] [] w 0 0
  have h5 := hs.2.2.2.2 f hf
  have v14 : vaC K L t (14, f, 0) := show vaC K L t (14, f, 0) from ⟨hf, rfl⟩
  have h0 := hs.lst hf
  refine g_aload_n (j := 0) d_A_grow1_0 rfl ?_
  refine g_get d_A_grow1_1 f_A_9 h0 rfl ?_
  by_cases hcap : L.2.2 f = 0
  · have hel : elC E L f = E.2.2.2 0 := if_pos hcap
    have hl0 : (t.2.1 f).length = 0 := by omega
    rw [hel] at h0
    refine g_eq (st' := [.ref (E.2.2.2 0)]) rfl (by rw [hel]) rfl ?_
    refine g_emlen d_A_grow1_4 ?_
    refine g_istore_n (lv' := [(2, _), (0, _), (1, _)]) d_A_grow1_5 (by decide) rfl ?_
    refine g_iload_n (j := 0) d_A_grow1_6 rfl ?_
    refine g_if_gt (tgt := 20) d_A_grow1_7 (by decide) (fun h => absurd h (by decide)) (fun _ => ?_)
    refine g_aload_n (j := 1) d_A_grow1_10 rfl ?_
    refine g_get d_A_grow1_11 f_A_9 h0 rfl ?_
    refine g_getsEm rfl d_A_grow1_14 ?_
    refine g_acmp_eq (rx := some (E.2.2.2 0)) (ry := some (E.2.2.2 0)) (tgt := 45) d_A_grow1_17 (by decide) (fun _ => ?_) (fun h => absurd rfl h)
    refine g_aload_n (j := 1) d_A_grow1_45 rfl ?_
    refine g_bipush (v := 10) d_A_grow1_46 (by decide) ?_
    refine g_iload_n (j := 2) d_A_grow1_48 rfl ?_
    refine g_max d_A_grow1_49 lk_A_79 wm_maxs wm_i wm_maxc ⟨(Nat.le_of_ble_eq_true rfl), (Nat.le_of_ble_eq_true rfl)⟩ (Nat.le_of_ble_eq_true rfl) (Nat.le_of_ble_eq_true rfl) (Nat.le_of_ble_eq_true rfl) ?_
    refine g_norm (y := nI 10) (by rw [hl0]; decide) ?_
    refine g_newA (N := 10) (t0 := 6) d_A_grow1_52 cl_A_7 (by decide) rfl rfl (by decide) (Nat.le_of_ble_eq_true rfl) (Nat.le_of_ble_eq_true rfl) (fun q hq => ?_)
    refine g_dup_x1 d_A_grow1_55 rfl rfl ?_
    refine g_put d_A_grow1_56 fw_A_9 (Or.inl rfl) (h0.nn hq) rfl rfl (Nat.le_of_ble_eq_true rfl) ?_
    have hqn : q ≠ L.1 (14, f, 0) := fun z => hq (z ▸ h0.1)
    refine g_areturnA d_A_grow1_59 rfl (Or.inr ⟨_, rfl⟩) (Nat.le_of_ble_eq_true rfl) (Nat.le_of_ble_eq_true rfl) ⟨q, 10, by omega, rfl, hs.gw hf hq (by omega) (by decide) (fun b e hb h1 => (hb.nn hq).un h1) (h0.nn hq).us ?_⟩
    have e9 : (fun i => if i < (t.2.1 f).length then some (L.1 (16, f, i)) else none) = fun _ => none := by
      funext i
      rw [if_neg (by omega)]
    rw [e9]
    exact wh.ns.un hqn
  · have hcp : 0 < L.2.2 f := by omega
    have hel : elC E L f = L.1 (15, f, 0) := if_neg hcap
    have he := hs.el hf hcp
    rw [hel] at h0
    refine g_eq (st' := [.ref (L.1 (15, f, 0))]) rfl (by rw [hel]) rfl ?_
    refine g_alen (t0 := 6) d_A_grow1_4 he rfl ?_
    refine g_norm (y := nI (t.2.1 f).length) (by rw [hfull]) ?_
    refine g_istore_n (lv' := [(2, _), (0, _), (1, _)]) d_A_grow1_5 (by decide) rfl ?_
    refine g_iload_n (j := 0) d_A_grow1_6 rfl ?_
    refine g_if_gt (tgt := 20) d_A_grow1_7 (by decide) (fun _ => ?_) (fun h => absurd ((nI_ltI (a := 0) (by omega) (by omega)).mpr (by omega)) h)
    refine g_iload_n (j := 0) d_A_grow1_20 rfl ?_
    refine g_iload_n (j := 2) d_A_grow1_21 rfl ?_
    refine g_iload_n (j := 0) d_A_grow1_22 rfl ?_
    refine g_isub d_A_grow1_23 ?_
    refine g_norm (y := nI 1) ((pk_sub (by omega)).trans (by rw [Nat.add_sub_cancel_left])) ?_
    refine g_iload_n (j := 0) d_A_grow1_24 rfl ?_
    refine g_iconst (v := 1) d_A_grow1_25 (by decide) ?_
    refine g_ishr d_A_grow1_26 ?_
    refine g_norm (y := nI ((t.2.1 f).length / 2)) (by have k := pk_shrN (n := (t.2.1 f).length) (by omega) ((1 : Int32) &&& 31) 1 (by decide); rw [Nat.pow_one] at k; exact k) ?_
    have hle2 : (t.2.1 f).length + (if 1 < (t.2.1 f).length / 2 then (t.2.1 f).length / 2 else 1) ≤ 400 := by
      split <;> omega
    have hgt : (t.2.1 f).length < (t.2.1 f).length + (if 1 < (t.2.1 f).length / 2 then (t.2.1 f).length / 2 else 1) := by
      split <;> omega
    refine g_callS (c_U_newLength (t.2.1 f).length (by omega) (by omega)) ok_U_newLength lk_A_73 st_U_newLength d_A_grow1_27 rfl rfl (Nat.le_of_ble_eq_true rfl) ⟨(Nat.le_of_ble_eq_true rfl), (Nat.le_of_ble_eq_true rfl)⟩ (Nat.le_of_ble_eq_true rfl) (Nat.le_of_ble_eq_true rfl) (fun r w' hq => ?_)
    obtain ⟨rfl, rfl⟩ := hq
    generalize (t.2.1 f).length + (if 1 < (t.2.1 f).length / 2 then (t.2.1 f).length / 2 else 1) = nc at hle2 hgt ⊢
    refine g_istore_n (lv' := [(3, _), (2, _), (0, _), (1, _)]) d_A_grow1_30 (by decide) rfl ?_
    refine g_aload_n (j := 2) d_A_grow1_31 rfl ?_
    refine g_aload_n (j := 2) d_A_grow1_32 rfl ?_
    refine g_get d_A_grow1_33 f_A_9 h0 rfl ?_
    refine g_iload_n (j := 0) d_A_grow1_36 rfl ?_
    have hel2 : ∀ i, i < L.2.2 f → ∀ y, (if i < (t.2.1 f).length then some (L.1 (16, f, i)) else none) = some y → ∃ fs, wh w' y (.inr (8, fs)) := by
      intro i hi y hy
      rw [if_pos (by omega)] at hy
      cases hy
      exact ⟨_, hs.wr (f := f) (j := i) (Or.inl hf) (by omega)⟩
    refine g_callS (c_V_copyOf0 nc he (by omega) (by omega) hel2) ok_V_copyOf0 lk_A_66 st_V_copyOf0 d_A_grow1_37 rfl rfl (Nat.le_of_ble_eq_true rfl) ⟨(Nat.le_of_ble_eq_true rfl), (Nat.le_of_ble_eq_true rfl)⟩ (Nat.le_of_ble_eq_true rfl) (by show 0 + nc ≤ 400; omega) (fun r w'' hq => ?_)
    obtain ⟨q, hq, rfl, rfl⟩ := hq
    refine g_dup_x1 d_A_grow1_40 rfl rfl ?_
    refine g_put d_A_grow1_41 fw_A_9 (Or.inl rfl) (h0.nn hq) rfl rfl (Nat.le_of_ble_eq_true rfl) ?_
    have hqn : q ≠ L.1 (14, f, 0) := fun z => hq (z ▸ h0.1)
    refine g_areturnA d_A_grow1_44 rfl (Or.inr ⟨_, rfl⟩) (Nat.le_of_ble_eq_true rfl) (by show 0 + nc ≤ 400; omega) ⟨q, nc, hgt, rfl, hs.gw hf hq hgt (by omega) (fun b e hb h1 => (hb.nn hq).un h1) (h0.nn hq).us ?_⟩
    have e9 : va_cpy (fun i => if i < (t.2.1 f).length then some (L.1 (16, f, i)) else none) (fun _ => none) 0 0 (L.2.2 f) = fun i => if i < (t.2.1 f).length then some (L.1 (16, f, i)) else none := by
      funext i
      by_cases hi : i < L.2.2 f
      · rw [pk_cpy_in (by omega) (by omega), show 0 + (i - 0) = i by omega]
      · rw [pk_cpy_out (by omega), if_neg (by omega)]
    rw [e9]
    exact wh.ns.un hqn
set_option maxHeartbeats 4000000 in
set_option maxRecDepth 100000 in
theorem c_A_grow0 {E : gE} {w : wd} {K : kC} {L : lyC} {t : tC} (hs : SysC E K L t w) (f : Nat) (hf : f < K.2.1) (hfull : (t.2.1 f).length = L.2.2 f) (hle : (t.2.1 f).length ≤ 256) : Cn E y_A_grow0 5 1 400 [.ref (L.1 (14, f, 0))] w (fun r w' => ∃ q c : Nat, (t.2.1 f).length < c ∧ r = some (.ref q) ∧ SysC E K (gwL L f q c) t w') := by
  refine Cn.of (by decide) (Nat.le_of_ble_eq_true rfl) (fun A => ?_)
  show G E y_A_grow0 _ 0 [(0, .ref (L.1 (14, f, 0)))] [] w 0 0
  refine g_aload_n (j := 0) d_A_grow0_0 rfl ?_
  refine g_aload_n (j := 0) d_A_grow0_1 rfl ?_
  refine g_get d_A_grow0_2 f_A_48 (hs.lst hf) rfl ?_
  refine g_iconst (v := 1) d_A_grow0_5 (by decide) ?_
  refine g_iadd d_A_grow0_6 ?_
  refine g_norm (y := nI ((t.2.1 f).length + 1)) (nI_1 _) ?_
  refine g_callV (c_A_grow1 hs f hf hfull hle) ok_A_grow1 lk_A_69 in_A_grow1 se_A_grow1 (hs.lst hf) rfl d_A_grow0_7 rfl rfl (Nat.le_of_ble_eq_true rfl) ⟨(Nat.le_of_ble_eq_true rfl), (Nat.le_of_ble_eq_true rfl)⟩ (Nat.le_of_ble_eq_true rfl) (Nat.le_of_ble_eq_true rfl) (fun r w' hq => ?_)
  obtain ⟨q, c, hc, rfl, hs2⟩ := hq
  exact g_areturnA d_A_grow0_10 rfl (Or.inr ⟨_, rfl⟩) (Nat.le_of_ble_eq_true rfl) (Nat.le_of_ble_eq_true rfl) ⟨q, c, hc, rfl, hs2⟩

set_option maxHeartbeats 4000000 in
set_option maxRecDepth 100000 in
theorem l_A_add1 {E : gE} {w : wd} {K : kC} {L : lyC} {t : tC} (hs : SysC E K L t w) (f : Nat) (hf : f < K.2.1) (hcap : (t.2.1 f).length < L.2.2 f) (h4 : (t.2.1 4).length = 1) {A : Nat → Prop} {ce sl : Nat} (hce : ce ≤ 1) (hsl : sl ≤ 400) {L0 : lyC} (hL0 : ∀ x : nmC, x.1 < 15 → L.1 x = L0.1 x) : G E y_A_add1 (rmD 6 1 400, A, (fun r w' => r = none ∧ ∃ L' : lyC, (∀ x : nmC, x.1 < 15 → L'.1 x = L0.1 x) ∧ SysC E K L' (adC t f) w'), fun _ => True) 11 [(2, .ref (L.1 (15, f, 0))), (0, .ref (L.1 (14, f, 0))), (1, .ref (L.1 (16, 4, 0))), (3, .int (nI (t.2.1 f).length))] [] w ce sl := by
  have h5 := hs.2.2.2.2 f hf
  have hcp : 0 < L.2.2 f := by omega
  have hel : elC E L f = L.1 (15, f, 0) := if_neg (by omega)
  have v14 : vaC K L t (14, f, 0) := show vaC K L t (14, f, 0) from ⟨hf, rfl⟩
  have v15 : vaC K L t (15, f, 0) := show vaC K L t (15, f, 0) from ⟨hf, rfl, hcp⟩
  have nle : L.1 (14, f, 0) ≠ L.1 (15, f, 0) := fun z => by cases hs.2.1 _ _ v14 v15 z
  have h0 := hs.lst hf
  have h0' := h0
  refine g_aload_n (j := 0) d_A_add1_11 rfl ?_
  refine g_iload_n (j := 3) d_A_add1_12 rfl ?_
  refine g_aload_n (j := 2) d_A_add1_13 rfl ?_
  refine g_aastO (t0 := 6) (j := (t.2.1 f).length) d_A_add1_14 (hs.el hf hcp) rfl wc_cast (hs.wr (f := 4) (j := 0) (Or.inr rfl) (by omega)) rfl rfl hcap (by omega) ?_
  refine g_aload_n (j := 1) d_A_add1_15 rfl ?_
  refine g_iload_n (j := 3) d_A_add1_16 rfl ?_
  refine g_iconst (v := 1) d_A_add1_17 (by decide) ?_
  refine g_iadd d_A_add1_18 ?_
  refine g_norm (y := nI ((t.2.1 f).length + 1)) (nI_1 _) ?_
  refine g_put d_A_add1_19 fw_A_48 (Or.inl rfl) (h0.un nle) rfl rfl (Nat.le_of_ble_eq_true rfl) ?_
  refine g_return d_A_add1_22 rfl hce hsl ⟨rfl, adL L f (t.2.1 f).length, fun x hx => ?_, hs.ad hf rfl hcap h4 (fun b e hb h1 h2 => (hb.un (h2 hcp)).un h1) (h0.un nle).us ((hs.el hf hcp).us.un (Ne.symm nle))⟩
  refine Eq.trans (congrArg L.1 (if_neg (fun z => ?_))) (hL0 x hx)
  rw [z] at hx
  exact absurd hx (show ¬ 16 < 15 by decide)
set_option maxHeartbeats 4000000 in
set_option maxRecDepth 100000 in
theorem c_A_add1 {E : gE} {w : wd} {K : kC} {L : lyC} {t : tC} (hs : SysC E K L t w) (f : Nat) (hf : f < K.2.1) (hle : (t.2.1 f).length ≤ 256) (h4 : (t.2.1 4).length = 1) : Cn E y_A_add1 6 1 400 [.ref (L.1 (14, f, 0)), .ref (L.1 (16, 4, 0)), .ref (elC E L f), .int (nI (t.2.1 f).length)] w (fun r w' => r = none ∧ ∃ L' : lyC, (∀ x : nmC, x.1 < 15 → L'.1 x = L.1 x) ∧ SysC E K L' (adC t f) w') := by
  refine Cn.of (by decide) (Nat.le_of_ble_eq_true rfl) (fun A => ?_)
  show G E y_A_add1 _ 0 [(0, .ref (L.1 (14, f, 0))), (1, .ref (L.1 (16, 4, 0))), (2, .ref (elC E L f)), (3, .int (nI (t.2.1 f).length))] [] w 0 0
  have h5 := hs.2.2.2.2 f hf
  have grow : (t.2.1 f).length = L.2.2 f → G E y_A_add1 (rmD 6 1 400, A, (fun r w' => r = none ∧ ∃ L' : lyC, (∀ x : nmC, x.1 < 15 → L'.1 x = L.1 x) ∧ SysC E K L' (adC t f) w'), fun _ => True) 6 [(0, .ref (L.1 (14, f, 0))), (1, .ref (L.1 (16, 4, 0))), (2, .ref (elC E L f)), (3, .int (nI (t.2.1 f).length))] [] w 0 0 := by
    intro hfull
    refine g_aload_n (j := 0) d_A_add1_6 rfl ?_
    refine g_callV (c_A_grow0 hs f hf hfull hle) ok_A_grow0 lk_A_129 in_A_grow0 se_A_grow0 (hs.lst hf) rfl d_A_add1_7 rfl rfl (Nat.le_of_ble_eq_true rfl) ⟨(Nat.le_of_ble_eq_true rfl), (Nat.le_of_ble_eq_true rfl)⟩ (Nat.le_of_ble_eq_true rfl) (Nat.le_of_ble_eq_true rfl) (fun r w' hq => ?_)
    obtain ⟨q, c, hc, rfl, hs2⟩ := hq
    refine g_astore_n (lv' := [(2, _), (0, _), (1, _), (3, _)]) d_A_add1_10 (by decide) rfl ?_
    have hL0 : ∀ x : nmC, x.1 < 15 → (gwL L f q c).1 x = L.1 x := fun x hx => gwo L f q c (fun z => by rw [z] at hx; exact absurd hx (show ¬ 15 < 15 by decide))
    have e1 := gw15 L f q c
    have e2 := hL0 (14, f, 0) (show 14 < 15 by decide)
    have e3 : (gwL L f q c).1 (16, 4, 0) = L.1 (16, 4, 0) := gwo L f q c (fun z => by cases z)
    have h9 := l_A_add1 hs2 f hf (by rw [gwc]; exact hc) h4 (A := A) (ce := 0 + 1) (sl := 0 + 400) (Nat.le_of_ble_eq_true rfl) (Nat.le_of_ble_eq_true rfl) hL0
    rw [e1, e2, e3] at h9
    exact h9
  refine g_iload_n (j := 3) d_A_add1_0 rfl ?_
  refine g_aload_n (j := 2) d_A_add1_1 rfl ?_
  by_cases hcap : L.2.2 f = 0
  · have hel : elC E L f = E.2.2.2 0 := if_pos hcap
    refine g_eq (st' := [.ref (E.2.2.2 0), .int (nI (t.2.1 f).length)]) rfl (by rw [hel]) rfl ?_
    refine g_emlen d_A_add1_2 ?_
    refine g_icmp_ne (tgt := 11) d_A_add1_3 (by decide) (fun h => absurd (by rw [show (t.2.1 f).length = 0 by omega]) h) (fun _ => ?_)
    exact grow (by omega)
  · have hcp : 0 < L.2.2 f := by omega
    have hel : elC E L f = L.1 (15, f, 0) := if_neg hcap
    refine g_eq (st' := [.ref (L.1 (15, f, 0)), .int (nI (t.2.1 f).length)]) rfl (by rw [hel]) rfl ?_
    refine g_alen (t0 := 6) d_A_add1_2 (hs.el hf hcp) rfl ?_
    refine g_icmp_ne (tgt := 11) d_A_add1_3 (by decide) (fun h => ?_) (fun h => ?_)
    · have hlt : (t.2.1 f).length < L.2.2 f := by
        have : (t.2.1 f).length ≠ L.2.2 f := fun z => h (by show nI _ = nI (L.2.2 f); rw [z])
        omega
      refine g_lv [2, 0, 1, 3] rfl ?_
      have h9 := l_A_add1 hs f hf hlt h4 (A := A) (ce := 0) (sl := 0) (by decide) (by decide) (fun _ _ => rfl)
      rw [hel]
      exact h9
    · exact grow ((nI_eq (b := L.2.2 f) (by omega) (by omega)).mp h)
set_option maxHeartbeats 4000000 in
set_option maxRecDepth 100000 in
theorem c_A_add0 {E : gE} {w : wd} {K : kC} {L : lyC} {t : tC} (hs : SysC E K L t w) (f : Nat) (hf : f < K.2.1) (hle : (t.2.1 f).length ≤ 256) (h4 : (t.2.1 4).length = 1) : Cn E y_A_add0 7 1 400 [.ref (L.1 (14, f, 0)), .ref (L.1 (16, 4, 0))] w (fun r w' => r = some (.int 1) ∧ ∃ L' : lyC, (∀ x : nmC, x.1 < 15 → L'.1 x = L.1 x) ∧ SysC E K L' (adC t f) w') := by
  refine Cn.of (by decide) (Nat.le_of_ble_eq_true rfl) (fun A => ?_)
  show G E y_A_add0 _ 0 [(0, .ref (L.1 (14, f, 0))), (1, .ref (L.1 (16, 4, 0)))] [] w 0 0
  have h0 := hs.lst hf
  refine g_aload_n (j := 0) d_A_add0_0 rfl ?_
  refine g_dup d_A_add0_1 rfl ?_
  refine g_get d_A_add0_2 f_A_63 h0 rfl ?_
  refine g_iconst (v := 1) d_A_add0_5 (by decide) ?_
  refine g_iadd d_A_add0_6 ?_
  refine g_put d_A_add0_7 fw_A_63 (Or.inl rfl) h0 rfl rfl (Nat.le_of_ble_eq_true rfl) ?_
  have hs2 := hs.mo hf (fun b e hb h1 => hb.un h1) (h0.us (e := .inr (9, [.ref (elC E L f), .int (nI (t.2.1 f).length), .int (L.2.1 f + 1)])))
  generalize hww : wu w (L.1 (14, f, 0)) (.inr (9, [.ref (elC E L f), .int (nI (t.2.1 f).length), .int (L.2.1 f + 1)])) = w1 at hs2
  refine g_eq rfl rfl (show _ = w1 from hww) ?_
  have h1 := hs2.lst hf
  refine g_aload_n (j := 0) d_A_add0_10 rfl ?_
  refine g_aload_n (j := 1) d_A_add0_11 rfl ?_
  refine g_aload_n (j := 0) d_A_add0_12 rfl ?_
  refine g_get d_A_add0_13 f_A_9 h1 rfl ?_
  refine g_aload_n (j := 0) d_A_add0_16 rfl ?_
  refine g_get d_A_add0_17 f_A_48 h1 rfl ?_
  refine g_callV (c_A_add1 hs2 f hf hle h4) ok_A_add1 lk_A_131 in_A_add1 se_A_add1 h1 rfl d_A_add0_20 rfl rfl (Nat.le_of_ble_eq_true rfl) ⟨(Nat.le_of_ble_eq_true rfl), (Nat.le_of_ble_eq_true rfl)⟩ (Nat.le_of_ble_eq_true rfl) (Nat.le_of_ble_eq_true rfl) (fun r w' hq => ?_)
  obtain ⟨rfl, L', hL, hs3⟩ := hq
  refine g_iconst (v := 1) d_A_add0_23 (by decide) ?_
  exact g_zreturn d_A_add0_24 rfl (by decide) (Nat.le_of_ble_eq_true rfl) (Nat.le_of_ble_eq_true rfl) ⟨rfl, L', hL, hs3⟩
