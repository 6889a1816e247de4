set_option maxHeartbeats 4000000 in
set_option maxRecDepth 100000 in
theorem l_S_swO {E : gE} {K : kC} {L0 : lyC} {A : Nat → Prop} {V : tC × Nat} : ∀ (r f b : Nat) {L : lyC} {t : tC} {w : wd}, swO K r f t b = V → (∀ x : nmC, x.1 < 15 → L.1 x = L0.1 x) → okWC K t → SysC E K L t w → r + f = K.2.1 → G E y_S_storeWhatMay (rmD 5 0 0, A, (fun r w' => r = some (.int (nI V.2)) ∧ ∃ L' : lyC, (∀ x : nmC, x.1 < 15 → L'.1 x = L0.1 x) ∧ SysC E K L' V.1 w'), fun _ => True) 4 [(3, .int (nI f)), (2, .int (nI b)), (0, .ref (L.1 (8, 0, 0))), (1, .ref (L.1 (1, 0, 0)))] [] w 0 0 := by
  intro r
  induction r with
  | zero =>
    intro f b L t w hV hL hW hs hr
    have h4 := hs.nc
    refine g_iload_n (j := 0) d_S_storeWhatMay_4 rfl ?_
    refine g_aload_n (j := 2) d_S_storeWhatMay_5 rfl ?_
    refine g_get d_S_storeWhatMay_6 f_S_37 hs.srv rfl ?_
    refine g_alen (t0 := 5) d_S_storeWhatMay_9 hs.fls rfl ?_
    refine g_norm (y := nI K.2.1) rfl ?_
    refine g_icmp_ge (tgt := 58) d_S_storeWhatMay_10 (by decide) (fun h1 => ?_) (fun h => absurd ((nI_leI (by omega) (by omega)).mpr (by omega)) h)
    refine g_iload_n (j := 1) d_S_storeWhatMay_58 rfl ?_
    subst hV
    exact g_ireturn d_S_storeWhatMay_59 rfl (Nat.le_of_ble_eq_true rfl) (Nat.le_of_ble_eq_true rfl) ⟨rfl, _, hL, hs⟩
  | succ r ih =>
    intro f b L t w hV hL hW hs hr
    have h4 := hs.nc
    refine g_iload_n (j := 0) d_S_storeWhatMay_4 rfl ?_
    refine g_aload_n (j := 2) d_S_storeWhatMay_5 rfl ?_
    refine g_get d_S_storeWhatMay_6 f_S_37 hs.srv rfl ?_
    refine g_alen (t0 := 5) d_S_storeWhatMay_9 hs.fls rfl ?_
    refine g_norm (y := nI K.2.1) rfl ?_
    refine g_icmp_ge (tgt := 58) d_S_storeWhatMay_10 (by decide) (fun h => absurd h (fun z => absurd ((nI_leI (by omega) (by omega)).mp z) (by omega))) (fun h1 => ?_)
    refine g_iconst (v := 0) d_S_storeWhatMay_13 (by decide) ?_
    refine g_istore (lv' := [(4, _), (3, _), (2, _), (0, _), (1, _)]) d_S_storeWhatMay_14 (by decide) rfl ?_
    refine l_S_swI (V := swI K f 256 t b) (L0 := L0) (by omega) (Nat.le_refl _) (Nat.le_refl _) ?_ 256 0 b rfl hL hW hs (by omega)
    intro L1 w1 t1 b1 n1 e1 e2 hL1 hs1
    have hW1 := hW.sw h4.2.2.2 f 256 b
    rw [← e1] at hW1
    refine g_iinc (j := 0) (v := nI (f + 1)) (lv' := [(3, _), (2, _), (4, _), (0, _), (1, _)]) d_S_storeWhatMay_52 rfl (nI_1 f) (by decide) rfl ?_
    refine g_goto (tgt := 4) d_S_storeWhatMay_55 (by decide) ?_
    refine g_lv [0, 1, 3, 4] rfl ?_
    exact ih (f + 1) b1 (by rw [e1, e2, ← hV, swO]) hL1 hW1 hs1 (by omega)

set_option maxHeartbeats 4000000 in
set_option maxRecDepth 100000 in
theorem c_S_storeWhatMay {E : gE} {w : wd} {K : kC} {L : lyC} {t : tC} (hs : SysC E K L t w) (hW : okWC K t) : Cn E y_S_storeWhatMay 5 0 0 [.ref (L.1 (8, 0, 0)), .ref (L.1 (1, 0, 0))] w (fun r w' => r = some (.int (s_S_storeWhatMay K t).2) ∧ ∃ L' : lyC, (∀ x : nmC, x.1 < 15 → L'.1 x = L.1 x) ∧ SysC E K L' (s_S_storeWhatMay K t).1 w') := by
  refine Cn.of (by decide) (Nat.le_of_ble_eq_true rfl) (fun A => ?_)
  show G E y_S_storeWhatMay _ 0 [(0, .ref (L.1 (8, 0, 0))), (1, .ref (L.1 (1, 0, 0)))] [] w 0 0
  have h4 := hs.nc
  refine g_iconst (v := 0) d_S_storeWhatMay_0 (by decide) ?_
  refine g_istore_n (lv' := [(2, _), (0, _), (1, _)]) d_S_storeWhatMay_1 (by decide) rfl ?_
  refine g_iconst (v := 0) d_S_storeWhatMay_2 (by decide) ?_
  refine g_istore_n (lv' := [(3, _), (2, _), (0, _), (1, _)]) d_S_storeWhatMay_3 (by decide) rfl ?_
  exact l_S_swO (V := swO K K.2.1 0 t 0) K.2.1 0 0 rfl (fun _ _ => rfl) hW hs (by omega)

def s_S_letTimeGoBy (K : kC) (t : tC) (n : Int32) : tC × Int32 :=
  ((s_S_storeWhatMay K (stC t 2 0 0 ((t.1 2 0 0) + n)) ).1, (s_S_storeWhatMay K (stC t 2 0 0 ((t.1 2 0 0) + n)) ).2)
set_option maxHeartbeats 4000000 in
set_option maxRecDepth 100000 in
theorem c_S_letTimeGoBy {E : gE} {w : wd} {K : kC} {L : lyC} {t : tC} (hs : SysC E K L t w) (n : Int32) (hW : okWC K t) : Cn E y_S_letTimeGoBy 6 0 0 [.ref (L.1 (8, 0, 0)), .int n, .ref (L.1 (1, 0, 0))] w (fun r w' => r = some (.int (s_S_letTimeGoBy K t n).2) ∧ ∃ L' : lyC, (∀ x : nmC, x.1 < 15 → L'.1 x = L.1 x) ∧ SysC E K L' (s_S_letTimeGoBy K t n).1 w') := by
  refine Cn.of (by decide) (Nat.le_of_ble_eq_true rfl) (fun A => ?_)
  show G E y_S_letTimeGoBy _ 0 [(0, .ref (L.1 (8, 0, 0))), (1, .int n), (2, .ref (L.1 (1, 0, 0)))] [] w 0 0
  have h4 := hs.nc
  have h64 := hs.pn
  refine g_aload_n (j := 0) d_S_letTimeGoBy_0 rfl ?_
  refine g_dup d_S_letTimeGoBy_1 rfl ?_
  refine g_get d_S_letTimeGoBy_2 f_S_9 hs.srv rfl ?_
  refine g_iload_n (j := 1) d_S_letTimeGoBy_5 rfl ?_
  refine g_iadd d_S_letTimeGoBy_6 ?_
  refine k_srv  (j := 0)  d_S_letTimeGoBy_7 fw_S_9 hs (fun _ => rfl) rfl rfl (Nat.le_of_ble_eq_true rfl) (fun w1 hs2 => ?_)
  refine g_aload_n (j := 0) d_S_letTimeGoBy_10 rfl ?_
  refine g_aload_n (j := 2) d_S_letTimeGoBy_11 rfl ?_
  refine g_callV (c_S_storeWhatMay hs2 hW) ok_S_storeWhatMay lk_S_60 in_S_storeWhatMay se_S_storeWhatMay hs2.srv rfl d_S_letTimeGoBy_12 rfl rfl (Nat.le_of_ble_eq_true rfl) ⟨(Nat.le_of_ble_eq_true rfl), (Nat.le_of_ble_eq_true rfl)⟩ (Nat.le_of_ble_eq_true rfl) (Nat.le_of_ble_eq_true rfl) (fun r w' hq => ?_)
  obtain ⟨rfl, L4, hL5, hs3⟩ := hq
  rw [← hL5 (8, 0, 0) (show 8 < 15 by decide), ← hL5 (1, 0, 0) (show 1 < 15 by decide)]
  have hz : s_S_letTimeGoBy K t n = ((s_S_storeWhatMay K (stC t 2 0 0 ((t.1 2 0 0) + n)) ).1, (s_S_storeWhatMay K (stC t 2 0 0 ((t.1 2 0 0) + n)) ).2) := by
    unfold s_S_letTimeGoBy
    rfl
  exact g_ireturn d_S_letTimeGoBy_15 rfl (Nat.le_of_ble_eq_true rfl) (Nat.le_of_ble_eq_true rfl) ⟨by rw [hz], _, (fun x hx => (hL5 x hx).trans ((fun _ _ => rfl) x hx)), by rw [hz]; exact hs3⟩

def gdC (K : kC) (t : tC) : Nat → tC
  | 0 => t
  | n + 1 => s_F_endLeases K (clrC (gdC K t n) n) n ((clrC (gdC K t n) n).1 2 0 0)
def gdN (K : kC) (t : tC) : Nat → Nat
  | 0 => 0
  | n + 1 => gdN K t n + ((gdC K t n).2.1 n).length
def s_S_goDown (K : kC) (t : tC) : tC × Int32 := (stC (gdC K t K.2.1) 2 0 1 0, nI (gdN K t K.2.1))

set_option maxHeartbeats 4000000 in
set_option maxRecDepth 100000 in
theorem l_S_goDown {E : gE} {K : kC} {L0 : lyC} {t : tC} {A : Nat → Prop} : ∀ (r n b : Nat) {L : lyC} {w : wd}, gdN K t n = b → (∀ x : nmC, x.1 < 15 → L.1 x = L0.1 x) → SysC E K L (gdC K t n) w → r + n = K.2.1 → G E y_S_goDown (rmD 2 0 0, A, (fun r w' => r = some (.int (s_S_goDown K t).2) ∧ ∃ L' : lyC, (∀ x : nmC, x.1 < 15 → L'.1 x = L0.1 x) ∧ SysC E K L' (s_S_goDown K t).1 w'), fun _ => True) 4 [(2, .int (nI n)), (1, .int (nI b)), (0, .ref (L.1 (8, 0, 0)))] [] w 0 0 := by
  intro r
  induction r with
  | zero =>
    intro n b L w hv hL hs hr
    have h4 := hs.nc
    refine g_iload_n (j := 0) d_S_goDown_4 rfl ?_
    refine g_aload_n (j := 2) d_S_goDown_5 rfl ?_
    refine g_get d_S_goDown_6 f_S_37 hs.srv rfl ?_
    refine g_alen (t0 := 5) d_S_goDown_9 hs.fls rfl ?_
    refine g_norm (y := nI K.2.1) rfl ?_
    refine g_icmp_ge (tgt := 59) d_S_goDown_10 (by decide) (fun h1 => ?_) (fun h => absurd ((nI_leI (by omega) (by omega)).mpr (by omega)) h)
    have he : n = K.2.1 := by omega
    subst he
    subst hv
    refine g_aload_n (j := 2) d_S_goDown_59 rfl ?_
    refine g_iconst (v := 0) d_S_goDown_60 (by decide) ?_
    refine k_srv  (j := 1)  d_S_goDown_61 fw_S_15 hs (fun _ => rfl) rfl rfl (Nat.le_of_ble_eq_true rfl) (fun w2 hs3 => ?_)
    refine g_iload_n (j := 1) d_S_goDown_64 rfl ?_
    exact g_ireturn d_S_goDown_65 rfl (Nat.le_of_ble_eq_true rfl) (Nat.le_of_ble_eq_true rfl) ⟨rfl, _, hL, hs3⟩
  | succ r ih =>
    intro n b L w hv hL hs hr
    have h4 := hs.nc
    refine g_iload_n (j := 0) d_S_goDown_4 rfl ?_
    refine g_aload_n (j := 2) d_S_goDown_5 rfl ?_
    refine g_get d_S_goDown_6 f_S_37 hs.srv rfl ?_
    refine g_alen (t0 := 5) d_S_goDown_9 hs.fls rfl ?_
    refine g_norm (y := nI K.2.1) rfl ?_
    refine g_icmp_ge (tgt := 59) d_S_goDown_10 (by decide) (fun h => absurd h (fun z => absurd ((nI_leI (by omega) (by omega)).mp z) (by omega))) (fun h1 => ?_)
    refine g_iload_n (j := 1) d_S_goDown_13 rfl ?_
    refine g_aload_n (j := 2) d_S_goDown_14 rfl ?_
    refine g_get d_S_goDown_15 f_S_37 hs.srv rfl ?_
    refine g_iload_n (j := 0) d_S_goDown_18 rfl ?_
    refine g_aald (t0 := 5) (j := n) d_S_goDown_19 hs.fls rfl rfl (by omega) (by omega) (rf_if (by omega)) ?_
    refine g_get d_S_goDown_20 f_S_64 (hs.fl (f := n) (by omega)) rfl ?_
    refine g_callV (c_A_size hs n (by omega)) ok_A_size lk_S_68 in_A_size se_A_size (hs.lst (f := n) (by omega)) rfl d_S_goDown_23 rfl rfl (Nat.le_of_ble_eq_true rfl) ⟨(Nat.le_of_ble_eq_true rfl), (Nat.le_of_ble_eq_true rfl)⟩ (Nat.le_of_ble_eq_true rfl) (Nat.le_of_ble_eq_true rfl) (fun r w' hq => ?_)
    obtain ⟨rfl, rfl⟩ := hq
    refine g_norm (y := nI (((gdC K t n).2.1 n).length)) rfl ?_
    refine g_iadd d_S_goDown_26 ?_
    refine g_norm (y := nI (b + (((gdC K t n).2.1 n).length))) (nI_add b (((gdC K t n).2.1 n).length)) ?_
    refine g_istore_n (lv' := [(1, _), (2, _), (0, _)]) d_S_goDown_27 (by decide) rfl ?_
    refine g_aload_n (j := 2) d_S_goDown_28 rfl ?_
    refine g_get d_S_goDown_29 f_S_37 hs.srv rfl ?_
    refine g_iload_n (j := 1) d_S_goDown_32 rfl ?_
    refine g_aald (t0 := 5) (j := n) d_S_goDown_33 hs.fls rfl rfl (by omega) (by omega) (rf_if (by omega)) ?_
    refine g_get d_S_goDown_34 f_S_64 (hs.fl (f := n) (by omega)) rfl ?_
    refine g_callV (c_A_clear hs n (by omega)) ok_A_clear lk_S_74 in_A_clear se_A_clear (hs.lst (f := n) (by omega)) rfl d_S_goDown_37 rfl rfl (Nat.le_of_ble_eq_true rfl) ⟨(Nat.le_of_ble_eq_true rfl), (Nat.le_of_ble_eq_true rfl)⟩ (Nat.le_of_ble_eq_true rfl) (Nat.le_of_ble_eq_true rfl) (fun r w' hq => ?_)
    obtain ⟨rfl, hcl⟩ := hq
    obtain ⟨L3, hL4, hs2⟩ := clr_ex hcl
    rw [← hL4 (8, 0, 0) (show 8 < 15 by decide)]
    refine g_aload_n (j := 2) d_S_goDown_40 rfl ?_
    refine g_get d_S_goDown_41 f_S_37 hs2.srv rfl ?_
    refine g_iload_n (j := 1) d_S_goDown_44 rfl ?_
    refine g_aald (t0 := 5) (j := n) d_S_goDown_45 hs2.fls rfl rfl (by omega) (by omega) (rf_if (by omega)) ?_
    refine g_aload_n (j := 2) d_S_goDown_46 rfl ?_
    refine g_get d_S_goDown_47 f_S_9 hs2.srv rfl ?_
    refine g_callV (c_F_endLeases hs2 n ((clrC (gdC K t n) n).1 2 0 0) (by omega)) ok_F_endLeases lk_S_77 in_F_endLeases se_F_endLeases (hs2.fl (f := n) (by omega)) rfl d_S_goDown_50 rfl rfl (Nat.le_of_ble_eq_true rfl) ⟨(Nat.le_of_ble_eq_true rfl), (Nat.le_of_ble_eq_true rfl)⟩ (Nat.le_of_ble_eq_true rfl) (Nat.le_of_ble_eq_true rfl) (fun r w' hq => ?_)
    obtain ⟨rfl, hs5⟩ := hq
    refine g_iinc (j := 1) (v := nI (n + 1)) (lv' := [(2, _), (1, _), (0, _)]) d_S_goDown_53 rfl (nI_1 n) (by decide) rfl ?_
    refine g_goto (tgt := 4) d_S_goDown_56 (by decide) ?_
    exact ih (n + 1) _ (by rw [gdN, hv]) (fun x hx => (hL4 x hx).trans (hL x hx)) hs5 (by omega)

set_option maxHeartbeats 4000000 in
set_option maxRecDepth 100000 in
theorem c_S_goDown {E : gE} {w : wd} {K : kC} {L : lyC} {t : tC} (hs : SysC E K L t w) : Cn E y_S_goDown 2 0 0 [.ref (L.1 (8, 0, 0))] w (fun r w' => r = some (.int (s_S_goDown K t).2) ∧ ∃ L' : lyC, (∀ x : nmC, x.1 < 15 → L'.1 x = L.1 x) ∧ SysC E K L' (s_S_goDown K t).1 w') := by
  refine Cn.of (by decide) (Nat.le_of_ble_eq_true rfl) (fun A => ?_)
  show G E y_S_goDown _ 0 [(0, .ref (L.1 (8, 0, 0)))] [] w 0 0
  have h4 := hs.nc
  refine g_iconst (v := 0) d_S_goDown_0 (by decide) ?_
  refine g_istore_n (lv' := [(1, _), (0, _)]) d_S_goDown_1 (by decide) rfl ?_
  refine g_iconst (v := 0) d_S_goDown_2 (by decide) ?_
  refine g_istore_n (lv' := [(2, _), (1, _), (0, _)]) d_S_goDown_3 (by decide) rfl ?_
  exact l_S_goDown K.2.1 0 0 rfl (fun _ _ => rfl) hs (by omega)

theorem okWC.of {K : kC} {t t' : tC} (h : okWC K t) (e : t'.2.1 = t.2.1) : okWC K t' := by
  unfold okWC at *
  rw [e]
  exact h
theorem ask_w (K : kC) (t : tC) : (s_S_receiveAsk K t).2.1 = t.2.1 := by
  unfold s_S_receiveAsk
  repeat' split
  all_goals first | rfl | (rw [snd_w]; rfl) | rw [snd_w]
theorem free_w (K : kC) (t : tC) : (s_S_receiveFree K t).2.1 = t.2.1 := by
  unfold s_S_receiveFree
  repeat' split
  all_goals rfl
theorem okWC.ad {K : kC} {t : tC} (h : okWC K t) (h4 : K.2.1 ≤ 4) (f c : Nat) (y z : Int32) (hc : c < K.1) (hb : K.1 ≤ 4) : okWC K (s_F_addLast K t f (nI c) y z) := by
  unfold s_F_addLast
  split
  · exact h
  · intro g hg e he
    have q : (adC (hdC t (nI c, y, z)) f).2.1 g = if g = f then (hdC t (nI c, y, z)).2.1 f ++ [(nI c, y, z)] else (hdC t (nI c, y, z)).2.1 g := if_neg (by omega)
    have q2 : (hdC t (nI c, y, z)).2.1 g = t.2.1 g := if_neg (by omega)
    rw [q, q2] at he
    by_cases hgf : g = f
    · subst hgf
      rw [if_pos rfl, q2] at he
      rcases List.mem_append.mp he with he | he
      · exact h g hg e he
      · have e1 : e = (nI c, y, z) := List.mem_singleton.mp he
        have e2 : wcN e = c := by
          rw [e1]
          exact pk_cl c rfl (by omega)
        rw [e2, e1]
        exact ⟨rfl, hc⟩
    · rw [if_neg hgf] at he
      exact h g hg e he
theorem okWC.put {K : kC} {t : tC} (h : okWC K t) (h4 : 1 ≤ K.1 ∧ K.1 ≤ 4 ∧ 1 ≤ K.2.1 ∧ K.2.1 ≤ 4) (hp : t.2.2 ≤ 64) (hM : okMC K t 64) : okWC K (s_S_receivePut K t) := by
  have key : ∀ t', okWC K t' → t'.2.2 ≤ 64 → okWC K (s_S_put99 K t') := by
    intro t' h' hp'
    unfold s_S_put99
    split
    · exact h'
    · exact h'.of (rcC_k K t' hp' K.1).2.2.1
  unfold s_S_receivePut
  split
  · exact h.of (snd_w _ _ _ _ _ _ _ _ _)
  · split
    · split
      · refine key _ (h.ad h4.2.2.2 _ _ _ _ hM.2.1 h4.2.1) ?_
        unfold s_F_addLast
        split
        · exact hp
        · exact hp
      · exact key _ h hp
    · exact h

def s_S_receive (K : kC) (t : tC) : tC × Int32 :=
  if t.1 2 0 1 = 0 then
    (t, 0)
  else
    if t.1 7 64 0 = 0 then
      ((s_S_storeWhatMay K (s_S_receiveAsk K t ) ).1, 1)
    else
      if t.1 7 64 0 = 1 then
        ((s_S_storeWhatMay K (s_S_receivePut K t ) ).1, 1)
      else
        if t.1 7 64 0 = 5 then
          ((s_S_storeWhatMay K (s_S_receiveFree K t ) ).1, 1)
        else
          ((s_S_storeWhatMay K t ).1, 1)
set_option maxHeartbeats 4000000 in
set_option maxRecDepth 100000 in
theorem c_S_receive {E : gE} {w : wd} {K : kC} {L : lyC} {t : tC} (hs : SysC E K L t w) (hM : okMC K t 64) (hW : okWC K t) : Cn E y_S_receive 10 2 403 [.ref (L.1 (8, 0, 0)), .ref (L.1 (3, 64, 0)), .ref (L.1 (1, 0, 0))] w (fun r w' => r = some (.int (s_S_receive K t ).2) ∧ ∃ L' : lyC, (∀ x : nmC, x.1 < 15 → L'.1 x = L.1 x) ∧ SysC E K L' (s_S_receive K t ).1 w') := by
  refine Cn.of (by decide) (Nat.le_of_ble_eq_true rfl) (fun A => ?_)
  show G E y_S_receive _ 0 [(0, .ref (L.1 (8, 0, 0))), (1, .ref (L.1 (3, 64, 0))), (2, .ref (L.1 (1, 0, 0)))] [] w 0 0
  have h4 := hs.nc
  have h64 := hs.pn
  refine g_aload_n (j := 0) d_S_receive_0 rfl ?_
  refine g_get d_S_receive_1 f_S_15 hs.srv rfl ?_
  refine g_if_ne (tgt := 9) d_S_receive_4 (by decide) (fun h1 => ?_) (fun h1 => ?_)
  · skip
    refine g_aload_n (j := 1) d_S_receive_9 rfl ?_
    refine g_get d_S_receive_10 f_S_44 (hs.msg (i := 64) (by omega)) rfl ?_
    rcases Decidable.em (t.1 7 64 0 = 0) with h2 | h2
    · skip
      refine g_lookup (tgt := 48) (off := 35) d_S_receive_13 (by decide) (by rw [h2]; decide) (by decide) ?_
      refine g_aload_n (j := 0) d_S_receive_48 rfl ?_
      refine g_aload_n (j := 1) d_S_receive_49 rfl ?_
      refine g_aload_n (j := 2) d_S_receive_50 rfl ?_
      refine g_callV (c_S_receiveAsk hs hM) ok_S_receiveAsk lk_S_49 in_S_receiveAsk se_S_receiveAsk hs.srv rfl d_S_receive_51 rfl rfl (Nat.le_of_ble_eq_true rfl) ⟨(Nat.le_of_ble_eq_true rfl), (Nat.le_of_ble_eq_true rfl)⟩ (Nat.le_of_ble_eq_true rfl) (Nat.le_of_ble_eq_true rfl) (fun r w' hq => ?_)
      obtain ⟨rfl, hs3⟩ := hq
      refine g_goto (tgt := 74) d_S_receive_54 (by decide) ?_
      refine g_aload_n (j := 0) d_S_receive_74 rfl ?_
      refine g_aload_n (j := 2) d_S_receive_75 rfl ?_
      refine g_callV (c_S_storeWhatMay hs3 (hW.of (ask_w K t))) ok_S_storeWhatMay lk_S_60 in_S_storeWhatMay se_S_storeWhatMay hs3.srv rfl d_S_receive_76 rfl rfl (Nat.le_of_ble_eq_true rfl) ⟨(Nat.le_of_ble_eq_true rfl), (Nat.le_of_ble_eq_true rfl)⟩ (Nat.le_of_ble_eq_true rfl) (Nat.le_of_ble_eq_true rfl) (fun r w' hq => ?_)
      obtain ⟨rfl, L5, hL6, hs4⟩ := hq
      rw [← hL6 (8, 0, 0) (show 8 < 15 by decide), ← hL6 (3, 64, 0) (show 3 < 15 by decide), ← hL6 (1, 0, 0) (show 1 < 15 by decide)]
      refine g_pop d_S_receive_79 rfl ?_
      refine g_iconst (v := 1) d_S_receive_80 (by decide) ?_
      have hz : s_S_receive K t = ((s_S_storeWhatMay K (s_S_receiveAsk K t ) ).1, 1) := by
        unfold s_S_receive
        rw [if_neg h1, if_pos h2]
      exact g_zreturn d_S_receive_81 rfl (by decide) (Nat.le_of_ble_eq_true rfl) (Nat.le_of_ble_eq_true rfl) ⟨by rw [hz], _, (fun x hx => (hL6 x hx).trans ((fun _ _ => rfl) x hx)), by rw [hz]; exact hs4⟩
    · skip
      rcases Decidable.em (t.1 7 64 0 = 1) with h7 | h7
      · skip
        refine g_lookup (tgt := 57) (off := 44) d_S_receive_13 (by decide) (by rw [h7]; decide) (by decide) ?_
        refine g_aload_n (j := 0) d_S_receive_57 rfl ?_
        refine g_aload_n (j := 1) d_S_receive_58 rfl ?_
        refine g_aload_n (j := 2) d_S_receive_59 rfl ?_
        refine g_callV (c_S_receivePut hs hM) ok_S_receivePut lk_S_53 in_S_receivePut se_S_receivePut hs.srv rfl d_S_receive_60 rfl rfl (Nat.le_of_ble_eq_true rfl) ⟨(Nat.le_of_ble_eq_true rfl), (Nat.le_of_ble_eq_true rfl)⟩ (Nat.le_of_ble_eq_true rfl) (Nat.le_of_ble_eq_true rfl) (fun r w' hq => ?_)
        obtain ⟨rfl, L9, hL10, hs8⟩ := hq
        rw [← hL10 (8, 0, 0) (show 8 < 15 by decide), ← hL10 (3, 64, 0) (show 3 < 15 by decide), ← hL10 (1, 0, 0) (show 1 < 15 by decide)]
        refine g_goto (tgt := 74) d_S_receive_63 (by decide) ?_
        refine g_aload_n (j := 0) d_S_receive_74 rfl ?_
        refine g_aload_n (j := 2) d_S_receive_75 rfl ?_
        refine g_callV (c_S_storeWhatMay hs8 (hW.put h4 h64 hM)) ok_S_storeWhatMay lk_S_60 in_S_storeWhatMay se_S_storeWhatMay hs8.srv rfl d_S_receive_76 rfl rfl (Nat.le_of_ble_eq_true rfl) ⟨(Nat.le_of_ble_eq_true rfl), (Nat.le_of_ble_eq_true rfl)⟩ (Nat.le_of_ble_eq_true rfl) (Nat.le_of_ble_eq_true rfl) (fun r w' hq => ?_)
        obtain ⟨rfl, L12, hL13, hs11⟩ := hq
        rw [← hL13 (8, 0, 0) (show 8 < 15 by decide), ← hL13 (3, 64, 0) (show 3 < 15 by decide), ← hL13 (1, 0, 0) (show 1 < 15 by decide)]
        refine g_pop d_S_receive_79 rfl ?_
        refine g_iconst (v := 1) d_S_receive_80 (by decide) ?_
        have hz : s_S_receive K t = ((s_S_storeWhatMay K (s_S_receivePut K t ) ).1, 1) := by
          unfold s_S_receive
          rw [if_neg h1, if_neg h2, if_pos h7]
        exact g_zreturn d_S_receive_81 rfl (by decide) (Nat.le_of_ble_eq_true rfl) (Nat.le_of_ble_eq_true rfl) ⟨by rw [hz], _, (fun x hx => (hL13 x hx).trans ((fun x hx => (hL10 x hx).trans ((fun _ _ => rfl) x hx)) x hx)), by rw [hz]; exact hs11⟩
      · skip
        rcases Decidable.em (t.1 7 64 0 = 5) with h14 | h14
        · skip
          refine g_lookup (tgt := 66) (off := 53) d_S_receive_13 (by decide) (by rw [h14]; decide) (by decide) ?_
          refine g_aload_n (j := 0) d_S_receive_66 rfl ?_
          refine g_aload_n (j := 1) d_S_receive_67 rfl ?_
          refine g_callV (c_S_receiveFree hs hM) ok_S_receiveFree lk_S_56 in_S_receiveFree se_S_receiveFree hs.srv rfl d_S_receive_68 rfl rfl (Nat.le_of_ble_eq_true rfl) ⟨(Nat.le_of_ble_eq_true rfl), (Nat.le_of_ble_eq_true rfl)⟩ (Nat.le_of_ble_eq_true rfl) (Nat.le_of_ble_eq_true rfl) (fun r w' hq => ?_)
          obtain ⟨rfl, hs15⟩ := hq
          refine g_goto (tgt := 74) d_S_receive_71 (by decide) ?_
          refine g_aload_n (j := 0) d_S_receive_74 rfl ?_
          refine g_aload_n (j := 2) d_S_receive_75 rfl ?_
          refine g_callV (c_S_storeWhatMay hs15 (hW.of (free_w K t))) ok_S_storeWhatMay lk_S_60 in_S_storeWhatMay se_S_storeWhatMay hs15.srv rfl d_S_receive_76 rfl rfl (Nat.le_of_ble_eq_true rfl) ⟨(Nat.le_of_ble_eq_true rfl), (Nat.le_of_ble_eq_true rfl)⟩ (Nat.le_of_ble_eq_true rfl) (Nat.le_of_ble_eq_true rfl) (fun r w' hq => ?_)
          obtain ⟨rfl, L17, hL18, hs16⟩ := hq
          rw [← hL18 (8, 0, 0) (show 8 < 15 by decide), ← hL18 (3, 64, 0) (show 3 < 15 by decide), ← hL18 (1, 0, 0) (show 1 < 15 by decide)]
          refine g_pop d_S_receive_79 rfl ?_
          refine g_iconst (v := 1) d_S_receive_80 (by decide) ?_
          have hz : s_S_receive K t = ((s_S_storeWhatMay K (s_S_receiveFree K t ) ).1, 1) := by
            unfold s_S_receive
            rw [if_neg h1, if_neg h2, if_neg h7, if_pos h14]
          exact g_zreturn d_S_receive_81 rfl (by decide) (Nat.le_of_ble_eq_true rfl) (Nat.le_of_ble_eq_true rfl) ⟨by rw [hz], _, (fun x hx => (hL18 x hx).trans ((fun _ _ => rfl) x hx)), by rw [hz]; exact hs16⟩
        · skip
          refine g_lookup (tgt := 74) d_S_receive_13 (by decide) (sw_lk (t.1 7 64 0).toInt (by
            intro p hp
            simp only [List.mem_cons, List.not_mem_nil, or_false] at hp
            rcases hp with rfl | rfl | rfl
            · exact sw_ne (k := 0) (by decide) h2
            · exact sw_ne (k := 1) (by decide) h7
            · exact sw_ne (k := 5) (by decide) h14)) (by decide) ?_
          refine g_aload_n (j := 0) d_S_receive_74 rfl ?_
          refine g_aload_n (j := 2) d_S_receive_75 rfl ?_
          refine g_callV (c_S_storeWhatMay hs hW) ok_S_storeWhatMay lk_S_60 in_S_storeWhatMay se_S_storeWhatMay hs.srv rfl d_S_receive_76 rfl rfl (Nat.le_of_ble_eq_true rfl) ⟨(Nat.le_of_ble_eq_true rfl), (Nat.le_of_ble_eq_true rfl)⟩ (Nat.le_of_ble_eq_true rfl) (Nat.le_of_ble_eq_true rfl) (fun r w' hq => ?_)
          obtain ⟨rfl, L20, hL21, hs19⟩ := hq
          rw [← hL21 (8, 0, 0) (show 8 < 15 by decide), ← hL21 (3, 64, 0) (show 3 < 15 by decide), ← hL21 (1, 0, 0) (show 1 < 15 by decide)]
          refine g_pop d_S_receive_79 rfl ?_
          refine g_iconst (v := 1) d_S_receive_80 (by decide) ?_
          have hz : s_S_receive K t = ((s_S_storeWhatMay K t ).1, 1) := by
            unfold s_S_receive
            rw [if_neg h1, if_neg h2, if_neg h7, if_neg h14]
          exact g_zreturn d_S_receive_81 rfl (by decide) (Nat.le_of_ble_eq_true rfl) (Nat.le_of_ble_eq_true rfl) ⟨by rw [hz], _, (fun x hx => (hL21 x hx).trans ((fun _ _ => rfl) x hx)), by rw [hz]; exact hs19⟩
  · skip
    refine g_iconst (v := 0) d_S_receive_7 (by decide) ?_
    have hz : s_S_receive K t = (t, 0) := by
      unfold s_S_receive
      rw [if_pos h1]
    exact g_zreturn d_S_receive_8 rfl (by decide) (Nat.le_of_ble_eq_true rfl) (Nat.le_of_ble_eq_true rfl) ⟨by rw [hz], _, (fun _ _ => rfl), by rw [hz]; exact hs⟩
