theorem snd_k (K : kC) (t : tC) (k cc ff wo a b d : Int32) {k' i' : Nat} (h : (k', i') ≠ (7, t.2.2)) : (s_P_send K t k cc ff wo a b d).1 k' i' = t.1 k' i' := by
  unfold s_P_send
  split
  · show (cnC (stC (stC (stC (stC (stC (stC (stC t 7 t.2.2 0 k) 7 t.2.2 1 cc) 7 t.2.2 2 ff) 7 t.2.2 3 wo) 7 t.2.2 4 a) 7 t.2.2 5 b) 7 t.2.2 6 d) (t.2.2 + 1)).1 k' i' = _
    show (stC (stC (stC (stC (stC (stC (stC t 7 t.2.2 0 k) 7 t.2.2 1 cc) 7 t.2.2 2 ff) 7 t.2.2 3 wo) 7 t.2.2 4 a) 7 t.2.2 5 b) 7 t.2.2 6 d).1 k' i' = _
    rw [stC_oth _ _ _ h, stC_oth _ _ _ h, stC_oth _ _ _ h, stC_oth _ _ _ h, stC_oth _ _ _ h, stC_oth _ _ _ h, stC_oth _ _ _ h]
  · rfl
theorem snd_w (K : kC) (t : tC) (k cc ff wo a b d : Int32) : (s_P_send K t k cc ff wo a b d).2.1 = t.2.1 := by
  unfold s_P_send
  split
  · rfl
  · rfl
theorem snd_64 (K : kC) (t : tC) (k cc ff wo a b d : Int32) (hp : t.2.2 ≤ 64) : (s_P_send K t k cc ff wo a b d).1 7 64 = t.1 7 64 := by
  by_cases hz : t.2.2 = 64
  · unfold s_P_send
    rw [hz]
    rw [if_neg (by decide)]
  · exact snd_k K t k cc ff wo a b d (fun z => hz (congrArg Prod.snd z).symm)
theorem snd_n (K : kC) (t : tC) (k cc ff wo a b d : Int32) (hp : t.2.2 ≤ 64) : (s_P_send K t k cc ff wo a b d).2.2 ≤ 64 := by
  unfold s_P_send
  split
  · rename_i h
    have : t.2.2 < 64 := (nI_ltI (b := 64) (by omega) (by omega)).mp h
    show t.2.2 + 1 ≤ 64
    omega
  · exact hp

def s_S_receiveAsk (K : kC) (t : tC) : tC :=
  if s_A_isEmpty K t (mfC t 64) = 0 then
    if s_A_isEmpty K t (mfC t 64) = 0 then
      s_P_send K t 2 (nI (mcC t 64)) (nI (mfC t 64)) (t.1 7 64 3) (t.1 3 (mfC t 64) 0) (t.1 3 (mfC t 64) 1) 0
    else
      s_P_send K t 2 (nI (mcC t 64)) (nI (mfC t 64)) (t.1 7 64 3) (t.1 3 (mfC t 64) 0) (t.1 3 (mfC t 64) 1) 1
  else
    if s_A_isEmpty K t (mfC t 64) = 0 then
      s_P_send K (stC t 4 (mfC t 64) (mcC t 64) ((t.1 2 0 0) + K.2.2.1)) 2 (nI (mcC t 64)) (nI (mfC t 64)) ((stC t 4 (mfC t 64) (mcC t 64) ((t.1 2 0 0) + K.2.2.1)).1 7 64 3) ((stC t 4 (mfC t 64) (mcC t 64) ((t.1 2 0 0) + K.2.2.1)).1 3 (mfC t 64) 0) ((stC t 4 (mfC t 64) (mcC t 64) ((t.1 2 0 0) + K.2.2.1)).1 3 (mfC t 64) 1) 0
    else
      s_P_send K (stC t 4 (mfC t 64) (mcC t 64) ((t.1 2 0 0) + K.2.2.1)) 2 (nI (mcC t 64)) (nI (mfC t 64)) ((stC t 4 (mfC t 64) (mcC t 64) ((t.1 2 0 0) + K.2.2.1)).1 7 64 3) ((stC t 4 (mfC t 64) (mcC t 64) ((t.1 2 0 0) + K.2.2.1)).1 3 (mfC t 64) 0) ((stC t 4 (mfC t 64) (mcC t 64) ((t.1 2 0 0) + K.2.2.1)).1 3 (mfC t 64) 1) 1
set_option maxHeartbeats 4000000 in
set_option maxRecDepth 100000 in
theorem c_S_receiveAsk {E : gE} {w : wd} {K : kC} {L : lyC} {t : tC} (hs : SysC E K L t w) (hM : okMC K t 64) : Cn E y_S_receiveAsk 2 0 0 [.ref (L.1 (8, 0, 0)), .ref (L.1 (3, 64, 0)), .ref (L.1 (1, 0, 0))] w (fun r w' => r = none ∧ SysC E K L (s_S_receiveAsk K t ) w') := by
  refine Cn.of (by decide) (Nat.le_of_ble_eq_true rfl) (fun A => ?_)
  show G E y_S_receiveAsk _ 0 [(0, .ref (L.1 (8, 0, 0))), (1, .ref (L.1 (3, 64, 0))), (2, .ref (L.1 (1, 0, 0)))] [] w 0 0
  have h4 := hs.nc
  have h64 := hs.pn
  have hM2 := hM.2.1
  have hM4 := hM.2.2.2
  refine g_aload_n (j := 0) d_S_receiveAsk_0 rfl ?_
  refine g_get d_S_receiveAsk_1 f_S_37 hs.srv rfl ?_
  refine g_aload_n (j := 1) d_S_receiveAsk_4 rfl ?_
  refine g_get d_S_receiveAsk_5 f_S_84 (hs.msg (i := 64) (by omega)) rfl ?_
  refine g_norm (y := nI (mfC t 64)) hM.2.2.1 ?_
  refine g_aald (t0 := 5) (j := mfC t 64) d_S_receiveAsk_8 hs.fls rfl rfl (by omega) (by omega) (rf_if (by omega)) ?_
  refine g_astore_n (lv' := [(3, _), (0, _), (1, _), (2, _)]) d_S_receiveAsk_9 (by decide) rfl ?_
  refine g_aload_n (j := 0) d_S_receiveAsk_10 rfl ?_
  refine g_get d_S_receiveAsk_11 f_S_64 (hs.fl (f := mfC t 64) (by omega)) rfl ?_
  refine g_callV (c_A_isEmpty hs (mfC t 64) (by omega)) ok_A_isEmpty lk_S_87 in_A_isEmpty se_A_isEmpty (hs.lst (f := mfC t 64) (by omega)) rfl d_S_receiveAsk_14 rfl rfl (Nat.le_of_ble_eq_true rfl) ⟨(Nat.le_of_ble_eq_true rfl), (Nat.le_of_ble_eq_true rfl)⟩ (Nat.le_of_ble_eq_true rfl) (Nat.le_of_ble_eq_true rfl) (fun r w' hq => ?_)
  obtain ⟨rfl, rfl⟩ := hq
  refine g_istore (lv' := [(4, _), (3, _), (0, _), (1, _), (2, _)]) d_S_receiveAsk_17 (by decide) rfl ?_
  refine g_iload (j := 0) d_S_receiveAsk_19 rfl ?_
  refine g_if_eq (tgt := 42) d_S_receiveAsk_21 (by decide) (fun h1 => ?_) (fun h1 => ?_)
  · skip
    refine g_aload_n (j := 4) d_S_receiveAsk_42 rfl ?_
    refine g_iconst (v := 2) d_S_receiveAsk_43 (by decide) ?_
    refine g_aload_n (j := 3) d_S_receiveAsk_44 rfl ?_
    refine g_get d_S_receiveAsk_45 f_S_94 (hs.msg (i := 64) (by omega)) rfl ?_
    refine g_norm (y := nI (mcC t 64)) hM.1 ?_
    refine g_aload_n (j := 3) d_S_receiveAsk_48 rfl ?_
    refine g_get d_S_receiveAsk_49 f_S_84 (hs.msg (i := 64) (by omega)) rfl ?_
    refine g_norm (y := nI (mfC t 64)) hM.2.2.1 ?_
    refine g_aload_n (j := 3) d_S_receiveAsk_52 rfl ?_
    refine g_get d_S_receiveAsk_53 f_S_97 (hs.msg (i := 64) (by omega)) rfl ?_
    refine g_aload_n (j := 1) d_S_receiveAsk_56 rfl ?_
    refine g_get d_S_receiveAsk_57 f_S_100 (hs.fl (f := mfC t 64) (by omega)) rfl ?_
    refine g_aload_n (j := 1) d_S_receiveAsk_60 rfl ?_
    refine g_get d_S_receiveAsk_61 f_S_103 (hs.fl (f := mfC t 64) (by omega)) rfl ?_
    refine g_iload (j := 0) d_S_receiveAsk_64 rfl ?_
    refine g_if_eq (tgt := 73) d_S_receiveAsk_66 (by decide) (fun h2 => ?_) (fun h2 => ?_)
    · skip
      refine g_iconst (v := 0) d_S_receiveAsk_73 (by decide) ?_
      refine g_callV (c_P_send hs 2 (nI (mcC t 64)) (nI (mfC t 64)) (t.1 7 64 3) (t.1 3 (mfC t 64) 0) (t.1 3 (mfC t 64) 1) 0 ) ok_P_send lk_S_106 in_P_send se_P_send hs.pool rfl d_S_receiveAsk_74 rfl rfl (Nat.le_of_ble_eq_true rfl) ⟨(Nat.le_of_ble_eq_true rfl), (Nat.le_of_ble_eq_true rfl)⟩ (Nat.le_of_ble_eq_true rfl) (Nat.le_of_ble_eq_true rfl) (fun r w' hq => ?_)
      obtain ⟨rfl, hs3⟩ := hq
      have hz : s_S_receiveAsk K t = s_P_send K t 2 (nI (mcC t 64)) (nI (mfC t 64)) (t.1 7 64 3) (t.1 3 (mfC t 64) 0) (t.1 3 (mfC t 64) 1) 0 := by
        unfold s_S_receiveAsk
        rw [if_pos h1, if_pos h2]
      exact g_return d_S_receiveAsk_77 rfl (Nat.le_of_ble_eq_true rfl) (Nat.le_of_ble_eq_true rfl) ⟨rfl, by rw [hz]; exact hs3⟩
    · skip
      refine g_iconst (v := 1) d_S_receiveAsk_69 (by decide) ?_
      refine g_goto (tgt := 74) d_S_receiveAsk_70 (by decide) ?_
      refine g_callV (c_P_send hs 2 (nI (mcC t 64)) (nI (mfC t 64)) (t.1 7 64 3) (t.1 3 (mfC t 64) 0) (t.1 3 (mfC t 64) 1) 1 ) ok_P_send lk_S_106 in_P_send se_P_send hs.pool rfl d_S_receiveAsk_74 rfl rfl (Nat.le_of_ble_eq_true rfl) ⟨(Nat.le_of_ble_eq_true rfl), (Nat.le_of_ble_eq_true rfl)⟩ (Nat.le_of_ble_eq_true rfl) (Nat.le_of_ble_eq_true rfl) (fun r w' hq => ?_)
      obtain ⟨rfl, hs4⟩ := hq
      have hz : s_S_receiveAsk K t = s_P_send K t 2 (nI (mcC t 64)) (nI (mfC t 64)) (t.1 7 64 3) (t.1 3 (mfC t 64) 0) (t.1 3 (mfC t 64) 1) 1 := by
        unfold s_S_receiveAsk
        rw [if_pos h1, if_neg h2]
      exact g_return d_S_receiveAsk_77 rfl (Nat.le_of_ble_eq_true rfl) (Nat.le_of_ble_eq_true rfl) ⟨rfl, by rw [hz]; exact hs4⟩
  · skip
    refine g_aload_n (j := 1) d_S_receiveAsk_24 rfl ?_
    refine g_get d_S_receiveAsk_25 f_S_91 (hs.fl (f := mfC t 64) (by omega)) rfl ?_
    refine g_aload_n (j := 3) d_S_receiveAsk_28 rfl ?_
    refine g_get d_S_receiveAsk_29 f_S_94 (hs.msg (i := 64) (by omega)) rfl ?_
    refine g_norm (y := nI (mcC t 64)) hM.1 ?_
    refine g_aload_n (j := 2) d_S_receiveAsk_32 rfl ?_
    refine g_get d_S_receiveAsk_33 f_S_9 hs.srv rfl ?_
    refine g_aload_n (j := 2) d_S_receiveAsk_36 rfl ?_
    refine g_get d_S_receiveAsk_37 f_S_25 hs.srv rfl ?_
    refine g_iadd d_S_receiveAsk_40 ?_
    refine k_ends (f := mfC t 64) (j := mcC t 64) (by omega) d_S_receiveAsk_41 hs rfl (by omega) (fun w5 hs6 => ?_)
    refine g_aload_n (j := 4) d_S_receiveAsk_42 rfl ?_
    refine g_iconst (v := 2) d_S_receiveAsk_43 (by decide) ?_
    refine g_aload_n (j := 3) d_S_receiveAsk_44 rfl ?_
    refine g_get d_S_receiveAsk_45 f_S_94 (hs6.msg (i := 64) (by omega)) rfl ?_
    refine g_norm (y := nI (mcC t 64)) hM.1 ?_
    refine g_aload_n (j := 3) d_S_receiveAsk_48 rfl ?_
    refine g_get d_S_receiveAsk_49 f_S_84 (hs6.msg (i := 64) (by omega)) rfl ?_
    refine g_norm (y := nI (mfC t 64)) hM.2.2.1 ?_
    refine g_aload_n (j := 3) d_S_receiveAsk_52 rfl ?_
    refine g_get d_S_receiveAsk_53 f_S_97 (hs6.msg (i := 64) (by omega)) rfl ?_
    refine g_aload_n (j := 1) d_S_receiveAsk_56 rfl ?_
    refine g_get d_S_receiveAsk_57 f_S_100 (hs6.fl (f := mfC t 64) (by omega)) rfl ?_
    refine g_aload_n (j := 1) d_S_receiveAsk_60 rfl ?_
    refine g_get d_S_receiveAsk_61 f_S_103 (hs6.fl (f := mfC t 64) (by omega)) rfl ?_
    refine g_iload (j := 0) d_S_receiveAsk_64 rfl ?_
    refine g_if_eq (tgt := 73) d_S_receiveAsk_66 (by decide) (fun h7 => ?_) (fun h7 => ?_)
    · skip
      refine g_iconst (v := 0) d_S_receiveAsk_73 (by decide) ?_
      refine g_callV (c_P_send hs6 2 (nI (mcC t 64)) (nI (mfC t 64)) ((stC t 4 (mfC t 64) (mcC t 64) ((t.1 2 0 0) + K.2.2.1)).1 7 64 3) ((stC t 4 (mfC t 64) (mcC t 64) ((t.1 2 0 0) + K.2.2.1)).1 3 (mfC t 64) 0) ((stC t 4 (mfC t 64) (mcC t 64) ((t.1 2 0 0) + K.2.2.1)).1 3 (mfC t 64) 1) 0 ) ok_P_send lk_S_106 in_P_send se_P_send hs6.pool rfl d_S_receiveAsk_74 rfl rfl (Nat.le_of_ble_eq_true rfl) ⟨(Nat.le_of_ble_eq_true rfl), (Nat.le_of_ble_eq_true rfl)⟩ (Nat.le_of_ble_eq_true rfl) (Nat.le_of_ble_eq_true rfl) (fun r w' hq => ?_)
      obtain ⟨rfl, hs8⟩ := hq
      have hz : s_S_receiveAsk K t = s_P_send K (stC t 4 (mfC t 64) (mcC t 64) ((t.1 2 0 0) + K.2.2.1)) 2 (nI (mcC t 64)) (nI (mfC t 64)) ((stC t 4 (mfC t 64) (mcC t 64) ((t.1 2 0 0) + K.2.2.1)).1 7 64 3) ((stC t 4 (mfC t 64) (mcC t 64) ((t.1 2 0 0) + K.2.2.1)).1 3 (mfC t 64) 0) ((stC t 4 (mfC t 64) (mcC t 64) ((t.1 2 0 0) + K.2.2.1)).1 3 (mfC t 64) 1) 0 := by
        unfold s_S_receiveAsk
        rw [if_neg h1, if_pos h7]
      exact g_return d_S_receiveAsk_77 rfl (Nat.le_of_ble_eq_true rfl) (Nat.le_of_ble_eq_true rfl) ⟨rfl, by rw [hz]; exact hs8⟩
    · skip
      refine g_iconst (v := 1) d_S_receiveAsk_69 (by decide) ?_
      refine g_goto (tgt := 74) d_S_receiveAsk_70 (by decide) ?_
      refine g_callV (c_P_send hs6 2 (nI (mcC t 64)) (nI (mfC t 64)) ((stC t 4 (mfC t 64) (mcC t 64) ((t.1 2 0 0) + K.2.2.1)).1 7 64 3) ((stC t 4 (mfC t 64) (mcC t 64) ((t.1 2 0 0) + K.2.2.1)).1 3 (mfC t 64) 0) ((stC t 4 (mfC t 64) (mcC t 64) ((t.1 2 0 0) + K.2.2.1)).1 3 (mfC t 64) 1) 1 ) ok_P_send lk_S_106 in_P_send se_P_send hs6.pool rfl d_S_receiveAsk_74 rfl rfl (Nat.le_of_ble_eq_true rfl) ⟨(Nat.le_of_ble_eq_true rfl), (Nat.le_of_ble_eq_true rfl)⟩ (Nat.le_of_ble_eq_true rfl) (Nat.le_of_ble_eq_true rfl) (fun r w' hq => ?_)
      obtain ⟨rfl, hs9⟩ := hq
      have hz : s_S_receiveAsk K t = s_P_send K (stC t 4 (mfC t 64) (mcC t 64) ((t.1 2 0 0) + K.2.2.1)) 2 (nI (mcC t 64)) (nI (mfC t 64)) ((stC t 4 (mfC t 64) (mcC t 64) ((t.1 2 0 0) + K.2.2.1)).1 7 64 3) ((stC t 4 (mfC t 64) (mcC t 64) ((t.1 2 0 0) + K.2.2.1)).1 3 (mfC t 64) 0) ((stC t 4 (mfC t 64) (mcC t 64) ((t.1 2 0 0) + K.2.2.1)).1 3 (mfC t 64) 1) 1 := by
        unfold s_S_receiveAsk
        rw [if_neg h1, if_neg h7]
      exact g_return d_S_receiveAsk_77 rfl (Nat.le_of_ble_eq_true rfl) (Nat.le_of_ble_eq_true rfl) ⟨rfl, by rw [hz]; exact hs9⟩

def s_S_receiveFree (K : kC) (t : tC) : tC :=
  if t.1 7 64 5 = t.1 2 0 2 then
    if s_F_isFirst K t (mfC t 64) (t.1 7 64 4) (t.1 7 64 3) = 0 then
      t
    else
      stC t 4 (mfC t 64) (mcC t 64) (t.1 2 0 0)
  else
    t
set_option maxHeartbeats 4000000 in
set_option maxRecDepth 100000 in
theorem c_S_receiveFree {E : gE} {w : wd} {K : kC} {L : lyC} {t : tC} (hs : SysC E K L t w) (hM : okMC K t 64) : Cn E y_S_receiveFree 5 0 0 [.ref (L.1 (8, 0, 0)), .ref (L.1 (3, 64, 0))] w (fun r w' => r = none ∧ SysC E K L (s_S_receiveFree K t ) w') := by
  refine Cn.of (by decide) (Nat.le_of_ble_eq_true rfl) (fun A => ?_)
  show G E y_S_receiveFree _ 0 [(0, .ref (L.1 (8, 0, 0))), (1, .ref (L.1 (3, 64, 0)))] [] w 0 0
  have h4 := hs.nc
  have h64 := hs.pn
  have hM2 := hM.2.1
  have hM4 := hM.2.2.2
  refine g_aload_n (j := 0) d_S_receiveFree_0 rfl ?_
  refine g_get d_S_receiveFree_1 f_S_37 hs.srv rfl ?_
  refine g_aload_n (j := 1) d_S_receiveFree_4 rfl ?_
  refine g_get d_S_receiveFree_5 f_S_84 (hs.msg (i := 64) (by omega)) rfl ?_
  refine g_norm (y := nI (mfC t 64)) hM.2.2.1 ?_
  refine g_aald (t0 := 5) (j := mfC t 64) d_S_receiveFree_8 hs.fls rfl rfl (by omega) (by omega) (rf_if (by omega)) ?_
  refine g_astore_n (lv' := [(2, _), (0, _), (1, _)]) d_S_receiveFree_9 (by decide) rfl ?_
  refine g_aload_n (j := 2) d_S_receiveFree_10 rfl ?_
  refine g_get d_S_receiveFree_11 f_S_129 (hs.msg (i := 64) (by omega)) rfl ?_
  refine g_aload_n (j := 1) d_S_receiveFree_14 rfl ?_
  refine g_get d_S_receiveFree_15 f_S_19 hs.srv rfl ?_
  refine g_icmp_ne (tgt := 49) d_S_receiveFree_18 (by decide) (fun h1 => ?_) (fun h1 => ?_)
  · skip
    have hz : s_S_receiveFree K t = t := by
      unfold s_S_receiveFree
      rw [if_neg h1]
    exact g_return d_S_receiveFree_49 rfl (Nat.le_of_ble_eq_true rfl) (Nat.le_of_ble_eq_true rfl) ⟨rfl, by rw [hz]; exact hs⟩
  · skip
    refine g_aload_n (j := 0) d_S_receiveFree_21 rfl ?_
    refine g_aload_n (j := 2) d_S_receiveFree_22 rfl ?_
    refine g_get d_S_receiveFree_23 f_S_116 (hs.msg (i := 64) (by omega)) rfl ?_
    refine g_aload_n (j := 2) d_S_receiveFree_26 rfl ?_
    refine g_get d_S_receiveFree_27 f_S_97 (hs.msg (i := 64) (by omega)) rfl ?_
    refine g_callV (c_F_isFirst hs (mfC t 64) (t.1 7 64 4) (t.1 7 64 3) (by omega)) ok_F_isFirst lk_S_123 in_F_isFirst se_F_isFirst (hs.fl (f := mfC t 64) (by omega)) rfl d_S_receiveFree_30 rfl rfl (Nat.le_of_ble_eq_true rfl) ⟨(Nat.le_of_ble_eq_true rfl), (Nat.le_of_ble_eq_true rfl)⟩ (Nat.le_of_ble_eq_true rfl) (Nat.le_of_ble_eq_true rfl) (fun r w' hq => ?_)
    obtain ⟨rfl, rfl⟩ := hq
    refine g_if_eq (tgt := 49) d_S_receiveFree_33 (by decide) (fun h2 => ?_) (fun h2 => ?_)
    · skip
      have hz : s_S_receiveFree K t = t := by
        unfold s_S_receiveFree
        rw [if_pos h1, if_pos h2]
      exact g_return d_S_receiveFree_49 rfl (Nat.le_of_ble_eq_true rfl) (Nat.le_of_ble_eq_true rfl) ⟨rfl, by rw [hz]; exact hs⟩
    · skip
      refine g_aload_n (j := 0) d_S_receiveFree_36 rfl ?_
      refine g_get d_S_receiveFree_37 f_S_91 (hs.fl (f := mfC t 64) (by omega)) rfl ?_
      refine g_aload_n (j := 2) d_S_receiveFree_40 rfl ?_
      refine g_get d_S_receiveFree_41 f_S_94 (hs.msg (i := 64) (by omega)) rfl ?_
      refine g_norm (y := nI (mcC t 64)) hM.1 ?_
      refine g_aload_n (j := 1) d_S_receiveFree_44 rfl ?_
      refine g_get d_S_receiveFree_45 f_S_9 hs.srv rfl ?_
      refine k_ends (f := mfC t 64) (j := mcC t 64) (by omega) d_S_receiveFree_48 hs rfl (by omega) (fun w3 hs4 => ?_)
      have hz : s_S_receiveFree K t = stC t 4 (mfC t 64) (mcC t 64) (t.1 2 0 0) := by
        unfold s_S_receiveFree
        rw [if_pos h1, if_neg h2]
      exact g_return d_S_receiveFree_49 rfl (Nat.le_of_ble_eq_true rfl) (Nat.le_of_ble_eq_true rfl) ⟨rfl, by rw [hz]; exact hs4⟩

def s_S_mayStore (K : kC) (t : tC) (f : Nat) : Int32 :=
  if s_A_isEmpty K t f = 0 then
    if t.1 2 0 0 < t.1 2 0 3 then
      0
    else
      if s_F_isLeasedAt K t f (t.1 2 0 0) = 0 then
        1
      else
        0
  else
    0
set_option maxHeartbeats 4000000 in
set_option maxRecDepth 100000 in
theorem c_S_mayStore {E : gE} {w : wd} {K : kC} {L : lyC} {t : tC} (hs : SysC E K L t w) (f : Nat) (hf : f < K.2.1) : Cn E y_S_mayStore 2 0 0 [.ref (L.1 (8, 0, 0)), .ref (L.1 (10, f, 0))] w (fun r w' => r = some (.int (s_S_mayStore K t f)) ∧ w' = w) := by
  refine Cn.of (by decide) (Nat.le_of_ble_eq_true rfl) (fun A => ?_)
  show G E y_S_mayStore _ 0 [(0, .ref (L.1 (8, 0, 0))), (1, .ref (L.1 (10, f, 0)))] [] w 0 0
  have h4 := hs.nc
  have h64 := hs.pn
  refine g_aload_n (j := 1) d_S_mayStore_0 rfl ?_
  refine g_get d_S_mayStore_1 f_S_64 (hs.fl (f := f) (by omega)) rfl ?_
  refine g_callV (c_A_isEmpty hs f (by omega)) ok_A_isEmpty lk_S_87 in_A_isEmpty se_A_isEmpty (hs.lst (f := f) (by omega)) rfl d_S_mayStore_4 rfl rfl (Nat.le_of_ble_eq_true rfl) ⟨(Nat.le_of_ble_eq_true rfl), (Nat.le_of_ble_eq_true rfl)⟩ (Nat.le_of_ble_eq_true rfl) (Nat.le_of_ble_eq_true rfl) (fun r w' hq => ?_)
  obtain ⟨rfl, rfl⟩ := hq
  refine g_if_ne (tgt := 36) d_S_mayStore_7 (by decide) (fun h1 => ?_) (fun h1 => ?_)
  · skip
    refine g_iconst (v := 0) d_S_mayStore_36 (by decide) ?_
    have hz : s_S_mayStore K t f = 0 := by
      unfold s_S_mayStore
      rw [if_neg h1]
    exact g_zreturn d_S_mayStore_37 rfl (by decide) (Nat.le_of_ble_eq_true rfl) (Nat.le_of_ble_eq_true rfl) ⟨by rw [hz], rfl⟩
  · skip
    refine g_aload_n (j := 0) d_S_mayStore_10 rfl ?_
    refine g_get d_S_mayStore_11 f_S_22 hs.srv rfl ?_
    refine g_aload_n (j := 0) d_S_mayStore_14 rfl ?_
    refine g_get d_S_mayStore_15 f_S_9 hs.srv rfl ?_
    refine g_icmp_gt (tgt := 36) d_S_mayStore_18 (by decide) (fun h2 => ?_) (fun h2 => ?_)
    · skip
      refine g_iconst (v := 0) d_S_mayStore_36 (by decide) ?_
      have hz : s_S_mayStore K t f = 0 := by
        unfold s_S_mayStore
        rw [if_pos h1, if_pos h2]
      exact g_zreturn d_S_mayStore_37 rfl (by decide) (Nat.le_of_ble_eq_true rfl) (Nat.le_of_ble_eq_true rfl) ⟨by rw [hz], rfl⟩
    · skip
      refine g_aload_n (j := 1) d_S_mayStore_21 rfl ?_
      refine g_aload_n (j := 0) d_S_mayStore_22 rfl ?_
      refine g_get d_S_mayStore_23 f_S_9 hs.srv rfl ?_
      refine g_callV (c_F_isLeasedAt hs f (t.1 2 0 0) (by omega)) ok_F_isLeasedAt lk_S_140 in_F_isLeasedAt se_F_isLeasedAt (hs.fl (f := f) (by omega)) rfl d_S_mayStore_26 rfl rfl (Nat.le_of_ble_eq_true rfl) ⟨(Nat.le_of_ble_eq_true rfl), (Nat.le_of_ble_eq_true rfl)⟩ (Nat.le_of_ble_eq_true rfl) (Nat.le_of_ble_eq_true rfl) (fun r w' hq => ?_)
      obtain ⟨rfl, rfl⟩ := hq
      refine g_if_ne (tgt := 36) d_S_mayStore_29 (by decide) (fun h3 => ?_) (fun h3 => ?_)
      · skip
        refine g_iconst (v := 0) d_S_mayStore_36 (by decide) ?_
        have hz : s_S_mayStore K t f = 0 := by
          unfold s_S_mayStore
          rw [if_pos h1, if_neg h2, if_neg h3]
        exact g_zreturn d_S_mayStore_37 rfl (by decide) (Nat.le_of_ble_eq_true rfl) (Nat.le_of_ble_eq_true rfl) ⟨by rw [hz], rfl⟩
      · skip
        refine g_iconst (v := 1) d_S_mayStore_32 (by decide) ?_
        refine g_goto (tgt := 37) d_S_mayStore_33 (by decide) ?_
        have hz : s_S_mayStore K t f = 1 := by
          unfold s_S_mayStore
          rw [if_pos h1, if_neg h2, if_pos h3]
        exact g_zreturn d_S_mayStore_37 rfl (by decide) (Nat.le_of_ble_eq_true rfl) (Nat.le_of_ble_eq_true rfl) ⟨by rw [hz], rfl⟩

/-- the recalls, client by client -/
def rcC (K : kC) (t : tC) : Nat → tC
  | 0 => t
  | n + 1 => if (rcC K t n).1 4 (mfC t 64) n ≤ (rcC K t n).1 2 0 0 then rcC K t n else s_P_send K (rcC K t n) 4 (nI n) (nI (mfC t 64)) ((rcC K t n).1 7 64 3) (nI (mcC t 64)) ((rcC K t n).1 2 0 2) 0
def s_S_recall (K : kC) (t : tC) : tC := rcC K t K.1
theorem rcC_k (K : kC) (t : tC) (hp : t.2.2 ≤ 64) : ∀ n, (rcC K t n).2.2 ≤ 64 ∧ (rcC K t n).1 7 64 = t.1 7 64 ∧ (rcC K t n).2.1 = t.2.1 ∧ ∀ k i, k ≠ 7 → (rcC K t n).1 k i = t.1 k i := by
  intro n
  induction n with
  | zero => exact ⟨hp, rfl, rfl, fun _ _ _ => rfl⟩
  | succ n ih =>
    obtain ⟨i1, i2, i3, i4⟩ := ih
    unfold rcC
    split
    · exact ⟨i1, i2, i3, i4⟩
    · exact ⟨snd_n _ _ _ _ _ _ _ _ _ i1, (snd_64 _ _ _ _ _ _ _ _ _ i1).trans i2, (snd_w _ _ _ _ _ _ _ _ _).trans i3, fun k i hk => (snd_k _ _ _ _ _ _ _ _ _ (fun z => hk (congrArg Prod.fst z))).trans (i4 k i hk)⟩

set_option maxHeartbeats 4000000 in
set_option maxRecDepth 100000 in
theorem l_S_recall {E : gE} {K : kC} {L : lyC} {t : tC} (hp : t.2.2 ≤ 64) (hM : okMC K t 64) {A : Nat → Prop} : ∀ (r n : Nat) {w : wd}, SysC E K L (rcC K t n) w → r + n = K.1 → G E y_S_recall (rmD 2 0 0, A, (fun r w' => r = none ∧ SysC E K L (s_S_recall K t) w'), fun _ => True) 16 [(4, .int (nI n)), (3, .ref (L.1 (11, mfC t 64, 0))), (0, .ref (L.1 (8, 0, 0))), (1, .ref (L.1 (3, 64, 0))), (2, .ref (L.1 (1, 0, 0)))] [] w 0 0 := by
  have hM4 := hM.2.2.2
  intro r
  induction r with
  | zero =>
    intro n w hs hr
    have h4 := hs.nc
    have hr9 := rcC_k K t hp n
    have e1 : (rcC K t n).1 7 64 1 = nI (mcC t 64) := (congrFun hr9.2.1 1).trans hM.1
    have e2 : (rcC K t n).1 7 64 2 = nI (mfC t 64) := (congrFun hr9.2.1 2).trans hM.2.2.1
    refine g_iload (j := 0) d_S_recall_16 rfl ?_
    refine g_aload_n (j := 1) d_S_recall_18 rfl ?_
    refine g_alen (t0 := 0) d_S_recall_19 (hs.ends (f := (mfC t 64)) (by omega)) rfl ?_
    refine g_norm (y := nI K.1) rfl ?_
    refine g_icmp_ge (tgt := 64) d_S_recall_20 (by decide) (fun h1 => ?_) (fun h => absurd ((nI_leI (by omega) (by omega)).mpr (by omega)) h)
    have he : n = K.1 := by omega
    subst he
    exact g_return d_S_recall_64 rfl (Nat.le_of_ble_eq_true rfl) (Nat.le_of_ble_eq_true rfl) ⟨rfl, hs⟩
  | succ r ih =>
    intro n w hs hr
    have h4 := hs.nc
    have hr9 := rcC_k K t hp n
    have e1 : (rcC K t n).1 7 64 1 = nI (mcC t 64) := (congrFun hr9.2.1 1).trans hM.1
    have e2 : (rcC K t n).1 7 64 2 = nI (mfC t 64) := (congrFun hr9.2.1 2).trans hM.2.2.1
    refine g_iload (j := 0) d_S_recall_16 rfl ?_
    refine g_aload_n (j := 1) d_S_recall_18 rfl ?_
    refine g_alen (t0 := 0) d_S_recall_19 (hs.ends (f := (mfC t 64)) (by omega)) rfl ?_
    refine g_norm (y := nI K.1) rfl ?_
    refine g_icmp_ge (tgt := 64) d_S_recall_20 (by decide) (fun h => absurd h (fun z => absurd ((nI_leI (by omega) (by omega)).mp z) (by omega))) (fun h1 => ?_)
    refine g_aload_n (j := 1) d_S_recall_23 rfl ?_
    refine g_iload (j := 0) d_S_recall_24 rfl ?_
    refine g_iald (j := n) d_S_recall_26 (hs.ends (f := (mfC t 64)) (by omega)) rfl (by omega) (by omega) ?_
    refine g_aload_n (j := 2) d_S_recall_27 rfl ?_
    refine g_get d_S_recall_28 f_S_9 hs.srv rfl ?_
    refine g_icmp_le (tgt := 58) d_S_recall_31 (by decide) (fun h2 => ?_) (fun h2 => ?_)
    · skip
      refine g_iinc (j := 0) (v := nI (n + 1)) (lv' := [(4, _), (3, _), (0, _), (1, _), (2, _)]) d_S_recall_58 rfl (nI_1 n) (by decide) rfl ?_
      refine g_goto (tgt := 16) d_S_recall_61 (by decide) ?_
      exact ih (n + 1) (show SysC E K L (rcC K t (n + 1)) _ from (by unfold rcC; rw [if_pos h2]; exact hs)) (by omega)
    · skip
      refine g_aload_n (j := 4) d_S_recall_34 rfl ?_
      refine g_iconst (v := 4) d_S_recall_35 (by decide) ?_
      refine g_iload (j := 0) d_S_recall_36 rfl ?_
      refine g_aload_n (j := 3) d_S_recall_38 rfl ?_
      refine g_get d_S_recall_39 f_S_84 (hs.msg (i := 64) (by omega)) rfl ?_
      refine g_norm (y := nI (mfC t 64)) e2 ?_
      refine g_aload_n (j := 3) d_S_recall_42 rfl ?_
      refine g_get d_S_recall_43 f_S_97 (hs.msg (i := 64) (by omega)) rfl ?_
      refine g_aload_n (j := 3) d_S_recall_46 rfl ?_
      refine g_get d_S_recall_47 f_S_94 (hs.msg (i := 64) (by omega)) rfl ?_
      refine g_norm (y := nI (mcC t 64)) e1 ?_
      refine g_aload_n (j := 2) d_S_recall_50 rfl ?_
      refine g_get d_S_recall_51 f_S_19 hs.srv rfl ?_
      refine g_iconst (v := 0) d_S_recall_54 (by decide) ?_
      refine g_callV (c_P_send hs 4 (nI n) (nI (mfC t 64)) ((rcC K t n).1 7 64 3) (nI (mcC t 64)) ((rcC K t n).1 2 0 2) 0 ) ok_P_send lk_S_106 in_P_send se_P_send hs.pool rfl d_S_recall_55 rfl rfl (Nat.le_of_ble_eq_true rfl) ⟨(Nat.le_of_ble_eq_true rfl), (Nat.le_of_ble_eq_true rfl)⟩ (Nat.le_of_ble_eq_true rfl) (Nat.le_of_ble_eq_true rfl) (fun r w' hq => ?_)
      obtain ⟨rfl, hs3⟩ := hq
      refine g_iinc (j := 0) (v := nI (n + 1)) (lv' := [(4, _), (3, _), (0, _), (1, _), (2, _)]) d_S_recall_58 rfl (nI_1 n) (by decide) rfl ?_
      refine g_goto (tgt := 16) d_S_recall_61 (by decide) ?_
      exact ih (n + 1) (show SysC E K L (rcC K t (n + 1)) _ from (by unfold rcC; rw [if_neg h2]; exact hs3)) (by omega)

set_option maxHeartbeats 4000000 in
set_option maxRecDepth 100000 in
theorem c_S_recall {E : gE} {w : wd} {K : kC} {L : lyC} {t : tC} (hs : SysC E K L t w) (hM : okMC K t 64) : Cn E y_S_recall 2 0 0 [.ref (L.1 (8, 0, 0)), .ref (L.1 (3, 64, 0)), .ref (L.1 (1, 0, 0))] w (fun r w' => r = none ∧ SysC E K L (s_S_recall K t) w') := by
  refine Cn.of (by decide) (Nat.le_of_ble_eq_true rfl) (fun A => ?_)
  show G E y_S_recall _ 0 [(0, .ref (L.1 (8, 0, 0))), (1, .ref (L.1 (3, 64, 0))), (2, .ref (L.1 (1, 0, 0)))] [] w 0 0
  have h4 := hs.nc
  have hM4 := hM.2.2.2
  refine g_aload_n (j := 0) d_S_recall_0 rfl ?_
  refine g_get d_S_recall_1 f_S_37 hs.srv rfl ?_
  refine g_aload_n (j := 1) d_S_recall_4 rfl ?_
  refine g_get d_S_recall_5 f_S_84 (hs.msg (i := 64) (by omega)) rfl ?_
  refine g_norm (y := nI (mfC t 64)) hM.2.2.1 ?_
  refine g_aald (t0 := 5) (j := mfC t 64) d_S_recall_8 hs.fls rfl rfl (by omega) (by omega) (rf_if (by omega)) ?_
  refine g_get d_S_recall_9 f_S_91 (hs.fl (f := mfC t 64) (by omega)) rfl ?_
  refine g_astore_n (lv' := [(3, _), (0, _), (1, _), (2, _)]) d_S_recall_12 (by decide) rfl ?_
  refine g_iconst (v := 0) d_S_recall_13 (by decide) ?_
  refine g_istore (lv' := [(4, _), (3, _), (0, _), (1, _), (2, _)]) d_S_recall_14 (by decide) rfl ?_
  exact l_S_recall hs.pn hM K.1 0 hs (by omega)
