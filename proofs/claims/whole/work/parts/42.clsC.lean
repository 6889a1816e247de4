/-- a message's client and file, as numbers -/
def mcC (t : tC) (i : Nat) : Nat := (t.1 7 i 1).toNatClampNeg
def mfC (t : tC) (i : Nat) : Nat := (t.1 7 i 2).toNatClampNeg
def okMC (K : kC) (t : tC) (i : Nat) : Prop := t.1 7 i 1 = nI (mcC t i) ∧ mcC t i < K.1 ∧ t.1 7 i 2 = nI (mfC t i) ∧ mfC t i < K.2.1

def s_C_receiveGiven (K : kC) (t : tC) (c : Nat) (i : Nat) : tC :=
  if s_C_waitsToRead K t c = 0 then
    t
  else
    if t.1 7 i 3 = t.1 0 c 2 then
      if (s_C_finish K t c (t.1 7 i 4) (t.1 7 i 5)).1 7 i 6 = 1 then
        if (s_C_finish K t c (t.1 7 i 4) (t.1 7 i 5)).1 0 c 7 = 0 then
          s_Y_hold K (s_C_finish K t c (t.1 7 i 4) (t.1 7 i 5)) c (mfC t i) ((s_C_finish K t c (t.1 7 i 4) (t.1 7 i 5)).1 7 i 4) ((s_C_finish K t c (t.1 7 i 4) (t.1 7 i 5)).1 7 i 5) (((s_C_finish K t c (t.1 7 i 4) (t.1 7 i 5)).1 0 c 6) + K.2.2.2)
        else
          s_C_finish K t c (t.1 7 i 4) (t.1 7 i 5)
      else
        s_C_finish K t c (t.1 7 i 4) (t.1 7 i 5)
    else
      t
set_option maxHeartbeats 4000000 in
set_option maxRecDepth 100000 in
theorem c_C_receiveGiven {E : gE} {w : wd} {K : kC} {L : lyC} {t : tC} (hs : SysC E K L t w) (c : Nat) (i : Nat) (hc : c < K.1) (hi : i ≤ 64) (hM : okMC K t i) : Cn E y_C_receiveGiven 2 0 0 [.ref (L.1 (5, c, 0)), .ref (L.1 (3, i, 0))] w (fun r w' => r = none ∧ SysC E K L (s_C_receiveGiven K t c i) w') := by
  refine Cn.of (by decide) (Nat.le_of_ble_eq_true rfl) (fun A => ?_)
  show G E y_C_receiveGiven _ 0 [(0, .ref (L.1 (5, c, 0))), (1, .ref (L.1 (3, i, 0)))] [] w 0 0
  have h4 := hs.nc
  have h64 := hs.pn
  have hM2 := hM.2.1
  have hM4 := hM.2.2.2
  refine g_aload_n (j := 0) d_C_receiveGiven_0 rfl ?_
  refine g_callV (c_C_waitsToRead hs c (by omega)) ok_C_waitsToRead lk_C_95 in_C_waitsToRead se_C_waitsToRead (hs.cli (c := c) (by omega)) rfl d_C_receiveGiven_1 rfl rfl (Nat.le_of_ble_eq_true rfl) ⟨(Nat.le_of_ble_eq_true rfl), (Nat.le_of_ble_eq_true rfl)⟩ (Nat.le_of_ble_eq_true rfl) (Nat.le_of_ble_eq_true rfl) (fun r w' hq => ?_)
  obtain ⟨rfl, rfl⟩ := hq
  refine g_if_eq (tgt := 18) d_C_receiveGiven_4 (by decide) (fun h1 => ?_) (fun h1 => ?_)
  · skip
    have hz : s_C_receiveGiven K t c i = t := by
      unfold s_C_receiveGiven
      rw [if_pos h1]
    exact g_return d_C_receiveGiven_18 rfl (Nat.le_of_ble_eq_true rfl) (Nat.le_of_ble_eq_true rfl) ⟨rfl, by rw [hz]; exact hs⟩
  · skip
    refine g_aload_n (j := 1) d_C_receiveGiven_7 rfl ?_
    refine g_get d_C_receiveGiven_8 f_C_105 (hs.msg (i := i) (by omega)) rfl ?_
    refine g_aload_n (j := 0) d_C_receiveGiven_11 rfl ?_
    refine g_get d_C_receiveGiven_12 f_C_18 (hs.cli (c := c) (by omega)) rfl ?_
    refine g_icmp_eq (tgt := 19) d_C_receiveGiven_15 (by decide) (fun h2 => ?_) (fun h2 => ?_)
    · skip
      refine g_aload_n (j := 0) d_C_receiveGiven_19 rfl ?_
      refine g_aload_n (j := 1) d_C_receiveGiven_20 rfl ?_
      refine g_get d_C_receiveGiven_21 f_C_106 (hs.msg (i := i) (by omega)) rfl ?_
      refine g_aload_n (j := 1) d_C_receiveGiven_24 rfl ?_
      refine g_get d_C_receiveGiven_25 f_C_109 (hs.msg (i := i) (by omega)) rfl ?_
      refine g_callV (c_C_finish hs c (t.1 7 i 4) (t.1 7 i 5) (by omega)) ok_C_finish lk_C_68 in_C_finish se_C_finish (hs.cli (c := c) (by omega)) rfl d_C_receiveGiven_28 rfl rfl (Nat.le_of_ble_eq_true rfl) ⟨(Nat.le_of_ble_eq_true rfl), (Nat.le_of_ble_eq_true rfl)⟩ (Nat.le_of_ble_eq_true rfl) (Nat.le_of_ble_eq_true rfl) (fun r w' hq => ?_)
      obtain ⟨rfl, hs3⟩ := hq
      refine g_aload_n (j := 1) d_C_receiveGiven_31 rfl ?_
      refine g_get d_C_receiveGiven_32 f_C_112 (hs3.msg (i := i) (by omega)) rfl ?_
      refine g_iconst (v := 1) d_C_receiveGiven_35 (by decide) ?_
      refine g_icmp_ne (tgt := 75) d_C_receiveGiven_36 (by decide) (fun h4 => ?_) (fun h4 => ?_)
      · skip
        have hz : s_C_receiveGiven K t c i = s_C_finish K t c (t.1 7 i 4) (t.1 7 i 5) := by
          unfold s_C_receiveGiven
          rw [if_neg h1, if_pos h2, if_neg h4]
        exact g_return d_C_receiveGiven_75 rfl (Nat.le_of_ble_eq_true rfl) (Nat.le_of_ble_eq_true rfl) ⟨rfl, by rw [hz]; exact hs3⟩
      · skip
        refine g_aload_n (j := 0) d_C_receiveGiven_39 rfl ?_
        refine g_get d_C_receiveGiven_40 f_C_34 (hs3.cli (c := c) (by omega)) rfl ?_
        refine g_if_ne (tgt := 75) d_C_receiveGiven_43 (by decide) (fun h5 => ?_) (fun h5 => ?_)
        · skip
          have hz : s_C_receiveGiven K t c i = s_C_finish K t c (t.1 7 i 4) (t.1 7 i 5) := by
            unfold s_C_receiveGiven
            rw [if_neg h1, if_pos h2, if_pos h4, if_neg h5]
          exact g_return d_C_receiveGiven_75 rfl (Nat.le_of_ble_eq_true rfl) (Nat.le_of_ble_eq_true rfl) ⟨rfl, by rw [hz]; exact hs3⟩
        · skip
          refine g_aload_n (j := 0) d_C_receiveGiven_46 rfl ?_
          refine g_get d_C_receiveGiven_47 f_C_51 (hs3.cli (c := c) (by omega)) rfl ?_
          refine g_aload_n (j := 1) d_C_receiveGiven_50 rfl ?_
          refine g_get d_C_receiveGiven_51 f_C_115 (hs3.msg (i := i) (by omega)) rfl ?_
          refine g_norm (y := nI (mfC t i)) hM.2.2.1 ?_
          refine g_aald (t0 := 4) (j := mfC t i) d_C_receiveGiven_54 (hs3.cps (c := c) (by omega)) rfl rfl (by omega) (by omega) (rf_if (by omega)) ?_
          refine g_aload_n (j := 1) d_C_receiveGiven_55 rfl ?_
          refine g_get d_C_receiveGiven_56 f_C_106 (hs3.msg (i := i) (by omega)) rfl ?_
          refine g_aload_n (j := 1) d_C_receiveGiven_59 rfl ?_
          refine g_get d_C_receiveGiven_60 f_C_109 (hs3.msg (i := i) (by omega)) rfl ?_
          refine g_aload_n (j := 0) d_C_receiveGiven_63 rfl ?_
          refine g_get d_C_receiveGiven_64 f_C_31 (hs3.cli (c := c) (by omega)) rfl ?_
          refine g_aload_n (j := 0) d_C_receiveGiven_67 rfl ?_
          refine g_get d_C_receiveGiven_68 f_C_46 (hs3.cli (c := c) (by omega)) rfl ?_
          refine g_iadd d_C_receiveGiven_71 ?_
          refine g_callV (c_Y_hold hs3 c (mfC t i) ((s_C_finish K t c (t.1 7 i 4) (t.1 7 i 5)).1 7 i 4) ((s_C_finish K t c (t.1 7 i 4) (t.1 7 i 5)).1 7 i 5) (((s_C_finish K t c (t.1 7 i 4) (t.1 7 i 5)).1 0 c 6) + K.2.2.2) (by omega) (by omega)) ok_Y_hold lk_C_116 in_Y_hold se_Y_hold (hs3.cp (c := c) (f := mfC t i) (by omega) (by omega)) rfl d_C_receiveGiven_72 rfl rfl (Nat.le_of_ble_eq_true rfl) ⟨(Nat.le_of_ble_eq_true rfl), (Nat.le_of_ble_eq_true rfl)⟩ (Nat.le_of_ble_eq_true rfl) (Nat.le_of_ble_eq_true rfl) (fun r w' hq => ?_)
          obtain ⟨rfl, hs6⟩ := hq
          have hz : s_C_receiveGiven K t c i = s_Y_hold K (s_C_finish K t c (t.1 7 i 4) (t.1 7 i 5)) c (mfC t i) ((s_C_finish K t c (t.1 7 i 4) (t.1 7 i 5)).1 7 i 4) ((s_C_finish K t c (t.1 7 i 4) (t.1 7 i 5)).1 7 i 5) (((s_C_finish K t c (t.1 7 i 4) (t.1 7 i 5)).1 0 c 6) + K.2.2.2) := by
            unfold s_C_receiveGiven
            rw [if_neg h1, if_pos h2, if_pos h4, if_pos h5]
          exact g_return d_C_receiveGiven_75 rfl (Nat.le_of_ble_eq_true rfl) (Nat.le_of_ble_eq_true rfl) ⟨rfl, by rw [hz]; exact hs6⟩
    · skip
      have hz : s_C_receiveGiven K t c i = t := by
        unfold s_C_receiveGiven
        rw [if_neg h1, if_neg h2]
      exact g_return d_C_receiveGiven_18 rfl (Nat.le_of_ble_eq_true rfl) (Nat.le_of_ble_eq_true rfl) ⟨rfl, by rw [hz]; exact hs⟩

def s_C_receiveRecall (K : kC) (t : tC) (c : Nat) (i : Nat) : tC :=
  if s_C_waitsToRead K (stC t 1 ((4 * c + (mfC t i))) 0 0) c = 0 then
    s_P_send K (stC t 1 ((4 * c + (mfC t i))) 0 0) 5 (nI c) (nI (mfC t i)) ((stC t 1 ((4 * c + (mfC t i))) 0 0).1 7 i 3) ((stC t 1 ((4 * c + (mfC t i))) 0 0).1 7 i 4) ((stC t 1 ((4 * c + (mfC t i))) 0 0).1 7 i 5) 0
  else
    if nI (mfC t i) = (stC t 1 ((4 * c + (mfC t i))) 0 0).1 0 c 4 then
      s_P_send K (stC (stC t 1 ((4 * c + (mfC t i))) 0 0) 0 c 7 1) 5 (nI c) (nI (mfC t i)) ((stC (stC t 1 ((4 * c + (mfC t i))) 0 0) 0 c 7 1).1 7 i 3) ((stC (stC t 1 ((4 * c + (mfC t i))) 0 0) 0 c 7 1).1 7 i 4) ((stC (stC t 1 ((4 * c + (mfC t i))) 0 0) 0 c 7 1).1 7 i 5) 0
    else
      s_P_send K (stC t 1 ((4 * c + (mfC t i))) 0 0) 5 (nI c) (nI (mfC t i)) ((stC t 1 ((4 * c + (mfC t i))) 0 0).1 7 i 3) ((stC t 1 ((4 * c + (mfC t i))) 0 0).1 7 i 4) ((stC t 1 ((4 * c + (mfC t i))) 0 0).1 7 i 5) 0
set_option maxHeartbeats 4000000 in
set_option maxRecDepth 100000 in
theorem c_C_receiveRecall {E : gE} {w : wd} {K : kC} {L : lyC} {t : tC} (hs : SysC E K L t w) (c : Nat) (i : Nat) (hc : c < K.1) (hi : i ≤ 64) (hM : okMC K t i) : Cn E y_C_receiveRecall 2 0 0 [.ref (L.1 (5, c, 0)), .ref (L.1 (3, i, 0)), .ref (L.1 (1, 0, 0))] w (fun r w' => r = none ∧ SysC E K L (s_C_receiveRecall K t c i) w') := by
  refine Cn.of (by decide) (Nat.le_of_ble_eq_true rfl) (fun A => ?_)
  show G E y_C_receiveRecall _ 0 [(0, .ref (L.1 (5, c, 0))), (1, .ref (L.1 (3, i, 0))), (2, .ref (L.1 (1, 0, 0)))] [] w 0 0
  have h4 := hs.nc
  have h64 := hs.pn
  have hM2 := hM.2.1
  have hM4 := hM.2.2.2
  refine g_aload_n (j := 0) d_C_receiveRecall_0 rfl ?_
  refine g_get d_C_receiveRecall_1 f_C_51 (hs.cli (c := c) (by omega)) rfl ?_
  refine g_aload_n (j := 1) d_C_receiveRecall_4 rfl ?_
  refine g_get d_C_receiveRecall_5 f_C_115 (hs.msg (i := i) (by omega)) rfl ?_
  refine g_norm (y := nI (mfC t i)) hM.2.2.1 ?_
  refine g_aald (t0 := 4) (j := mfC t i) d_C_receiveRecall_8 (hs.cps (c := c) (by omega)) rfl rfl (by omega) (by omega) (rf_if (by omega)) ?_
  refine g_iconst (v := 0) d_C_receiveRecall_9 (by decide) ?_
  refine k_cp (c := c) (f := mfC t i) (j := 0) (by omega) (by omega) d_C_receiveRecall_10 fw_C_76 hs (fun _ => rfl) rfl rfl (Nat.le_of_ble_eq_true rfl) (fun w1 hs2 => ?_)
  refine g_aload_n (j := 0) d_C_receiveRecall_13 rfl ?_
  refine g_callV (c_C_waitsToRead hs2 c (by omega)) ok_C_waitsToRead lk_C_95 in_C_waitsToRead se_C_waitsToRead (hs2.cli (c := c) (by omega)) rfl d_C_receiveRecall_14 rfl rfl (Nat.le_of_ble_eq_true rfl) ⟨(Nat.le_of_ble_eq_true rfl), (Nat.le_of_ble_eq_true rfl)⟩ (Nat.le_of_ble_eq_true rfl) (Nat.le_of_ble_eq_true rfl) (fun r w' hq => ?_)
  obtain ⟨rfl, rfl⟩ := hq
  refine g_if_eq (tgt := 36) d_C_receiveRecall_17 (by decide) (fun h3 => ?_) (fun h3 => ?_)
  · skip
    refine g_aload_n (j := 2) d_C_receiveRecall_36 rfl ?_
    refine g_iconst (v := 5) d_C_receiveRecall_37 (by decide) ?_
    refine g_aload_n (j := 0) d_C_receiveRecall_38 rfl ?_
    refine g_get d_C_receiveRecall_39 f_C_43 (hs2.cli (c := c) (by omega)) rfl ?_
    refine g_aload_n (j := 1) d_C_receiveRecall_42 rfl ?_
    refine g_get d_C_receiveRecall_43 f_C_115 (hs2.msg (i := i) (by omega)) rfl ?_
    refine g_norm (y := nI (mfC t i)) hM.2.2.1 ?_
    refine g_aload_n (j := 1) d_C_receiveRecall_46 rfl ?_
    refine g_get d_C_receiveRecall_47 f_C_105 (hs2.msg (i := i) (by omega)) rfl ?_
    refine g_aload_n (j := 1) d_C_receiveRecall_50 rfl ?_
    refine g_get d_C_receiveRecall_51 f_C_106 (hs2.msg (i := i) (by omega)) rfl ?_
    refine g_aload_n (j := 1) d_C_receiveRecall_54 rfl ?_
    refine g_get d_C_receiveRecall_55 f_C_109 (hs2.msg (i := i) (by omega)) rfl ?_
    refine g_iconst (v := 0) d_C_receiveRecall_58 (by decide) ?_
    refine g_callV (c_P_send hs2 5 (nI c) (nI (mfC t i)) ((stC t 1 ((4 * c + (mfC t i))) 0 0).1 7 i 3) ((stC t 1 ((4 * c + (mfC t i))) 0 0).1 7 i 4) ((stC t 1 ((4 * c + (mfC t i))) 0 0).1 7 i 5) 0 ) ok_P_send lk_C_99 in_P_send se_P_send hs2.pool rfl d_C_receiveRecall_59 rfl rfl (Nat.le_of_ble_eq_true rfl) ⟨(Nat.le_of_ble_eq_true rfl), (Nat.le_of_ble_eq_true rfl)⟩ (Nat.le_of_ble_eq_true rfl) (Nat.le_of_ble_eq_true rfl) (fun r w' hq => ?_)
    obtain ⟨rfl, hs4⟩ := hq
    have hz : s_C_receiveRecall K t c i = s_P_send K (stC t 1 ((4 * c + (mfC t i))) 0 0) 5 (nI c) (nI (mfC t i)) ((stC t 1 ((4 * c + (mfC t i))) 0 0).1 7 i 3) ((stC t 1 ((4 * c + (mfC t i))) 0 0).1 7 i 4) ((stC t 1 ((4 * c + (mfC t i))) 0 0).1 7 i 5) 0 := by
      unfold s_C_receiveRecall
      rw [if_pos h3]
    exact g_return d_C_receiveRecall_62 rfl (Nat.le_of_ble_eq_true rfl) (Nat.le_of_ble_eq_true rfl) ⟨rfl, by rw [hz]; exact hs4⟩
  · skip
    refine g_aload_n (j := 1) d_C_receiveRecall_20 rfl ?_
    refine g_get d_C_receiveRecall_21 f_C_115 (hs2.msg (i := i) (by omega)) rfl ?_
    refine g_norm (y := nI (mfC t i)) hM.2.2.1 ?_
    refine g_aload_n (j := 0) d_C_receiveRecall_24 rfl ?_
    refine g_get d_C_receiveRecall_25 f_C_25 (hs2.cli (c := c) (by omega)) rfl ?_
    refine g_icmp_ne (tgt := 36) d_C_receiveRecall_28 (by decide) (fun h5 => ?_) (fun h5 => ?_)
    · skip
      refine g_aload_n (j := 2) d_C_receiveRecall_36 rfl ?_
      refine g_iconst (v := 5) d_C_receiveRecall_37 (by decide) ?_
      refine g_aload_n (j := 0) d_C_receiveRecall_38 rfl ?_
      refine g_get d_C_receiveRecall_39 f_C_43 (hs2.cli (c := c) (by omega)) rfl ?_
      refine g_aload_n (j := 1) d_C_receiveRecall_42 rfl ?_
      refine g_get d_C_receiveRecall_43 f_C_115 (hs2.msg (i := i) (by omega)) rfl ?_
      refine g_norm (y := nI (mfC t i)) hM.2.2.1 ?_
      refine g_aload_n (j := 1) d_C_receiveRecall_46 rfl ?_
      refine g_get d_C_receiveRecall_47 f_C_105 (hs2.msg (i := i) (by omega)) rfl ?_
      refine g_aload_n (j := 1) d_C_receiveRecall_50 rfl ?_
      refine g_get d_C_receiveRecall_51 f_C_106 (hs2.msg (i := i) (by omega)) rfl ?_
      refine g_aload_n (j := 1) d_C_receiveRecall_54 rfl ?_
      refine g_get d_C_receiveRecall_55 f_C_109 (hs2.msg (i := i) (by omega)) rfl ?_
      refine g_iconst (v := 0) d_C_receiveRecall_58 (by decide) ?_
      refine g_callV (c_P_send hs2 5 (nI c) (nI (mfC t i)) ((stC t 1 ((4 * c + (mfC t i))) 0 0).1 7 i 3) ((stC t 1 ((4 * c + (mfC t i))) 0 0).1 7 i 4) ((stC t 1 ((4 * c + (mfC t i))) 0 0).1 7 i 5) 0 ) ok_P_send lk_C_99 in_P_send se_P_send hs2.pool rfl d_C_receiveRecall_59 rfl rfl (Nat.le_of_ble_eq_true rfl) ⟨(Nat.le_of_ble_eq_true rfl), (Nat.le_of_ble_eq_true rfl)⟩ (Nat.le_of_ble_eq_true rfl) (Nat.le_of_ble_eq_true rfl) (fun r w' hq => ?_)
      obtain ⟨rfl, hs6⟩ := hq
      have hz : s_C_receiveRecall K t c i = s_P_send K (stC t 1 ((4 * c + (mfC t i))) 0 0) 5 (nI c) (nI (mfC t i)) ((stC t 1 ((4 * c + (mfC t i))) 0 0).1 7 i 3) ((stC t 1 ((4 * c + (mfC t i))) 0 0).1 7 i 4) ((stC t 1 ((4 * c + (mfC t i))) 0 0).1 7 i 5) 0 := by
        unfold s_C_receiveRecall
        rw [if_neg h3, if_neg h5]
      exact g_return d_C_receiveRecall_62 rfl (Nat.le_of_ble_eq_true rfl) (Nat.le_of_ble_eq_true rfl) ⟨rfl, by rw [hz]; exact hs6⟩
    · skip
      refine g_aload_n (j := 0) d_C_receiveRecall_31 rfl ?_
      refine g_iconst (v := 1) d_C_receiveRecall_32 (by decide) ?_
      refine k_cli (c := c) (j := 7) (by omega) d_C_receiveRecall_33 fw_C_34 hs2 (fun _ => rfl) rfl rfl (Nat.le_of_ble_eq_true rfl) (fun w7 hs8 => ?_)
      refine g_aload_n (j := 2) d_C_receiveRecall_36 rfl ?_
      refine g_iconst (v := 5) d_C_receiveRecall_37 (by decide) ?_
      refine g_aload_n (j := 0) d_C_receiveRecall_38 rfl ?_
      refine g_get d_C_receiveRecall_39 f_C_43 (hs8.cli (c := c) (by omega)) rfl ?_
      refine g_aload_n (j := 1) d_C_receiveRecall_42 rfl ?_
      refine g_get d_C_receiveRecall_43 f_C_115 (hs8.msg (i := i) (by omega)) rfl ?_
      refine g_norm (y := nI (mfC t i)) hM.2.2.1 ?_
      refine g_aload_n (j := 1) d_C_receiveRecall_46 rfl ?_
      refine g_get d_C_receiveRecall_47 f_C_105 (hs8.msg (i := i) (by omega)) rfl ?_
      refine g_aload_n (j := 1) d_C_receiveRecall_50 rfl ?_
      refine g_get d_C_receiveRecall_51 f_C_106 (hs8.msg (i := i) (by omega)) rfl ?_
      refine g_aload_n (j := 1) d_C_receiveRecall_54 rfl ?_
      refine g_get d_C_receiveRecall_55 f_C_109 (hs8.msg (i := i) (by omega)) rfl ?_
      refine g_iconst (v := 0) d_C_receiveRecall_58 (by decide) ?_
      refine g_callV (c_P_send hs8 5 (nI c) (nI (mfC t i)) ((stC (stC t 1 ((4 * c + (mfC t i))) 0 0) 0 c 7 1).1 7 i 3) ((stC (stC t 1 ((4 * c + (mfC t i))) 0 0) 0 c 7 1).1 7 i 4) ((stC (stC t 1 ((4 * c + (mfC t i))) 0 0) 0 c 7 1).1 7 i 5) 0 ) ok_P_send lk_C_99 in_P_send se_P_send hs8.pool rfl d_C_receiveRecall_59 rfl rfl (Nat.le_of_ble_eq_true rfl) ⟨(Nat.le_of_ble_eq_true rfl), (Nat.le_of_ble_eq_true rfl)⟩ (Nat.le_of_ble_eq_true rfl) (Nat.le_of_ble_eq_true rfl) (fun r w' hq => ?_)
      obtain ⟨rfl, hs9⟩ := hq
      have hz : s_C_receiveRecall K t c i = s_P_send K (stC (stC t 1 ((4 * c + (mfC t i))) 0 0) 0 c 7 1) 5 (nI c) (nI (mfC t i)) ((stC (stC t 1 ((4 * c + (mfC t i))) 0 0) 0 c 7 1).1 7 i 3) ((stC (stC t 1 ((4 * c + (mfC t i))) 0 0) 0 c 7 1).1 7 i 4) ((stC (stC t 1 ((4 * c + (mfC t i))) 0 0) 0 c 7 1).1 7 i 5) 0 := by
        unfold s_C_receiveRecall
        rw [if_neg h3, if_pos h5]
      exact g_return d_C_receiveRecall_62 rfl (Nat.le_of_ble_eq_true rfl) (Nat.le_of_ble_eq_true rfl) ⟨rfl, by rw [hz]; exact hs9⟩

def s_C_receive (K : kC) (t : tC) (c : Nat) (i : Nat) : tC :=
  if t.1 7 i 0 = 2 then
    s_C_receiveGiven K t c i
  else
    if t.1 7 i 0 = 3 then
      s_C_receiveStored K t c i
    else
      if t.1 7 i 0 = 4 then
        s_C_receiveRecall K t c i
      else
        t
set_option maxHeartbeats 4000000 in
set_option maxRecDepth 100000 in
theorem c_C_receive {E : gE} {w : wd} {K : kC} {L : lyC} {t : tC} (hs : SysC E K L t w) (c : Nat) (i : Nat) (hc : c < K.1) (hi : i ≤ 64) (hM : okMC K t i) : Cn E y_C_receive 3 0 0 [.ref (L.1 (5, c, 0)), .ref (L.1 (3, i, 0)), .ref (L.1 (1, 0, 0))] w (fun r w' => r = none ∧ SysC E K L (s_C_receive K t c i) w') := by
  refine Cn.of (by decide) (Nat.le_of_ble_eq_true rfl) (fun A => ?_)
  show G E y_C_receive _ 0 [(0, .ref (L.1 (5, c, 0))), (1, .ref (L.1 (3, i, 0))), (2, .ref (L.1 (1, 0, 0)))] [] w 0 0
  have h4 := hs.nc
  have h64 := hs.pn
  have hM2 := hM.2.1
  have hM4 := hM.2.2.2
  refine g_aload_n (j := 1) d_C_receive_0 rfl ?_
  refine g_get d_C_receive_1 f_C_79 (hs.msg (i := i) (by omega)) rfl ?_
  rcases Decidable.em (t.1 7 i 0 = 2) with h1 | h1
  · skip
    refine g_tableIn (tgt := 32) (off := 28) d_C_receive_4 (by rw [h1]; decide) (by rw [h1]; decide) (by rw [h1]; rfl) (by decide) ?_
    refine g_aload_n (j := 0) d_C_receive_32 rfl ?_
    refine g_aload_n (j := 1) d_C_receive_33 rfl ?_
    refine g_callV (c_C_receiveGiven hs c i (by omega) (by omega) hM) ok_C_receiveGiven lk_C_84 in_C_receiveGiven se_C_receiveGiven (hs.cli (c := c) (by omega)) rfl d_C_receive_34 rfl rfl (Nat.le_of_ble_eq_true rfl) ⟨(Nat.le_of_ble_eq_true rfl), (Nat.le_of_ble_eq_true rfl)⟩ (Nat.le_of_ble_eq_true rfl) (Nat.le_of_ble_eq_true rfl) (fun r w' hq => ?_)
    obtain ⟨rfl, hs2⟩ := hq
    refine g_goto (tgt := 57) d_C_receive_37 (by decide) ?_
    have hz : s_C_receive K t c i = s_C_receiveGiven K t c i := by
      unfold s_C_receive
      rw [if_pos h1]
    exact g_return d_C_receive_57 rfl (Nat.le_of_ble_eq_true rfl) (Nat.le_of_ble_eq_true rfl) ⟨rfl, by rw [hz]; exact hs2⟩
  · skip
    rcases Decidable.em (t.1 7 i 0 = 3) with h3 | h3
    · skip
      refine g_tableIn (tgt := 40) (off := 36) d_C_receive_4 (by rw [h3]; decide) (by rw [h3]; decide) (by rw [h3]; rfl) (by decide) ?_
      refine g_aload_n (j := 0) d_C_receive_40 rfl ?_
      refine g_aload_n (j := 1) d_C_receive_41 rfl ?_
      refine g_callV (c_C_receiveStored hs c i (by omega) (by omega)) ok_C_receiveStored lk_C_88 in_C_receiveStored se_C_receiveStored (hs.cli (c := c) (by omega)) rfl d_C_receive_42 rfl rfl (Nat.le_of_ble_eq_true rfl) ⟨(Nat.le_of_ble_eq_true rfl), (Nat.le_of_ble_eq_true rfl)⟩ (Nat.le_of_ble_eq_true rfl) (Nat.le_of_ble_eq_true rfl) (fun r w' hq => ?_)
      obtain ⟨rfl, hs4⟩ := hq
      refine g_goto (tgt := 57) d_C_receive_45 (by decide) ?_
      have hz : s_C_receive K t c i = s_C_receiveStored K t c i := by
        unfold s_C_receive
        rw [if_neg h1, if_pos h3]
      exact g_return d_C_receive_57 rfl (Nat.le_of_ble_eq_true rfl) (Nat.le_of_ble_eq_true rfl) ⟨rfl, by rw [hz]; exact hs4⟩
    · skip
      rcases Decidable.em (t.1 7 i 0 = 4) with h5 | h5
      · skip
        refine g_tableIn (tgt := 48) (off := 44) d_C_receive_4 (by rw [h5]; decide) (by rw [h5]; decide) (by rw [h5]; rfl) (by decide) ?_
        refine g_aload_n (j := 0) d_C_receive_48 rfl ?_
        refine g_aload_n (j := 1) d_C_receive_49 rfl ?_
        refine g_aload_n (j := 2) d_C_receive_50 rfl ?_
        refine g_callV (c_C_receiveRecall hs c i (by omega) (by omega) hM) ok_C_receiveRecall lk_C_91 in_C_receiveRecall se_C_receiveRecall (hs.cli (c := c) (by omega)) rfl d_C_receive_51 rfl rfl (Nat.le_of_ble_eq_true rfl) ⟨(Nat.le_of_ble_eq_true rfl), (Nat.le_of_ble_eq_true rfl)⟩ (Nat.le_of_ble_eq_true rfl) (Nat.le_of_ble_eq_true rfl) (fun r w' hq => ?_)
        obtain ⟨rfl, hs6⟩ := hq
        refine g_goto (tgt := 57) d_C_receive_54 (by decide) ?_
        have hz : s_C_receive K t c i = s_C_receiveRecall K t c i := by
          unfold s_C_receive
          rw [if_neg h1, if_neg h3, if_pos h5]
        exact g_return d_C_receive_57 rfl (Nat.le_of_ble_eq_true rfl) (Nat.le_of_ble_eq_true rfl) ⟨rfl, by rw [hz]; exact hs6⟩
      · skip
        refine g_tableOut (tgt := 57) d_C_receive_4 (sw_out (t.1 7 i 0) 2 4 (Nat.le_of_ble_eq_true rfl) (by decide) (fun j hj1 hj2 => by
          have hh : j = 2 ∨ j = 3 ∨ j = 4 := by omega
          rcases hh with rfl | rfl | rfl
          · exact h1
          · exact h3
          · exact h5)) (by decide) ?_
        have hz : s_C_receive K t c i = t := by
          unfold s_C_receive
          rw [if_neg h1, if_neg h3, if_neg h5]
        exact g_return d_C_receive_57 rfl (Nat.le_of_ble_eq_true rfl) (Nat.le_of_ble_eq_true rfl) ⟨rfl, by rw [hz]; exact hs⟩
