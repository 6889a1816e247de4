theorem pm64 {k n : Nat} (hk : k < n) (hn : n ≤ 64) : pmC k n 64 = k := by
  unfold pmC
  rw [if_neg (by omega), if_neg (by omega), if_neg (by omega), if_pos rfl]
theorem pt_ex {E : gE} {K : kC} {L : lyC} {t : tC} {w : wd} {k n : Nat} (hk : k < n) (hn : n ≤ 64) (h : SysC E K (ptL L k n) (ptC t k n) w) : ∃ L' : lyC, (∀ x : nmC, x.1 ≠ 3 → L'.1 x = L.1 x) ∧ L'.1 (3, 64, 0) = L.1 (3, k, 0) ∧ SysC E K L' (ptC t k n) w := by
  refine ⟨ptL L k n, fun x hx => if_neg hx, ?_, h⟩
  show L.1 (3, pmC k n 64, 0) = _
  rw [pm64 hk hn]
theorem pt64 {t : tC} {k n : Nat} (hk : k < n) (hn : n ≤ 64) : (ptC t k n).1 7 64 = t.1 7 k := by
  show t.1 7 (pmC k n 64) = _
  rw [pm64 hk hn]
theorem okMC.pt {K : kC} {t : tC} {k n : Nat} (h : okMC K t k) (hk : k < n) (hn : n ≤ 64) : okMC K (ptC t k n) 64 := by
  unfold okMC mcC mfC at *
  rw [pt64 hk hn]
  exact h

def s_L_lose (K : kC) (t : tC) (k : Nat) : tC × Int32 :=
  (ptC t k t.2.2, 1)
set_option maxHeartbeats 4000000 in
set_option maxRecDepth 100000 in
theorem c_L_lose {E : gE} {w : wd} {K : kC} {L : lyC} {t : tC} (hs : SysC E K L t w) (k : Nat) (hk : k < t.2.2) : Cn E y_L_lose 2 0 0 [.ref (L.1 (0, 0, 0)), .int (nI k)] w (fun r w' => r = some (.int (s_L_lose K t k).2) ∧ ∃ L' : lyC, L'.1 (0, 0, 0) = L.1 (0, 0, 0) ∧ SysC E K L' (s_L_lose K t k).1 w') := by
  refine Cn.of (by decide) (Nat.le_of_ble_eq_true rfl) (fun A => ?_)
  show G E y_L_lose _ 0 [(0, .ref (L.1 (0, 0, 0))), (1, .int (nI k))] [] w 0 0
  have h4 := hs.nc
  have h64 := hs.pn
  refine g_aload_n (j := 0) d_L_lose_0 rfl ?_
  refine g_get d_L_lose_1 f_L_20 hs.main rfl ?_
  refine g_iload_n (j := 1) d_L_lose_4 rfl ?_
  refine g_callV (c_P_holds hs (nI k) ) ok_P_holds lk_L_71 in_P_holds se_P_holds hs.pool rfl d_L_lose_5 rfl rfl (Nat.le_of_ble_eq_true rfl) ⟨(Nat.le_of_ble_eq_true rfl), (Nat.le_of_ble_eq_true rfl)⟩ (Nat.le_of_ble_eq_true rfl) (Nat.le_of_ble_eq_true rfl) (fun r w' hq => ?_)
  obtain ⟨rfl, rfl⟩ := hq
  refine g_if_ne (tgt := 13) d_L_lose_8 (by decide) (fun h1 => ?_) (fun h => absurd h (hasM t hk h64))
  refine g_aload_n (j := 0) d_L_lose_13 rfl ?_
  refine g_get d_L_lose_14 f_L_20 hs.main rfl ?_
  refine g_iload_n (j := 1) d_L_lose_17 rfl ?_
  refine g_callV (c_P_takeOut hs k (by omega)) ok_P_takeOut lk_L_74 in_P_takeOut se_P_takeOut hs.pool rfl d_L_lose_18 rfl rfl (Nat.le_of_ble_eq_true rfl) ⟨(Nat.le_of_ble_eq_true rfl), (Nat.le_of_ble_eq_true rfl)⟩ (Nat.le_of_ble_eq_true rfl) (Nat.le_of_ble_eq_true rfl) (fun r w' hq => ?_)
  obtain ⟨rfl, hpt⟩ := hq
  obtain ⟨L9, hL9, hh, hs9⟩ := pt_ex hk h64 hpt
  rw [← hL9 (0, 0, 0) (show 0 ≠ 3 by decide)]
  skip
  skip
  refine g_pop d_L_lose_21 rfl ?_
  refine g_iconst (v := 1) d_L_lose_22 (by decide) ?_
  have hz : s_L_lose K t k = (ptC t k t.2.2, 1) := by
    unfold s_L_lose
    rfl
  exact g_zreturn d_L_lose_23 rfl (by decide) (Nat.le_of_ble_eq_true rfl) (Nat.le_of_ble_eq_true rfl) ⟨by rw [hz], _, rfl, by rw [hz]; exact hs9⟩

set_option maxHeartbeats 4000000 in
set_option maxRecDepth 100000 in
theorem c_L_lose_bad {E : gE} {w : wd} {K : kC} {L : lyC} {t : tC} (hs : SysC E K L t w) (x : Int32) (hbad : s_P_holds K t x = 0) : Cn E y_L_lose 2 0 0 [.ref (L.1 (0, 0, 0)), .int x] w (fun r w' => r = some (.int 0) ∧ w' = w) := by
  refine Cn.of (by decide) (Nat.le_of_ble_eq_true rfl) (fun A => ?_)
  show G E y_L_lose _ 0 [(0, .ref (L.1 (0, 0, 0))), (1, .int x)] [] w 0 0
  have h4 := hs.nc
  have h64 := hs.pn
  refine g_aload_n (j := 0) d_L_lose_0 rfl ?_
  refine g_get d_L_lose_1 f_L_20 hs.main rfl ?_
  refine g_iload_n (j := 1) d_L_lose_4 rfl ?_
  refine g_callV (c_P_holds hs x ) ok_P_holds lk_L_71 in_P_holds se_P_holds hs.pool rfl d_L_lose_5 rfl rfl (Nat.le_of_ble_eq_true rfl) ⟨(Nat.le_of_ble_eq_true rfl), (Nat.le_of_ble_eq_true rfl)⟩ (Nat.le_of_ble_eq_true rfl) (Nat.le_of_ble_eq_true rfl) (fun r w' hq => ?_)
  obtain ⟨rfl, rfl⟩ := hq
  refine g_if_ne (tgt := 13) d_L_lose_8 (by decide) (fun h => absurd (hbad) h) (fun h1 => ?_)
  refine g_iconst (v := 0) d_L_lose_11 (by decide) ?_
  exact g_zreturn d_L_lose_12 rfl (by decide) (Nat.le_of_ble_eq_true rfl) (Nat.le_of_ble_eq_true rfl) ⟨rfl, rfl⟩

def s_L_deliver (K : kC) (t : tC) (k : Nat) : tC × Int32 :=
  if s_M_goesToServer K (ptC t k t.2.2) 64 = 0 then
    (s_C_receive K (ptC t k t.2.2) (mcC (ptC t k t.2.2) 64) 64, (s_C_receive K (ptC t k t.2.2) (mcC (ptC t k t.2.2) 64) 64).1 7 64 0)
  else
    if (s_S_receive K (ptC t k t.2.2) ).2 = 0 then
      ((s_S_receive K (ptC t k t.2.2) ).1, 9)
    else
      ((s_S_receive K (ptC t k t.2.2) ).1, ((s_S_receive K (ptC t k t.2.2) ).1).1 7 64 0)
set_option maxHeartbeats 4000000 in
set_option maxRecDepth 100000 in
theorem c_L_deliver {E : gE} {w : wd} {K : kC} {L : lyC} {t : tC} (hs : SysC E K L t w) (k : Nat) (hk : k < t.2.2) (hM : okMC K t k) (hW : okWC K t) : Cn E y_L_deliver 11 2 403 [.ref (L.1 (0, 0, 0)), .int (nI k)] w (fun r w' => r = some (.int (s_L_deliver K t k).2) ∧ ∃ L' : lyC, L'.1 (0, 0, 0) = L.1 (0, 0, 0) ∧ SysC E K L' (s_L_deliver K t k).1 w') := by
  refine Cn.of (by decide) (Nat.le_of_ble_eq_true rfl) (fun A => ?_)
  show G E y_L_deliver _ 0 [(0, .ref (L.1 (0, 0, 0))), (1, .int (nI k))] [] w 0 0
  have h4 := hs.nc
  have h64 := hs.pn
  refine g_aload_n (j := 0) d_L_deliver_0 rfl ?_
  refine g_get d_L_deliver_1 f_L_20 hs.main rfl ?_
  refine g_iload_n (j := 1) d_L_deliver_4 rfl ?_
  refine g_callV (c_P_holds hs (nI k) ) ok_P_holds lk_L_71 in_P_holds se_P_holds hs.pool rfl d_L_deliver_5 rfl rfl (Nat.le_of_ble_eq_true rfl) ⟨(Nat.le_of_ble_eq_true rfl), (Nat.le_of_ble_eq_true rfl)⟩ (Nat.le_of_ble_eq_true rfl) (Nat.le_of_ble_eq_true rfl) (fun r w' hq => ?_)
  obtain ⟨rfl, rfl⟩ := hq
  refine g_if_ne (tgt := 13) d_L_deliver_8 (by decide) (fun h1 => ?_) (fun h => absurd h (hasM t hk h64))
  refine g_aload_n (j := 0) d_L_deliver_13 rfl ?_
  refine g_get d_L_deliver_14 f_L_20 hs.main rfl ?_
  refine g_iload_n (j := 1) d_L_deliver_17 rfl ?_
  refine g_callV (c_P_takeOut hs k (by omega)) ok_P_takeOut lk_L_74 in_P_takeOut se_P_takeOut hs.pool rfl d_L_deliver_18 rfl rfl (Nat.le_of_ble_eq_true rfl) ⟨(Nat.le_of_ble_eq_true rfl), (Nat.le_of_ble_eq_true rfl)⟩ (Nat.le_of_ble_eq_true rfl) (Nat.le_of_ble_eq_true rfl) (fun r w' hq => ?_)
  obtain ⟨rfl, hpt⟩ := hq
  obtain ⟨L9, hL9, hh, hs9⟩ := pt_ex hk h64 hpt
  rw [← hL9 (0, 0, 0) (show 0 ≠ 3 by decide)]
  rw [show L.1 (3, k, 0) = _ from hh.symm]
  have hM9 := hM.pt hk h64
  have hM92 := hM9.2.1
  refine g_astore_n (lv' := [(2, _), (0, _), (1, _)]) d_L_deliver_21 (by decide) rfl ?_
  refine g_aload_n (j := 0) d_L_deliver_22 rfl ?_
  refine g_callV (c_M_goesToServer hs9 64 (by omega)) ok_M_goesToServer lk_L_78 in_M_goesToServer se_M_goesToServer (hs9.msg (i := 64) (by omega)) rfl d_L_deliver_23 rfl rfl (Nat.le_of_ble_eq_true rfl) ⟨(Nat.le_of_ble_eq_true rfl), (Nat.le_of_ble_eq_true rfl)⟩ (Nat.le_of_ble_eq_true rfl) (Nat.le_of_ble_eq_true rfl) (fun r w' hq => ?_)
  obtain ⟨rfl, rfl⟩ := hq
  refine g_if_eq (tgt := 54) d_L_deliver_26 (by decide) (fun h2 => ?_) (fun h2 => ?_)
  · skip
    refine g_aload_n (j := 1) d_L_deliver_54 rfl ?_
    refine g_get d_L_deliver_55 f_L_35 hs9.main rfl ?_
    refine g_aload_n (j := 0) d_L_deliver_58 rfl ?_
    refine g_get d_L_deliver_59 f_L_91 (hs9.msg (i := 64) (by omega)) rfl ?_
    refine g_norm (y := nI (mcC (ptC t k t.2.2) 64)) hM9.1 ?_
    refine g_aald (t0 := 3) (j := mcC (ptC t k t.2.2) 64) d_L_deliver_62 hs9.clis rfl rfl (by omega) (by omega) (rf_if (by omega)) ?_
    refine g_aload_n (j := 0) d_L_deliver_63 rfl ?_
    refine g_aload_n (j := 1) d_L_deliver_64 rfl ?_
    refine g_get d_L_deliver_65 f_L_20 hs9.main rfl ?_
    refine g_callV (c_C_receive hs9 (mcC (ptC t k t.2.2) 64) 64 (by omega) (by omega) hM9) ok_C_receive lk_L_94 in_C_receive se_C_receive (hs9.cli (c := mcC (ptC t k t.2.2) 64) (by omega)) rfl d_L_deliver_68 rfl rfl (Nat.le_of_ble_eq_true rfl) ⟨(Nat.le_of_ble_eq_true rfl), (Nat.le_of_ble_eq_true rfl)⟩ (Nat.le_of_ble_eq_true rfl) (Nat.le_of_ble_eq_true rfl) (fun r w' hq => ?_)
    obtain ⟨rfl, hs3⟩ := hq
    refine g_aload_n (j := 0) d_L_deliver_71 rfl ?_
    refine g_get d_L_deliver_72 f_L_88 (hs3.msg (i := 64) (by omega)) rfl ?_
    have hz : s_L_deliver K t k = (s_C_receive K (ptC t k t.2.2) (mcC (ptC t k t.2.2) 64) 64, (s_C_receive K (ptC t k t.2.2) (mcC (ptC t k t.2.2) 64) 64).1 7 64 0) := by
      unfold s_L_deliver
      rw [if_pos h2]
    exact g_ireturn d_L_deliver_75 rfl (Nat.le_of_ble_eq_true rfl) (Nat.le_of_ble_eq_true rfl) ⟨by rw [hz], _, rfl, by rw [hz]; exact hs3⟩
  · skip
    refine g_aload_n (j := 1) d_L_deliver_29 rfl ?_
    refine g_get d_L_deliver_30 f_L_29 hs9.main rfl ?_
    refine g_aload_n (j := 0) d_L_deliver_33 rfl ?_
    refine g_aload_n (j := 1) d_L_deliver_34 rfl ?_
    refine g_get d_L_deliver_35 f_L_20 hs9.main rfl ?_
    refine g_callV (c_S_receive hs9 hM9 (hW.of rfl)) ok_S_receive lk_L_84 in_S_receive se_S_receive hs9.srv rfl d_L_deliver_38 rfl rfl (Nat.le_of_ble_eq_true rfl) ⟨(Nat.le_of_ble_eq_true rfl), (Nat.le_of_ble_eq_true rfl)⟩ (Nat.le_of_ble_eq_true rfl) (Nat.le_of_ble_eq_true rfl) (fun r w' hq => ?_)
    obtain ⟨rfl, L5, hL6, hs4⟩ := hq
    rw [← hL6 (3, 64, 0) (show 3 < 15 by decide), ← hL6 (0, 0, 0) (show 0 < 15 by decide)]
    refine g_if_eq (tgt := 51) d_L_deliver_41 (by decide) (fun h7 => ?_) (fun h7 => ?_)
    · skip
      refine g_bipush (v := 9) d_L_deliver_51 (by decide) ?_
      have hz : s_L_deliver K t k = ((s_S_receive K (ptC t k t.2.2) ).1, 9) := by
        unfold s_L_deliver
        rw [if_neg h2, if_pos h7]
      exact g_ireturn d_L_deliver_53 rfl (Nat.le_of_ble_eq_true rfl) (Nat.le_of_ble_eq_true rfl) ⟨by rw [hz], _, rfl, by rw [hz]; exact hs4⟩
    · skip
      refine g_aload_n (j := 0) d_L_deliver_44 rfl ?_
      refine g_get d_L_deliver_45 f_L_88 (hs4.msg (i := 64) (by omega)) rfl ?_
      refine g_goto (tgt := 53) d_L_deliver_48 (by decide) ?_
      have hz : s_L_deliver K t k = ((s_S_receive K (ptC t k t.2.2) ).1, ((s_S_receive K (ptC t k t.2.2) ).1).1 7 64 0) := by
        unfold s_L_deliver
        rw [if_neg h2, if_neg h7]
      exact g_ireturn d_L_deliver_53 rfl (Nat.le_of_ble_eq_true rfl) (Nat.le_of_ble_eq_true rfl) ⟨by rw [hz], _, rfl, by rw [hz]; exact hs4⟩

set_option maxHeartbeats 4000000 in
set_option maxRecDepth 100000 in
theorem c_L_deliver_bad {E : gE} {w : wd} {K : kC} {L : lyC} {t : tC} (hs : SysC E K L t w) (x : Int32) (hbad : s_P_holds K t x = 0) : Cn E y_L_deliver 11 0 0 [.ref (L.1 (0, 0, 0)), .int x] w (fun r w' => r = some (.int (-1)) ∧ w' = w) := by
  refine Cn.of (by decide) (Nat.le_of_ble_eq_true rfl) (fun A => ?_)
  show G E y_L_deliver _ 0 [(0, .ref (L.1 (0, 0, 0))), (1, .int x)] [] w 0 0
  have h4 := hs.nc
  have h64 := hs.pn
  refine g_aload_n (j := 0) d_L_deliver_0 rfl ?_
  refine g_get d_L_deliver_1 f_L_20 hs.main rfl ?_
  refine g_iload_n (j := 1) d_L_deliver_4 rfl ?_
  refine g_callV (c_P_holds hs x ) ok_P_holds lk_L_71 in_P_holds se_P_holds hs.pool rfl d_L_deliver_5 rfl rfl (Nat.le_of_ble_eq_true rfl) ⟨(Nat.le_of_ble_eq_true rfl), (Nat.le_of_ble_eq_true rfl)⟩ (Nat.le_of_ble_eq_true rfl) (Nat.le_of_ble_eq_true rfl) (fun r w' hq => ?_)
  obtain ⟨rfl, rfl⟩ := hq
  refine g_if_ne (tgt := 13) d_L_deliver_8 (by decide) (fun h => absurd (hbad) h) (fun h1 => ?_)
  refine g_iconst (v := (-1)) d_L_deliver_11 (by decide) ?_
  exact g_ireturn d_L_deliver_12 rfl (Nat.le_of_ble_eq_true rfl) (Nat.le_of_ble_eq_true rfl) ⟨rfl, rfl⟩
