theorem adl_1 (K : kC) (t : tC) (f : Nat) (x y z : Int32) : (s_F_addLast K t f x y z).1 = t.1 := by
  unfold s_F_addLast
  split
  · rfl
  · rfl
theorem okMC.eq {K : kC} {t t' : tC} {i : Nat} (h : okMC K t i) (e : t'.1 7 i = t.1 7 i) : okMC K t' i := by
  unfold okMC mcC mfC at *
  rw [e]
  exact h
theorem mfC_eq {t t' : tC} {i : Nat} (e : t'.1 7 i = t.1 7 i) : mfC t' i = mfC t i := by
  unfold mfC
  rw [e]
theorem mcC_eq {t t' : tC} {i : Nat} (e : t'.1 7 i = t.1 7 i) : mcC t' i = mcC t i := by
  unfold mcC
  rw [e]
def s_S_put99 (K : kC) (t : tC) : tC := if s_F_isFirst K t (mfC t 64) (nI (mcC t 64)) (t.1 7 64 3) = 0 then t else s_S_recall K t
def s_S_receivePut (K : kC) (t : tC) : tC := if t.1 7 64 3 = t.1 5 0 (mcC t 64) then s_P_send K t 3 (nI (mcC t 64)) (nI (mfC t 64)) (t.1 7 64 3) (t.1 6 0 (mcC t 64)) 0 0 else if t.1 5 0 (mcC t 64) < t.1 7 64 3 then s_S_put99 K (if s_F_isWaiting K t (mfC t 64) (nI (mcC t 64)) (t.1 7 64 3) = 0 then s_F_addLast K t (mfC t 64) (nI (mcC t 64)) (t.1 7 64 3) (t.1 7 64 4) else t) else t

set_option maxHeartbeats 4000000 in
set_option maxRecDepth 100000 in
theorem l_S_put99 {E : gE} {w : wd} {K : kC} {L L0 : lyC} {t : tC} (hs : SysC E K L t w) (hL : ∀ x : nmC, x.1 < 15 → L.1 x = L0.1 x) (hM : okMC K t 64) {f ce sl : Nat} {A : Nat → Prop} {V : tC} {v : Int32} (hf : mfC t 64 = f) (hV : s_S_put99 K t = V) (hce : ce ≤ 2) (hsl : sl ≤ 403) : G E y_S_receivePut (rmD 9 2 403, A, (fun r w' => r = none ∧ ∃ L' : lyC, (∀ x : nmC, x.1 < 15 → L'.1 x = L0.1 x) ∧ SysC E K L' V w'), fun _ => True) 99 [(4, .ref (L.1 (10, f, 0))), (3, .int v), (0, .ref (L.1 (8, 0, 0))), (1, .ref (L.1 (3, 64, 0))), (2, .ref (L.1 (1, 0, 0)))] [] w ce sl := by
  subst hf
  subst hV
  have h4 := hs.nc
  have hM2 := hM.2.1
  have hM4 := hM.2.2.2
  refine g_aload (j := 0) d_S_receivePut_99 rfl ?_
  refine g_aload_n (j := 3) d_S_receivePut_101 rfl ?_
  refine g_get d_S_receivePut_102 f_S_94 (hs.msg (i := 64) (by omega)) rfl ?_
  refine g_norm (y := nI (mcC t 64)) hM.1 ?_
  refine g_aload_n (j := 3) d_S_receivePut_105 rfl ?_
  refine g_get d_S_receivePut_106 f_S_97 (hs.msg (i := 64) (by omega)) rfl ?_
  refine g_callV (c_F_isFirst hs ((mfC t 64)) (nI (mcC t 64)) (t.1 7 64 3) (by omega)) ok_F_isFirst lk_S_123 in_F_isFirst se_F_isFirst (hs.fl (f := (mfC t 64)) (by omega)) rfl d_S_receivePut_109 rfl rfl (Nat.le_of_ble_eq_true rfl) ⟨(Nat.le_of_ble_eq_true rfl), (Nat.le_of_ble_eq_true rfl)⟩ (by show ce + 0 ≤ 2; omega) (by show sl + 0 ≤ 403; omega) (fun r w' hq => ?_)
  obtain ⟨rfl, rfl⟩ := hq
  refine g_if_eq (tgt := 121) d_S_receivePut_112 (by decide) (fun h1 => ?_) (fun h1 => ?_)
  · skip
    exact g_return d_S_receivePut_121 rfl (by show ce + 0 ≤ 2; omega) (by show sl + 0 ≤ 403; omega) ⟨rfl, _, hL, by rw [s_S_put99, if_pos h1]; exact hs⟩
  · skip
    refine g_aload_n (j := 2) d_S_receivePut_115 rfl ?_
    refine g_aload_n (j := 3) d_S_receivePut_116 rfl ?_
    refine g_aload_n (j := 4) d_S_receivePut_117 rfl ?_
    refine g_callV (c_S_recall hs hM) ok_S_recall lk_S_126 in_S_recall se_S_recall hs.srv rfl d_S_receivePut_118 rfl rfl (Nat.le_of_ble_eq_true rfl) ⟨(Nat.le_of_ble_eq_true rfl), (Nat.le_of_ble_eq_true rfl)⟩ (by show ce + 0 ≤ 2; omega) (by show sl + 0 ≤ 403; omega) (fun r w' hq => ?_)
    obtain ⟨rfl, hs2⟩ := hq
    exact g_return d_S_receivePut_121 rfl (by show ce + 0 ≤ 2; omega) (by show sl + 0 ≤ 403; omega) ⟨rfl, _, hL, by rw [s_S_put99, if_neg h1]; exact hs2⟩

set_option maxHeartbeats 4000000 in
set_option maxRecDepth 100000 in
theorem c_S_receivePut {E : gE} {w : wd} {K : kC} {L : lyC} {t : tC} (hs : SysC E K L t w) (hM : okMC K t 64) : Cn E y_S_receivePut 9 2 403 [.ref (L.1 (8, 0, 0)), .ref (L.1 (3, 64, 0)), .ref (L.1 (1, 0, 0))] w (fun r w' => r = none ∧ ∃ L' : lyC, (∀ x : nmC, x.1 < 15 → L'.1 x = L.1 x) ∧ SysC E K L' (s_S_receivePut K t) w') := by
  refine Cn.of (by decide) (Nat.le_of_ble_eq_true rfl) (fun A => ?_)
  show G E y_S_receivePut _ 0 [(0, .ref (L.1 (8, 0, 0))), (1, .ref (L.1 (3, 64, 0))), (2, .ref (L.1 (1, 0, 0)))] [] w 0 0
  have h4 := hs.nc
  have h64 := hs.pn
  have hM2 := hM.2.1
  have hM4 := hM.2.2.2
  refine g_aload_n (j := 0) d_S_receivePut_0 rfl ?_
  refine g_get d_S_receivePut_1 f_S_28 hs.srv rfl ?_
  refine g_aload_n (j := 1) d_S_receivePut_4 rfl ?_
  refine g_get d_S_receivePut_5 f_S_94 (hs.msg (i := 64) (by omega)) rfl ?_
  refine g_norm (y := nI (mcC t 64)) hM.1 ?_
  refine g_iald (j := mcC t 64) d_S_receivePut_8 hs.lws rfl (by omega) (by omega) ?_
  refine g_istore_n (lv' := [(3, _), (0, _), (1, _), (2, _)]) d_S_receivePut_9 (by decide) rfl ?_
  refine g_aload_n (j := 2) d_S_receivePut_10 rfl ?_
  refine g_get d_S_receivePut_11 f_S_97 (hs.msg (i := 64) (by omega)) rfl ?_
  refine g_iload_n (j := 0) d_S_receivePut_14 rfl ?_
  refine g_icmp_ne (tgt := 46) d_S_receivePut_15 (by decide) (fun h1 => ?_) (fun h1 => ?_)
  · skip
    refine g_aload_n (j := 2) d_S_receivePut_46 rfl ?_
    refine g_get d_S_receivePut_47 f_S_97 (hs.msg (i := 64) (by omega)) rfl ?_
    refine g_iload_n (j := 0) d_S_receivePut_50 rfl ?_
    refine g_icmp_gt (tgt := 55) d_S_receivePut_51 (by decide) (fun h2 => ?_) (fun h2 => ?_)
    · skip
      refine g_aload_n (j := 1) d_S_receivePut_55 rfl ?_
      refine g_get d_S_receivePut_56 f_S_37 hs.srv rfl ?_
      refine g_aload_n (j := 2) d_S_receivePut_59 rfl ?_
      refine g_get d_S_receivePut_60 f_S_84 (hs.msg (i := 64) (by omega)) rfl ?_
      refine g_norm (y := nI (mfC t 64)) hM.2.2.1 ?_
      refine g_aald (t0 := 5) (j := mfC t 64) d_S_receivePut_63 hs.fls rfl rfl (by omega) (by omega) (rf_if (by omega)) ?_
      refine g_astore (lv' := [(4, _), (3, _), (0, _), (1, _), (2, _)]) d_S_receivePut_64 (by decide) rfl ?_
      refine g_aload (j := 0) d_S_receivePut_66 rfl ?_
      refine g_aload_n (j := 3) d_S_receivePut_68 rfl ?_
      refine g_get d_S_receivePut_69 f_S_94 (hs.msg (i := 64) (by omega)) rfl ?_
      refine g_norm (y := nI (mcC t 64)) hM.1 ?_
      refine g_aload_n (j := 3) d_S_receivePut_72 rfl ?_
      refine g_get d_S_receivePut_73 f_S_97 (hs.msg (i := 64) (by omega)) rfl ?_
      refine g_callV (c_F_isWaiting hs (mfC t 64) (nI (mcC t 64)) (t.1 7 64 3) (by omega)) ok_F_isWaiting lk_S_112 in_F_isWaiting se_F_isWaiting (hs.fl (f := mfC t 64) (by omega)) rfl d_S_receivePut_76 rfl rfl (Nat.le_of_ble_eq_true rfl) ⟨(Nat.le_of_ble_eq_true rfl), (Nat.le_of_ble_eq_true rfl)⟩ (Nat.le_of_ble_eq_true rfl) (Nat.le_of_ble_eq_true rfl) (fun r w' hq => ?_)
      obtain ⟨rfl, rfl⟩ := hq
      refine g_if_ne (tgt := 99) d_S_receivePut_79 (by decide) (fun h3 => ?_) (fun h3 => ?_)
      · skip
        exact l_S_put99 hs (fun _ _ => rfl) hM rfl (by rw [s_S_receivePut, if_neg h1, if_pos h2, if_neg h3]) (Nat.le_of_ble_eq_true rfl) (Nat.le_of_ble_eq_true rfl)
      · skip
        refine g_aload (j := 0) d_S_receivePut_82 rfl ?_
        refine g_aload_n (j := 3) d_S_receivePut_84 rfl ?_
        refine g_get d_S_receivePut_85 f_S_94 (hs.msg (i := 64) (by omega)) rfl ?_
        refine g_norm (y := nI (mcC t 64)) hM.1 ?_
        refine g_aload_n (j := 3) d_S_receivePut_88 rfl ?_
        refine g_get d_S_receivePut_89 f_S_97 (hs.msg (i := 64) (by omega)) rfl ?_
        refine g_aload_n (j := 3) d_S_receivePut_92 rfl ?_
        refine g_get d_S_receivePut_93 f_S_116 (hs.msg (i := 64) (by omega)) rfl ?_
        refine g_callV (c_F_addLast hs (mfC t 64) (nI (mcC t 64)) (t.1 7 64 3) (t.1 7 64 4) (by omega)) ok_F_addLast lk_S_119 in_F_addLast se_F_addLast (hs.fl (f := mfC t 64) (by omega)) rfl d_S_receivePut_96 rfl rfl (Nat.le_of_ble_eq_true rfl) ⟨(Nat.le_of_ble_eq_true rfl), (Nat.le_of_ble_eq_true rfl)⟩ (Nat.le_of_ble_eq_true rfl) (Nat.le_of_ble_eq_true rfl) (fun r w' hq => ?_)
        obtain ⟨rfl, L5, hL6, hs4⟩ := hq
        rw [← hL6 (10, mfC t 64, 0) (show 10 < 15 by decide), ← hL6 (8, 0, 0) (show 8 < 15 by decide), ← hL6 (3, 64, 0) (show 3 < 15 by decide), ← hL6 (1, 0, 0) (show 1 < 15 by decide)]
        have e7 : (s_F_addLast K t (mfC t 64) (nI (mcC t 64)) (t.1 7 64 3) (t.1 7 64 4)).1 7 64 = t.1 7 64 := by rw [adl_1]
        exact l_S_put99 hs4 (fun x hx => (hL6 x hx).trans ((fun _ _ => rfl) x hx)) (hM.eq e7) (mfC_eq e7) (by rw [s_S_receivePut, if_neg h1, if_pos h2, if_pos h3]) (Nat.le_of_ble_eq_true rfl) (Nat.le_of_ble_eq_true rfl)
    · skip
      exact g_return d_S_receivePut_54 rfl (Nat.le_of_ble_eq_true rfl) (Nat.le_of_ble_eq_true rfl) ⟨rfl, _, fun _ _ => rfl, by rw [s_S_receivePut, if_neg h1, if_neg h2]; exact hs⟩
  · skip
    refine g_aload_n (j := 3) d_S_receivePut_18 rfl ?_
    refine g_iconst (v := 3) d_S_receivePut_19 (by decide) ?_
    refine g_aload_n (j := 2) d_S_receivePut_20 rfl ?_
    refine g_get d_S_receivePut_21 f_S_94 (hs.msg (i := 64) (by omega)) rfl ?_
    refine g_norm (y := nI (mcC t 64)) hM.1 ?_
    refine g_aload_n (j := 2) d_S_receivePut_24 rfl ?_
    refine g_get d_S_receivePut_25 f_S_84 (hs.msg (i := 64) (by omega)) rfl ?_
    refine g_norm (y := nI (mfC t 64)) hM.2.2.1 ?_
    refine g_aload_n (j := 2) d_S_receivePut_28 rfl ?_
    refine g_get d_S_receivePut_29 f_S_97 (hs.msg (i := 64) (by omega)) rfl ?_
    refine g_aload_n (j := 1) d_S_receivePut_32 rfl ?_
    refine g_get d_S_receivePut_33 f_S_32 hs.srv rfl ?_
    refine g_aload_n (j := 2) d_S_receivePut_36 rfl ?_
    refine g_get d_S_receivePut_37 f_S_94 (hs.msg (i := 64) (by omega)) rfl ?_
    refine g_norm (y := nI (mcC t 64)) hM.1 ?_
    refine g_iald (j := mcC t 64) d_S_receivePut_40 hs.lvs rfl (by omega) (by omega) ?_
    refine g_iconst (v := 0) d_S_receivePut_41 (by decide) ?_
    refine g_iconst (v := 0) d_S_receivePut_42 (by decide) ?_
    refine g_callV (c_P_send hs 3 (nI (mcC t 64)) (nI (mfC t 64)) (t.1 7 64 3) (t.1 6 0 (mcC t 64)) 0 0 ) ok_P_send lk_S_106 in_P_send se_P_send hs.pool rfl d_S_receivePut_43 rfl rfl (Nat.le_of_ble_eq_true rfl) ⟨(Nat.le_of_ble_eq_true rfl), (Nat.le_of_ble_eq_true rfl)⟩ (Nat.le_of_ble_eq_true rfl) (Nat.le_of_ble_eq_true rfl) (fun r w' hq => ?_)
    obtain ⟨rfl, hs7⟩ := hq
    refine g_aload_n (j := 2) d_S_receivePut_46 rfl ?_
    refine g_get d_S_receivePut_47 f_S_97 (hs7.msg (i := 64) (by omega)) rfl ?_
    refine g_iload_n (j := 0) d_S_receivePut_50 rfl ?_
    refine g_icmp_gt (tgt := 55) d_S_receivePut_51 (by decide) (fun h => absurd h (by rw [snd_64 _ _ _ _ _ _ _ _ _ h64, h1]; exact fun z => absurd z (by simp))) (fun h8 => ?_)
    exact g_return d_S_receivePut_54 rfl (Nat.le_of_ble_eq_true rfl) (Nat.le_of_ble_eq_true rfl) ⟨rfl, _, fun _ _ => rfl, by rw [s_S_receivePut, if_pos h1]; exact hs7⟩
