def s_R_read (t : tR) (c : Nat) (f : Nat) : tR × Int32 :=
  if s_R_isClient t (nI c) = 0 then
    (t, (-1))
  else
    if s_R_isFile t (nI f) = 0 then
      (t, (-1))
    else
      if t.2 11 c = 2 then
        (t, 0)
      else
        if (s_R_begin t c f 0 0).2 19 ((4 * c) + f) = 0 then
          (s_R_sendOperation (s_R_begin t c f 0 0) c, 2)
        else
          if (s_R_begin t c f 0 0).2 20 ((4 * c) + f) ≤ (s_R_begin t c f 0 0).2 9 c then
            (s_R_sendOperation (s_R_begin t c f 0 0) c, 2)
          else
            (s_R_finish (s_R_begin t c f 0 0) c ((s_R_begin t c f 0 0).2 21 ((4 * c) + f)) ((s_R_begin t c f 0 0).2 22 ((4 * c) + f)), 1)
set_option maxHeartbeats 4000000 in
set_option maxRecDepth 100000 in
theorem c_R_read {E : gE} {w : wd} {ad : Nat → Nat} {t : tR} (hs : SysR E ad t w) (c : Nat) (f : Nat) (hc : c < 4) (hf : f < 4) (hp : okP t) : Cn E y_R_read 3 0 0 [.ref (ad 0), .int (nI c), .int (nI f)] w (fun r w' => r = some (.int (s_R_read t c f).2) ∧ SysR E ad (s_R_read t c f).1 w') := by
  refine Cn.of (by decide) (Nat.le_of_ble_eq_true rfl) (fun A => ?_)
  show G E y_R_read _ 0 [(0, .ref (ad 0)), (1, .int (nI c)), (2, .int (nI f))] [] w 0 0
  refine g_aload_n (j := 0) d_R_read_0 rfl ?_
  refine g_iload_n (j := 1) d_R_read_1 rfl ?_
  refine g_callV (c_R_isClient hs (nI c)) ok_R_isClient lk_R_103 in_R_isClient se_R_isClient hs.obj rfl d_R_read_2 rfl rfl (Nat.le_of_ble_eq_true rfl) ⟨(Nat.le_of_ble_eq_true rfl), (Nat.le_of_ble_eq_true rfl)⟩ (Nat.le_of_ble_eq_true rfl) (Nat.le_of_ble_eq_true rfl) (fun r w' hq => ?_)
  obtain ⟨rfl, rfl⟩ := hq
  refine g_if_eq (tgt := 16) d_R_read_5 (by decide) (fun h1 => ?_) (fun h1 => ?_)
  · skip
    refine g_iconst (v := (-1)) d_R_read_16 (by decide) ?_
    have hz : s_R_read t c f = (t, (-1)) := by
      unfold s_R_read
      rw [if_pos h1]
    exact g_ireturn d_R_read_17 rfl (Nat.le_of_ble_eq_true rfl) (Nat.le_of_ble_eq_true rfl) ⟨by rw [hz], by rw [hz]; exact hs⟩
  · skip
    refine g_aload_n (j := 0) d_R_read_8 rfl ?_
    refine g_iload_n (j := 2) d_R_read_9 rfl ?_
    refine g_callV (c_R_isFile hs (nI f)) ok_R_isFile lk_R_107 in_R_isFile se_R_isFile hs.obj rfl d_R_read_10 rfl rfl (Nat.le_of_ble_eq_true rfl) ⟨(Nat.le_of_ble_eq_true rfl), (Nat.le_of_ble_eq_true rfl)⟩ (Nat.le_of_ble_eq_true rfl) (Nat.le_of_ble_eq_true rfl) (fun r w' hq => ?_)
    obtain ⟨rfl, rfl⟩ := hq
    refine g_if_ne (tgt := 18) d_R_read_13 (by decide) (fun h2 => ?_) (fun h2 => ?_)
    · skip
      refine g_aload_n (j := 0) d_R_read_18 rfl ?_
      refine g_get d_R_read_19 f_R_43 hs.obj rfl ?_
      refine g_iload_n (j := 1) d_R_read_22 rfl ?_
      refine r_iald (k := 11) (j := c) d_R_read_23 hs (by decide) rfl rfl (show c < 4 by omega) ?_
      refine g_iconst (v := 2) d_R_read_24 (by decide) ?_
      refine g_icmp_ne (tgt := 30) d_R_read_25 (by decide) (fun h3 => ?_) (fun h3 => ?_)
      · skip
        refine g_aload_n (j := 0) d_R_read_30 rfl ?_
        refine g_iload_n (j := 1) d_R_read_31 rfl ?_
        refine g_iload_n (j := 2) d_R_read_32 rfl ?_
        refine g_iconst (v := 0) d_R_read_33 (by decide) ?_
        refine g_iconst (v := 0) d_R_read_34 (by decide) ?_
        refine g_callV (c_R_begin hs c f 0 0 (by omega) (by decide)) ok_R_begin lk_R_110 in_R_begin se_R_begin hs.obj rfl d_R_read_35 rfl rfl (Nat.le_of_ble_eq_true rfl) ⟨(Nat.le_of_ble_eq_true rfl), (Nat.le_of_ble_eq_true rfl)⟩ (Nat.le_of_ble_eq_true rfl) (Nat.le_of_ble_eq_true rfl) (fun r w' hq => ?_)
        obtain ⟨rfl, hs4⟩ := hq
        refine g_iconst (v := 4) d_R_read_38 (by decide) ?_
        refine g_iload_n (j := 1) d_R_read_39 rfl ?_
        refine g_imul d_R_read_40 ?_
        refine g_norm (y := nI (4 * c)) (pk_mul 4 c) ?_
        refine g_iload_n (j := 2) d_R_read_41 rfl ?_
        refine g_iadd d_R_read_42 ?_
        refine g_norm (y := nI ((4 * c) + f)) (nI_add (4 * c) f) ?_
        refine g_istore_n (lv' := [(3, _), (0, _), (1, _), (2, _)]) d_R_read_43 (by decide) rfl ?_
        refine g_aload_n (j := 1) d_R_read_44 rfl ?_
        refine g_get d_R_read_45 f_R_68 hs4.obj rfl ?_
        refine g_iload_n (j := 0) d_R_read_48 rfl ?_
        refine r_zald (k := 19) (j := (4 * c) + f) d_R_read_49 hs4 (by decide) rfl rfl (show (4 * c) + f < 16 by omega) ?_
        refine g_if_eq (tgt := 87) d_R_read_50 (by decide) (fun h6 => ?_) (fun h6 => ?_)
        · skip
          refine g_aload_n (j := 1) d_R_read_87 rfl ?_
          refine g_iload_n (j := 2) d_R_read_88 rfl ?_
          refine g_callV (c_R_sendOperation hs4 c (by omega) hp) ok_R_sendOperation lk_R_118 in_R_sendOperation se_R_sendOperation hs4.obj rfl d_R_read_89 rfl rfl (Nat.le_of_ble_eq_true rfl) ⟨(Nat.le_of_ble_eq_true rfl), (Nat.le_of_ble_eq_true rfl)⟩ (Nat.le_of_ble_eq_true rfl) (Nat.le_of_ble_eq_true rfl) (fun r w' hq => ?_)
          obtain ⟨rfl, hs7⟩ := hq
          refine g_iconst (v := 2) d_R_read_92 (by decide) ?_
          have hz : s_R_read t c f = (s_R_sendOperation (s_R_begin t c f 0 0) c, 2) := by
            unfold s_R_read
            rw [if_neg h1, if_neg h2, if_neg h3, if_pos h6]
          exact g_ireturn d_R_read_93 rfl (Nat.le_of_ble_eq_true rfl) (Nat.le_of_ble_eq_true rfl) ⟨by rw [hz], by rw [hz]; exact hs7⟩
        · skip
          refine g_aload_n (j := 1) d_R_read_53 rfl ?_
          refine g_get d_R_read_54 f_R_71 hs4.obj rfl ?_
          refine g_iload_n (j := 0) d_R_read_57 rfl ?_
          refine r_iald (k := 20) (j := (4 * c) + f) d_R_read_58 hs4 (by decide) rfl rfl (show (4 * c) + f < 16 by omega) ?_
          refine g_aload_n (j := 1) d_R_read_59 rfl ?_
          refine g_get d_R_read_60 f_R_37 hs4.obj rfl ?_
          refine g_iload_n (j := 2) d_R_read_63 rfl ?_
          refine r_iald (k := 9) (j := c) d_R_read_64 hs4 (by decide) rfl rfl (show c < 4 by omega) ?_
          refine g_icmp_le (tgt := 87) d_R_read_65 (by decide) (fun h9 => ?_) (fun h9 => ?_)
          · skip
            refine g_aload_n (j := 1) d_R_read_87 rfl ?_
            refine g_iload_n (j := 2) d_R_read_88 rfl ?_
            refine g_callV (c_R_sendOperation hs4 c (by omega) hp) ok_R_sendOperation lk_R_118 in_R_sendOperation se_R_sendOperation hs4.obj rfl d_R_read_89 rfl rfl (Nat.le_of_ble_eq_true rfl) ⟨(Nat.le_of_ble_eq_true rfl), (Nat.le_of_ble_eq_true rfl)⟩ (Nat.le_of_ble_eq_true rfl) (Nat.le_of_ble_eq_true rfl) (fun r w' hq => ?_)
            obtain ⟨rfl, hs10⟩ := hq
            refine g_iconst (v := 2) d_R_read_92 (by decide) ?_
            have hz : s_R_read t c f = (s_R_sendOperation (s_R_begin t c f 0 0) c, 2) := by
              unfold s_R_read
              rw [if_neg h1, if_neg h2, if_neg h3, if_neg h6, if_pos h9]
            exact g_ireturn d_R_read_93 rfl (Nat.le_of_ble_eq_true rfl) (Nat.le_of_ble_eq_true rfl) ⟨by rw [hz], by rw [hz]; exact hs10⟩
          · skip
            refine g_aload_n (j := 1) d_R_read_68 rfl ?_
            refine g_iload_n (j := 2) d_R_read_69 rfl ?_
            refine g_aload_n (j := 1) d_R_read_70 rfl ?_
            refine g_get d_R_read_71 f_R_74 hs4.obj rfl ?_
            refine g_iload_n (j := 0) d_R_read_74 rfl ?_
            refine r_iald (k := 21) (j := (4 * c) + f) d_R_read_75 hs4 (by decide) rfl rfl (show (4 * c) + f < 16 by omega) ?_
            refine g_aload_n (j := 1) d_R_read_76 rfl ?_
            refine g_get d_R_read_77 f_R_77 hs4.obj rfl ?_
            refine g_iload_n (j := 0) d_R_read_80 rfl ?_
            refine r_iald (k := 22) (j := (4 * c) + f) d_R_read_81 hs4 (by decide) rfl rfl (show (4 * c) + f < 16 by omega) ?_
            refine g_callV (c_R_finish hs4 c ((s_R_begin t c f 0 0).2 21 ((4 * c) + f)) ((s_R_begin t c f 0 0).2 22 ((4 * c) + f)) (by omega)) ok_R_finish lk_R_114 in_R_finish se_R_finish hs4.obj rfl d_R_read_82 rfl rfl (Nat.le_of_ble_eq_true rfl) ⟨(Nat.le_of_ble_eq_true rfl), (Nat.le_of_ble_eq_true rfl)⟩ (Nat.le_of_ble_eq_true rfl) (Nat.le_of_ble_eq_true rfl) (fun r w' hq => ?_)
            obtain ⟨rfl, hs12⟩ := hq
            refine g_iconst (v := 1) d_R_read_85 (by decide) ?_
            have hz : s_R_read t c f = (s_R_finish (s_R_begin t c f 0 0) c ((s_R_begin t c f 0 0).2 21 ((4 * c) + f)) ((s_R_begin t c f 0 0).2 22 ((4 * c) + f)), 1) := by
              unfold s_R_read
              rw [if_neg h1, if_neg h2, if_neg h3, if_neg h6, if_neg h9]
            exact g_ireturn d_R_read_86 rfl (Nat.le_of_ble_eq_true rfl) (Nat.le_of_ble_eq_true rfl) ⟨by rw [hz], by rw [hz]; exact hs12⟩
      · skip
        refine g_iconst (v := 0) d_R_read_28 (by decide) ?_
        have hz : s_R_read t c f = (t, 0) := by
          unfold s_R_read
          rw [if_neg h1, if_neg h2, if_pos h3]
        exact g_ireturn d_R_read_29 rfl (Nat.le_of_ble_eq_true rfl) (Nat.le_of_ble_eq_true rfl) ⟨by rw [hz], by rw [hz]; exact hs⟩
    · skip
      refine g_iconst (v := (-1)) d_R_read_16 (by decide) ?_
      have hz : s_R_read t c f = (t, (-1)) := by
        unfold s_R_read
        rw [if_neg h1, if_pos h2]
      exact g_ireturn d_R_read_17 rfl (Nat.le_of_ble_eq_true rfl) (Nat.le_of_ble_eq_true rfl) ⟨by rw [hz], by rw [hz]; exact hs⟩

def s_R_write (t : tR) (c : Nat) (f : Nat) (x : Int32) : tR × Int32 :=
  if s_R_isClient t (nI c) = 0 then
    (t, (-1))
  else
    if s_R_isFile t (nI f) = 0 then
      (t, (-1))
    else
      if t.2 11 c = 2 then
        (t, 0)
      else
        (s_R_sendOperation (stA (s_R_begin t c f 1 x) 19 ((4 * c) + f) 0) c, 2)
set_option maxHeartbeats 4000000 in
set_option maxRecDepth 100000 in
theorem c_R_write {E : gE} {w : wd} {ad : Nat → Nat} {t : tR} (hs : SysR E ad t w) (c : Nat) (f : Nat) (x : Int32) (hc : c < 4) (hf : f < 4) (hp : okP t) : Cn E y_R_write 3 0 0 [.ref (ad 0), .int (nI c), .int (nI f), .int x] w (fun r w' => r = some (.int (s_R_write t c f x).2) ∧ SysR E ad (s_R_write t c f x).1 w') := by
  refine Cn.of (by decide) (Nat.le_of_ble_eq_true rfl) (fun A => ?_)
  show G E y_R_write _ 0 [(0, .ref (ad 0)), (1, .int (nI c)), (2, .int (nI f)), (3, .int x)] [] w 0 0
  refine g_aload_n (j := 0) d_R_write_0 rfl ?_
  refine g_iload_n (j := 1) d_R_write_1 rfl ?_
  refine g_callV (c_R_isClient hs (nI c)) ok_R_isClient lk_R_103 in_R_isClient se_R_isClient hs.obj rfl d_R_write_2 rfl rfl (Nat.le_of_ble_eq_true rfl) ⟨(Nat.le_of_ble_eq_true rfl), (Nat.le_of_ble_eq_true rfl)⟩ (Nat.le_of_ble_eq_true rfl) (Nat.le_of_ble_eq_true rfl) (fun r w' hq => ?_)
  obtain ⟨rfl, rfl⟩ := hq
  refine g_if_eq (tgt := 16) d_R_write_5 (by decide) (fun h1 => ?_) (fun h1 => ?_)
  · skip
    refine g_iconst (v := (-1)) d_R_write_16 (by decide) ?_
    have hz : s_R_write t c f x = (t, (-1)) := by
      unfold s_R_write
      rw [if_pos h1]
    exact g_ireturn d_R_write_17 rfl (Nat.le_of_ble_eq_true rfl) (Nat.le_of_ble_eq_true rfl) ⟨by rw [hz], by rw [hz]; exact hs⟩
  · skip
    refine g_aload_n (j := 0) d_R_write_8 rfl ?_
    refine g_iload_n (j := 2) d_R_write_9 rfl ?_
    refine g_callV (c_R_isFile hs (nI f)) ok_R_isFile lk_R_107 in_R_isFile se_R_isFile hs.obj rfl d_R_write_10 rfl rfl (Nat.le_of_ble_eq_true rfl) ⟨(Nat.le_of_ble_eq_true rfl), (Nat.le_of_ble_eq_true rfl)⟩ (Nat.le_of_ble_eq_true rfl) (Nat.le_of_ble_eq_true rfl) (fun r w' hq => ?_)
    obtain ⟨rfl, rfl⟩ := hq
    refine g_if_ne (tgt := 18) d_R_write_13 (by decide) (fun h2 => ?_) (fun h2 => ?_)
    · skip
      refine g_aload_n (j := 0) d_R_write_18 rfl ?_
      refine g_get d_R_write_19 f_R_43 hs.obj rfl ?_
      refine g_iload_n (j := 1) d_R_write_22 rfl ?_
      refine r_iald (k := 11) (j := c) d_R_write_23 hs (by decide) rfl rfl (show c < 4 by omega) ?_
      refine g_iconst (v := 2) d_R_write_24 (by decide) ?_
      refine g_icmp_ne (tgt := 30) d_R_write_25 (by decide) (fun h3 => ?_) (fun h3 => ?_)
      · skip
        refine g_aload_n (j := 0) d_R_write_30 rfl ?_
        refine g_iload_n (j := 1) d_R_write_31 rfl ?_
        refine g_iload_n (j := 2) d_R_write_32 rfl ?_
        refine g_iconst (v := 1) d_R_write_33 (by decide) ?_
        refine g_iload_n (j := 3) d_R_write_34 rfl ?_
        refine g_callV (c_R_begin hs c f 1 x (by omega) (by decide)) ok_R_begin lk_R_110 in_R_begin se_R_begin hs.obj rfl d_R_write_35 rfl rfl (Nat.le_of_ble_eq_true rfl) ⟨(Nat.le_of_ble_eq_true rfl), (Nat.le_of_ble_eq_true rfl)⟩ (Nat.le_of_ble_eq_true rfl) (Nat.le_of_ble_eq_true rfl) (fun r w' hq => ?_)
        obtain ⟨rfl, hs4⟩ := hq
        refine g_aload_n (j := 0) d_R_write_38 rfl ?_
        refine g_get d_R_write_39 f_R_68 hs4.obj rfl ?_
        refine g_iconst (v := 4) d_R_write_42 (by decide) ?_
        refine g_iload_n (j := 1) d_R_write_43 rfl ?_
        refine g_imul d_R_write_44 ?_
        refine g_norm (y := nI (4 * c)) (pk_mul 4 c) ?_
        refine g_iload_n (j := 2) d_R_write_45 rfl ?_
        refine g_iadd d_R_write_46 ?_
        refine g_norm (y := nI ((4 * c) + f)) (nI_add (4 * c) f) ?_
        refine g_iconst (v := 0) d_R_write_47 (by decide) ?_
        refine r_zast (k := 19) (j := (4 * c) + f) d_R_write_48 hs4 (by decide) rfl rfl (show (4 * c) + f < 16 by omega) (by decide) (fun w6 hs7 => ?_)
        refine g_aload_n (j := 0) d_R_write_49 rfl ?_
        refine g_iload_n (j := 1) d_R_write_50 rfl ?_
        refine g_callV (c_R_sendOperation hs7 c (by omega) hp) ok_R_sendOperation lk_R_118 in_R_sendOperation se_R_sendOperation hs7.obj rfl d_R_write_51 rfl rfl (Nat.le_of_ble_eq_true rfl) ⟨(Nat.le_of_ble_eq_true rfl), (Nat.le_of_ble_eq_true rfl)⟩ (Nat.le_of_ble_eq_true rfl) (Nat.le_of_ble_eq_true rfl) (fun r w' hq => ?_)
        obtain ⟨rfl, hs8⟩ := hq
        refine g_iconst (v := 2) d_R_write_54 (by decide) ?_
        have hz : s_R_write t c f x = (s_R_sendOperation (stA (s_R_begin t c f 1 x) 19 ((4 * c) + f) 0) c, 2) := by
          unfold s_R_write
          rw [if_neg h1, if_neg h2, if_neg h3]
        exact g_ireturn d_R_write_55 rfl (Nat.le_of_ble_eq_true rfl) (Nat.le_of_ble_eq_true rfl) ⟨by rw [hz], by rw [hz]; exact hs8⟩
      · skip
        refine g_iconst (v := 0) d_R_write_28 (by decide) ?_
        have hz : s_R_write t c f x = (t, 0) := by
          unfold s_R_write
          rw [if_neg h1, if_neg h2, if_pos h3]
        exact g_ireturn d_R_write_29 rfl (Nat.le_of_ble_eq_true rfl) (Nat.le_of_ble_eq_true rfl) ⟨by rw [hz], by rw [hz]; exact hs⟩
    · skip
      refine g_iconst (v := (-1)) d_R_write_16 (by decide) ?_
      have hz : s_R_write t c f x = (t, (-1)) := by
        unfold s_R_write
        rw [if_neg h1, if_pos h2]
      exact g_ireturn d_R_write_17 rfl (Nat.le_of_ble_eq_true rfl) (Nat.le_of_ble_eq_true rfl) ⟨by rw [hz], by rw [hz]; exact hs⟩

def s_R_retry (t : tR) (c : Nat) : tR × Int32 :=
  if s_R_isClient t (nI c) = 0 then
    (t, (-1))
  else
    if t.2 11 c = 2 then
      (s_R_sendOperation t c, (s_R_sendOperation t c).2 10 c)
    else
      (t, 0)
set_option maxHeartbeats 4000000 in
set_option maxRecDepth 100000 in
theorem c_R_retry {E : gE} {w : wd} {ad : Nat → Nat} {t : tR} (hs : SysR E ad t w) (c : Nat) (hc : c < 4) (hp : okP t) : Cn E y_R_retry 3 0 0 [.ref (ad 0), .int (nI c)] w (fun r w' => r = some (.int (s_R_retry t c).2) ∧ SysR E ad (s_R_retry t c).1 w') := by
  refine Cn.of (by decide) (Nat.le_of_ble_eq_true rfl) (fun A => ?_)
  show G E y_R_retry _ 0 [(0, .ref (ad 0)), (1, .int (nI c))] [] w 0 0
  refine g_aload_n (j := 0) d_R_retry_0 rfl ?_
  refine g_iload_n (j := 1) d_R_retry_1 rfl ?_
  refine g_callV (c_R_isClient hs (nI c)) ok_R_isClient lk_R_103 in_R_isClient se_R_isClient hs.obj rfl d_R_retry_2 rfl rfl (Nat.le_of_ble_eq_true rfl) ⟨(Nat.le_of_ble_eq_true rfl), (Nat.le_of_ble_eq_true rfl)⟩ (Nat.le_of_ble_eq_true rfl) (Nat.le_of_ble_eq_true rfl) (fun r w' hq => ?_)
  obtain ⟨rfl, rfl⟩ := hq
  refine g_if_ne (tgt := 10) d_R_retry_5 (by decide) (fun h1 => ?_) (fun h1 => ?_)
  · skip
    refine g_aload_n (j := 0) d_R_retry_10 rfl ?_
    refine g_get d_R_retry_11 f_R_43 hs.obj rfl ?_
    refine g_iload_n (j := 1) d_R_retry_14 rfl ?_
    refine r_iald (k := 11) (j := c) d_R_retry_15 hs (by decide) rfl rfl (show c < 4 by omega) ?_
    refine g_iconst (v := 2) d_R_retry_16 (by decide) ?_
    refine g_icmp_eq (tgt := 22) d_R_retry_17 (by decide) (fun h2 => ?_) (fun h2 => ?_)
    · skip
      refine g_aload_n (j := 0) d_R_retry_22 rfl ?_
      refine g_iload_n (j := 1) d_R_retry_23 rfl ?_
      refine g_callV (c_R_sendOperation hs c (by omega) hp) ok_R_sendOperation lk_R_118 in_R_sendOperation se_R_sendOperation hs.obj rfl d_R_retry_24 rfl rfl (Nat.le_of_ble_eq_true rfl) ⟨(Nat.le_of_ble_eq_true rfl), (Nat.le_of_ble_eq_true rfl)⟩ (Nat.le_of_ble_eq_true rfl) (Nat.le_of_ble_eq_true rfl) (fun r w' hq => ?_)
      obtain ⟨rfl, hs3⟩ := hq
      refine g_aload_n (j := 0) d_R_retry_27 rfl ?_
      refine g_get d_R_retry_28 f_R_40 hs3.obj rfl ?_
      refine g_iload_n (j := 1) d_R_retry_31 rfl ?_
      refine r_iald (k := 10) (j := c) d_R_retry_32 hs3 (by decide) rfl rfl (show c < 4 by omega) ?_
      have hz : s_R_retry t c = (s_R_sendOperation t c, (s_R_sendOperation t c).2 10 c) := by
        unfold s_R_retry
        rw [if_neg h1, if_pos h2]
      exact g_ireturn d_R_retry_33 rfl (Nat.le_of_ble_eq_true rfl) (Nat.le_of_ble_eq_true rfl) ⟨by rw [hz], by rw [hz]; exact hs3⟩
    · skip
      refine g_iconst (v := 0) d_R_retry_20 (by decide) ?_
      have hz : s_R_retry t c = (t, 0) := by
        unfold s_R_retry
        rw [if_neg h1, if_neg h2]
      exact g_ireturn d_R_retry_21 rfl (Nat.le_of_ble_eq_true rfl) (Nat.le_of_ble_eq_true rfl) ⟨by rw [hz], by rw [hz]; exact hs⟩
  · skip
    refine g_iconst (v := (-1)) d_R_retry_8 (by decide) ?_
    have hz : s_R_retry t c = (t, (-1)) := by
      unfold s_R_retry
      rw [if_pos h1]
    exact g_ireturn d_R_retry_9 rfl (Nat.le_of_ble_eq_true rfl) (Nat.le_of_ble_eq_true rfl) ⟨by rw [hz], by rw [hz]; exact hs⟩

def s_R_status (t : tR) (c : Nat) : Int32 :=
  if s_R_isClient t (nI c) = 0 then
    (-1)
  else
    t.2 11 c
set_option maxHeartbeats 4000000 in
set_option maxRecDepth 100000 in
theorem c_R_status {E : gE} {w : wd} {ad : Nat → Nat} {t : tR} (hs : SysR E ad t w) (c : Nat) (hc : c < 4) : Cn E y_R_status 2 0 0 [.ref (ad 0), .int (nI c)] w (fun r w' => r = some (.int (s_R_status t c)) ∧ w' = w) := by
  refine Cn.of (by decide) (Nat.le_of_ble_eq_true rfl) (fun A => ?_)
  show G E y_R_status _ 0 [(0, .ref (ad 0)), (1, .int (nI c))] [] w 0 0
  refine g_aload_n (j := 0) d_R_status_0 rfl ?_
  refine g_iload_n (j := 1) d_R_status_1 rfl ?_
  refine g_callV (c_R_isClient hs (nI c)) ok_R_isClient lk_R_103 in_R_isClient se_R_isClient hs.obj rfl d_R_status_2 rfl rfl (Nat.le_of_ble_eq_true rfl) ⟨(Nat.le_of_ble_eq_true rfl), (Nat.le_of_ble_eq_true rfl)⟩ (Nat.le_of_ble_eq_true rfl) (Nat.le_of_ble_eq_true rfl) (fun r w' hq => ?_)
  obtain ⟨rfl, rfl⟩ := hq
  refine g_if_eq (tgt := 17) d_R_status_5 (by decide) (fun h1 => ?_) (fun h1 => ?_)
  · skip
    refine g_iconst (v := (-1)) d_R_status_17 (by decide) ?_
    have hz : s_R_status t c = (-1) := by
      unfold s_R_status
      rw [if_pos h1]
    exact g_ireturn d_R_status_18 rfl (Nat.le_of_ble_eq_true rfl) (Nat.le_of_ble_eq_true rfl) ⟨by rw [hz], rfl⟩
  · skip
    refine g_aload_n (j := 0) d_R_status_8 rfl ?_
    refine g_get d_R_status_9 f_R_43 hs.obj rfl ?_
    refine g_iload_n (j := 1) d_R_status_12 rfl ?_
    refine r_iald (k := 11) (j := c) d_R_status_13 hs (by decide) rfl rfl (show c < 4 by omega) ?_
    refine g_goto (tgt := 18) d_R_status_14 (by decide) ?_
    have hz : s_R_status t c = t.2 11 c := by
      unfold s_R_status
      rw [if_neg h1]
    exact g_ireturn d_R_status_18 rfl (Nat.le_of_ble_eq_true rfl) (Nat.le_of_ble_eq_true rfl) ⟨by rw [hz], rfl⟩

def s_R_result (t : tR) (c : Nat) : Int32 :=
  if s_R_isClient t (nI c) = 0 then
    0
  else
    if t.2 11 c = 1 then
      t.2 17 c
    else
      0
set_option maxHeartbeats 4000000 in
set_option maxRecDepth 100000 in
theorem c_R_result {E : gE} {w : wd} {ad : Nat → Nat} {t : tR} (hs : SysR E ad t w) (c : Nat) (hc : c < 4) : Cn E y_R_result 2 0 0 [.ref (ad 0), .int (nI c)] w (fun r w' => r = some (.int (s_R_result t c)) ∧ w' = w) := by
  refine Cn.of (by decide) (Nat.le_of_ble_eq_true rfl) (fun A => ?_)
  show G E y_R_result _ 0 [(0, .ref (ad 0)), (1, .int (nI c))] [] w 0 0
  refine g_aload_n (j := 0) d_R_result_0 rfl ?_
  refine g_iload_n (j := 1) d_R_result_1 rfl ?_
  refine g_callV (c_R_isClient hs (nI c)) ok_R_isClient lk_R_103 in_R_isClient se_R_isClient hs.obj rfl d_R_result_2 rfl rfl (Nat.le_of_ble_eq_true rfl) ⟨(Nat.le_of_ble_eq_true rfl), (Nat.le_of_ble_eq_true rfl)⟩ (Nat.le_of_ble_eq_true rfl) (Nat.le_of_ble_eq_true rfl) (fun r w' hq => ?_)
  obtain ⟨rfl, rfl⟩ := hq
  refine g_if_eq (tgt := 27) d_R_result_5 (by decide) (fun h1 => ?_) (fun h1 => ?_)
  · skip
    refine g_iconst (v := 0) d_R_result_27 (by decide) ?_
    have hz : s_R_result t c = 0 := by
      unfold s_R_result
      rw [if_pos h1]
    exact g_ireturn d_R_result_28 rfl (Nat.le_of_ble_eq_true rfl) (Nat.le_of_ble_eq_true rfl) ⟨by rw [hz], rfl⟩
  · skip
    refine g_aload_n (j := 0) d_R_result_8 rfl ?_
    refine g_get d_R_result_9 f_R_43 hs.obj rfl ?_
    refine g_iload_n (j := 1) d_R_result_12 rfl ?_
    refine r_iald (k := 11) (j := c) d_R_result_13 hs (by decide) rfl rfl (show c < 4 by omega) ?_
    refine g_iconst (v := 1) d_R_result_14 (by decide) ?_
    refine g_icmp_ne (tgt := 27) d_R_result_15 (by decide) (fun h2 => ?_) (fun h2 => ?_)
    · skip
      refine g_iconst (v := 0) d_R_result_27 (by decide) ?_
      have hz : s_R_result t c = 0 := by
        unfold s_R_result
        rw [if_neg h1, if_neg h2]
      exact g_ireturn d_R_result_28 rfl (Nat.le_of_ble_eq_true rfl) (Nat.le_of_ble_eq_true rfl) ⟨by rw [hz], rfl⟩
    · skip
      refine g_aload_n (j := 0) d_R_result_18 rfl ?_
      refine g_get d_R_result_19 f_R_62 hs.obj rfl ?_
      refine g_iload_n (j := 1) d_R_result_22 rfl ?_
      refine r_iald (k := 17) (j := c) d_R_result_23 hs (by decide) rfl rfl (show c < 4 by omega) ?_
      refine g_goto (tgt := 28) d_R_result_24 (by decide) ?_
      have hz : s_R_result t c = t.2 17 c := by
        unfold s_R_result
        rw [if_neg h1, if_pos h2]
      exact g_ireturn d_R_result_28 rfl (Nat.le_of_ble_eq_true rfl) (Nat.le_of_ble_eq_true rfl) ⟨by rw [hz], rfl⟩

def s_R_version (t : tR) (c : Nat) : Int32 :=
  if s_R_isClient t (nI c) = 0 then
    (-1)
  else
    if t.2 11 c = 1 then
      t.2 18 c
    else
      (-1)
set_option maxHeartbeats 4000000 in
set_option maxRecDepth 100000 in
theorem c_R_version {E : gE} {w : wd} {ad : Nat → Nat} {t : tR} (hs : SysR E ad t w) (c : Nat) (hc : c < 4) : Cn E y_R_version 2 0 0 [.ref (ad 0), .int (nI c)] w (fun r w' => r = some (.int (s_R_version t c)) ∧ w' = w) := by
  refine Cn.of (by decide) (Nat.le_of_ble_eq_true rfl) (fun A => ?_)
  show G E y_R_version _ 0 [(0, .ref (ad 0)), (1, .int (nI c))] [] w 0 0
  refine g_aload_n (j := 0) d_R_version_0 rfl ?_
  refine g_iload_n (j := 1) d_R_version_1 rfl ?_
  refine g_callV (c_R_isClient hs (nI c)) ok_R_isClient lk_R_103 in_R_isClient se_R_isClient hs.obj rfl d_R_version_2 rfl rfl (Nat.le_of_ble_eq_true rfl) ⟨(Nat.le_of_ble_eq_true rfl), (Nat.le_of_ble_eq_true rfl)⟩ (Nat.le_of_ble_eq_true rfl) (Nat.le_of_ble_eq_true rfl) (fun r w' hq => ?_)
  obtain ⟨rfl, rfl⟩ := hq
  refine g_if_eq (tgt := 27) d_R_version_5 (by decide) (fun h1 => ?_) (fun h1 => ?_)
  · skip
    refine g_iconst (v := (-1)) d_R_version_27 (by decide) ?_
    have hz : s_R_version t c = (-1) := by
      unfold s_R_version
      rw [if_pos h1]
    exact g_ireturn d_R_version_28 rfl (Nat.le_of_ble_eq_true rfl) (Nat.le_of_ble_eq_true rfl) ⟨by rw [hz], rfl⟩
  · skip
    refine g_aload_n (j := 0) d_R_version_8 rfl ?_
    refine g_get d_R_version_9 f_R_43 hs.obj rfl ?_
    refine g_iload_n (j := 1) d_R_version_12 rfl ?_
    refine r_iald (k := 11) (j := c) d_R_version_13 hs (by decide) rfl rfl (show c < 4 by omega) ?_
    refine g_iconst (v := 1) d_R_version_14 (by decide) ?_
    refine g_icmp_ne (tgt := 27) d_R_version_15 (by decide) (fun h2 => ?_) (fun h2 => ?_)
    · skip
      refine g_iconst (v := (-1)) d_R_version_27 (by decide) ?_
      have hz : s_R_version t c = (-1) := by
        unfold s_R_version
        rw [if_neg h1, if_neg h2]
      exact g_ireturn d_R_version_28 rfl (Nat.le_of_ble_eq_true rfl) (Nat.le_of_ble_eq_true rfl) ⟨by rw [hz], rfl⟩
    · skip
      refine g_aload_n (j := 0) d_R_version_18 rfl ?_
      refine g_get d_R_version_19 f_R_65 hs.obj rfl ?_
      refine g_iload_n (j := 1) d_R_version_22 rfl ?_
      refine r_iald (k := 18) (j := c) d_R_version_23 hs (by decide) rfl rfl (show c < 4 by omega) ?_
      refine g_goto (tgt := 28) d_R_version_24 (by decide) ?_
      have hz : s_R_version t c = t.2 18 c := by
        unfold s_R_version
        rw [if_neg h1, if_pos h2]
      exact g_ireturn d_R_version_28 rfl (Nat.le_of_ble_eq_true rfl) (Nat.le_of_ble_eq_true rfl) ⟨by rw [hz], rfl⟩

def s_R_pending (t : tR)  : Int32 :=
  t.1 9
set_option maxHeartbeats 4000000 in
set_option maxRecDepth 100000 in
theorem c_R_pending {E : gE} {w : wd} {ad : Nat → Nat} {t : tR} (hs : SysR E ad t w)  : Cn E y_R_pending 1 0 0 [.ref (ad 0)] w (fun r w' => r = some (.int (s_R_pending t )) ∧ w' = w) := by
  refine Cn.of (by decide) (Nat.le_of_ble_eq_true rfl) (fun A => ?_)
  show G E y_R_pending _ 0 [(0, .ref (ad 0))] [] w 0 0
  refine g_aload_n (j := 0) d_R_pending_0 rfl ?_
  refine g_get d_R_pending_1 f_R_96 hs.obj rfl ?_
  have hz : s_R_pending t = t.1 9 := by
    unfold s_R_pending
    rfl
  exact g_ireturn d_R_pending_4 rfl (Nat.le_of_ble_eq_true rfl) (Nat.le_of_ble_eq_true rfl) ⟨by rw [hz], rfl⟩

def s_R_pass (t : tR) (c : Nat) (x : Int32) : tR × Int32 :=
  if s_R_isClient t (nI c) = 0 then
    (t, (-1))
  else
    if x < 0 then
      (t, (-1))
    else
      if x ≤ 1000 then
        (stA t 9 c ((t.2 9 c) + x), (stA t 9 c ((t.2 9 c) + x)).2 9 c)
      else
        (t, (-1))
set_option maxHeartbeats 4000000 in
set_option maxRecDepth 100000 in
theorem c_R_pass {E : gE} {w : wd} {ad : Nat → Nat} {t : tR} (hs : SysR E ad t w) (c : Nat) (x : Int32) (hc : c < 4) : Cn E y_R_pass 2 0 0 [.ref (ad 0), .int (nI c), .int x] w (fun r w' => r = some (.int (s_R_pass t c x).2) ∧ SysR E ad (s_R_pass t c x).1 w') := by
  refine Cn.of (by decide) (Nat.le_of_ble_eq_true rfl) (fun A => ?_)
  show G E y_R_pass _ 0 [(0, .ref (ad 0)), (1, .int (nI c)), (2, .int x)] [] w 0 0
  refine g_aload_n (j := 0) d_R_pass_0 rfl ?_
  refine g_iload_n (j := 1) d_R_pass_1 rfl ?_
  refine g_callV (c_R_isClient hs (nI c)) ok_R_isClient lk_R_103 in_R_isClient se_R_isClient hs.obj rfl d_R_pass_2 rfl rfl (Nat.le_of_ble_eq_true rfl) ⟨(Nat.le_of_ble_eq_true rfl), (Nat.le_of_ble_eq_true rfl)⟩ (Nat.le_of_ble_eq_true rfl) (Nat.le_of_ble_eq_true rfl) (fun r w' hq => ?_)
  obtain ⟨rfl, rfl⟩ := hq
  refine g_if_eq (tgt := 19) d_R_pass_5 (by decide) (fun h1 => ?_) (fun h1 => ?_)
  · skip
    refine g_iconst (v := (-1)) d_R_pass_19 (by decide) ?_
    have hz : s_R_pass t c x = (t, (-1)) := by
      unfold s_R_pass
      rw [if_pos h1]
    exact g_ireturn d_R_pass_20 rfl (Nat.le_of_ble_eq_true rfl) (Nat.le_of_ble_eq_true rfl) ⟨by rw [hz], by rw [hz]; exact hs⟩
  · skip
    refine g_iload_n (j := 2) d_R_pass_8 rfl ?_
    refine g_if_lt (tgt := 19) d_R_pass_9 (by decide) (fun h2 => ?_) (fun h2 => ?_)
    · skip
      refine g_iconst (v := (-1)) d_R_pass_19 (by decide) ?_
      have hz : s_R_pass t c x = (t, (-1)) := by
        unfold s_R_pass
        rw [if_neg h1, if_pos h2]
      exact g_ireturn d_R_pass_20 rfl (Nat.le_of_ble_eq_true rfl) (Nat.le_of_ble_eq_true rfl) ⟨by rw [hz], by rw [hz]; exact hs⟩
    · skip
      refine g_iload_n (j := 2) d_R_pass_12 rfl ?_
      refine g_sipush (v := 1000) d_R_pass_13 (by decide) ?_
      refine g_icmp_le (tgt := 21) d_R_pass_16 (by decide) (fun h3 => ?_) (fun h3 => ?_)
      · skip
        refine g_aload_n (j := 0) d_R_pass_21 rfl ?_
        refine g_get d_R_pass_22 f_R_37 hs.obj rfl ?_
        refine g_iload_n (j := 1) d_R_pass_25 rfl ?_
        refine g_aload_n (j := 0) d_R_pass_26 rfl ?_
        refine g_get d_R_pass_27 f_R_37 hs.obj rfl ?_
        refine g_iload_n (j := 1) d_R_pass_30 rfl ?_
        refine r_iald (k := 9) (j := c) d_R_pass_31 hs (by decide) rfl rfl (show c < 4 by omega) ?_
        refine g_iload_n (j := 2) d_R_pass_32 rfl ?_
        refine g_iadd d_R_pass_33 ?_
        refine r_iast (k := 9) (j := c) d_R_pass_34 hs (by decide) rfl rfl (show c < 4 by omega) (fun w4 hs5 => ?_)
        refine g_aload_n (j := 0) d_R_pass_35 rfl ?_
        refine g_get d_R_pass_36 f_R_37 hs5.obj rfl ?_
        refine g_iload_n (j := 1) d_R_pass_39 rfl ?_
        refine r_iald (k := 9) (j := c) d_R_pass_40 hs5 (by decide) rfl rfl (show c < 4 by omega) ?_
        have hz : s_R_pass t c x = (stA t 9 c ((t.2 9 c) + x), (stA t 9 c ((t.2 9 c) + x)).2 9 c) := by
          unfold s_R_pass
          rw [if_neg h1, if_neg h2, if_pos h3]
        exact g_ireturn d_R_pass_41 rfl (Nat.le_of_ble_eq_true rfl) (Nat.le_of_ble_eq_true rfl) ⟨by rw [hz], by rw [hz]; exact hs5⟩
      · skip
        refine g_iconst (v := (-1)) d_R_pass_19 (by decide) ?_
        have hz : s_R_pass t c x = (t, (-1)) := by
          unfold s_R_pass
          rw [if_neg h1, if_neg h2, if_neg h3]
        exact g_ireturn d_R_pass_20 rfl (Nat.le_of_ble_eq_true rfl) (Nat.le_of_ble_eq_true rfl) ⟨by rw [hz], by rw [hz]; exact hs⟩

def s_R_restart (t : tR)  : tR × Int32 :=
  if t.1 5 = 0 then
    (t, (-1))
  else
    (stF (stF (stF t 5 0) 6 (((stF t 5 0).1 6) + 1)) 7 (((stF (stF t 5 0) 6 (((stF t 5 0).1 6) + 1)).1 4) + ((stF (stF t 5 0) 6 (((stF t 5 0).1 6) + 1)).1 2)), (stF (stF (stF t 5 0) 6 (((stF t 5 0).1 6) + 1)) 7 (((stF (stF t 5 0) 6 (((stF t 5 0).1 6) + 1)).1 4) + ((stF (stF t 5 0) 6 (((stF t 5 0).1 6) + 1)).1 2))).1 6)
set_option maxHeartbeats 4000000 in
set_option maxRecDepth 100000 in
theorem c_R_restart {E : gE} {w : wd} {ad : Nat → Nat} {t : tR} (hs : SysR E ad t w)  : Cn E y_R_restart 1 0 0 [.ref (ad 0)] w (fun r w' => r = some (.int (s_R_restart t ).2) ∧ SysR E ad (s_R_restart t ).1 w') := by
  refine Cn.of (by decide) (Nat.le_of_ble_eq_true rfl) (fun A => ?_)
  show G E y_R_restart _ 0 [(0, .ref (ad 0))] [] w 0 0
  refine g_aload_n (j := 0) d_R_restart_0 rfl ?_
  refine g_get d_R_restart_1 f_R_165 hs.obj rfl ?_
  refine g_if_ne (tgt := 9) d_R_restart_4 (by decide) (fun h1 => ?_) (fun h1 => ?_)
  · skip
    refine g_aload_n (j := 0) d_R_restart_9 rfl ?_
    refine g_iconst (v := 0) d_R_restart_10 (by decide) ?_
    refine g_put d_R_restart_11 fw_R_165 (Or.inl rfl) hs.obj rfl rfl (Nat.le_of_ble_eq_true rfl) ?_
    have hs3 : SysR E ad (stF t 5 0) _ := hs.sf (t' := stF t 5 0) (fs := (ceR ad t).set 7 (.int 0)) rfl rfl
    generalize wu _ (ad 0) _ = w2 at hs3 ⊢
    refine g_aload_n (j := 0) d_R_restart_14 rfl ?_
    refine g_dup d_R_restart_15 rfl ?_
    refine g_get d_R_restart_16 f_R_136 hs3.obj rfl ?_
    refine g_iconst (v := 1) d_R_restart_19 (by decide) ?_
    refine g_iadd d_R_restart_20 ?_
    refine g_put d_R_restart_21 fw_R_136 (Or.inl rfl) hs3.obj rfl rfl (Nat.le_of_ble_eq_true rfl) ?_
    have hs5 : SysR E ad (stF (stF t 5 0) 6 (((stF t 5 0).1 6) + 1)) _ := hs3.sf (t' := stF (stF t 5 0) 6 (((stF t 5 0).1 6) + 1)) (fs := (ceR ad (stF t 5 0)).set 8 (.int (((stF t 5 0).1 6) + 1))) rfl rfl
    generalize wu _ (ad 0) _ = w4 at hs5 ⊢
    refine g_aload_n (j := 0) d_R_restart_24 rfl ?_
    refine g_aload_n (j := 0) d_R_restart_25 rfl ?_
    refine g_get d_R_restart_26 f_R_122 hs5.obj rfl ?_
    refine g_aload_n (j := 0) d_R_restart_29 rfl ?_
    refine g_get d_R_restart_30 f_R_90 hs5.obj rfl ?_
    refine g_iadd d_R_restart_33 ?_
    refine g_put d_R_restart_34 fw_R_139 (Or.inl rfl) hs5.obj rfl rfl (Nat.le_of_ble_eq_true rfl) ?_
    have hs7 : SysR E ad (stF (stF (stF t 5 0) 6 (((stF t 5 0).1 6) + 1)) 7 (((stF (stF t 5 0) 6 (((stF t 5 0).1 6) + 1)).1 4) + ((stF (stF t 5 0) 6 (((stF t 5 0).1 6) + 1)).1 2))) _ := hs5.sf (t' := stF (stF (stF t 5 0) 6 (((stF t 5 0).1 6) + 1)) 7 (((stF (stF t 5 0) 6 (((stF t 5 0).1 6) + 1)).1 4) + ((stF (stF t 5 0) 6 (((stF t 5 0).1 6) + 1)).1 2))) (fs := (ceR ad (stF (stF t 5 0) 6 (((stF t 5 0).1 6) + 1))).set 9 (.int (((stF (stF t 5 0) 6 (((stF t 5 0).1 6) + 1)).1 4) + ((stF (stF t 5 0) 6 (((stF t 5 0).1 6) + 1)).1 2)))) rfl rfl
    generalize wu _ (ad 0) _ = w6 at hs7 ⊢
    refine g_aload_n (j := 0) d_R_restart_37 rfl ?_
    refine g_get d_R_restart_38 f_R_136 hs7.obj rfl ?_
    have hz : s_R_restart t = (stF (stF (stF t 5 0) 6 (((stF t 5 0).1 6) + 1)) 7 (((stF (stF t 5 0) 6 (((stF t 5 0).1 6) + 1)).1 4) + ((stF (stF t 5 0) 6 (((stF t 5 0).1 6) + 1)).1 2)), (stF (stF (stF t 5 0) 6 (((stF t 5 0).1 6) + 1)) 7 (((stF (stF t 5 0) 6 (((stF t 5 0).1 6) + 1)).1 4) + ((stF (stF t 5 0) 6 (((stF t 5 0).1 6) + 1)).1 2))).1 6) := by
      unfold s_R_restart
      rw [if_neg h1]
    exact g_ireturn d_R_restart_41 rfl (Nat.le_of_ble_eq_true rfl) (Nat.le_of_ble_eq_true rfl) ⟨by rw [hz], by rw [hz]; exact hs7⟩
  · skip
    refine g_iconst (v := (-1)) d_R_restart_7 (by decide) ?_
    have hz : s_R_restart t = (t, (-1)) := by
      unfold s_R_restart
      rw [if_pos h1]
    exact g_ireturn d_R_restart_8 rfl (Nat.le_of_ble_eq_true rfl) (Nat.le_of_ble_eq_true rfl) ⟨by rw [hz], by rw [hz]; exact hs⟩

def s_R_copy (t : tR) (c : Nat) (f : Nat) (x : Int32) : Int32 :=
  if s_R_isClient t (nI c) = 0 then
    (-1)
  else
    if s_R_isFile t (nI f) = 0 then
      (-1)
    else
      if t.2 19 ((4 * c) + f) = 0 then
        (-1)
      else
        if x < 0 then
          (-1)
        else
          if x ≤ 2 then
            if x = 0 then
              s_R_rest (t.2 20 ((4 * c) + f)) (t.2 9 c)
            else
              if x = 1 then
                t.2 21 ((4 * c) + f)
              else
                t.2 22 ((4 * c) + f)
          else
            (-1)
set_option maxHeartbeats 4000000 in
set_option maxRecDepth 100000 in
theorem c_R_copy {E : gE} {w : wd} {ad : Nat → Nat} {t : tR} (hs : SysR E ad t w) (c : Nat) (f : Nat) (x : Int32) (hc : c < 4) (hf : f < 4) : Cn E y_R_copy 2 0 0 [.ref (ad 0), .int (nI c), .int (nI f), .int x] w (fun r w' => r = some (.int (s_R_copy t c f x)) ∧ w' = w) := by
  refine Cn.of (by decide) (Nat.le_of_ble_eq_true rfl) (fun A => ?_)
  show G E y_R_copy _ 0 [(0, .ref (ad 0)), (1, .int (nI c)), (2, .int (nI f)), (3, .int x)] [] w 0 0
  refine g_aload_n (j := 0) d_R_copy_0 rfl ?_
  refine g_iload_n (j := 1) d_R_copy_1 rfl ?_
  refine g_callV (c_R_isClient hs (nI c)) ok_R_isClient lk_R_103 in_R_isClient se_R_isClient hs.obj rfl d_R_copy_2 rfl rfl (Nat.le_of_ble_eq_true rfl) ⟨(Nat.le_of_ble_eq_true rfl), (Nat.le_of_ble_eq_true rfl)⟩ (Nat.le_of_ble_eq_true rfl) (Nat.le_of_ble_eq_true rfl) (fun r w' hq => ?_)
  obtain ⟨rfl, rfl⟩ := hq
  refine g_if_eq (tgt := 38) d_R_copy_5 (by decide) (fun h1 => ?_) (fun h1 => ?_)
  · skip
    refine g_iconst (v := (-1)) d_R_copy_38 (by decide) ?_
    have hz : s_R_copy t c f x = (-1) := by
      unfold s_R_copy
      rw [if_pos h1]
    exact g_ireturn d_R_copy_39 rfl (Nat.le_of_ble_eq_true rfl) (Nat.le_of_ble_eq_true rfl) ⟨by rw [hz], rfl⟩
  · skip
    refine g_aload_n (j := 0) d_R_copy_8 rfl ?_
    refine g_iload_n (j := 2) d_R_copy_9 rfl ?_
    refine g_callV (c_R_isFile hs (nI f)) ok_R_isFile lk_R_107 in_R_isFile se_R_isFile hs.obj rfl d_R_copy_10 rfl rfl (Nat.le_of_ble_eq_true rfl) ⟨(Nat.le_of_ble_eq_true rfl), (Nat.le_of_ble_eq_true rfl)⟩ (Nat.le_of_ble_eq_true rfl) (Nat.le_of_ble_eq_true rfl) (fun r w' hq => ?_)
    obtain ⟨rfl, rfl⟩ := hq
    refine g_if_eq (tgt := 38) d_R_copy_13 (by decide) (fun h2 => ?_) (fun h2 => ?_)
    · skip
      refine g_iconst (v := (-1)) d_R_copy_38 (by decide) ?_
      have hz : s_R_copy t c f x = (-1) := by
        unfold s_R_copy
        rw [if_neg h1, if_pos h2]
      exact g_ireturn d_R_copy_39 rfl (Nat.le_of_ble_eq_true rfl) (Nat.le_of_ble_eq_true rfl) ⟨by rw [hz], rfl⟩
    · skip
      refine g_aload_n (j := 0) d_R_copy_16 rfl ?_
      refine g_get d_R_copy_17 f_R_68 hs.obj rfl ?_
      refine g_iconst (v := 4) d_R_copy_20 (by decide) ?_
      refine g_iload_n (j := 1) d_R_copy_21 rfl ?_
      refine g_imul d_R_copy_22 ?_
      refine g_norm (y := nI (4 * c)) (pk_mul 4 c) ?_
      refine g_iload_n (j := 2) d_R_copy_23 rfl ?_
      refine g_iadd d_R_copy_24 ?_
      refine g_norm (y := nI ((4 * c) + f)) (nI_add (4 * c) f) ?_
      refine r_zald (k := 19) (j := (4 * c) + f) d_R_copy_25 hs (by decide) rfl rfl (show (4 * c) + f < 16 by omega) ?_
      refine g_if_eq (tgt := 38) d_R_copy_26 (by decide) (fun h3 => ?_) (fun h3 => ?_)
      · skip
        refine g_iconst (v := (-1)) d_R_copy_38 (by decide) ?_
        have hz : s_R_copy t c f x = (-1) := by
          unfold s_R_copy
          rw [if_neg h1, if_neg h2, if_pos h3]
        exact g_ireturn d_R_copy_39 rfl (Nat.le_of_ble_eq_true rfl) (Nat.le_of_ble_eq_true rfl) ⟨by rw [hz], rfl⟩
      · skip
        refine g_iload_n (j := 3) d_R_copy_29 rfl ?_
        refine g_if_lt (tgt := 38) d_R_copy_30 (by decide) (fun h4 => ?_) (fun h4 => ?_)
        · skip
          refine g_iconst (v := (-1)) d_R_copy_38 (by decide) ?_
          have hz : s_R_copy t c f x = (-1) := by
            unfold s_R_copy
            rw [if_neg h1, if_neg h2, if_neg h3, if_pos h4]
          exact g_ireturn d_R_copy_39 rfl (Nat.le_of_ble_eq_true rfl) (Nat.le_of_ble_eq_true rfl) ⟨by rw [hz], rfl⟩
        · skip
          refine g_iload_n (j := 3) d_R_copy_33 rfl ?_
          refine g_iconst (v := 2) d_R_copy_34 (by decide) ?_
          refine g_icmp_le (tgt := 40) d_R_copy_35 (by decide) (fun h5 => ?_) (fun h5 => ?_)
          · skip
            refine g_iconst (v := 4) d_R_copy_40 (by decide) ?_
            refine g_iload_n (j := 1) d_R_copy_41 rfl ?_
            refine g_imul d_R_copy_42 ?_
            refine g_norm (y := nI (4 * c)) (pk_mul 4 c) ?_
            refine g_iload_n (j := 2) d_R_copy_43 rfl ?_
            refine g_iadd d_R_copy_44 ?_
            refine g_norm (y := nI ((4 * c) + f)) (nI_add (4 * c) f) ?_
            refine g_istore (lv' := [(4, _), (0, _), (1, _), (2, _), (3, _)]) d_R_copy_45 (by decide) rfl ?_
            refine g_iload_n (j := 4) d_R_copy_47 rfl ?_
            refine g_if_ne (tgt := 70) d_R_copy_48 (by decide) (fun h6 => ?_) (fun h6 => ?_)
            · skip
              refine g_iload_n (j := 4) d_R_copy_70 rfl ?_
              refine g_iconst (v := 1) d_R_copy_71 (by decide) ?_
              refine g_icmp_ne (tgt := 85) d_R_copy_72 (by decide) (fun h7 => ?_) (fun h7 => ?_)
              · skip
                refine g_aload_n (j := 1) d_R_copy_85 rfl ?_
                refine g_get d_R_copy_86 f_R_77 hs.obj rfl ?_
                refine g_iload (j := 0) d_R_copy_89 rfl ?_
                refine r_iald (k := 22) (j := (4 * c) + f) d_R_copy_91 hs (by decide) rfl rfl (show (4 * c) + f < 16 by omega) ?_
                have hz : s_R_copy t c f x = t.2 22 ((4 * c) + f) := by
                  unfold s_R_copy
                  rw [if_neg h1, if_neg h2, if_neg h3, if_neg h4, if_pos h5, if_neg h6, if_neg h7]
                exact g_ireturn d_R_copy_92 rfl (Nat.le_of_ble_eq_true rfl) (Nat.le_of_ble_eq_true rfl) ⟨by rw [hz], rfl⟩
              · skip
                refine g_aload_n (j := 1) d_R_copy_75 rfl ?_
                refine g_get d_R_copy_76 f_R_74 hs.obj rfl ?_
                refine g_iload (j := 0) d_R_copy_79 rfl ?_
                refine r_iald (k := 21) (j := (4 * c) + f) d_R_copy_81 hs (by decide) rfl rfl (show (4 * c) + f < 16 by omega) ?_
                refine g_goto (tgt := 92) d_R_copy_82 (by decide) ?_
                have hz : s_R_copy t c f x = t.2 21 ((4 * c) + f) := by
                  unfold s_R_copy
                  rw [if_neg h1, if_neg h2, if_neg h3, if_neg h4, if_pos h5, if_neg h6, if_pos h7]
                exact g_ireturn d_R_copy_92 rfl (Nat.le_of_ble_eq_true rfl) (Nat.le_of_ble_eq_true rfl) ⟨by rw [hz], rfl⟩
            · skip
              refine g_aload_n (j := 1) d_R_copy_51 rfl ?_
              refine g_get d_R_copy_52 f_R_71 hs.obj rfl ?_
              refine g_iload (j := 0) d_R_copy_55 rfl ?_
              refine r_iald (k := 20) (j := (4 * c) + f) d_R_copy_57 hs (by decide) rfl rfl (show (4 * c) + f < 16 by omega) ?_
              refine g_aload_n (j := 1) d_R_copy_58 rfl ?_
              refine g_get d_R_copy_59 f_R_37 hs.obj rfl ?_
              refine g_iload_n (j := 2) d_R_copy_62 rfl ?_
              refine r_iald (k := 9) (j := c) d_R_copy_63 hs (by decide) rfl rfl (show c < 4 by omega) ?_
              refine g_callS (c_R_rest (t.2 20 ((4 * c) + f)) (t.2 9 c)) ok_R_rest lk_R_183 st_R_rest d_R_copy_64 rfl rfl (Nat.le_of_ble_eq_true rfl) ⟨(Nat.le_of_ble_eq_true rfl), (Nat.le_of_ble_eq_true rfl)⟩ (Nat.le_of_ble_eq_true rfl) (Nat.le_of_ble_eq_true rfl) (fun r w' hq => ?_)
              obtain ⟨rfl, rfl⟩ := hq
              refine g_goto (tgt := 92) d_R_copy_67 (by decide) ?_
              have hz : s_R_copy t c f x = s_R_rest (t.2 20 ((4 * c) + f)) (t.2 9 c) := by
                unfold s_R_copy
                rw [if_neg h1, if_neg h2, if_neg h3, if_neg h4, if_pos h5, if_pos h6]
              exact g_ireturn d_R_copy_92 rfl (Nat.le_of_ble_eq_true rfl) (Nat.le_of_ble_eq_true rfl) ⟨by rw [hz], rfl⟩
          · skip
            refine g_iconst (v := (-1)) d_R_copy_38 (by decide) ?_
            have hz : s_R_copy t c f x = (-1) := by
              unfold s_R_copy
              rw [if_neg h1, if_neg h2, if_neg h3, if_neg h4, if_neg h5]
            exact g_ireturn d_R_copy_39 rfl (Nat.le_of_ble_eq_true rfl) (Nat.le_of_ble_eq_true rfl) ⟨by rw [hz], rfl⟩

def s_R_lease (t : tR) (c : Nat) (f : Nat) : Int32 :=
  if s_R_isClient t (nI c) = 0 then
    (-1)
  else
    if s_R_isFile t (nI f) = 0 then
      (-1)
    else
      s_R_rest (t.2 2 ((4 * c) + f)) (t.1 4)
set_option maxHeartbeats 4000000 in
set_option maxRecDepth 100000 in
theorem c_R_lease {E : gE} {w : wd} {ad : Nat → Nat} {t : tR} (hs : SysR E ad t w) (c : Nat) (f : Nat) (hc : c < 4) (hf : f < 4) : Cn E y_R_lease 2 0 0 [.ref (ad 0), .int (nI c), .int (nI f)] w (fun r w' => r = some (.int (s_R_lease t c f)) ∧ w' = w) := by
  refine Cn.of (by decide) (Nat.le_of_ble_eq_true rfl) (fun A => ?_)
  show G E y_R_lease _ 0 [(0, .ref (ad 0)), (1, .int (nI c)), (2, .int (nI f))] [] w 0 0
  refine g_aload_n (j := 0) d_R_lease_0 rfl ?_
  refine g_iload_n (j := 1) d_R_lease_1 rfl ?_
  refine g_callV (c_R_isClient hs (nI c)) ok_R_isClient lk_R_103 in_R_isClient se_R_isClient hs.obj rfl d_R_lease_2 rfl rfl (Nat.le_of_ble_eq_true rfl) ⟨(Nat.le_of_ble_eq_true rfl), (Nat.le_of_ble_eq_true rfl)⟩ (Nat.le_of_ble_eq_true rfl) (Nat.le_of_ble_eq_true rfl) (fun r w' hq => ?_)
  obtain ⟨rfl, rfl⟩ := hq
  refine g_if_eq (tgt := 36) d_R_lease_5 (by decide) (fun h1 => ?_) (fun h1 => ?_)
  · skip
    refine g_iconst (v := (-1)) d_R_lease_36 (by decide) ?_
    have hz : s_R_lease t c f = (-1) := by
      unfold s_R_lease
      rw [if_pos h1]
    exact g_ireturn d_R_lease_37 rfl (Nat.le_of_ble_eq_true rfl) (Nat.le_of_ble_eq_true rfl) ⟨by rw [hz], rfl⟩
  · skip
    refine g_aload_n (j := 0) d_R_lease_8 rfl ?_
    refine g_iload_n (j := 2) d_R_lease_9 rfl ?_
    refine g_callV (c_R_isFile hs (nI f)) ok_R_isFile lk_R_107 in_R_isFile se_R_isFile hs.obj rfl d_R_lease_10 rfl rfl (Nat.le_of_ble_eq_true rfl) ⟨(Nat.le_of_ble_eq_true rfl), (Nat.le_of_ble_eq_true rfl)⟩ (Nat.le_of_ble_eq_true rfl) (Nat.le_of_ble_eq_true rfl) (fun r w' hq => ?_)
    obtain ⟨rfl, rfl⟩ := hq
    refine g_if_eq (tgt := 36) d_R_lease_13 (by decide) (fun h2 => ?_) (fun h2 => ?_)
    · skip
      refine g_iconst (v := (-1)) d_R_lease_36 (by decide) ?_
      have hz : s_R_lease t c f = (-1) := by
        unfold s_R_lease
        rw [if_neg h1, if_pos h2]
      exact g_ireturn d_R_lease_37 rfl (Nat.le_of_ble_eq_true rfl) (Nat.le_of_ble_eq_true rfl) ⟨by rw [hz], rfl⟩
    · skip
      refine g_aload_n (j := 0) d_R_lease_16 rfl ?_
      refine g_get d_R_lease_17 f_R_16 hs.obj rfl ?_
      refine g_iconst (v := 4) d_R_lease_20 (by decide) ?_
      refine g_iload_n (j := 1) d_R_lease_21 rfl ?_
      refine g_imul d_R_lease_22 ?_
      refine g_norm (y := nI (4 * c)) (pk_mul 4 c) ?_
      refine g_iload_n (j := 2) d_R_lease_23 rfl ?_
      refine g_iadd d_R_lease_24 ?_
      refine g_norm (y := nI ((4 * c) + f)) (nI_add (4 * c) f) ?_
      refine r_iald (k := 2) (j := (4 * c) + f) d_R_lease_25 hs (by decide) rfl rfl (show (4 * c) + f < 16 by omega) ?_
      refine g_aload_n (j := 0) d_R_lease_26 rfl ?_
      refine g_get d_R_lease_27 f_R_122 hs.obj rfl ?_
      refine g_callS (c_R_rest (t.2 2 ((4 * c) + f)) (t.1 4)) ok_R_rest lk_R_183 st_R_rest d_R_lease_30 rfl rfl (Nat.le_of_ble_eq_true rfl) ⟨(Nat.le_of_ble_eq_true rfl), (Nat.le_of_ble_eq_true rfl)⟩ (Nat.le_of_ble_eq_true rfl) (Nat.le_of_ble_eq_true rfl) (fun r w' hq => ?_)
      obtain ⟨rfl, rfl⟩ := hq
      refine g_goto (tgt := 37) d_R_lease_33 (by decide) ?_
      have hz : s_R_lease t c f = s_R_rest (t.2 2 ((4 * c) + f)) (t.1 4) := by
        unfold s_R_lease
        rw [if_neg h1, if_neg h2]
      exact g_ireturn d_R_lease_37 rfl (Nat.le_of_ble_eq_true rfl) (Nat.le_of_ble_eq_true rfl) ⟨by rw [hz], rfl⟩

def s_R_server (t : tR) (x : Int32) : Int32 :=
  if x = 0 then
    t.1 4
  else
    if x = 1 then
      if t.1 5 = 0 then
        1
      else
        0
    else
      if x = 2 then
        t.1 6
      else
        if x = 3 then
          s_R_rest (t.1 7) (t.1 4)
        else
          (-1)
set_option maxHeartbeats 4000000 in
set_option maxRecDepth 100000 in
theorem c_R_server {E : gE} {w : wd} {ad : Nat → Nat} {t : tR} (hs : SysR E ad t w) (x : Int32) : Cn E y_R_server 2 0 0 [.ref (ad 0), .int x] w (fun r w' => r = some (.int (s_R_server t x)) ∧ w' = w) := by
  refine Cn.of (by decide) (Nat.le_of_ble_eq_true rfl) (fun A => ?_)
  show G E y_R_server _ 0 [(0, .ref (ad 0)), (1, .int x)] [] w 0 0
  refine g_iload_n (j := 1) d_R_server_0 rfl ?_
  refine g_if_ne (tgt := 11) d_R_server_1 (by decide) (fun h1 => ?_) (fun h1 => ?_)
  · skip
    refine g_iload_n (j := 1) d_R_server_11 rfl ?_
    refine g_iconst (v := 1) d_R_server_12 (by decide) ?_
    refine g_icmp_ne (tgt := 31) d_R_server_13 (by decide) (fun h2 => ?_) (fun h2 => ?_)
    · skip
      refine g_iload_n (j := 1) d_R_server_31 rfl ?_
      refine g_iconst (v := 2) d_R_server_32 (by decide) ?_
      refine g_icmp_ne (tgt := 43) d_R_server_33 (by decide) (fun h3 => ?_) (fun h3 => ?_)
      · skip
        refine g_iload_n (j := 1) d_R_server_43 rfl ?_
        refine g_iconst (v := 3) d_R_server_44 (by decide) ?_
        refine g_icmp_ne (tgt := 62) d_R_server_45 (by decide) (fun h4 => ?_) (fun h4 => ?_)
        · skip
          refine g_iconst (v := (-1)) d_R_server_62 (by decide) ?_
          have hz : s_R_server t x = (-1) := by
            unfold s_R_server
            rw [if_neg h1, if_neg h2, if_neg h3, if_neg h4]
          exact g_ireturn d_R_server_63 rfl (Nat.le_of_ble_eq_true rfl) (Nat.le_of_ble_eq_true rfl) ⟨by rw [hz], rfl⟩
        · skip
          refine g_aload_n (j := 0) d_R_server_48 rfl ?_
          refine g_get d_R_server_49 f_R_139 hs.obj rfl ?_
          refine g_aload_n (j := 0) d_R_server_52 rfl ?_
          refine g_get d_R_server_53 f_R_122 hs.obj rfl ?_
          refine g_callS (c_R_rest (t.1 7) (t.1 4)) ok_R_rest lk_R_183 st_R_rest d_R_server_56 rfl rfl (Nat.le_of_ble_eq_true rfl) ⟨(Nat.le_of_ble_eq_true rfl), (Nat.le_of_ble_eq_true rfl)⟩ (Nat.le_of_ble_eq_true rfl) (Nat.le_of_ble_eq_true rfl) (fun r w' hq => ?_)
          obtain ⟨rfl, rfl⟩ := hq
          refine g_goto (tgt := 63) d_R_server_59 (by decide) ?_
          have hz : s_R_server t x = s_R_rest (t.1 7) (t.1 4) := by
            unfold s_R_server
            rw [if_neg h1, if_neg h2, if_neg h3, if_pos h4]
          exact g_ireturn d_R_server_63 rfl (Nat.le_of_ble_eq_true rfl) (Nat.le_of_ble_eq_true rfl) ⟨by rw [hz], rfl⟩
      · skip
        refine g_aload_n (j := 0) d_R_server_36 rfl ?_
        refine g_get d_R_server_37 f_R_136 hs.obj rfl ?_
        refine g_goto (tgt := 63) d_R_server_40 (by decide) ?_
        have hz : s_R_server t x = t.1 6 := by
          unfold s_R_server
          rw [if_neg h1, if_neg h2, if_pos h3]
        exact g_ireturn d_R_server_63 rfl (Nat.le_of_ble_eq_true rfl) (Nat.le_of_ble_eq_true rfl) ⟨by rw [hz], rfl⟩
    · skip
      refine g_aload_n (j := 0) d_R_server_16 rfl ?_
      refine g_get d_R_server_17 f_R_165 hs.obj rfl ?_
      refine g_if_eq (tgt := 27) d_R_server_20 (by decide) (fun h5 => ?_) (fun h5 => ?_)
      · skip
        refine g_iconst (v := 1) d_R_server_27 (by decide) ?_
        refine g_goto (tgt := 63) d_R_server_28 (by decide) ?_
        have hz : s_R_server t x = 1 := by
          unfold s_R_server
          rw [if_neg h1, if_pos h2, if_pos h5]
        exact g_ireturn d_R_server_63 rfl (Nat.le_of_ble_eq_true rfl) (Nat.le_of_ble_eq_true rfl) ⟨by rw [hz], rfl⟩
      · skip
        refine g_iconst (v := 0) d_R_server_23 (by decide) ?_
        refine g_goto (tgt := 63) d_R_server_24 (by decide) ?_
        have hz : s_R_server t x = 0 := by
          unfold s_R_server
          rw [if_neg h1, if_pos h2, if_neg h5]
        exact g_ireturn d_R_server_63 rfl (Nat.le_of_ble_eq_true rfl) (Nat.le_of_ble_eq_true rfl) ⟨by rw [hz], rfl⟩
  · skip
    refine g_aload_n (j := 0) d_R_server_4 rfl ?_
    refine g_get d_R_server_5 f_R_122 hs.obj rfl ?_
    refine g_goto (tgt := 63) d_R_server_8 (by decide) ?_
    have hz : s_R_server t x = t.1 4 := by
      unfold s_R_server
      rw [if_pos h1]
    exact g_ireturn d_R_server_63 rfl (Nat.le_of_ble_eq_true rfl) (Nat.le_of_ble_eq_true rfl) ⟨by rw [hz], rfl⟩

def s_R_client (t : tR) (c : Nat) (x : Int32) : Int32 :=
  if s_R_isClient t (nI c) = 0 then
    (-1)
  else
    if t.2 11 c = 2 then
      if t.2 12 c = 0 then
        if t.2 16 c = 0 then
          if x = 0 then
            t.2 10 c
          else
            if x = 1 then
              if (0 : Int32) = 0 then
                0
              else
                1
            else
              t.2 9 c
        else
          if x = 0 then
            t.2 10 c
          else
            if x = 1 then
              if (1 : Int32) = 0 then
                0
              else
                1
            else
              t.2 9 c
      else
        if x = 0 then
          t.2 10 c
        else
          if x = 1 then
            if (0 : Int32) = 0 then
              0
            else
              1
          else
            t.2 9 c
    else
      if x = 0 then
        t.2 10 c
      else
        if x = 1 then
          if (0 : Int32) = 0 then
            0
          else
            1
        else
          t.2 9 c
set_option maxHeartbeats 4000000 in
set_option maxRecDepth 100000 in
theorem c_R_client {E : gE} {w : wd} {ad : Nat → Nat} {t : tR} (hs : SysR E ad t w) (c : Nat) (x : Int32) (hc : c < 4) : Cn E y_R_client 2 0 0 [.ref (ad 0), .int (nI c), .int x] w (fun r w' => r = some (.int (s_R_client t c x)) ∧ w' = w) := by
  refine Cn.of (by decide) (Nat.le_of_ble_eq_true rfl) (fun A => ?_)
  show G E y_R_client _ 0 [(0, .ref (ad 0)), (1, .int (nI c)), (2, .int x)] [] w 0 0
  refine g_aload_n (j := 0) d_R_client_0 rfl ?_
  refine g_iload_n (j := 1) d_R_client_1 rfl ?_
  refine g_callV (c_R_isClient hs (nI c)) ok_R_isClient lk_R_103 in_R_isClient se_R_isClient hs.obj rfl d_R_client_2 rfl rfl (Nat.le_of_ble_eq_true rfl) ⟨(Nat.le_of_ble_eq_true rfl), (Nat.le_of_ble_eq_true rfl)⟩ (Nat.le_of_ble_eq_true rfl) (Nat.le_of_ble_eq_true rfl) (fun r w' hq => ?_)
  obtain ⟨rfl, rfl⟩ := hq
  refine g_if_ne (tgt := 10) d_R_client_5 (by decide) (fun h1 => ?_) (fun h1 => ?_)
  · skip
    refine g_aload_n (j := 0) d_R_client_10 rfl ?_
    refine g_get d_R_client_11 f_R_43 hs.obj rfl ?_
    refine g_iload_n (j := 1) d_R_client_14 rfl ?_
    refine r_iald (k := 11) (j := c) d_R_client_15 hs (by decide) rfl rfl (show c < 4 by omega) ?_
    refine g_iconst (v := 2) d_R_client_16 (by decide) ?_
    refine g_icmp_ne (tgt := 42) d_R_client_17 (by decide) (fun h2 => ?_) (fun h2 => ?_)
    · skip
      refine g_iconst (v := 0) d_R_client_42 (by decide) ?_
      refine g_istore_n (lv' := [(3, _), (0, _), (1, _), (2, _)]) d_R_client_43 (by decide) rfl ?_
      refine g_iload_n (j := 3) d_R_client_44 rfl ?_
      refine g_if_ne (tgt := 57) d_R_client_45 (by decide) (fun h3 => ?_) (fun h3 => ?_)
      · skip
        refine g_iload_n (j := 3) d_R_client_57 rfl ?_
        refine g_iconst (v := 1) d_R_client_58 (by decide) ?_
        refine g_icmp_ne (tgt := 74) d_R_client_59 (by decide) (fun h4 => ?_) (fun h4 => ?_)
        · skip
          refine g_aload_n (j := 1) d_R_client_74 rfl ?_
          refine g_get d_R_client_75 f_R_37 hs.obj rfl ?_
          refine g_iload_n (j := 2) d_R_client_78 rfl ?_
          refine r_iald (k := 9) (j := c) d_R_client_79 hs (by decide) rfl rfl (show c < 4 by omega) ?_
          have hz : s_R_client t c x = t.2 9 c := by
            unfold s_R_client
            rw [if_neg h1, if_neg h2, if_neg h3, if_neg h4]
          exact g_ireturn d_R_client_80 rfl (Nat.le_of_ble_eq_true rfl) (Nat.le_of_ble_eq_true rfl) ⟨by rw [hz], rfl⟩
        · skip
          refine g_iload_n (j := 0) d_R_client_62 rfl ?_
          refine g_if_eq (tgt := 70) d_R_client_63 (by decide) (fun h5 => ?_) (fun h5 => ?_)
          · skip
            refine g_iconst (v := 0) d_R_client_70 (by decide) ?_
            refine g_goto (tgt := 80) d_R_client_71 (by decide) ?_
            have hz : s_R_client t c x = 0 := by
              unfold s_R_client
              rw [if_neg h1, if_neg h2, if_neg h3, if_pos h4, if_pos h5]
            exact g_ireturn d_R_client_80 rfl (Nat.le_of_ble_eq_true rfl) (Nat.le_of_ble_eq_true rfl) ⟨by rw [hz], rfl⟩
          · skip
            refine g_iconst (v := 1) d_R_client_66 (by decide) ?_
            refine g_goto (tgt := 80) d_R_client_67 (by decide) ?_
            have hz : s_R_client t c x = 1 := by
              unfold s_R_client
              rw [if_neg h1, if_neg h2, if_neg h3, if_pos h4, if_neg h5]
            exact g_ireturn d_R_client_80 rfl (Nat.le_of_ble_eq_true rfl) (Nat.le_of_ble_eq_true rfl) ⟨by rw [hz], rfl⟩
      · skip
        refine g_aload_n (j := 1) d_R_client_48 rfl ?_
        refine g_get d_R_client_49 f_R_40 hs.obj rfl ?_
        refine g_iload_n (j := 2) d_R_client_52 rfl ?_
        refine r_iald (k := 10) (j := c) d_R_client_53 hs (by decide) rfl rfl (show c < 4 by omega) ?_
        refine g_goto (tgt := 80) d_R_client_54 (by decide) ?_
        have hz : s_R_client t c x = t.2 10 c := by
          unfold s_R_client
          rw [if_neg h1, if_neg h2, if_pos h3]
        exact g_ireturn d_R_client_80 rfl (Nat.le_of_ble_eq_true rfl) (Nat.le_of_ble_eq_true rfl) ⟨by rw [hz], rfl⟩
    · skip
      refine g_aload_n (j := 0) d_R_client_20 rfl ?_
      refine g_get d_R_client_21 f_R_46 hs.obj rfl ?_
      refine g_iload_n (j := 1) d_R_client_24 rfl ?_
      refine r_zald (k := 12) (j := c) d_R_client_25 hs (by decide) rfl rfl (show c < 4 by omega) ?_
      refine g_if_ne (tgt := 42) d_R_client_26 (by decide) (fun h6 => ?_) (fun h6 => ?_)
      · skip
        refine g_iconst (v := 0) d_R_client_42 (by decide) ?_
        refine g_istore_n (lv' := [(3, _), (0, _), (1, _), (2, _)]) d_R_client_43 (by decide) rfl ?_
        refine g_iload_n (j := 3) d_R_client_44 rfl ?_
        refine g_if_ne (tgt := 57) d_R_client_45 (by decide) (fun h7 => ?_) (fun h7 => ?_)
        · skip
          refine g_iload_n (j := 3) d_R_client_57 rfl ?_
          refine g_iconst (v := 1) d_R_client_58 (by decide) ?_
          refine g_icmp_ne (tgt := 74) d_R_client_59 (by decide) (fun h8 => ?_) (fun h8 => ?_)
          · skip
            refine g_aload_n (j := 1) d_R_client_74 rfl ?_
            refine g_get d_R_client_75 f_R_37 hs.obj rfl ?_
            refine g_iload_n (j := 2) d_R_client_78 rfl ?_
            refine r_iald (k := 9) (j := c) d_R_client_79 hs (by decide) rfl rfl (show c < 4 by omega) ?_
            have hz : s_R_client t c x = t.2 9 c := by
              unfold s_R_client
              rw [if_neg h1, if_pos h2, if_neg h6, if_neg h7, if_neg h8]
            exact g_ireturn d_R_client_80 rfl (Nat.le_of_ble_eq_true rfl) (Nat.le_of_ble_eq_true rfl) ⟨by rw [hz], rfl⟩
          · skip
            refine g_iload_n (j := 0) d_R_client_62 rfl ?_
            refine g_if_eq (tgt := 70) d_R_client_63 (by decide) (fun h9 => ?_) (fun h9 => ?_)
            · skip
              refine g_iconst (v := 0) d_R_client_70 (by decide) ?_
              refine g_goto (tgt := 80) d_R_client_71 (by decide) ?_
              have hz : s_R_client t c x = 0 := by
                unfold s_R_client
                rw [if_neg h1, if_pos h2, if_neg h6, if_neg h7, if_pos h8, if_pos h9]
              exact g_ireturn d_R_client_80 rfl (Nat.le_of_ble_eq_true rfl) (Nat.le_of_ble_eq_true rfl) ⟨by rw [hz], rfl⟩
            · skip
              refine g_iconst (v := 1) d_R_client_66 (by decide) ?_
              refine g_goto (tgt := 80) d_R_client_67 (by decide) ?_
              have hz : s_R_client t c x = 1 := by
                unfold s_R_client
                rw [if_neg h1, if_pos h2, if_neg h6, if_neg h7, if_pos h8, if_neg h9]
              exact g_ireturn d_R_client_80 rfl (Nat.le_of_ble_eq_true rfl) (Nat.le_of_ble_eq_true rfl) ⟨by rw [hz], rfl⟩
        · skip
          refine g_aload_n (j := 1) d_R_client_48 rfl ?_
          refine g_get d_R_client_49 f_R_40 hs.obj rfl ?_
          refine g_iload_n (j := 2) d_R_client_52 rfl ?_
          refine r_iald (k := 10) (j := c) d_R_client_53 hs (by decide) rfl rfl (show c < 4 by omega) ?_
          refine g_goto (tgt := 80) d_R_client_54 (by decide) ?_
          have hz : s_R_client t c x = t.2 10 c := by
            unfold s_R_client
            rw [if_neg h1, if_pos h2, if_neg h6, if_pos h7]
          exact g_ireturn d_R_client_80 rfl (Nat.le_of_ble_eq_true rfl) (Nat.le_of_ble_eq_true rfl) ⟨by rw [hz], rfl⟩
      · skip
        refine g_aload_n (j := 0) d_R_client_29 rfl ?_
        refine g_get d_R_client_30 f_R_59 hs.obj rfl ?_
        refine g_iload_n (j := 1) d_R_client_33 rfl ?_
        refine r_zald (k := 16) (j := c) d_R_client_34 hs (by decide) rfl rfl (show c < 4 by omega) ?_
        refine g_if_eq (tgt := 42) d_R_client_35 (by decide) (fun h10 => ?_) (fun h10 => ?_)
        · skip
          refine g_iconst (v := 0) d_R_client_42 (by decide) ?_
          refine g_istore_n (lv' := [(3, _), (0, _), (1, _), (2, _)]) d_R_client_43 (by decide) rfl ?_
          refine g_iload_n (j := 3) d_R_client_44 rfl ?_
          refine g_if_ne (tgt := 57) d_R_client_45 (by decide) (fun h11 => ?_) (fun h11 => ?_)
          · skip
            refine g_iload_n (j := 3) d_R_client_57 rfl ?_
            refine g_iconst (v := 1) d_R_client_58 (by decide) ?_
            refine g_icmp_ne (tgt := 74) d_R_client_59 (by decide) (fun h12 => ?_) (fun h12 => ?_)
            · skip
              refine g_aload_n (j := 1) d_R_client_74 rfl ?_
              refine g_get d_R_client_75 f_R_37 hs.obj rfl ?_
              refine g_iload_n (j := 2) d_R_client_78 rfl ?_
              refine r_iald (k := 9) (j := c) d_R_client_79 hs (by decide) rfl rfl (show c < 4 by omega) ?_
              have hz : s_R_client t c x = t.2 9 c := by
                unfold s_R_client
                rw [if_neg h1, if_pos h2, if_pos h6, if_pos h10, if_neg h11, if_neg h12]
              exact g_ireturn d_R_client_80 rfl (Nat.le_of_ble_eq_true rfl) (Nat.le_of_ble_eq_true rfl) ⟨by rw [hz], rfl⟩
            · skip
              refine g_iload_n (j := 0) d_R_client_62 rfl ?_
              refine g_if_eq (tgt := 70) d_R_client_63 (by decide) (fun h13 => ?_) (fun h13 => ?_)
              · skip
                refine g_iconst (v := 0) d_R_client_70 (by decide) ?_
                refine g_goto (tgt := 80) d_R_client_71 (by decide) ?_
                have hz : s_R_client t c x = 0 := by
                  unfold s_R_client
                  rw [if_neg h1, if_pos h2, if_pos h6, if_pos h10, if_neg h11, if_pos h12, if_pos h13]
                exact g_ireturn d_R_client_80 rfl (Nat.le_of_ble_eq_true rfl) (Nat.le_of_ble_eq_true rfl) ⟨by rw [hz], rfl⟩
              · skip
                refine g_iconst (v := 1) d_R_client_66 (by decide) ?_
                refine g_goto (tgt := 80) d_R_client_67 (by decide) ?_
                have hz : s_R_client t c x = 1 := by
                  unfold s_R_client
                  rw [if_neg h1, if_pos h2, if_pos h6, if_pos h10, if_neg h11, if_pos h12, if_neg h13]
                exact g_ireturn d_R_client_80 rfl (Nat.le_of_ble_eq_true rfl) (Nat.le_of_ble_eq_true rfl) ⟨by rw [hz], rfl⟩
          · skip
            refine g_aload_n (j := 1) d_R_client_48 rfl ?_
            refine g_get d_R_client_49 f_R_40 hs.obj rfl ?_
            refine g_iload_n (j := 2) d_R_client_52 rfl ?_
            refine r_iald (k := 10) (j := c) d_R_client_53 hs (by decide) rfl rfl (show c < 4 by omega) ?_
            refine g_goto (tgt := 80) d_R_client_54 (by decide) ?_
            have hz : s_R_client t c x = t.2 10 c := by
              unfold s_R_client
              rw [if_neg h1, if_pos h2, if_pos h6, if_pos h10, if_pos h11]
            exact g_ireturn d_R_client_80 rfl (Nat.le_of_ble_eq_true rfl) (Nat.le_of_ble_eq_true rfl) ⟨by rw [hz], rfl⟩
        · skip
          refine g_iconst (v := 1) d_R_client_38 (by decide) ?_
          refine g_goto (tgt := 43) d_R_client_39 (by decide) ?_
          refine g_istore_n (lv' := [(3, _), (0, _), (1, _), (2, _)]) d_R_client_43 (by decide) rfl ?_
          refine g_iload_n (j := 3) d_R_client_44 rfl ?_
          refine g_if_ne (tgt := 57) d_R_client_45 (by decide) (fun h14 => ?_) (fun h14 => ?_)
          · skip
            refine g_iload_n (j := 3) d_R_client_57 rfl ?_
            refine g_iconst (v := 1) d_R_client_58 (by decide) ?_
            refine g_icmp_ne (tgt := 74) d_R_client_59 (by decide) (fun h15 => ?_) (fun h15 => ?_)
            · skip
              refine g_aload_n (j := 1) d_R_client_74 rfl ?_
              refine g_get d_R_client_75 f_R_37 hs.obj rfl ?_
              refine g_iload_n (j := 2) d_R_client_78 rfl ?_
              refine r_iald (k := 9) (j := c) d_R_client_79 hs (by decide) rfl rfl (show c < 4 by omega) ?_
              have hz : s_R_client t c x = t.2 9 c := by
                unfold s_R_client
                rw [if_neg h1, if_pos h2, if_pos h6, if_neg h10, if_neg h14, if_neg h15]
              exact g_ireturn d_R_client_80 rfl (Nat.le_of_ble_eq_true rfl) (Nat.le_of_ble_eq_true rfl) ⟨by rw [hz], rfl⟩
            · skip
              refine g_iload_n (j := 0) d_R_client_62 rfl ?_
              refine g_if_eq (tgt := 70) d_R_client_63 (by decide) (fun h16 => ?_) (fun h16 => ?_)
              · skip
                refine g_iconst (v := 0) d_R_client_70 (by decide) ?_
                refine g_goto (tgt := 80) d_R_client_71 (by decide) ?_
                have hz : s_R_client t c x = 0 := by
                  unfold s_R_client
                  rw [if_neg h1, if_pos h2, if_pos h6, if_neg h10, if_neg h14, if_pos h15, if_pos h16]
                exact g_ireturn d_R_client_80 rfl (Nat.le_of_ble_eq_true rfl) (Nat.le_of_ble_eq_true rfl) ⟨by rw [hz], rfl⟩
              · skip
                refine g_iconst (v := 1) d_R_client_66 (by decide) ?_
                refine g_goto (tgt := 80) d_R_client_67 (by decide) ?_
                have hz : s_R_client t c x = 1 := by
                  unfold s_R_client
                  rw [if_neg h1, if_pos h2, if_pos h6, if_neg h10, if_neg h14, if_pos h15, if_neg h16]
                exact g_ireturn d_R_client_80 rfl (Nat.le_of_ble_eq_true rfl) (Nat.le_of_ble_eq_true rfl) ⟨by rw [hz], rfl⟩
          · skip
            refine g_aload_n (j := 1) d_R_client_48 rfl ?_
            refine g_get d_R_client_49 f_R_40 hs.obj rfl ?_
            refine g_iload_n (j := 2) d_R_client_52 rfl ?_
            refine r_iald (k := 10) (j := c) d_R_client_53 hs (by decide) rfl rfl (show c < 4 by omega) ?_
            refine g_goto (tgt := 80) d_R_client_54 (by decide) ?_
            have hz : s_R_client t c x = t.2 10 c := by
              unfold s_R_client
              rw [if_neg h1, if_pos h2, if_pos h6, if_neg h10, if_pos h14]
            exact g_ireturn d_R_client_80 rfl (Nat.le_of_ble_eq_true rfl) (Nat.le_of_ble_eq_true rfl) ⟨by rw [hz], rfl⟩
  · skip
    refine g_iconst (v := (-1)) d_R_client_8 (by decide) ?_
    have hz : s_R_client t c x = (-1) := by
      unfold s_R_client
      rw [if_pos h1]
    exact g_ireturn d_R_client_9 rfl (Nat.le_of_ble_eq_true rfl) (Nat.le_of_ble_eq_true rfl) ⟨by rw [hz], rfl⟩

def s_R_message (t : tR) (k : Nat) (j : Nat) : Int32 :=
  if s_R_isMessage t (nI k) = 0 then
    (-1)
  else
    if nI j < 0 then
      (-1)
    else
      if 6 < nI j then
        (-1)
      else
        t.2 23 ((7 * k) + j)
set_option maxHeartbeats 4000000 in
set_option maxRecDepth 100000 in
theorem c_R_message {E : gE} {w : wd} {ad : Nat → Nat} {t : tR} (hs : SysR E ad t w) (k : Nat) (j : Nat) (hk : k < 64) (hj : j ≤ 6) : Cn E y_R_message 2 0 0 [.ref (ad 0), .int (nI k), .int (nI j)] w (fun r w' => r = some (.int (s_R_message t k j)) ∧ w' = w) := by
  refine Cn.of (by decide) (Nat.le_of_ble_eq_true rfl) (fun A => ?_)
  show G E y_R_message _ 0 [(0, .ref (ad 0)), (1, .int (nI k)), (2, .int (nI j))] [] w 0 0
  refine g_aload_n (j := 0) d_R_message_0 rfl ?_
  refine g_iload_n (j := 1) d_R_message_1 rfl ?_
  refine g_callV (c_R_isMessage hs (nI k)) ok_R_isMessage lk_R_148 in_R_isMessage se_R_isMessage hs.obj rfl d_R_message_2 rfl rfl (Nat.le_of_ble_eq_true rfl) ⟨(Nat.le_of_ble_eq_true rfl), (Nat.le_of_ble_eq_true rfl)⟩ (Nat.le_of_ble_eq_true rfl) (Nat.le_of_ble_eq_true rfl) (fun r w' hq => ?_)
  obtain ⟨rfl, rfl⟩ := hq
  refine g_if_eq (tgt := 32) d_R_message_5 (by decide) (fun h1 => ?_) (fun h1 => ?_)
  · skip
    refine g_iconst (v := (-1)) d_R_message_32 (by decide) ?_
    have hz : s_R_message t k j = (-1) := by
      unfold s_R_message
      rw [if_pos h1]
    exact g_ireturn d_R_message_33 rfl (Nat.le_of_ble_eq_true rfl) (Nat.le_of_ble_eq_true rfl) ⟨by rw [hz], rfl⟩
  · skip
    refine g_iload_n (j := 2) d_R_message_8 rfl ?_
    refine g_if_lt (tgt := 32) d_R_message_9 (by decide) (fun h2 => ?_) (fun h2 => ?_)
    · skip
      refine g_iconst (v := (-1)) d_R_message_32 (by decide) ?_
      have hz : s_R_message t k j = (-1) := by
        unfold s_R_message
        rw [if_neg h1, if_pos h2]
      exact g_ireturn d_R_message_33 rfl (Nat.le_of_ble_eq_true rfl) (Nat.le_of_ble_eq_true rfl) ⟨by rw [hz], rfl⟩
    · skip
      refine g_iload_n (j := 2) d_R_message_12 rfl ?_
      refine g_bipush (v := 6) d_R_message_13 (by decide) ?_
      refine g_icmp_gt (tgt := 32) d_R_message_15 (by decide) (fun h3 => ?_) (fun h3 => ?_)
      · skip
        refine g_iconst (v := (-1)) d_R_message_32 (by decide) ?_
        have hz : s_R_message t k j = (-1) := by
          unfold s_R_message
          rw [if_neg h1, if_neg h2, if_pos h3]
        exact g_ireturn d_R_message_33 rfl (Nat.le_of_ble_eq_true rfl) (Nat.le_of_ble_eq_true rfl) ⟨by rw [hz], rfl⟩
      · skip
        refine g_aload_n (j := 0) d_R_message_18 rfl ?_
        refine g_get d_R_message_19 f_R_80 hs.obj rfl ?_
        refine g_bipush (v := 7) d_R_message_22 (by decide) ?_
        refine g_iload_n (j := 1) d_R_message_24 rfl ?_
        refine g_imul d_R_message_25 ?_
        refine g_norm (y := nI (7 * k)) (pk_mul 7 k) ?_
        refine g_iload_n (j := 2) d_R_message_26 rfl ?_
        refine g_iadd d_R_message_27 ?_
        refine g_norm (y := nI ((7 * k) + j)) (nI_add (7 * k) j) ?_
        refine r_iald (k := 23) (j := (7 * k) + j) d_R_message_28 hs (by decide) rfl rfl (show (7 * k) + j < 448 by omega) ?_
        refine g_goto (tgt := 33) d_R_message_29 (by decide) ?_
        have hz : s_R_message t k j = t.2 23 ((7 * k) + j) := by
          unfold s_R_message
          rw [if_neg h1, if_neg h2, if_neg h3]
        exact g_ireturn d_R_message_33 rfl (Nat.le_of_ble_eq_true rfl) (Nat.le_of_ble_eq_true rfl) ⟨by rw [hz], rfl⟩
