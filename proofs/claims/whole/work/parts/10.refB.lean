def s_R_send (t : tR) (k : Int32) (cc : Int32) (ff : Int32) (wo : Int32) (a : Int32) (b : Int32) (d : Int32) : tR :=
  if nI (pN t) = 64 then
    t
  else
    stF (stA (stA (stA (stA (stA (stA (stA t 23 (7 * (pN t)) k) 23 ((7 * (pN t)) + 1) cc) 23 ((7 * (pN t)) + 2) ff) 23 ((7 * (pN t)) + 3) wo) 23 ((7 * (pN t)) + 4) a) 23 ((7 * (pN t)) + 5) b) 23 ((7 * (pN t)) + 6) d) 9 (nI ((pN t) + 1))
set_option maxHeartbeats 4000000 in
set_option maxRecDepth 100000 in
theorem c_R_send {E : gE} {w : wd} {ad : Nat → Nat} {t : tR} (hs : SysR E ad t w) (k : Int32) (cc : Int32) (ff : Int32) (wo : Int32) (a : Int32) (b : Int32) (d : Int32) (hp : okP t) : Cn E y_R_send 1 0 0 [.ref (ad 0), .int k, .int cc, .int ff, .int wo, .int a, .int b, .int d] w (fun r w' => r = none ∧ SysR E ad (s_R_send t k cc ff wo a b d) w') := by
  refine Cn.of (by decide) (Nat.le_of_ble_eq_true rfl) (fun A => ?_)
  show G E y_R_send _ 0 [(0, .ref (ad 0)), (1, .int k), (2, .int cc), (3, .int ff), (4, .int wo), (5, .int a), (6, .int b), (7, .int d)] [] w 0 0
  refine g_aload_n (j := 0) d_R_send_0 rfl ?_
  refine g_get d_R_send_1 f_R_96 hs.obj rfl ?_
  refine g_norm (y := nI (pN t)) hp.1 ?_
  refine g_bipush (v := 64) d_R_send_4 (by decide) ?_
  refine g_icmp_ne (tgt := 10) d_R_send_6 (by decide) (fun h1 => ?_) (fun h1 => ?_)
  · skip
    have hn2 : pN t < 64 := by
      have h9 : pN t ≠ 64 := fun z => h1 (by rw [z]; rfl)
      have := hp.2
      omega
    refine g_bipush (v := 7) d_R_send_10 (by decide) ?_
    refine g_aload_n (j := 0) d_R_send_12 rfl ?_
    refine g_get d_R_send_13 f_R_96 hs.obj rfl ?_
    refine g_norm (y := nI (pN t)) hp.1 ?_
    refine g_imul d_R_send_16 ?_
    refine g_norm (y := nI (7 * (pN t))) (pk_mul 7 (pN t)) ?_
    refine g_istore (lv' := [(8, _), (0, _), (1, _), (2, _), (3, _), (4, _), (5, _), (6, _), (7, _)]) d_R_send_17 (by decide) rfl ?_
    refine g_aload_n (j := 1) d_R_send_19 rfl ?_
    refine g_get d_R_send_20 f_R_80 hs.obj rfl ?_
    refine g_iload (j := 0) d_R_send_23 rfl ?_
    refine g_iload_n (j := 2) d_R_send_25 rfl ?_
    refine r_iast (k := 23) (j := 7 * (pN t)) d_R_send_26 hs (by decide) rfl rfl (show 7 * (pN t) < 448 by omega) (fun w2 hs3 => ?_)
    refine g_aload_n (j := 1) d_R_send_27 rfl ?_
    refine g_get d_R_send_28 f_R_80 hs3.obj rfl ?_
    refine g_iload (j := 0) d_R_send_31 rfl ?_
    refine g_iconst (v := 1) d_R_send_33 (by decide) ?_
    refine g_iadd d_R_send_34 ?_
    refine g_norm (y := nI ((7 * (pN t)) + 1)) (nI_add (7 * (pN t)) 1) ?_
    refine g_iload_n (j := 3) d_R_send_35 rfl ?_
    refine r_iast (k := 23) (j := (7 * (pN t)) + 1) d_R_send_36 hs3 (by decide) rfl rfl (show (7 * (pN t)) + 1 < 448 by omega) (fun w4 hs5 => ?_)
    refine g_aload_n (j := 1) d_R_send_37 rfl ?_
    refine g_get d_R_send_38 f_R_80 hs5.obj rfl ?_
    refine g_iload (j := 0) d_R_send_41 rfl ?_
    refine g_iconst (v := 2) d_R_send_43 (by decide) ?_
    refine g_iadd d_R_send_44 ?_
    refine g_norm (y := nI ((7 * (pN t)) + 2)) (nI_add (7 * (pN t)) 2) ?_
    refine g_iload_n (j := 4) d_R_send_45 rfl ?_
    refine r_iast (k := 23) (j := (7 * (pN t)) + 2) d_R_send_46 hs5 (by decide) rfl rfl (show (7 * (pN t)) + 2 < 448 by omega) (fun w6 hs7 => ?_)
    refine g_aload_n (j := 1) d_R_send_47 rfl ?_
    refine g_get d_R_send_48 f_R_80 hs7.obj rfl ?_
    refine g_iload (j := 0) d_R_send_51 rfl ?_
    refine g_iconst (v := 3) d_R_send_53 (by decide) ?_
    refine g_iadd d_R_send_54 ?_
    refine g_norm (y := nI ((7 * (pN t)) + 3)) (nI_add (7 * (pN t)) 3) ?_
    refine g_iload (j := 5) d_R_send_55 rfl ?_
    refine r_iast (k := 23) (j := (7 * (pN t)) + 3) d_R_send_57 hs7 (by decide) rfl rfl (show (7 * (pN t)) + 3 < 448 by omega) (fun w8 hs9 => ?_)
    refine g_aload_n (j := 1) d_R_send_58 rfl ?_
    refine g_get d_R_send_59 f_R_80 hs9.obj rfl ?_
    refine g_iload (j := 0) d_R_send_62 rfl ?_
    refine g_iconst (v := 4) d_R_send_64 (by decide) ?_
    refine g_iadd d_R_send_65 ?_
    refine g_norm (y := nI ((7 * (pN t)) + 4)) (nI_add (7 * (pN t)) 4) ?_
    refine g_iload (j := 6) d_R_send_66 rfl ?_
    refine r_iast (k := 23) (j := (7 * (pN t)) + 4) d_R_send_68 hs9 (by decide) rfl rfl (show (7 * (pN t)) + 4 < 448 by omega) (fun w10 hs11 => ?_)
    refine g_aload_n (j := 1) d_R_send_69 rfl ?_
    refine g_get d_R_send_70 f_R_80 hs11.obj rfl ?_
    refine g_iload (j := 0) d_R_send_73 rfl ?_
    refine g_iconst (v := 5) d_R_send_75 (by decide) ?_
    refine g_iadd d_R_send_76 ?_
    refine g_norm (y := nI ((7 * (pN t)) + 5)) (nI_add (7 * (pN t)) 5) ?_
    refine g_iload (j := 7) d_R_send_77 rfl ?_
    refine r_iast (k := 23) (j := (7 * (pN t)) + 5) d_R_send_79 hs11 (by decide) rfl rfl (show (7 * (pN t)) + 5 < 448 by omega) (fun w12 hs13 => ?_)
    refine g_aload_n (j := 1) d_R_send_80 rfl ?_
    refine g_get d_R_send_81 f_R_80 hs13.obj rfl ?_
    refine g_iload (j := 0) d_R_send_84 rfl ?_
    refine g_bipush (v := 6) d_R_send_86 (by decide) ?_
    refine g_iadd d_R_send_88 ?_
    refine g_norm (y := nI ((7 * (pN t)) + 6)) (nI_add (7 * (pN t)) 6) ?_
    refine g_iload (j := 8) d_R_send_89 rfl ?_
    refine r_iast (k := 23) (j := (7 * (pN t)) + 6) d_R_send_91 hs13 (by decide) rfl rfl (show (7 * (pN t)) + 6 < 448 by omega) (fun w14 hs15 => ?_)
    refine g_aload_n (j := 1) d_R_send_92 rfl ?_
    refine g_dup d_R_send_93 rfl ?_
    refine g_get d_R_send_94 f_R_96 hs15.obj rfl ?_
    refine g_norm (y := nI (pN t)) hp.1 ?_
    refine g_iconst (v := 1) d_R_send_97 (by decide) ?_
    refine g_iadd d_R_send_98 ?_
    refine g_norm (y := nI ((pN t) + 1)) (nI_add (pN t) 1) ?_
    refine g_put d_R_send_99 fw_R_96 (Or.inl rfl) hs15.obj rfl rfl (Nat.le_of_ble_eq_true rfl) ?_
    have hs17 : SysR E ad (stF (stA (stA (stA (stA (stA (stA (stA t 23 (7 * (pN t)) k) 23 ((7 * (pN t)) + 1) cc) 23 ((7 * (pN t)) + 2) ff) 23 ((7 * (pN t)) + 3) wo) 23 ((7 * (pN t)) + 4) a) 23 ((7 * (pN t)) + 5) b) 23 ((7 * (pN t)) + 6) d) 9 (nI ((pN t) + 1))) _ := hs15.sf (t' := stF (stA (stA (stA (stA (stA (stA (stA t 23 (7 * (pN t)) k) 23 ((7 * (pN t)) + 1) cc) 23 ((7 * (pN t)) + 2) ff) 23 ((7 * (pN t)) + 3) wo) 23 ((7 * (pN t)) + 4) a) 23 ((7 * (pN t)) + 5) b) 23 ((7 * (pN t)) + 6) d) 9 (nI ((pN t) + 1))) (fs := (ceR ad (stA (stA (stA (stA (stA (stA (stA t 23 (7 * (pN t)) k) 23 ((7 * (pN t)) + 1) cc) 23 ((7 * (pN t)) + 2) ff) 23 ((7 * (pN t)) + 3) wo) 23 ((7 * (pN t)) + 4) a) 23 ((7 * (pN t)) + 5) b) 23 ((7 * (pN t)) + 6) d)).set 32 (.int (nI ((pN t) + 1)))) rfl rfl
    generalize wu _ (ad 0) _ = w16 at hs17 ⊢
    have hz : s_R_send t k cc ff wo a b d = stF (stA (stA (stA (stA (stA (stA (stA t 23 (7 * (pN t)) k) 23 ((7 * (pN t)) + 1) cc) 23 ((7 * (pN t)) + 2) ff) 23 ((7 * (pN t)) + 3) wo) 23 ((7 * (pN t)) + 4) a) 23 ((7 * (pN t)) + 5) b) 23 ((7 * (pN t)) + 6) d) 9 (nI ((pN t) + 1)) := by
      unfold s_R_send
      rw [if_neg h1]
    exact g_return d_R_send_102 rfl (Nat.le_of_ble_eq_true rfl) (Nat.le_of_ble_eq_true rfl) ⟨rfl, by rw [hz]; exact hs17⟩
  · skip
    have hz : s_R_send t k cc ff wo a b d = t := by
      unfold s_R_send
      rw [if_pos h1]
    exact g_return d_R_send_9 rfl (Nat.le_of_ble_eq_true rfl) (Nat.le_of_ble_eq_true rfl) ⟨rfl, by rw [hz]; exact hs⟩

def s_R_sendOperation (t : tR) (c : Nat) : tR :=
  if t.2 12 c = 0 then
    s_R_send t 0 (nI c) (t.2 13 c) (t.2 10 c) 0 0 0
  else
    s_R_send t 1 (nI c) (t.2 13 c) (t.2 10 c) (t.2 14 c) 0 0
set_option maxHeartbeats 4000000 in
set_option maxRecDepth 100000 in
theorem c_R_sendOperation {E : gE} {w : wd} {ad : Nat → Nat} {t : tR} (hs : SysR E ad t w) (c : Nat) (hc : c < 4) (hp : okP t) : Cn E y_R_sendOperation 2 0 0 [.ref (ad 0), .int (nI c)] w (fun r w' => r = none ∧ SysR E ad (s_R_sendOperation t c) w') := by
  refine Cn.of (by decide) (Nat.le_of_ble_eq_true rfl) (fun A => ?_)
  show G E y_R_sendOperation _ 0 [(0, .ref (ad 0)), (1, .int (nI c))] [] w 0 0
  refine g_aload_n (j := 0) d_R_sendOperation_0 rfl ?_
  refine g_get d_R_sendOperation_1 f_R_46 hs.obj rfl ?_
  refine g_iload_n (j := 1) d_R_sendOperation_4 rfl ?_
  refine r_zald (k := 12) (j := c) d_R_sendOperation_5 hs (by decide) rfl rfl (show c < 4 by omega) ?_
  refine g_if_eq (tgt := 38) d_R_sendOperation_6 (by decide) (fun h1 => ?_) (fun h1 => ?_)
  · skip
    refine g_aload_n (j := 0) d_R_sendOperation_38 rfl ?_
    refine g_iconst (v := 0) d_R_sendOperation_39 (by decide) ?_
    refine g_iload_n (j := 1) d_R_sendOperation_40 rfl ?_
    refine g_aload_n (j := 0) d_R_sendOperation_41 rfl ?_
    refine g_get d_R_sendOperation_42 f_R_50 hs.obj rfl ?_
    refine g_iload_n (j := 1) d_R_sendOperation_45 rfl ?_
    refine r_iald (k := 13) (j := c) d_R_sendOperation_46 hs (by decide) rfl rfl (show c < 4 by omega) ?_
    refine g_aload_n (j := 0) d_R_sendOperation_47 rfl ?_
    refine g_get d_R_sendOperation_48 f_R_40 hs.obj rfl ?_
    refine g_iload_n (j := 1) d_R_sendOperation_51 rfl ?_
    refine r_iald (k := 10) (j := c) d_R_sendOperation_52 hs (by decide) rfl rfl (show c < 4 by omega) ?_
    refine g_iconst (v := 0) d_R_sendOperation_53 (by decide) ?_
    refine g_iconst (v := 0) d_R_sendOperation_54 (by decide) ?_
    refine g_iconst (v := 0) d_R_sendOperation_55 (by decide) ?_
    refine g_callV (c_R_send hs 0 (nI c) (t.2 13 c) (t.2 10 c) 0 0 0 hp) ok_R_send lk_R_99 in_R_send se_R_send hs.obj rfl d_R_sendOperation_56 rfl rfl (Nat.le_of_ble_eq_true rfl) ⟨(Nat.le_of_ble_eq_true rfl), (Nat.le_of_ble_eq_true rfl)⟩ (Nat.le_of_ble_eq_true rfl) (Nat.le_of_ble_eq_true rfl) (fun r w' hq => ?_)
    obtain ⟨rfl, hs2⟩ := hq
    have hz : s_R_sendOperation t c = s_R_send t 0 (nI c) (t.2 13 c) (t.2 10 c) 0 0 0 := by
      unfold s_R_sendOperation
      rw [if_pos h1]
    exact g_return d_R_sendOperation_59 rfl (Nat.le_of_ble_eq_true rfl) (Nat.le_of_ble_eq_true rfl) ⟨rfl, by rw [hz]; exact hs2⟩
  · skip
    refine g_aload_n (j := 0) d_R_sendOperation_9 rfl ?_
    refine g_iconst (v := 1) d_R_sendOperation_10 (by decide) ?_
    refine g_iload_n (j := 1) d_R_sendOperation_11 rfl ?_
    refine g_aload_n (j := 0) d_R_sendOperation_12 rfl ?_
    refine g_get d_R_sendOperation_13 f_R_50 hs.obj rfl ?_
    refine g_iload_n (j := 1) d_R_sendOperation_16 rfl ?_
    refine r_iald (k := 13) (j := c) d_R_sendOperation_17 hs (by decide) rfl rfl (show c < 4 by omega) ?_
    refine g_aload_n (j := 0) d_R_sendOperation_18 rfl ?_
    refine g_get d_R_sendOperation_19 f_R_40 hs.obj rfl ?_
    refine g_iload_n (j := 1) d_R_sendOperation_22 rfl ?_
    refine r_iald (k := 10) (j := c) d_R_sendOperation_23 hs (by decide) rfl rfl (show c < 4 by omega) ?_
    refine g_aload_n (j := 0) d_R_sendOperation_24 rfl ?_
    refine g_get d_R_sendOperation_25 f_R_53 hs.obj rfl ?_
    refine g_iload_n (j := 1) d_R_sendOperation_28 rfl ?_
    refine r_iald (k := 14) (j := c) d_R_sendOperation_29 hs (by decide) rfl rfl (show c < 4 by omega) ?_
    refine g_iconst (v := 0) d_R_sendOperation_30 (by decide) ?_
    refine g_iconst (v := 0) d_R_sendOperation_31 (by decide) ?_
    refine g_callV (c_R_send hs 1 (nI c) (t.2 13 c) (t.2 10 c) (t.2 14 c) 0 0 hp) ok_R_send lk_R_99 in_R_send se_R_send hs.obj rfl d_R_sendOperation_32 rfl rfl (Nat.le_of_ble_eq_true rfl) ⟨(Nat.le_of_ble_eq_true rfl), (Nat.le_of_ble_eq_true rfl)⟩ (Nat.le_of_ble_eq_true rfl) (Nat.le_of_ble_eq_true rfl) (fun r w' hq => ?_)
    obtain ⟨rfl, hs4⟩ := hq
    refine g_goto (tgt := 59) d_R_sendOperation_35 (by decide) ?_
    have hz : s_R_sendOperation t c = s_R_send t 1 (nI c) (t.2 13 c) (t.2 10 c) (t.2 14 c) 0 0 := by
      unfold s_R_sendOperation
      rw [if_neg h1]
    exact g_return d_R_sendOperation_59 rfl (Nat.le_of_ble_eq_true rfl) (Nat.le_of_ble_eq_true rfl) ⟨rfl, by rw [hz]; exact hs4⟩
