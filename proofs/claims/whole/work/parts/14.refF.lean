theorem foL_none (g : Nat → Int32) (x : Int32) : ∀ (k : Nat) (a : Int32), (∀ j, j < k → g j ≠ x) → foL g x k a = a := by
  intro k
  induction k with
  | zero => intro a _; rfl
  | succ k ih =>
    intro a h
    rw [foL, if_neg (h k (by omega))]
    exact ih a (fun j hj => h j (by omega))
theorem foL_some (g : Nat → Int32) (x : Int32) : ∀ (k : Nat) (a : Int32), (∃ j, j < k ∧ g j = x) → ∃ j, j < k ∧ g j = x ∧ (∀ i, i < j → g i ≠ x) ∧ foL g x k a = nI j := by
  intro k
  induction k with
  | zero => intro a h; obtain ⟨j, hj, _⟩ := h; omega
  | succ k ih =>
    intro a h
    rw [foL]
    by_cases hk : ∃ j, j < k ∧ g j = x
    · obtain ⟨j, h1, h2, h3, h4⟩ := ih (if g k = x then nI k else a) hk
      exact ⟨j, by omega, h2, h3, h4⟩
    · have hn : ∀ j, j < k → g j ≠ x := fun j hj hx => hk ⟨j, hj, hx⟩
      obtain ⟨j, h1, h2⟩ := h
      have hjk : j = k := by
        by_cases hc : j < k
        · exact absurd h2 (hn j hc)
        · omega
      subst hjk
      rw [if_pos h2]
      exact ⟨j, h1, h2, hn, foL_none g x j _ hn⟩
/-- the place that firstOf tells -/
def foN (t : tR) (f : Nat) : Nat := (s_R_firstOf t f).toNatClampNeg
theorem foN_ok {t : tR} {f : Nat} (hw : okW t) (h : ¬ s_R_firstOf t f < 0) : s_R_firstOf t f = nI (foN t f) ∧ foN t f < wN t ∧ wN t ≤ 519 := by
  have h2 := hw.2
  by_cases hx : ∃ j, j < wN t ∧ t.2 6 j = nI f
  · obtain ⟨j, h1, _, _, h4⟩ := foL_some (t.2 6) (nI f) (wN t) (-1) hx
    have e : s_R_firstOf t f = nI j := h4
    have e2 : foN t f = j := by unfold foN; rw [e]; exact nI_clamp (by omega)
    rw [e2]
    exact ⟨e, h1, h2⟩
  · have e : s_R_firstOf t f = -1 := foL_none _ _ _ _ (fun j hj hz => hx ⟨j, hj, hz⟩)
    rw [e] at h
    exact absurd (by decide) h
theorem foN_has {t : tR} {f j : Nat} (hj : j < wN t) (h : t.2 6 j = nI f) (hw : wN t ≤ 519) : ¬ s_R_firstOf t f < 0 := by
  obtain ⟨i, h1, _, _, h4⟩ := foL_some (t.2 6) (nI f) (wN t) (-1) ⟨j, hj, h⟩
  have e : s_R_firstOf t f = nI i := h4
  rw [e]
  exact nI_pos (by omega)
theorem isM_lt {t : tR} {k : Nat} (hp : okP t) (hk : k < 2 ^ 31) (h : ¬ s_R_isMessage t (nI k) = 0) : k < pN t := by
  have h2 := hp.2
  unfold s_R_isMessage at h
  rw [if_neg (nI_pos hk), hp.1] at h
  by_cases hc : nI (pN t) ≤ nI k
  · rw [if_pos hc] at h
    exact absurd rfl h
  · exact Nat.lt_of_not_le (fun z => hc ((nI_leI (by omega) hk).mpr z))

def s_R_given (t : tR) (c : Nat) (f : Nat) (wo : Int32) (a : Int32) (b : Int32) (d : Int32) : tR :=
  if t.2 11 c = 2 then
    if t.2 12 c = 0 then
      if t.2 10 c = wo then
        if d = 1 then
          if (s_R_finish t c a b).2 16 c = 0 then
            stA (stA (stA (stA (s_R_finish t c a b) 19 ((4 * c) + f) 1) 20 ((4 * c) + f) (((stA (s_R_finish t c a b) 19 ((4 * c) + f) 1).2 15 c) + ((stA (s_R_finish t c a b) 19 ((4 * c) + f) 1).1 3))) 21 ((4 * c) + f) a) 22 ((4 * c) + f) b
          else
            s_R_finish t c a b
        else
          s_R_finish t c a b
      else
        t
    else
      t
  else
    t
set_option maxHeartbeats 4000000 in
set_option maxRecDepth 100000 in
theorem c_R_given {E : gE} {w : wd} {ad : Nat → Nat} {t : tR} (hs : SysR E ad t w) (c : Nat) (f : Nat) (wo : Int32) (a : Int32) (b : Int32) (d : Int32) (hc : c < 4) (hf : f < 4) : Cn E y_R_given 2 0 0 [.ref (ad 0), .int (nI c), .int (nI f), .int wo, .int a, .int b, .int d] w (fun r w' => r = none ∧ SysR E ad (s_R_given t c f wo a b d) w') := by
  refine Cn.of (by decide) (Nat.le_of_ble_eq_true rfl) (fun A => ?_)
  show G E y_R_given _ 0 [(0, .ref (ad 0)), (1, .int (nI c)), (2, .int (nI f)), (3, .int wo), (4, .int a), (5, .int b), (6, .int d)] [] w 0 0
  refine g_aload_n (j := 0) d_R_given_0 rfl ?_
  refine g_get d_R_given_1 f_R_43 hs.obj rfl ?_
  refine g_iload_n (j := 1) d_R_given_4 rfl ?_
  refine r_iald (k := 11) (j := c) d_R_given_5 hs (by decide) rfl rfl (show c < 4 by omega) ?_
  refine g_iconst (v := 2) d_R_given_6 (by decide) ?_
  refine g_icmp_ne (tgt := 29) d_R_given_7 (by decide) (fun h1 => ?_) (fun h1 => ?_)
  · skip
    have hz : s_R_given t c f wo a b d = t := by
      unfold s_R_given
      rw [if_neg h1]
    exact g_return d_R_given_29 rfl (Nat.le_of_ble_eq_true rfl) (Nat.le_of_ble_eq_true rfl) ⟨rfl, by rw [hz]; exact hs⟩
  · skip
    refine g_aload_n (j := 0) d_R_given_10 rfl ?_
    refine g_get d_R_given_11 f_R_46 hs.obj rfl ?_
    refine g_iload_n (j := 1) d_R_given_14 rfl ?_
    refine r_zald (k := 12) (j := c) d_R_given_15 hs (by decide) rfl rfl (show c < 4 by omega) ?_
    refine g_if_ne (tgt := 29) d_R_given_16 (by decide) (fun h2 => ?_) (fun h2 => ?_)
    · skip
      have hz : s_R_given t c f wo a b d = t := by
        unfold s_R_given
        rw [if_pos h1, if_neg h2]
      exact g_return d_R_given_29 rfl (Nat.le_of_ble_eq_true rfl) (Nat.le_of_ble_eq_true rfl) ⟨rfl, by rw [hz]; exact hs⟩
    · skip
      refine g_aload_n (j := 0) d_R_given_19 rfl ?_
      refine g_get d_R_given_20 f_R_40 hs.obj rfl ?_
      refine g_iload_n (j := 1) d_R_given_23 rfl ?_
      refine r_iald (k := 10) (j := c) d_R_given_24 hs (by decide) rfl rfl (show c < 4 by omega) ?_
      refine g_iload_n (j := 3) d_R_given_25 rfl ?_
      refine g_icmp_eq (tgt := 30) d_R_given_26 (by decide) (fun h3 => ?_) (fun h3 => ?_)
      · skip
        refine g_aload_n (j := 0) d_R_given_30 rfl ?_
        refine g_iload_n (j := 1) d_R_given_31 rfl ?_
        refine g_iload (j := 4) d_R_given_32 rfl ?_
        refine g_iload (j := 5) d_R_given_34 rfl ?_
        refine g_callV (c_R_finish hs c a b (by omega)) ok_R_finish lk_R_114 in_R_finish se_R_finish hs.obj rfl d_R_given_36 rfl rfl (Nat.le_of_ble_eq_true rfl) ⟨(Nat.le_of_ble_eq_true rfl), (Nat.le_of_ble_eq_true rfl)⟩ (Nat.le_of_ble_eq_true rfl) (Nat.le_of_ble_eq_true rfl) (fun r w' hq => ?_)
        obtain ⟨rfl, hs4⟩ := hq
        refine g_iload (j := 6) d_R_given_39 rfl ?_
        refine g_iconst (v := 1) d_R_given_41 (by decide) ?_
        refine g_icmp_ne (tgt := 105) d_R_given_42 (by decide) (fun h6 => ?_) (fun h6 => ?_)
        · skip
          have hz : s_R_given t c f wo a b d = s_R_finish t c a b := by
            unfold s_R_given
            rw [if_pos h1, if_pos h2, if_pos h3, if_neg h6]
          exact g_return d_R_given_105 rfl (Nat.le_of_ble_eq_true rfl) (Nat.le_of_ble_eq_true rfl) ⟨rfl, by rw [hz]; exact hs4⟩
        · skip
          refine g_aload_n (j := 0) d_R_given_45 rfl ?_
          refine g_get d_R_given_46 f_R_59 hs4.obj rfl ?_
          refine g_iload_n (j := 1) d_R_given_49 rfl ?_
          refine r_zald (k := 16) (j := c) d_R_given_50 hs4 (by decide) rfl rfl (show c < 4 by omega) ?_
          refine g_if_ne (tgt := 105) d_R_given_51 (by decide) (fun h7 => ?_) (fun h7 => ?_)
          · skip
            have hz : s_R_given t c f wo a b d = s_R_finish t c a b := by
              unfold s_R_given
              rw [if_pos h1, if_pos h2, if_pos h3, if_pos h6, if_neg h7]
            exact g_return d_R_given_105 rfl (Nat.le_of_ble_eq_true rfl) (Nat.le_of_ble_eq_true rfl) ⟨rfl, by rw [hz]; exact hs4⟩
          · skip
            refine g_iconst (v := 4) d_R_given_54 (by decide) ?_
            refine g_iload_n (j := 1) d_R_given_55 rfl ?_
            refine g_imul d_R_given_56 ?_
            refine g_norm (y := nI (4 * c)) (pk_mul 4 c) ?_
            refine g_iload_n (j := 2) d_R_given_57 rfl ?_
            refine g_iadd d_R_given_58 ?_
            refine g_norm (y := nI ((4 * c) + f)) (nI_add (4 * c) f) ?_
            refine g_istore (lv' := [(7, _), (0, _), (1, _), (2, _), (3, _), (4, _), (5, _), (6, _)]) d_R_given_59 (by decide) rfl ?_
            refine g_aload_n (j := 1) d_R_given_61 rfl ?_
            refine g_get d_R_given_62 f_R_68 hs4.obj rfl ?_
            refine g_iload (j := 0) d_R_given_65 rfl ?_
            refine g_iconst (v := 1) d_R_given_67 (by decide) ?_
            refine r_zast (k := 19) (j := (4 * c) + f) d_R_given_68 hs4 (by decide) rfl rfl (show (4 * c) + f < 16 by omega) (by decide) (fun w8 hs9 => ?_)
            refine g_aload_n (j := 1) d_R_given_69 rfl ?_
            refine g_get d_R_given_70 f_R_71 hs9.obj rfl ?_
            refine g_iload (j := 0) d_R_given_73 rfl ?_
            refine g_aload_n (j := 1) d_R_given_75 rfl ?_
            refine g_get d_R_given_76 f_R_56 hs9.obj rfl ?_
            refine g_iload_n (j := 2) d_R_given_79 rfl ?_
            refine r_iald (k := 15) (j := c) d_R_given_80 hs9 (by decide) rfl rfl (show c < 4 by omega) ?_
            refine g_aload_n (j := 1) d_R_given_81 rfl ?_
            refine g_get d_R_given_82 f_R_93 hs9.obj rfl ?_
            refine g_iadd d_R_given_85 ?_
            refine r_iast (k := 20) (j := (4 * c) + f) d_R_given_86 hs9 (by decide) rfl rfl (show (4 * c) + f < 16 by omega) (fun w10 hs11 => ?_)
            refine g_aload_n (j := 1) d_R_given_87 rfl ?_
            refine g_get d_R_given_88 f_R_74 hs11.obj rfl ?_
            refine g_iload (j := 0) d_R_given_91 rfl ?_
            refine g_iload (j := 5) d_R_given_93 rfl ?_
            refine r_iast (k := 21) (j := (4 * c) + f) d_R_given_95 hs11 (by decide) rfl rfl (show (4 * c) + f < 16 by omega) (fun w12 hs13 => ?_)
            refine g_aload_n (j := 1) d_R_given_96 rfl ?_
            refine g_get d_R_given_97 f_R_77 hs13.obj rfl ?_
            refine g_iload (j := 0) d_R_given_100 rfl ?_
            refine g_iload (j := 6) d_R_given_102 rfl ?_
            refine r_iast (k := 22) (j := (4 * c) + f) d_R_given_104 hs13 (by decide) rfl rfl (show (4 * c) + f < 16 by omega) (fun w14 hs15 => ?_)
            have hz : s_R_given t c f wo a b d = stA (stA (stA (stA (s_R_finish t c a b) 19 ((4 * c) + f) 1) 20 ((4 * c) + f) (((stA (s_R_finish t c a b) 19 ((4 * c) + f) 1).2 15 c) + ((stA (s_R_finish t c a b) 19 ((4 * c) + f) 1).1 3))) 21 ((4 * c) + f) a) 22 ((4 * c) + f) b := by
              unfold s_R_given
              rw [if_pos h1, if_pos h2, if_pos h3, if_pos h6, if_pos h7]
            exact g_return d_R_given_105 rfl (Nat.le_of_ble_eq_true rfl) (Nat.le_of_ble_eq_true rfl) ⟨rfl, by rw [hz]; exact hs15⟩
      · skip
        have hz : s_R_given t c f wo a b d = t := by
          unfold s_R_given
          rw [if_pos h1, if_pos h2, if_neg h3]
        exact g_return d_R_given_29 rfl (Nat.le_of_ble_eq_true rfl) (Nat.le_of_ble_eq_true rfl) ⟨rfl, by rw [hz]; exact hs⟩

def s_R_recalled (t : tR) (c : Nat) (f : Nat) (wo : Int32) (a : Int32) (b : Int32) : tR :=
  if (stA t 19 ((4 * c) + f) 0).2 11 c = 2 then
    if (stA t 19 ((4 * c) + f) 0).2 12 c = 0 then
      if (stA t 19 ((4 * c) + f) 0).2 13 c = nI f then
        s_R_send (stA (stA t 19 ((4 * c) + f) 0) 16 c 1) 5 (nI c) (nI f) wo a b 0
      else
        s_R_send (stA t 19 ((4 * c) + f) 0) 5 (nI c) (nI f) wo a b 0
    else
      s_R_send (stA t 19 ((4 * c) + f) 0) 5 (nI c) (nI f) wo a b 0
  else
    s_R_send (stA t 19 ((4 * c) + f) 0) 5 (nI c) (nI f) wo a b 0
set_option maxHeartbeats 4000000 in
set_option maxRecDepth 100000 in
theorem c_R_recalled {E : gE} {w : wd} {ad : Nat → Nat} {t : tR} (hs : SysR E ad t w) (c : Nat) (f : Nat) (wo : Int32) (a : Int32) (b : Int32) (hc : c < 4) (hf : f < 4) (hp : okP t) : Cn E y_R_recalled 2 0 0 [.ref (ad 0), .int (nI c), .int (nI f), .int wo, .int a, .int b] w (fun r w' => r = none ∧ SysR E ad (s_R_recalled t c f wo a b) w') := by
  refine Cn.of (by decide) (Nat.le_of_ble_eq_true rfl) (fun A => ?_)
  show G E y_R_recalled _ 0 [(0, .ref (ad 0)), (1, .int (nI c)), (2, .int (nI f)), (3, .int wo), (4, .int a), (5, .int b)] [] w 0 0
  refine g_aload_n (j := 0) d_R_recalled_0 rfl ?_
  refine g_get d_R_recalled_1 f_R_68 hs.obj rfl ?_
  refine g_iconst (v := 4) d_R_recalled_4 (by decide) ?_
  refine g_iload_n (j := 1) d_R_recalled_5 rfl ?_
  refine g_imul d_R_recalled_6 ?_
  refine g_norm (y := nI (4 * c)) (pk_mul 4 c) ?_
  refine g_iload_n (j := 2) d_R_recalled_7 rfl ?_
  refine g_iadd d_R_recalled_8 ?_
  refine g_norm (y := nI ((4 * c) + f)) (nI_add (4 * c) f) ?_
  refine g_iconst (v := 0) d_R_recalled_9 (by decide) ?_
  refine r_zast (k := 19) (j := (4 * c) + f) d_R_recalled_10 hs (by decide) rfl rfl (show (4 * c) + f < 16 by omega) (by decide) (fun w1 hs2 => ?_)
  refine g_aload_n (j := 0) d_R_recalled_11 rfl ?_
  refine g_get d_R_recalled_12 f_R_43 hs2.obj rfl ?_
  refine g_iload_n (j := 1) d_R_recalled_15 rfl ?_
  refine r_iald (k := 11) (j := c) d_R_recalled_16 hs2 (by decide) rfl rfl (show c < 4 by omega) ?_
  refine g_iconst (v := 2) d_R_recalled_17 (by decide) ?_
  refine g_icmp_ne (tgt := 47) d_R_recalled_18 (by decide) (fun h3 => ?_) (fun h3 => ?_)
  · skip
    refine g_aload_n (j := 0) d_R_recalled_47 rfl ?_
    refine g_iconst (v := 5) d_R_recalled_48 (by decide) ?_
    refine g_iload_n (j := 1) d_R_recalled_49 rfl ?_
    refine g_iload_n (j := 2) d_R_recalled_50 rfl ?_
    refine g_iload_n (j := 3) d_R_recalled_51 rfl ?_
    refine g_iload (j := 4) d_R_recalled_52 rfl ?_
    refine g_iload (j := 5) d_R_recalled_54 rfl ?_
    refine g_iconst (v := 0) d_R_recalled_56 (by decide) ?_
    refine g_callV (c_R_send hs2 5 (nI c) (nI f) wo a b 0 hp) ok_R_send lk_R_99 in_R_send se_R_send hs2.obj rfl d_R_recalled_57 rfl rfl (Nat.le_of_ble_eq_true rfl) ⟨(Nat.le_of_ble_eq_true rfl), (Nat.le_of_ble_eq_true rfl)⟩ (Nat.le_of_ble_eq_true rfl) (Nat.le_of_ble_eq_true rfl) (fun r w' hq => ?_)
    obtain ⟨rfl, hs4⟩ := hq
    have hz : s_R_recalled t c f wo a b = s_R_send (stA t 19 ((4 * c) + f) 0) 5 (nI c) (nI f) wo a b 0 := by
      unfold s_R_recalled
      rw [if_neg h3]
    exact g_return d_R_recalled_60 rfl (Nat.le_of_ble_eq_true rfl) (Nat.le_of_ble_eq_true rfl) ⟨rfl, by rw [hz]; exact hs4⟩
  · skip
    refine g_aload_n (j := 0) d_R_recalled_21 rfl ?_
    refine g_get d_R_recalled_22 f_R_46 hs2.obj rfl ?_
    refine g_iload_n (j := 1) d_R_recalled_25 rfl ?_
    refine r_zald (k := 12) (j := c) d_R_recalled_26 hs2 (by decide) rfl rfl (show c < 4 by omega) ?_
    refine g_if_ne (tgt := 47) d_R_recalled_27 (by decide) (fun h6 => ?_) (fun h6 => ?_)
    · skip
      refine g_aload_n (j := 0) d_R_recalled_47 rfl ?_
      refine g_iconst (v := 5) d_R_recalled_48 (by decide) ?_
      refine g_iload_n (j := 1) d_R_recalled_49 rfl ?_
      refine g_iload_n (j := 2) d_R_recalled_50 rfl ?_
      refine g_iload_n (j := 3) d_R_recalled_51 rfl ?_
      refine g_iload (j := 4) d_R_recalled_52 rfl ?_
      refine g_iload (j := 5) d_R_recalled_54 rfl ?_
      refine g_iconst (v := 0) d_R_recalled_56 (by decide) ?_
      refine g_callV (c_R_send hs2 5 (nI c) (nI f) wo a b 0 hp) ok_R_send lk_R_99 in_R_send se_R_send hs2.obj rfl d_R_recalled_57 rfl rfl (Nat.le_of_ble_eq_true rfl) ⟨(Nat.le_of_ble_eq_true rfl), (Nat.le_of_ble_eq_true rfl)⟩ (Nat.le_of_ble_eq_true rfl) (Nat.le_of_ble_eq_true rfl) (fun r w' hq => ?_)
      obtain ⟨rfl, hs7⟩ := hq
      have hz : s_R_recalled t c f wo a b = s_R_send (stA t 19 ((4 * c) + f) 0) 5 (nI c) (nI f) wo a b 0 := by
        unfold s_R_recalled
        rw [if_pos h3, if_neg h6]
      exact g_return d_R_recalled_60 rfl (Nat.le_of_ble_eq_true rfl) (Nat.le_of_ble_eq_true rfl) ⟨rfl, by rw [hz]; exact hs7⟩
    · skip
      refine g_aload_n (j := 0) d_R_recalled_30 rfl ?_
      refine g_get d_R_recalled_31 f_R_50 hs2.obj rfl ?_
      refine g_iload_n (j := 1) d_R_recalled_34 rfl ?_
      refine r_iald (k := 13) (j := c) d_R_recalled_35 hs2 (by decide) rfl rfl (show c < 4 by omega) ?_
      refine g_iload_n (j := 2) d_R_recalled_36 rfl ?_
      refine g_icmp_ne (tgt := 47) d_R_recalled_37 (by decide) (fun h9 => ?_) (fun h9 => ?_)
      · skip
        refine g_aload_n (j := 0) d_R_recalled_47 rfl ?_
        refine g_iconst (v := 5) d_R_recalled_48 (by decide) ?_
        refine g_iload_n (j := 1) d_R_recalled_49 rfl ?_
        refine g_iload_n (j := 2) d_R_recalled_50 rfl ?_
        refine g_iload_n (j := 3) d_R_recalled_51 rfl ?_
        refine g_iload (j := 4) d_R_recalled_52 rfl ?_
        refine g_iload (j := 5) d_R_recalled_54 rfl ?_
        refine g_iconst (v := 0) d_R_recalled_56 (by decide) ?_
        refine g_callV (c_R_send hs2 5 (nI c) (nI f) wo a b 0 hp) ok_R_send lk_R_99 in_R_send se_R_send hs2.obj rfl d_R_recalled_57 rfl rfl (Nat.le_of_ble_eq_true rfl) ⟨(Nat.le_of_ble_eq_true rfl), (Nat.le_of_ble_eq_true rfl)⟩ (Nat.le_of_ble_eq_true rfl) (Nat.le_of_ble_eq_true rfl) (fun r w' hq => ?_)
        obtain ⟨rfl, hs10⟩ := hq
        have hz : s_R_recalled t c f wo a b = s_R_send (stA t 19 ((4 * c) + f) 0) 5 (nI c) (nI f) wo a b 0 := by
          unfold s_R_recalled
          rw [if_pos h3, if_pos h6, if_neg h9]
        exact g_return d_R_recalled_60 rfl (Nat.le_of_ble_eq_true rfl) (Nat.le_of_ble_eq_true rfl) ⟨rfl, by rw [hz]; exact hs10⟩
      · skip
        refine g_aload_n (j := 0) d_R_recalled_40 rfl ?_
        refine g_get d_R_recalled_41 f_R_59 hs2.obj rfl ?_
        refine g_iload_n (j := 1) d_R_recalled_44 rfl ?_
        refine g_iconst (v := 1) d_R_recalled_45 (by decide) ?_
        refine r_zast (k := 16) (j := c) d_R_recalled_46 hs2 (by decide) rfl rfl (show c < 4 by omega) (by decide) (fun w12 hs13 => ?_)
        refine g_aload_n (j := 0) d_R_recalled_47 rfl ?_
        refine g_iconst (v := 5) d_R_recalled_48 (by decide) ?_
        refine g_iload_n (j := 1) d_R_recalled_49 rfl ?_
        refine g_iload_n (j := 2) d_R_recalled_50 rfl ?_
        refine g_iload_n (j := 3) d_R_recalled_51 rfl ?_
        refine g_iload (j := 4) d_R_recalled_52 rfl ?_
        refine g_iload (j := 5) d_R_recalled_54 rfl ?_
        refine g_iconst (v := 0) d_R_recalled_56 (by decide) ?_
        refine g_callV (c_R_send hs13 5 (nI c) (nI f) wo a b 0 hp) ok_R_send lk_R_99 in_R_send se_R_send hs13.obj rfl d_R_recalled_57 rfl rfl (Nat.le_of_ble_eq_true rfl) ⟨(Nat.le_of_ble_eq_true rfl), (Nat.le_of_ble_eq_true rfl)⟩ (Nat.le_of_ble_eq_true rfl) (Nat.le_of_ble_eq_true rfl) (fun r w' hq => ?_)
        obtain ⟨rfl, hs14⟩ := hq
        have hz : s_R_recalled t c f wo a b = s_R_send (stA (stA t 19 ((4 * c) + f) 0) 16 c 1) 5 (nI c) (nI f) wo a b 0 := by
          unfold s_R_recalled
          rw [if_pos h3, if_pos h6, if_pos h9]
        exact g_return d_R_recalled_60 rfl (Nat.le_of_ble_eq_true rfl) (Nat.le_of_ble_eq_true rfl) ⟨rfl, by rw [hz]; exact hs14⟩

def s_R_asked (t : tR) (c : Nat) (f : Nat) (wo : Int32) : tR :=
  if 0 ≤ s_R_firstOf t f then
    if (0 : Int32) = 0 then
      if (0 : Int32) = 0 then
        s_R_send t 2 (nI c) (nI f) wo (t.2 0 f) (t.2 1 f) 0
      else
        stA (s_R_send t 2 (nI c) (nI f) wo (t.2 0 f) (t.2 1 f) 0) 2 ((4 * c) + f) (((s_R_send t 2 (nI c) (nI f) wo (t.2 0 f) (t.2 1 f) 0).1 4) + ((s_R_send t 2 (nI c) (nI f) wo (t.2 0 f) (t.2 1 f) 0).1 2))
    else
      if (0 : Int32) = 0 then
        s_R_send t 2 (nI c) (nI f) wo (t.2 0 f) (t.2 1 f) 1
      else
        stA (s_R_send t 2 (nI c) (nI f) wo (t.2 0 f) (t.2 1 f) 1) 2 ((4 * c) + f) (((s_R_send t 2 (nI c) (nI f) wo (t.2 0 f) (t.2 1 f) 1).1 4) + ((s_R_send t 2 (nI c) (nI f) wo (t.2 0 f) (t.2 1 f) 1).1 2))
  else
    if (1 : Int32) = 0 then
      if (1 : Int32) = 0 then
        s_R_send t 2 (nI c) (nI f) wo (t.2 0 f) (t.2 1 f) 0
      else
        stA (s_R_send t 2 (nI c) (nI f) wo (t.2 0 f) (t.2 1 f) 0) 2 ((4 * c) + f) (((s_R_send t 2 (nI c) (nI f) wo (t.2 0 f) (t.2 1 f) 0).1 4) + ((s_R_send t 2 (nI c) (nI f) wo (t.2 0 f) (t.2 1 f) 0).1 2))
    else
      if (1 : Int32) = 0 then
        s_R_send t 2 (nI c) (nI f) wo (t.2 0 f) (t.2 1 f) 1
      else
        stA (s_R_send t 2 (nI c) (nI f) wo (t.2 0 f) (t.2 1 f) 1) 2 ((4 * c) + f) (((s_R_send t 2 (nI c) (nI f) wo (t.2 0 f) (t.2 1 f) 1).1 4) + ((s_R_send t 2 (nI c) (nI f) wo (t.2 0 f) (t.2 1 f) 1).1 2))
set_option maxHeartbeats 4000000 in
set_option maxRecDepth 100000 in
theorem c_R_asked {E : gE} {w : wd} {ad : Nat → Nat} {t : tR} (hs : SysR E ad t w) (c : Nat) (f : Nat) (wo : Int32) (hc : c < 4) (hf : f < 4) (hp : okP t) (hw : okW t) : Cn E y_R_asked 2 0 0 [.ref (ad 0), .int (nI c), .int (nI f), .int wo] w (fun r w' => r = none ∧ SysR E ad (s_R_asked t c f wo) w') := by
  refine Cn.of (by decide) (Nat.le_of_ble_eq_true rfl) (fun A => ?_)
  show G E y_R_asked _ 0 [(0, .ref (ad 0)), (1, .int (nI c)), (2, .int (nI f)), (3, .int wo)] [] w 0 0
  refine g_aload_n (j := 0) d_R_asked_0 rfl ?_
  refine g_iload_n (j := 2) d_R_asked_1 rfl ?_
  refine g_callV (c_R_firstOf hs f hw) ok_R_firstOf lk_R_128 in_R_firstOf se_R_firstOf hs.obj rfl d_R_asked_2 rfl rfl (Nat.le_of_ble_eq_true rfl) ⟨(Nat.le_of_ble_eq_true rfl), (Nat.le_of_ble_eq_true rfl)⟩ (Nat.le_of_ble_eq_true rfl) (Nat.le_of_ble_eq_true rfl) (fun r w' hq => ?_)
  obtain ⟨rfl, rfl⟩ := hq
  refine g_if_ge (tgt := 12) d_R_asked_5 (by decide) (fun h1 => ?_) (fun h1 => ?_)
  · skip
    refine g_iconst (v := 0) d_R_asked_12 (by decide) ?_
    refine g_istore (lv' := [(4, _), (0, _), (1, _), (2, _), (3, _)]) d_R_asked_13 (by decide) rfl ?_
    refine g_aload_n (j := 1) d_R_asked_15 rfl ?_
    refine g_iconst (v := 2) d_R_asked_16 (by decide) ?_
    refine g_iload_n (j := 2) d_R_asked_17 rfl ?_
    refine g_iload_n (j := 3) d_R_asked_18 rfl ?_
    refine g_iload_n (j := 4) d_R_asked_19 rfl ?_
    refine g_aload_n (j := 1) d_R_asked_20 rfl ?_
    refine g_get d_R_asked_21 f_R_7 hs.obj rfl ?_
    refine g_iload_n (j := 3) d_R_asked_24 rfl ?_
    refine r_iald (k := 0) (j := f) d_R_asked_25 hs (by decide) rfl rfl (show f < 4 by omega) ?_
    refine g_aload_n (j := 1) d_R_asked_26 rfl ?_
    refine g_get d_R_asked_27 f_R_13 hs.obj rfl ?_
    refine g_iload_n (j := 3) d_R_asked_30 rfl ?_
    refine r_iald (k := 1) (j := f) d_R_asked_31 hs (by decide) rfl rfl (show f < 4 by omega) ?_
    refine g_iload (j := 0) d_R_asked_32 rfl ?_
    refine g_if_eq (tgt := 41) d_R_asked_34 (by decide) (fun h2 => ?_) (fun h2 => ?_)
    · skip
      refine g_iconst (v := 0) d_R_asked_41 (by decide) ?_
      refine g_callV (c_R_send hs 2 (nI c) (nI f) wo (t.2 0 f) (t.2 1 f) 0 hp) ok_R_send lk_R_99 in_R_send se_R_send hs.obj rfl d_R_asked_42 rfl rfl (Nat.le_of_ble_eq_true rfl) ⟨(Nat.le_of_ble_eq_true rfl), (Nat.le_of_ble_eq_true rfl)⟩ (Nat.le_of_ble_eq_true rfl) (Nat.le_of_ble_eq_true rfl) (fun r w' hq => ?_)
      obtain ⟨rfl, hs3⟩ := hq
      refine g_iload (j := 0) d_R_asked_45 rfl ?_
      refine g_if_eq (tgt := 69) d_R_asked_47 (by decide) (fun h5 => ?_) (fun h5 => ?_)
      · skip
        have hz : s_R_asked t c f wo = s_R_send t 2 (nI c) (nI f) wo (t.2 0 f) (t.2 1 f) 0 := by
          unfold s_R_asked
          rw [if_pos h1, if_pos h2, if_pos h5]
        exact g_return d_R_asked_69 rfl (Nat.le_of_ble_eq_true rfl) (Nat.le_of_ble_eq_true rfl) ⟨rfl, by rw [hz]; exact hs3⟩
      · skip
        refine g_aload_n (j := 1) d_R_asked_50 rfl ?_
        refine g_get d_R_asked_51 f_R_16 hs3.obj rfl ?_
        refine g_iconst (v := 4) d_R_asked_54 (by decide) ?_
        refine g_iload_n (j := 2) d_R_asked_55 rfl ?_
        refine g_imul d_R_asked_56 ?_
        refine g_norm (y := nI (4 * c)) (pk_mul 4 c) ?_
        refine g_iload_n (j := 3) d_R_asked_57 rfl ?_
        refine g_iadd d_R_asked_58 ?_
        refine g_norm (y := nI ((4 * c) + f)) (nI_add (4 * c) f) ?_
        refine g_aload_n (j := 1) d_R_asked_59 rfl ?_
        refine g_get d_R_asked_60 f_R_122 hs3.obj rfl ?_
        refine g_aload_n (j := 1) d_R_asked_63 rfl ?_
        refine g_get d_R_asked_64 f_R_90 hs3.obj rfl ?_
        refine g_iadd d_R_asked_67 ?_
        refine r_iast (k := 2) (j := (4 * c) + f) d_R_asked_68 hs3 (by decide) rfl rfl (show (4 * c) + f < 16 by omega) (fun w6 hs7 => ?_)
        have hz : s_R_asked t c f wo = stA (s_R_send t 2 (nI c) (nI f) wo (t.2 0 f) (t.2 1 f) 0) 2 ((4 * c) + f) (((s_R_send t 2 (nI c) (nI f) wo (t.2 0 f) (t.2 1 f) 0).1 4) + ((s_R_send t 2 (nI c) (nI f) wo (t.2 0 f) (t.2 1 f) 0).1 2)) := by
          unfold s_R_asked
          rw [if_pos h1, if_pos h2, if_neg h5]
        exact g_return d_R_asked_69 rfl (Nat.le_of_ble_eq_true rfl) (Nat.le_of_ble_eq_true rfl) ⟨rfl, by rw [hz]; exact hs7⟩
    · skip
      refine g_iconst (v := 1) d_R_asked_37 (by decide) ?_
      refine g_goto (tgt := 42) d_R_asked_38 (by decide) ?_
      refine g_callV (c_R_send hs 2 (nI c) (nI f) wo (t.2 0 f) (t.2 1 f) 1 hp) ok_R_send lk_R_99 in_R_send se_R_send hs.obj rfl d_R_asked_42 rfl rfl (Nat.le_of_ble_eq_true rfl) ⟨(Nat.le_of_ble_eq_true rfl), (Nat.le_of_ble_eq_true rfl)⟩ (Nat.le_of_ble_eq_true rfl) (Nat.le_of_ble_eq_true rfl) (fun r w' hq => ?_)
      obtain ⟨rfl, hs8⟩ := hq
      refine g_iload (j := 0) d_R_asked_45 rfl ?_
      refine g_if_eq (tgt := 69) d_R_asked_47 (by decide) (fun h10 => ?_) (fun h10 => ?_)
      · skip
        have hz : s_R_asked t c f wo = s_R_send t 2 (nI c) (nI f) wo (t.2 0 f) (t.2 1 f) 1 := by
          unfold s_R_asked
          rw [if_pos h1, if_neg h2, if_pos h10]
        exact g_return d_R_asked_69 rfl (Nat.le_of_ble_eq_true rfl) (Nat.le_of_ble_eq_true rfl) ⟨rfl, by rw [hz]; exact hs8⟩
      · skip
        refine g_aload_n (j := 1) d_R_asked_50 rfl ?_
        refine g_get d_R_asked_51 f_R_16 hs8.obj rfl ?_
        refine g_iconst (v := 4) d_R_asked_54 (by decide) ?_
        refine g_iload_n (j := 2) d_R_asked_55 rfl ?_
        refine g_imul d_R_asked_56 ?_
        refine g_norm (y := nI (4 * c)) (pk_mul 4 c) ?_
        refine g_iload_n (j := 3) d_R_asked_57 rfl ?_
        refine g_iadd d_R_asked_58 ?_
        refine g_norm (y := nI ((4 * c) + f)) (nI_add (4 * c) f) ?_
        refine g_aload_n (j := 1) d_R_asked_59 rfl ?_
        refine g_get d_R_asked_60 f_R_122 hs8.obj rfl ?_
        refine g_aload_n (j := 1) d_R_asked_63 rfl ?_
        refine g_get d_R_asked_64 f_R_90 hs8.obj rfl ?_
        refine g_iadd d_R_asked_67 ?_
        refine r_iast (k := 2) (j := (4 * c) + f) d_R_asked_68 hs8 (by decide) rfl rfl (show (4 * c) + f < 16 by omega) (fun w11 hs12 => ?_)
        have hz : s_R_asked t c f wo = stA (s_R_send t 2 (nI c) (nI f) wo (t.2 0 f) (t.2 1 f) 1) 2 ((4 * c) + f) (((s_R_send t 2 (nI c) (nI f) wo (t.2 0 f) (t.2 1 f) 1).1 4) + ((s_R_send t 2 (nI c) (nI f) wo (t.2 0 f) (t.2 1 f) 1).1 2)) := by
          unfold s_R_asked
          rw [if_pos h1, if_neg h2, if_neg h10]
        exact g_return d_R_asked_69 rfl (Nat.le_of_ble_eq_true rfl) (Nat.le_of_ble_eq_true rfl) ⟨rfl, by rw [hz]; exact hs12⟩
  · skip
    refine g_iconst (v := 1) d_R_asked_8 (by decide) ?_
    refine g_goto (tgt := 13) d_R_asked_9 (by decide) ?_
    refine g_istore (lv' := [(4, _), (0, _), (1, _), (2, _), (3, _)]) d_R_asked_13 (by decide) rfl ?_
    refine g_aload_n (j := 1) d_R_asked_15 rfl ?_
    refine g_iconst (v := 2) d_R_asked_16 (by decide) ?_
    refine g_iload_n (j := 2) d_R_asked_17 rfl ?_
    refine g_iload_n (j := 3) d_R_asked_18 rfl ?_
    refine g_iload_n (j := 4) d_R_asked_19 rfl ?_
    refine g_aload_n (j := 1) d_R_asked_20 rfl ?_
    refine g_get d_R_asked_21 f_R_7 hs.obj rfl ?_
    refine g_iload_n (j := 3) d_R_asked_24 rfl ?_
    refine r_iald (k := 0) (j := f) d_R_asked_25 hs (by decide) rfl rfl (show f < 4 by omega) ?_
    refine g_aload_n (j := 1) d_R_asked_26 rfl ?_
    refine g_get d_R_asked_27 f_R_13 hs.obj rfl ?_
    refine g_iload_n (j := 3) d_R_asked_30 rfl ?_
    refine r_iald (k := 1) (j := f) d_R_asked_31 hs (by decide) rfl rfl (show f < 4 by omega) ?_
    refine g_iload (j := 0) d_R_asked_32 rfl ?_
    refine g_if_eq (tgt := 41) d_R_asked_34 (by decide) (fun h13 => ?_) (fun h13 => ?_)
    · skip
      refine g_iconst (v := 0) d_R_asked_41 (by decide) ?_
      refine g_callV (c_R_send hs 2 (nI c) (nI f) wo (t.2 0 f) (t.2 1 f) 0 hp) ok_R_send lk_R_99 in_R_send se_R_send hs.obj rfl d_R_asked_42 rfl rfl (Nat.le_of_ble_eq_true rfl) ⟨(Nat.le_of_ble_eq_true rfl), (Nat.le_of_ble_eq_true rfl)⟩ (Nat.le_of_ble_eq_true rfl) (Nat.le_of_ble_eq_true rfl) (fun r w' hq => ?_)
      obtain ⟨rfl, hs14⟩ := hq
      refine g_iload (j := 0) d_R_asked_45 rfl ?_
      refine g_if_eq (tgt := 69) d_R_asked_47 (by decide) (fun h16 => ?_) (fun h16 => ?_)
      · skip
        have hz : s_R_asked t c f wo = s_R_send t 2 (nI c) (nI f) wo (t.2 0 f) (t.2 1 f) 0 := by
          unfold s_R_asked
          rw [if_neg h1, if_pos h13, if_pos h16]
        exact g_return d_R_asked_69 rfl (Nat.le_of_ble_eq_true rfl) (Nat.le_of_ble_eq_true rfl) ⟨rfl, by rw [hz]; exact hs14⟩
      · skip
        refine g_aload_n (j := 1) d_R_asked_50 rfl ?_
        refine g_get d_R_asked_51 f_R_16 hs14.obj rfl ?_
        refine g_iconst (v := 4) d_R_asked_54 (by decide) ?_
        refine g_iload_n (j := 2) d_R_asked_55 rfl ?_
        refine g_imul d_R_asked_56 ?_
        refine g_norm (y := nI (4 * c)) (pk_mul 4 c) ?_
        refine g_iload_n (j := 3) d_R_asked_57 rfl ?_
        refine g_iadd d_R_asked_58 ?_
        refine g_norm (y := nI ((4 * c) + f)) (nI_add (4 * c) f) ?_
        refine g_aload_n (j := 1) d_R_asked_59 rfl ?_
        refine g_get d_R_asked_60 f_R_122 hs14.obj rfl ?_
        refine g_aload_n (j := 1) d_R_asked_63 rfl ?_
        refine g_get d_R_asked_64 f_R_90 hs14.obj rfl ?_
        refine g_iadd d_R_asked_67 ?_
        refine r_iast (k := 2) (j := (4 * c) + f) d_R_asked_68 hs14 (by decide) rfl rfl (show (4 * c) + f < 16 by omega) (fun w17 hs18 => ?_)
        have hz : s_R_asked t c f wo = stA (s_R_send t 2 (nI c) (nI f) wo (t.2 0 f) (t.2 1 f) 0) 2 ((4 * c) + f) (((s_R_send t 2 (nI c) (nI f) wo (t.2 0 f) (t.2 1 f) 0).1 4) + ((s_R_send t 2 (nI c) (nI f) wo (t.2 0 f) (t.2 1 f) 0).1 2)) := by
          unfold s_R_asked
          rw [if_neg h1, if_pos h13, if_neg h16]
        exact g_return d_R_asked_69 rfl (Nat.le_of_ble_eq_true rfl) (Nat.le_of_ble_eq_true rfl) ⟨rfl, by rw [hz]; exact hs18⟩
    · skip
      refine g_iconst (v := 1) d_R_asked_37 (by decide) ?_
      refine g_goto (tgt := 42) d_R_asked_38 (by decide) ?_
      refine g_callV (c_R_send hs 2 (nI c) (nI f) wo (t.2 0 f) (t.2 1 f) 1 hp) ok_R_send lk_R_99 in_R_send se_R_send hs.obj rfl d_R_asked_42 rfl rfl (Nat.le_of_ble_eq_true rfl) ⟨(Nat.le_of_ble_eq_true rfl), (Nat.le_of_ble_eq_true rfl)⟩ (Nat.le_of_ble_eq_true rfl) (Nat.le_of_ble_eq_true rfl) (fun r w' hq => ?_)
      obtain ⟨rfl, hs19⟩ := hq
      refine g_iload (j := 0) d_R_asked_45 rfl ?_
      refine g_if_eq (tgt := 69) d_R_asked_47 (by decide) (fun h21 => ?_) (fun h21 => ?_)
      · skip
        have hz : s_R_asked t c f wo = s_R_send t 2 (nI c) (nI f) wo (t.2 0 f) (t.2 1 f) 1 := by
          unfold s_R_asked
          rw [if_neg h1, if_neg h13, if_pos h21]
        exact g_return d_R_asked_69 rfl (Nat.le_of_ble_eq_true rfl) (Nat.le_of_ble_eq_true rfl) ⟨rfl, by rw [hz]; exact hs19⟩
      · skip
        refine g_aload_n (j := 1) d_R_asked_50 rfl ?_
        refine g_get d_R_asked_51 f_R_16 hs19.obj rfl ?_
        refine g_iconst (v := 4) d_R_asked_54 (by decide) ?_
        refine g_iload_n (j := 2) d_R_asked_55 rfl ?_
        refine g_imul d_R_asked_56 ?_
        refine g_norm (y := nI (4 * c)) (pk_mul 4 c) ?_
        refine g_iload_n (j := 3) d_R_asked_57 rfl ?_
        refine g_iadd d_R_asked_58 ?_
        refine g_norm (y := nI ((4 * c) + f)) (nI_add (4 * c) f) ?_
        refine g_aload_n (j := 1) d_R_asked_59 rfl ?_
        refine g_get d_R_asked_60 f_R_122 hs19.obj rfl ?_
        refine g_aload_n (j := 1) d_R_asked_63 rfl ?_
        refine g_get d_R_asked_64 f_R_90 hs19.obj rfl ?_
        refine g_iadd d_R_asked_67 ?_
        refine r_iast (k := 2) (j := (4 * c) + f) d_R_asked_68 hs19 (by decide) rfl rfl (show (4 * c) + f < 16 by omega) (fun w22 hs23 => ?_)
        have hz : s_R_asked t c f wo = stA (s_R_send t 2 (nI c) (nI f) wo (t.2 0 f) (t.2 1 f) 1) 2 ((4 * c) + f) (((s_R_send t 2 (nI c) (nI f) wo (t.2 0 f) (t.2 1 f) 1).1 4) + ((s_R_send t 2 (nI c) (nI f) wo (t.2 0 f) (t.2 1 f) 1).1 2)) := by
          unfold s_R_asked
          rw [if_neg h1, if_neg h13, if_neg h21]
        exact g_return d_R_asked_69 rfl (Nat.le_of_ble_eq_true rfl) (Nat.le_of_ble_eq_true rfl) ⟨rfl, by rw [hz]; exact hs23⟩

def s_R_freed (t : tR) (c : Nat) (f : Nat) (wo : Int32) (a : Int32) (b : Int32) : tR :=
  if b = t.1 6 then
    if s_R_firstOf t f < 0 then
      t
    else
      if t.2 5 (foN t f) = a then
        if t.2 7 (foN t f) = wo then
          if s_R_isLeased t c f = 0 then
            stA t 2 ((4 * c) + f) (t.2 2 ((4 * c) + f))
          else
            stA t 2 ((4 * c) + f) (t.1 4)
        else
          t
      else
        t
  else
    t
set_option maxHeartbeats 4000000 in
set_option maxRecDepth 100000 in
theorem c_R_freed {E : gE} {w : wd} {ad : Nat → Nat} {t : tR} (hs : SysR E ad t w) (c : Nat) (f : Nat) (wo : Int32) (a : Int32) (b : Int32) (hc : c < 4) (hf : f < 4) (hw : okW t) : Cn E y_R_freed 2 0 0 [.ref (ad 0), .int (nI c), .int (nI f), .int wo, .int a, .int b] w (fun r w' => r = none ∧ SysR E ad (s_R_freed t c f wo a b) w') := by
  refine Cn.of (by decide) (Nat.le_of_ble_eq_true rfl) (fun A => ?_)
  show G E y_R_freed _ 0 [(0, .ref (ad 0)), (1, .int (nI c)), (2, .int (nI f)), (3, .int wo), (4, .int a), (5, .int b)] [] w 0 0
  refine g_aload_n (j := 0) d_R_freed_0 rfl ?_
  refine g_iload_n (j := 2) d_R_freed_1 rfl ?_
  refine g_callV (c_R_firstOf hs f hw) ok_R_firstOf lk_R_128 in_R_firstOf se_R_firstOf hs.obj rfl d_R_freed_2 rfl rfl (Nat.le_of_ble_eq_true rfl) ⟨(Nat.le_of_ble_eq_true rfl), (Nat.le_of_ble_eq_true rfl)⟩ (Nat.le_of_ble_eq_true rfl) (Nat.le_of_ble_eq_true rfl) (fun r w' hq => ?_)
  obtain ⟨rfl, rfl⟩ := hq
  refine g_istore (lv' := [(6, _), (0, _), (1, _), (2, _), (3, _), (4, _), (5, _)]) d_R_freed_5 (by decide) rfl ?_
  refine g_iload (j := 6) d_R_freed_7 rfl ?_
  refine g_aload_n (j := 1) d_R_freed_9 rfl ?_
  refine g_get d_R_freed_10 f_R_136 hs.obj rfl ?_
  refine g_icmp_ne (tgt := 80) d_R_freed_13 (by decide) (fun h1 => ?_) (fun h1 => ?_)
  · skip
    have hz : s_R_freed t c f wo a b = t := by
      unfold s_R_freed
      rw [if_neg h1]
    exact g_return d_R_freed_80 rfl (Nat.le_of_ble_eq_true rfl) (Nat.le_of_ble_eq_true rfl) ⟨rfl, by rw [hz]; exact hs⟩
  · skip
    refine g_iload (j := 0) d_R_freed_16 rfl ?_
    refine g_if_lt (tgt := 80) d_R_freed_18 (by decide) (fun h2 => ?_) (fun h2 => ?_)
    · skip
      have hz : s_R_freed t c f wo a b = t := by
        unfold s_R_freed
        rw [if_pos h1, if_pos h2]
      exact g_return d_R_freed_80 rfl (Nat.le_of_ble_eq_true rfl) (Nat.le_of_ble_eq_true rfl) ⟨rfl, by rw [hz]; exact hs⟩
    · skip
      obtain ⟨hfo1, hfo2, hfo3⟩ := foN_ok hw h2
      refine g_aload_n (j := 1) d_R_freed_21 rfl ?_
      refine g_get d_R_freed_22 f_R_25 hs.obj rfl ?_
      refine g_iload (j := 0) d_R_freed_25 rfl ?_
      refine r_iald (k := 5) (j := foN t f) d_R_freed_27 hs (by decide) rfl hfo1 (show foN t f < 520 by omega) ?_
      refine g_iload (j := 5) d_R_freed_28 rfl ?_
      refine g_icmp_ne (tgt := 80) d_R_freed_30 (by decide) (fun h3 => ?_) (fun h3 => ?_)
      · skip
        have hz : s_R_freed t c f wo a b = t := by
          unfold s_R_freed
          rw [if_pos h1, if_neg h2, if_neg h3]
        exact g_return d_R_freed_80 rfl (Nat.le_of_ble_eq_true rfl) (Nat.le_of_ble_eq_true rfl) ⟨rfl, by rw [hz]; exact hs⟩
      · skip
        refine g_aload_n (j := 1) d_R_freed_33 rfl ?_
        refine g_get d_R_freed_34 f_R_31 hs.obj rfl ?_
        refine g_iload (j := 0) d_R_freed_37 rfl ?_
        refine r_iald (k := 7) (j := foN t f) d_R_freed_39 hs (by decide) rfl hfo1 (show foN t f < 520 by omega) ?_
        refine g_iload_n (j := 4) d_R_freed_40 rfl ?_
        refine g_icmp_ne (tgt := 80) d_R_freed_41 (by decide) (fun h4 => ?_) (fun h4 => ?_)
        · skip
          have hz : s_R_freed t c f wo a b = t := by
            unfold s_R_freed
            rw [if_pos h1, if_neg h2, if_pos h3, if_neg h4]
          exact g_return d_R_freed_80 rfl (Nat.le_of_ble_eq_true rfl) (Nat.le_of_ble_eq_true rfl) ⟨rfl, by rw [hz]; exact hs⟩
        · skip
          refine g_aload_n (j := 1) d_R_freed_44 rfl ?_
          refine g_get d_R_freed_45 f_R_16 hs.obj rfl ?_
          refine g_iconst (v := 4) d_R_freed_48 (by decide) ?_
          refine g_iload_n (j := 2) d_R_freed_49 rfl ?_
          refine g_imul d_R_freed_50 ?_
          refine g_norm (y := nI (4 * c)) (pk_mul 4 c) ?_
          refine g_iload_n (j := 3) d_R_freed_51 rfl ?_
          refine g_iadd d_R_freed_52 ?_
          refine g_norm (y := nI ((4 * c) + f)) (nI_add (4 * c) f) ?_
          refine g_aload_n (j := 1) d_R_freed_53 rfl ?_
          refine g_iload_n (j := 2) d_R_freed_54 rfl ?_
          refine g_iload_n (j := 3) d_R_freed_55 rfl ?_
          refine g_callV (c_R_isLeased hs c f (by omega) (by omega)) ok_R_isLeased lk_R_132 in_R_isLeased se_R_isLeased hs.obj rfl d_R_freed_56 rfl rfl (Nat.le_of_ble_eq_true rfl) ⟨(Nat.le_of_ble_eq_true rfl), (Nat.le_of_ble_eq_true rfl)⟩ (Nat.le_of_ble_eq_true rfl) (Nat.le_of_ble_eq_true rfl) (fun r w' hq => ?_)
          obtain ⟨rfl, rfl⟩ := hq
          refine g_if_eq (tgt := 69) d_R_freed_59 (by decide) (fun h5 => ?_) (fun h5 => ?_)
          · skip
            refine g_aload_n (j := 1) d_R_freed_69 rfl ?_
            refine g_get d_R_freed_70 f_R_16 hs.obj rfl ?_
            refine g_iconst (v := 4) d_R_freed_73 (by decide) ?_
            refine g_iload_n (j := 2) d_R_freed_74 rfl ?_
            refine g_imul d_R_freed_75 ?_
            refine g_norm (y := nI (4 * c)) (pk_mul 4 c) ?_
            refine g_iload_n (j := 3) d_R_freed_76 rfl ?_
            refine g_iadd d_R_freed_77 ?_
            refine g_norm (y := nI ((4 * c) + f)) (nI_add (4 * c) f) ?_
            refine r_iald (k := 2) (j := (4 * c) + f) d_R_freed_78 hs (by decide) rfl rfl (show (4 * c) + f < 16 by omega) ?_
            refine r_iast (k := 2) (j := (4 * c) + f) d_R_freed_79 hs (by decide) rfl rfl (show (4 * c) + f < 16 by omega) (fun w6 hs7 => ?_)
            have hz : s_R_freed t c f wo a b = stA t 2 ((4 * c) + f) (t.2 2 ((4 * c) + f)) := by
              unfold s_R_freed
              rw [if_pos h1, if_neg h2, if_pos h3, if_pos h4, if_pos h5]
            exact g_return d_R_freed_80 rfl (Nat.le_of_ble_eq_true rfl) (Nat.le_of_ble_eq_true rfl) ⟨rfl, by rw [hz]; exact hs7⟩
          · skip
            refine g_aload_n (j := 1) d_R_freed_62 rfl ?_
            refine g_get d_R_freed_63 f_R_122 hs.obj rfl ?_
            refine g_goto (tgt := 79) d_R_freed_66 (by decide) ?_
            refine r_iast (k := 2) (j := (4 * c) + f) d_R_freed_79 hs (by decide) rfl rfl (show (4 * c) + f < 16 by omega) (fun w8 hs9 => ?_)
            have hz : s_R_freed t c f wo a b = stA t 2 ((4 * c) + f) (t.1 4) := by
              unfold s_R_freed
              rw [if_pos h1, if_neg h2, if_pos h3, if_pos h4, if_neg h5]
            exact g_return d_R_freed_80 rfl (Nat.le_of_ble_eq_true rfl) (Nat.le_of_ble_eq_true rfl) ⟨rfl, by rw [hz]; exact hs9⟩

def s_R_lose (t : tR) (k : Nat) : tR × Int32 :=
  if s_R_isMessage t (nI k) = 0 then
    (t, 0)
  else
    (s_R_takeOut t k, 1)
set_option maxHeartbeats 4000000 in
set_option maxRecDepth 100000 in
theorem c_R_lose {E : gE} {w : wd} {ad : Nat → Nat} {t : tR} (hs : SysR E ad t w) (k : Nat) (hk0 : k < 64) (hp : okP t) : Cn E y_R_lose 2 0 0 [.ref (ad 0), .int (nI k)] w (fun r w' => r = some (.int (s_R_lose t k).2) ∧ SysR E ad (s_R_lose t k).1 w') := by
  refine Cn.of (by decide) (Nat.le_of_ble_eq_true rfl) (fun A => ?_)
  show G E y_R_lose _ 0 [(0, .ref (ad 0)), (1, .int (nI k))] [] w 0 0
  refine g_aload_n (j := 0) d_R_lose_0 rfl ?_
  refine g_iload_n (j := 1) d_R_lose_1 rfl ?_
  refine g_callV (c_R_isMessage hs (nI k)) ok_R_isMessage lk_R_148 in_R_isMessage se_R_isMessage hs.obj rfl d_R_lose_2 rfl rfl (Nat.le_of_ble_eq_true rfl) ⟨(Nat.le_of_ble_eq_true rfl), (Nat.le_of_ble_eq_true rfl)⟩ (Nat.le_of_ble_eq_true rfl) (Nat.le_of_ble_eq_true rfl) (fun r w' hq => ?_)
  obtain ⟨rfl, rfl⟩ := hq
  refine g_if_ne (tgt := 10) d_R_lose_5 (by decide) (fun h1 => ?_) (fun h1 => ?_)
  · skip
    have hk := isM_lt hp (by omega) h1
    refine g_aload_n (j := 0) d_R_lose_10 rfl ?_
    refine g_iload_n (j := 1) d_R_lose_11 rfl ?_
    refine g_callV (c_R_takeOut hs k hp hk) ok_R_takeOut lk_R_151 in_R_takeOut se_R_takeOut hs.obj rfl d_R_lose_12 rfl rfl (Nat.le_of_ble_eq_true rfl) ⟨(Nat.le_of_ble_eq_true rfl), (Nat.le_of_ble_eq_true rfl)⟩ (Nat.le_of_ble_eq_true rfl) (Nat.le_of_ble_eq_true rfl) (fun r w' hq => ?_)
    obtain ⟨rfl, hs2⟩ := hq
    refine g_iconst (v := 1) d_R_lose_15 (by decide) ?_
    have hz : s_R_lose t k = (s_R_takeOut t k, 1) := by
      unfold s_R_lose
      rw [if_neg h1]
    exact g_zreturn d_R_lose_16 rfl (by decide) (Nat.le_of_ble_eq_true rfl) (Nat.le_of_ble_eq_true rfl) ⟨by rw [hz], by rw [hz]; exact hs2⟩
  · skip
    refine g_iconst (v := 0) d_R_lose_8 (by decide) ?_
    have hz : s_R_lose t k = (t, 0) := by
      unfold s_R_lose
      rw [if_pos h1]
    exact g_zreturn d_R_lose_9 rfl (by decide) (Nat.le_of_ble_eq_true rfl) (Nat.le_of_ble_eq_true rfl) ⟨by rw [hz], by rw [hz]; exact hs⟩
