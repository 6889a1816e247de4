theorem wfR_stF {t : tR} (h : wfR t) {i : Nat} (x : Int32) (h0 : i ≠ 0) (h1 : i ≠ 1) (h8 : i ≠ 8) (h9 : i ≠ 9) : wfR (stF t i x) := by
  obtain ⟨a1, a2, a3, a4, a5⟩ := h
  have e : ∀ j, j ≠ i → (stF t i x).1 j = t.1 j := fun j hj => if_neg hj
  have ep : pN (stF t i x) = pN t := by unfold pN; rw [e 9 (Ne.symm h9)]
  have ew : wN (stF t i x) = wN t := by unfold wN; rw [e 8 (Ne.symm h8)]
  refine ⟨?_, a2.to (e 8 (Ne.symm h8)), a3.to (e 0 (Ne.symm h0)), a4.to (e 1 (Ne.symm h1)), fun k hk => (a5 k (by rw [ew] at hk; exact hk)).to rfl rfl⟩
  unfold okP
  rw [ep, e 9 (Ne.symm h9)]
  exact a1
theorem wfR_takeOut {t : tR} (h : wfR t) {k : Nat} (hk : k < pN t) : wfR (s_R_takeOut t k) := by
  obtain ⟨a1, a2, a3, a4, a5⟩ := h
  have h2 := a1.2
  have ep : pN (s_R_takeOut t k) = pN t - 1 := nI_clamp (by omega)
  refine ⟨⟨by rw [ep]; rfl, by omega⟩, a2, a3, a4, fun i hi => (a5 i hi).to rfl rfl⟩
theorem wfR_asked {t : tR} (h : wfR t) (c f : Nat) (wo : Int32) : wfR (s_R_asked t c f wo) := by
  unfold s_R_asked
  repeat' split
  all_goals first | exact wfR_send h .. | exact wfR_stA (wfR_send h ..) _ _ (by decide) (by decide)
theorem wfR_freed {t : tR} (h : wfR t) (c f : Nat) (wo a b : Int32) : wfR (s_R_freed t c f wo a b) := by
  unfold s_R_freed
  repeat' split
  all_goals first | exact h | exact wfR_stA h _ _ (by decide) (by decide)
theorem wfR_put160 {t : tR} (h : wfR t) (c f : Nat) (wo : Int32) : wfR (s_R_put160 t c f wo) := by
  unfold s_R_put160
  repeat' split
  all_goals first | exact h | exact rcL_wf h _ _ _ _
theorem wfR_putCame {t : tR} (h : wfR t) (c f : Nat) (wo v : Int32) (hc : c < 4) (hf : f < 4) (hw : wN t ≤ 518) : wfR (s_R_putCame t c f wo v) := by
  unfold s_R_putCame
  split
  · exact wfR_send h ..
  · split
    · split
      · exact wfR_put160 (wfR_add h c f wo v hc hf hw) ..
      · exact wfR_put160 h ..
    · exact h
def mcN (t : tR) (k : Nat) : Nat := (t.2 23 (7 * k + 1)).toNatClampNeg
def mfN (t : tR) (k : Nat) : Nat := (t.2 23 (7 * k + 2)).toNatClampNeg
/-- a message's client and file -/
def okM (t : tR) (k : Nat) : Prop := t.2 23 (7 * k + 1) = nI (mcN t k) ∧ mcN t k < 4 ∧ t.2 23 (7 * k + 2) = nI (mfN t k) ∧ mfN t k < 4

def s_R_tick (t : tR) (x : Int32) : tR × Int32 :=
  if x < 0 then
    (t, (-1))
  else
    if x ≤ 1000 then
      if (stF t 4 ((t.1 4) + x)).1 5 = 0 then
        ((s_R_storeAll (stF t 4 ((t.1 4) + x)) ).1, (s_R_storeAll (stF t 4 ((t.1 4) + x)) ).2)
      else
        (stF t 4 ((t.1 4) + x), 0)
    else
      (t, (-1))
set_option maxHeartbeats 4000000 in
set_option maxRecDepth 100000 in
theorem c_R_tick {E : gE} {w : wd} {ad : Nat → Nat} {t : tR} (hs : SysR E ad t w) (x : Int32) (hwf : wfR t) : Cn E y_R_tick 4 0 0 [.ref (ad 0), .int x] w (fun r w' => r = some (.int (s_R_tick t x).2) ∧ SysR E ad (s_R_tick t x).1 w') := by
  refine Cn.of (by decide) (Nat.le_of_ble_eq_true rfl) (fun A => ?_)
  show G E y_R_tick _ 0 [(0, .ref (ad 0)), (1, .int x)] [] w 0 0
  refine g_iload_n (j := 1) d_R_tick_0 rfl ?_
  refine g_if_lt (tgt := 11) d_R_tick_1 (by decide) (fun h1 => ?_) (fun h1 => ?_)
  · skip
    refine g_iconst (v := (-1)) d_R_tick_11 (by decide) ?_
    have hz : s_R_tick t x = (t, (-1)) := by
      unfold s_R_tick
      rw [if_pos h1]
    exact g_ireturn d_R_tick_12 rfl (Nat.le_of_ble_eq_true rfl) (Nat.le_of_ble_eq_true rfl) ⟨by rw [hz], by rw [hz]; exact hs⟩
  · skip
    refine g_iload_n (j := 1) d_R_tick_4 rfl ?_
    refine g_sipush (v := 1000) d_R_tick_5 (by decide) ?_
    refine g_icmp_le (tgt := 13) d_R_tick_8 (by decide) (fun h2 => ?_) (fun h2 => ?_)
    · skip
      refine g_aload_n (j := 0) d_R_tick_13 rfl ?_
      refine g_aload_n (j := 0) d_R_tick_14 rfl ?_
      refine g_get d_R_tick_15 f_R_122 hs.obj rfl ?_
      refine g_iload_n (j := 1) d_R_tick_18 rfl ?_
      refine g_iadd d_R_tick_19 ?_
      refine g_put d_R_tick_20 fw_R_122 (Or.inl rfl) hs.obj rfl rfl (Nat.le_of_ble_eq_true rfl) ?_
      have hs4 : SysR E ad (stF t 4 ((t.1 4) + x)) _ := hs.sf (t' := stF t 4 ((t.1 4) + x)) (fs := (ceR ad t).set 6 (.int ((t.1 4) + x))) rfl rfl
      generalize wu _ (ad 0) _ = w3 at hs4 ⊢
      refine g_aload_n (j := 0) d_R_tick_23 rfl ?_
      refine g_get d_R_tick_24 f_R_165 hs4.obj rfl ?_
      refine g_if_eq (tgt := 34) d_R_tick_27 (by decide) (fun h5 => ?_) (fun h5 => ?_)
      · skip
        refine g_aload_n (j := 0) d_R_tick_34 rfl ?_
        refine g_callV (c_R_storeAll hs4  (wfR_stF hwf _ (by decide) (by decide) (by decide) (by decide))) ok_R_storeAll lk_R_179 in_R_storeAll se_R_storeAll hs4.obj rfl d_R_tick_35 rfl rfl (Nat.le_of_ble_eq_true rfl) ⟨(Nat.le_of_ble_eq_true rfl), (Nat.le_of_ble_eq_true rfl)⟩ (Nat.le_of_ble_eq_true rfl) (Nat.le_of_ble_eq_true rfl) (fun r w' hq => ?_)
        obtain ⟨rfl, hs6⟩ := hq
        have hz : s_R_tick t x = ((s_R_storeAll (stF t 4 ((t.1 4) + x)) ).1, (s_R_storeAll (stF t 4 ((t.1 4) + x)) ).2) := by
          unfold s_R_tick
          rw [if_neg h1, if_pos h2, if_pos h5]
        exact g_ireturn d_R_tick_38 rfl (Nat.le_of_ble_eq_true rfl) (Nat.le_of_ble_eq_true rfl) ⟨by rw [hz], by rw [hz]; exact hs6⟩
      · skip
        refine g_iconst (v := 0) d_R_tick_30 (by decide) ?_
        refine g_goto (tgt := 38) d_R_tick_31 (by decide) ?_
        have hz : s_R_tick t x = (stF t 4 ((t.1 4) + x), 0) := by
          unfold s_R_tick
          rw [if_neg h1, if_pos h2, if_neg h5]
        exact g_ireturn d_R_tick_38 rfl (Nat.le_of_ble_eq_true rfl) (Nat.le_of_ble_eq_true rfl) ⟨by rw [hz], by rw [hz]; exact hs4⟩
    · skip
      refine g_iconst (v := (-1)) d_R_tick_11 (by decide) ?_
      have hz : s_R_tick t x = (t, (-1)) := by
        unfold s_R_tick
        rw [if_neg h1, if_neg h2]
      exact g_ireturn d_R_tick_12 rfl (Nat.le_of_ble_eq_true rfl) (Nat.le_of_ble_eq_true rfl) ⟨by rw [hz], by rw [hz]; exact hs⟩

def s_R_deliver (t : tR) (k : Nat) : tR × Int32 :=
  if s_R_isMessage t (nI k) = 0 then
    (t, (-1))
  else
    if t.2 23 (7 * k) = 2 then
      (s_R_given (s_R_takeOut t k) ((mcN t k)) ((mfN t k)) (t.2 23 ((7 * k) + 3)) (t.2 23 ((7 * k) + 4)) (t.2 23 ((7 * k) + 5)) (t.2 23 ((7 * k) + 6)), t.2 23 (7 * k))
    else
      if t.2 23 (7 * k) = 3 then
        (s_R_stored (s_R_takeOut t k) ((mcN t k)) (t.2 23 ((7 * k) + 3)) (t.2 23 ((7 * k) + 4)), t.2 23 (7 * k))
      else
        if t.2 23 (7 * k) = 4 then
          (s_R_recalled (s_R_takeOut t k) ((mcN t k)) ((mfN t k)) (t.2 23 ((7 * k) + 3)) (t.2 23 ((7 * k) + 4)) (t.2 23 ((7 * k) + 5)), t.2 23 (7 * k))
        else
          if (s_R_takeOut t k).1 5 = 0 then
            if t.2 23 (7 * k) = 0 then
              ((s_R_storeAll (s_R_asked (s_R_takeOut t k) ((mcN t k)) ((mfN t k)) (t.2 23 ((7 * k) + 3))) ).1, t.2 23 (7 * k))
            else
              if t.2 23 (7 * k) = 1 then
                ((s_R_storeAll (s_R_putCame (s_R_takeOut t k) ((mcN t k)) ((mfN t k)) (t.2 23 ((7 * k) + 3)) (t.2 23 ((7 * k) + 4))) ).1, t.2 23 (7 * k))
              else
                ((s_R_storeAll (s_R_freed (s_R_takeOut t k) ((mcN t k)) ((mfN t k)) (t.2 23 ((7 * k) + 3)) (t.2 23 ((7 * k) + 4)) (t.2 23 ((7 * k) + 5))) ).1, t.2 23 (7 * k))
          else
            (s_R_takeOut t k, 9)
set_option maxHeartbeats 4000000 in
set_option maxRecDepth 100000 in
theorem c_R_deliver {E : gE} {w : wd} {ad : Nat → Nat} {t : tR} (hs : SysR E ad t w) (k : Nat) (hk : k < pN t) (hwf : wfR t) (hM : okM t k) (hw8 : wN t ≤ 518) : Cn E y_R_deliver 4 0 0 [.ref (ad 0), .int (nI k)] w (fun r w' => r = some (.int (s_R_deliver t k).2) ∧ SysR E ad (s_R_deliver t k).1 w') := by
  refine Cn.of (by decide) (Nat.le_of_ble_eq_true rfl) (fun A => ?_)
  show G E y_R_deliver _ 0 [(0, .ref (ad 0)), (1, .int (nI k))] [] w 0 0
  have hk4 := hwf.1.2
  have hM2 := hM.2.1
  have hM4 := hM.2.2.2
  have hwf1 := wfR_takeOut hwf hk
  refine g_aload_n (j := 0) d_R_deliver_0 rfl ?_
  refine g_iload_n (j := 1) d_R_deliver_1 rfl ?_
  refine g_callV (c_R_isMessage hs (nI k)) ok_R_isMessage lk_R_148 in_R_isMessage se_R_isMessage hs.obj rfl d_R_deliver_2 rfl rfl (Nat.le_of_ble_eq_true rfl) ⟨(Nat.le_of_ble_eq_true rfl), (Nat.le_of_ble_eq_true rfl)⟩ (Nat.le_of_ble_eq_true rfl) (Nat.le_of_ble_eq_true rfl) (fun r w' hq => ?_)
  obtain ⟨rfl, rfl⟩ := hq
  refine g_if_ne (tgt := 10) d_R_deliver_5 (by decide) (fun h1 => ?_) (fun h1 => ?_)
  · skip
    refine g_bipush (v := 7) d_R_deliver_10 (by decide) ?_
    refine g_iload_n (j := 1) d_R_deliver_12 rfl ?_
    refine g_imul d_R_deliver_13 ?_
    refine g_norm (y := nI (7 * k)) (pk_mul 7 k) ?_
    refine g_istore_n (lv' := [(2, _), (0, _), (1, _)]) d_R_deliver_14 (by decide) rfl ?_
    refine g_aload_n (j := 1) d_R_deliver_15 rfl ?_
    refine g_get d_R_deliver_16 f_R_80 hs.obj rfl ?_
    refine g_iload_n (j := 0) d_R_deliver_19 rfl ?_
    refine r_iald (k := 23) (j := 7 * k) d_R_deliver_20 hs (by decide) rfl rfl (show 7 * k < 448 by omega) ?_
    refine g_istore_n (lv' := [(3, _), (2, _), (0, _), (1, _)]) d_R_deliver_21 (by decide) rfl ?_
    refine g_aload_n (j := 2) d_R_deliver_22 rfl ?_
    refine g_get d_R_deliver_23 f_R_80 hs.obj rfl ?_
    refine g_iload_n (j := 1) d_R_deliver_26 rfl ?_
    refine g_iconst (v := 1) d_R_deliver_27 (by decide) ?_
    refine g_iadd d_R_deliver_28 ?_
    refine g_norm (y := nI ((7 * k) + 1)) (nI_add (7 * k) 1) ?_
    refine r_iald (k := 23) (j := (7 * k) + 1) d_R_deliver_29 hs (by decide) rfl rfl (show (7 * k) + 1 < 448 by omega) ?_
    refine g_norm (y := nI (mcN t k)) hM.1 ?_
    refine g_istore (lv' := [(4, _), (3, _), (2, _), (0, _), (1, _)]) d_R_deliver_30 (by decide) rfl ?_
    refine g_aload_n (j := 3) d_R_deliver_32 rfl ?_
    refine g_get d_R_deliver_33 f_R_80 hs.obj rfl ?_
    refine g_iload_n (j := 2) d_R_deliver_36 rfl ?_
    refine g_iconst (v := 2) d_R_deliver_37 (by decide) ?_
    refine g_iadd d_R_deliver_38 ?_
    refine g_norm (y := nI ((7 * k) + 2)) (nI_add (7 * k) 2) ?_
    refine r_iald (k := 23) (j := (7 * k) + 2) d_R_deliver_39 hs (by decide) rfl rfl (show (7 * k) + 2 < 448 by omega) ?_
    refine g_norm (y := nI (mfN t k)) hM.2.2.1 ?_
    refine g_istore (lv' := [(5, _), (4, _), (3, _), (2, _), (0, _), (1, _)]) d_R_deliver_40 (by decide) rfl ?_
    refine g_aload_n (j := 4) d_R_deliver_42 rfl ?_
    refine g_get d_R_deliver_43 f_R_80 hs.obj rfl ?_
    refine g_iload_n (j := 3) d_R_deliver_46 rfl ?_
    refine g_iconst (v := 3) d_R_deliver_47 (by decide) ?_
    refine g_iadd d_R_deliver_48 ?_
    refine g_norm (y := nI ((7 * k) + 3)) (nI_add (7 * k) 3) ?_
    refine r_iald (k := 23) (j := (7 * k) + 3) d_R_deliver_49 hs (by decide) rfl rfl (show (7 * k) + 3 < 448 by omega) ?_
    refine g_istore (lv' := [(6, _), (5, _), (4, _), (3, _), (2, _), (0, _), (1, _)]) d_R_deliver_50 (by decide) rfl ?_
    refine g_aload_n (j := 5) d_R_deliver_52 rfl ?_
    refine g_get d_R_deliver_53 f_R_80 hs.obj rfl ?_
    refine g_iload_n (j := 4) d_R_deliver_56 rfl ?_
    refine g_iconst (v := 4) d_R_deliver_57 (by decide) ?_
    refine g_iadd d_R_deliver_58 ?_
    refine g_norm (y := nI ((7 * k) + 4)) (nI_add (7 * k) 4) ?_
    refine r_iald (k := 23) (j := (7 * k) + 4) d_R_deliver_59 hs (by decide) rfl rfl (show (7 * k) + 4 < 448 by omega) ?_
    refine g_istore (lv' := [(7, _), (6, _), (5, _), (4, _), (3, _), (2, _), (0, _), (1, _)]) d_R_deliver_60 (by decide) rfl ?_
    refine g_aload_n (j := 6) d_R_deliver_62 rfl ?_
    refine g_get d_R_deliver_63 f_R_80 hs.obj rfl ?_
    refine g_iload_n (j := 5) d_R_deliver_66 rfl ?_
    refine g_iconst (v := 5) d_R_deliver_67 (by decide) ?_
    refine g_iadd d_R_deliver_68 ?_
    refine g_norm (y := nI ((7 * k) + 5)) (nI_add (7 * k) 5) ?_
    refine r_iald (k := 23) (j := (7 * k) + 5) d_R_deliver_69 hs (by decide) rfl rfl (show (7 * k) + 5 < 448 by omega) ?_
    refine g_istore (lv' := [(8, _), (7, _), (6, _), (5, _), (4, _), (3, _), (2, _), (0, _), (1, _)]) d_R_deliver_70 (by decide) rfl ?_
    refine g_aload_n (j := 7) d_R_deliver_72 rfl ?_
    refine g_get d_R_deliver_73 f_R_80 hs.obj rfl ?_
    refine g_iload_n (j := 6) d_R_deliver_76 rfl ?_
    refine g_bipush (v := 6) d_R_deliver_77 (by decide) ?_
    refine g_iadd d_R_deliver_79 ?_
    refine g_norm (y := nI ((7 * k) + 6)) (nI_add (7 * k) 6) ?_
    refine r_iald (k := 23) (j := (7 * k) + 6) d_R_deliver_80 hs (by decide) rfl rfl (show (7 * k) + 6 < 448 by omega) ?_
    refine g_istore (lv' := [(9, _), (8, _), (7, _), (6, _), (5, _), (4, _), (3, _), (2, _), (0, _), (1, _)]) d_R_deliver_81 (by decide) rfl ?_
    refine g_aload_n (j := 8) d_R_deliver_83 rfl ?_
    refine g_iload_n (j := 9) d_R_deliver_84 rfl ?_
    refine g_callV (c_R_takeOut hs k hwf.1 hk) ok_R_takeOut lk_R_151 in_R_takeOut se_R_takeOut hs.obj rfl d_R_deliver_85 rfl rfl (Nat.le_of_ble_eq_true rfl) ⟨(Nat.le_of_ble_eq_true rfl), (Nat.le_of_ble_eq_true rfl)⟩ (Nat.le_of_ble_eq_true rfl) (Nat.le_of_ble_eq_true rfl) (fun r w' hq => ?_)
    obtain ⟨rfl, hs2⟩ := hq
    refine g_iload_n (j := 6) d_R_deliver_88 rfl ?_
    refine g_iconst (v := 2) d_R_deliver_89 (by decide) ?_
    refine g_icmp_ne (tgt := 111) d_R_deliver_90 (by decide) (fun h4 => ?_) (fun h4 => ?_)
    · skip
      refine g_iload_n (j := 6) d_R_deliver_111 rfl ?_
      refine g_iconst (v := 3) d_R_deliver_112 (by decide) ?_
      refine g_icmp_ne (tgt := 128) d_R_deliver_113 (by decide) (fun h5 => ?_) (fun h5 => ?_)
      · skip
        refine g_iload_n (j := 6) d_R_deliver_128 rfl ?_
        refine g_iconst (v := 4) d_R_deliver_129 (by decide) ?_
        refine g_icmp_ne (tgt := 149) d_R_deliver_130 (by decide) (fun h6 => ?_) (fun h6 => ?_)
        · skip
          refine g_aload_n (j := 8) d_R_deliver_149 rfl ?_
          refine g_get d_R_deliver_150 f_R_165 hs2.obj rfl ?_
          refine g_if_eq (tgt := 159) d_R_deliver_153 (by decide) (fun h7 => ?_) (fun h7 => ?_)
          · skip
            refine g_iload_n (j := 6) d_R_deliver_159 rfl ?_
            refine g_if_ne (tgt := 176) d_R_deliver_160 (by decide) (fun h8 => ?_) (fun h8 => ?_)
            · skip
              refine g_iload_n (j := 6) d_R_deliver_176 rfl ?_
              refine g_iconst (v := 1) d_R_deliver_177 (by decide) ?_
              refine g_icmp_ne (tgt := 196) d_R_deliver_178 (by decide) (fun h9 => ?_) (fun h9 => ?_)
              · skip
                refine g_aload_n (j := 8) d_R_deliver_196 rfl ?_
                refine g_iload (j := 5) d_R_deliver_197 rfl ?_
                refine g_iload (j := 4) d_R_deliver_199 rfl ?_
                refine g_iload (j := 3) d_R_deliver_201 rfl ?_
                refine g_iload (j := 2) d_R_deliver_203 rfl ?_
                refine g_iload (j := 1) d_R_deliver_205 rfl ?_
                refine g_callV (c_R_freed hs2 ((mcN t k)) ((mfN t k)) (t.2 23 ((7 * k) + 3)) (t.2 23 ((7 * k) + 4)) (t.2 23 ((7 * k) + 5)) (by omega) (by omega) hwf1.2.1) ok_R_freed lk_R_176 in_R_freed se_R_freed hs2.obj rfl d_R_deliver_207 rfl rfl (Nat.le_of_ble_eq_true rfl) ⟨(Nat.le_of_ble_eq_true rfl), (Nat.le_of_ble_eq_true rfl)⟩ (Nat.le_of_ble_eq_true rfl) (Nat.le_of_ble_eq_true rfl) (fun r w' hq => ?_)
                obtain ⟨rfl, hs10⟩ := hq
                refine g_aload_n (j := 8) d_R_deliver_210 rfl ?_
                refine g_callV (c_R_storeAll hs10  (wfR_freed hwf1 ((mcN t k)) ((mfN t k)) (t.2 23 ((7 * k) + 3)) (t.2 23 ((7 * k) + 4)) (t.2 23 ((7 * k) + 5)))) ok_R_storeAll lk_R_179 in_R_storeAll se_R_storeAll hs10.obj rfl d_R_deliver_211 rfl rfl (Nat.le_of_ble_eq_true rfl) ⟨(Nat.le_of_ble_eq_true rfl), (Nat.le_of_ble_eq_true rfl)⟩ (Nat.le_of_ble_eq_true rfl) (Nat.le_of_ble_eq_true rfl) (fun r w' hq => ?_)
                obtain ⟨rfl, hs12⟩ := hq
                refine g_istore (lv' := [(10, _), (9, _), (8, _), (7, _), (6, _), (5, _), (4, _), (3, _), (2, _), (0, _), (1, _)]) d_R_deliver_214 (by decide) rfl ?_
                refine g_iload_n (j := 7) d_R_deliver_216 rfl ?_
                have hz : s_R_deliver t k = ((s_R_storeAll (s_R_freed (s_R_takeOut t k) ((mcN t k)) ((mfN t k)) (t.2 23 ((7 * k) + 3)) (t.2 23 ((7 * k) + 4)) (t.2 23 ((7 * k) + 5))) ).1, t.2 23 (7 * k)) := by
                  unfold s_R_deliver
                  rw [if_neg h1, if_neg h4, if_neg h5, if_neg h6, if_pos h7, if_neg h8, if_neg h9]
                exact g_ireturn d_R_deliver_217 rfl (Nat.le_of_ble_eq_true rfl) (Nat.le_of_ble_eq_true rfl) ⟨by rw [hz], by rw [hz]; exact hs12⟩
              · skip
                refine g_aload_n (j := 8) d_R_deliver_181 rfl ?_
                refine g_iload (j := 5) d_R_deliver_182 rfl ?_
                refine g_iload (j := 4) d_R_deliver_184 rfl ?_
                refine g_iload (j := 3) d_R_deliver_186 rfl ?_
                refine g_iload (j := 2) d_R_deliver_188 rfl ?_
                refine g_callV (c_R_putCame hs2 ((mcN t k)) ((mfN t k)) (t.2 23 ((7 * k) + 3)) (t.2 23 ((7 * k) + 4)) (by omega) (by omega) hwf1 hw8) ok_R_putCame lk_R_172 in_R_putCame se_R_putCame hs2.obj rfl d_R_deliver_190 rfl rfl (Nat.le_of_ble_eq_true rfl) ⟨(Nat.le_of_ble_eq_true rfl), (Nat.le_of_ble_eq_true rfl)⟩ (Nat.le_of_ble_eq_true rfl) (Nat.le_of_ble_eq_true rfl) (fun r w' hq => ?_)
                obtain ⟨rfl, hs14⟩ := hq
                refine g_goto (tgt := 210) d_R_deliver_193 (by decide) ?_
                refine g_aload_n (j := 8) d_R_deliver_210 rfl ?_
                refine g_callV (c_R_storeAll hs14  (wfR_putCame hwf1 ((mcN t k)) ((mfN t k)) (t.2 23 ((7 * k) + 3)) (t.2 23 ((7 * k) + 4)) (by omega) (by omega) hw8)) ok_R_storeAll lk_R_179 in_R_storeAll se_R_storeAll hs14.obj rfl d_R_deliver_211 rfl rfl (Nat.le_of_ble_eq_true rfl) ⟨(Nat.le_of_ble_eq_true rfl), (Nat.le_of_ble_eq_true rfl)⟩ (Nat.le_of_ble_eq_true rfl) (Nat.le_of_ble_eq_true rfl) (fun r w' hq => ?_)
                obtain ⟨rfl, hs16⟩ := hq
                refine g_istore (lv' := [(10, _), (9, _), (8, _), (7, _), (6, _), (5, _), (4, _), (3, _), (2, _), (0, _), (1, _)]) d_R_deliver_214 (by decide) rfl ?_
                refine g_iload_n (j := 7) d_R_deliver_216 rfl ?_
                have hz : s_R_deliver t k = ((s_R_storeAll (s_R_putCame (s_R_takeOut t k) ((mcN t k)) ((mfN t k)) (t.2 23 ((7 * k) + 3)) (t.2 23 ((7 * k) + 4))) ).1, t.2 23 (7 * k)) := by
                  unfold s_R_deliver
                  rw [if_neg h1, if_neg h4, if_neg h5, if_neg h6, if_pos h7, if_neg h8, if_pos h9]
                exact g_ireturn d_R_deliver_217 rfl (Nat.le_of_ble_eq_true rfl) (Nat.le_of_ble_eq_true rfl) ⟨by rw [hz], by rw [hz]; exact hs16⟩
            · skip
              refine g_aload_n (j := 8) d_R_deliver_163 rfl ?_
              refine g_iload (j := 5) d_R_deliver_164 rfl ?_
              refine g_iload (j := 4) d_R_deliver_166 rfl ?_
              refine g_iload (j := 3) d_R_deliver_168 rfl ?_
              refine g_callV (c_R_asked hs2 ((mcN t k)) ((mfN t k)) (t.2 23 ((7 * k) + 3)) (by omega) (by omega) hwf1.1 hwf1.2.1) ok_R_asked lk_R_169 in_R_asked se_R_asked hs2.obj rfl d_R_deliver_170 rfl rfl (Nat.le_of_ble_eq_true rfl) ⟨(Nat.le_of_ble_eq_true rfl), (Nat.le_of_ble_eq_true rfl)⟩ (Nat.le_of_ble_eq_true rfl) (Nat.le_of_ble_eq_true rfl) (fun r w' hq => ?_)
              obtain ⟨rfl, hs18⟩ := hq
              refine g_goto (tgt := 210) d_R_deliver_173 (by decide) ?_
              refine g_aload_n (j := 8) d_R_deliver_210 rfl ?_
              refine g_callV (c_R_storeAll hs18  (wfR_asked hwf1 ((mcN t k)) ((mfN t k)) (t.2 23 ((7 * k) + 3)))) ok_R_storeAll lk_R_179 in_R_storeAll se_R_storeAll hs18.obj rfl d_R_deliver_211 rfl rfl (Nat.le_of_ble_eq_true rfl) ⟨(Nat.le_of_ble_eq_true rfl), (Nat.le_of_ble_eq_true rfl)⟩ (Nat.le_of_ble_eq_true rfl) (Nat.le_of_ble_eq_true rfl) (fun r w' hq => ?_)
              obtain ⟨rfl, hs20⟩ := hq
              refine g_istore (lv' := [(10, _), (9, _), (8, _), (7, _), (6, _), (5, _), (4, _), (3, _), (2, _), (0, _), (1, _)]) d_R_deliver_214 (by decide) rfl ?_
              refine g_iload_n (j := 7) d_R_deliver_216 rfl ?_
              have hz : s_R_deliver t k = ((s_R_storeAll (s_R_asked (s_R_takeOut t k) ((mcN t k)) ((mfN t k)) (t.2 23 ((7 * k) + 3))) ).1, t.2 23 (7 * k)) := by
                unfold s_R_deliver
                rw [if_neg h1, if_neg h4, if_neg h5, if_neg h6, if_pos h7, if_pos h8]
              exact g_ireturn d_R_deliver_217 rfl (Nat.le_of_ble_eq_true rfl) (Nat.le_of_ble_eq_true rfl) ⟨by rw [hz], by rw [hz]; exact hs20⟩
          · skip
            refine g_bipush (v := 9) d_R_deliver_156 (by decide) ?_
            have hz : s_R_deliver t k = (s_R_takeOut t k, 9) := by
              unfold s_R_deliver
              rw [if_neg h1, if_neg h4, if_neg h5, if_neg h6, if_neg h7]
            exact g_ireturn d_R_deliver_158 rfl (Nat.le_of_ble_eq_true rfl) (Nat.le_of_ble_eq_true rfl) ⟨by rw [hz], by rw [hz]; exact hs2⟩
        · skip
          refine g_aload_n (j := 8) d_R_deliver_133 rfl ?_
          refine g_iload (j := 5) d_R_deliver_134 rfl ?_
          refine g_iload (j := 4) d_R_deliver_136 rfl ?_
          refine g_iload (j := 3) d_R_deliver_138 rfl ?_
          refine g_iload (j := 2) d_R_deliver_140 rfl ?_
          refine g_iload (j := 1) d_R_deliver_142 rfl ?_
          refine g_callV (c_R_recalled hs2 ((mcN t k)) ((mfN t k)) (t.2 23 ((7 * k) + 3)) (t.2 23 ((7 * k) + 4)) (t.2 23 ((7 * k) + 5)) (by omega) (by omega) hwf1.1) ok_R_recalled lk_R_161 in_R_recalled se_R_recalled hs2.obj rfl d_R_deliver_144 rfl rfl (Nat.le_of_ble_eq_true rfl) ⟨(Nat.le_of_ble_eq_true rfl), (Nat.le_of_ble_eq_true rfl)⟩ (Nat.le_of_ble_eq_true rfl) (Nat.le_of_ble_eq_true rfl) (fun r w' hq => ?_)
          obtain ⟨rfl, hs22⟩ := hq
          refine g_iload_n (j := 6) d_R_deliver_147 rfl ?_
          have hz : s_R_deliver t k = (s_R_recalled (s_R_takeOut t k) ((mcN t k)) ((mfN t k)) (t.2 23 ((7 * k) + 3)) (t.2 23 ((7 * k) + 4)) (t.2 23 ((7 * k) + 5)), t.2 23 (7 * k)) := by
            unfold s_R_deliver
            rw [if_neg h1, if_neg h4, if_neg h5, if_pos h6]
          exact g_ireturn d_R_deliver_148 rfl (Nat.le_of_ble_eq_true rfl) (Nat.le_of_ble_eq_true rfl) ⟨by rw [hz], by rw [hz]; exact hs22⟩
      · skip
        refine g_aload_n (j := 8) d_R_deliver_116 rfl ?_
        refine g_iload (j := 5) d_R_deliver_117 rfl ?_
        refine g_iload (j := 3) d_R_deliver_119 rfl ?_
        refine g_iload (j := 2) d_R_deliver_121 rfl ?_
        refine g_callV (c_R_stored hs2 ((mcN t k)) (t.2 23 ((7 * k) + 3)) (t.2 23 ((7 * k) + 4)) (by omega)) ok_R_stored lk_R_158 in_R_stored se_R_stored hs2.obj rfl d_R_deliver_123 rfl rfl (Nat.le_of_ble_eq_true rfl) ⟨(Nat.le_of_ble_eq_true rfl), (Nat.le_of_ble_eq_true rfl)⟩ (Nat.le_of_ble_eq_true rfl) (Nat.le_of_ble_eq_true rfl) (fun r w' hq => ?_)
        obtain ⟨rfl, hs24⟩ := hq
        refine g_iload_n (j := 6) d_R_deliver_126 rfl ?_
        have hz : s_R_deliver t k = (s_R_stored (s_R_takeOut t k) ((mcN t k)) (t.2 23 ((7 * k) + 3)) (t.2 23 ((7 * k) + 4)), t.2 23 (7 * k)) := by
          unfold s_R_deliver
          rw [if_neg h1, if_neg h4, if_pos h5]
        exact g_ireturn d_R_deliver_127 rfl (Nat.le_of_ble_eq_true rfl) (Nat.le_of_ble_eq_true rfl) ⟨by rw [hz], by rw [hz]; exact hs24⟩
    · skip
      refine g_aload_n (j := 8) d_R_deliver_93 rfl ?_
      refine g_iload (j := 5) d_R_deliver_94 rfl ?_
      refine g_iload (j := 4) d_R_deliver_96 rfl ?_
      refine g_iload (j := 3) d_R_deliver_98 rfl ?_
      refine g_iload (j := 2) d_R_deliver_100 rfl ?_
      refine g_iload (j := 1) d_R_deliver_102 rfl ?_
      refine g_iload (j := 0) d_R_deliver_104 rfl ?_
      refine g_callV (c_R_given hs2 ((mcN t k)) ((mfN t k)) (t.2 23 ((7 * k) + 3)) (t.2 23 ((7 * k) + 4)) (t.2 23 ((7 * k) + 5)) (t.2 23 ((7 * k) + 6)) (by omega) (by omega)) ok_R_given lk_R_154 in_R_given se_R_given hs2.obj rfl d_R_deliver_106 rfl rfl (Nat.le_of_ble_eq_true rfl) ⟨(Nat.le_of_ble_eq_true rfl), (Nat.le_of_ble_eq_true rfl)⟩ (Nat.le_of_ble_eq_true rfl) (Nat.le_of_ble_eq_true rfl) (fun r w' hq => ?_)
      obtain ⟨rfl, hs26⟩ := hq
      refine g_iload_n (j := 6) d_R_deliver_109 rfl ?_
      have hz : s_R_deliver t k = (s_R_given (s_R_takeOut t k) ((mcN t k)) ((mfN t k)) (t.2 23 ((7 * k) + 3)) (t.2 23 ((7 * k) + 4)) (t.2 23 ((7 * k) + 5)) (t.2 23 ((7 * k) + 6)), t.2 23 (7 * k)) := by
        unfold s_R_deliver
        rw [if_neg h1, if_pos h4]
      exact g_ireturn d_R_deliver_110 rfl (Nat.le_of_ble_eq_true rfl) (Nat.le_of_ble_eq_true rfl) ⟨by rw [hz], by rw [hz]; exact hs26⟩
  · skip
    refine g_iconst (v := (-1)) d_R_deliver_8 (by decide) ?_
    have hz : s_R_deliver t k = (t, (-1)) := by
      unfold s_R_deliver
      rw [if_pos h1]
    exact g_ireturn d_R_deliver_9 rfl (Nat.le_of_ble_eq_true rfl) (Nat.le_of_ble_eq_true rfl) ⟨by rw [hz], by rw [hz]; exact hs⟩
