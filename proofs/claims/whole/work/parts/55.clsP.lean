/-- a waiting write's client, as a number -/
def wcN (e : Int32 × Int32 × Int32) : Nat := e.1.toNatClampNeg
def okWC (K : kC) (t : tC) : Prop := ∀ f, f < K.2.1 → ∀ e ∈ t.2.1 f, e.1 = nI (wcN e) ∧ wcN e < K.1
theorem rm_ex {E : gE} {K : kC} {L : lyC} {t : tC} {w : wd} {f : Nat} (h : SysC E K (rmL L f) (rmC t f) w) : ∃ L' : lyC, (∀ x : nmC, x.1 < 15 → L'.1 x = L.1 x) ∧ L'.1 (16, 4, 0) = L.1 (16, f, 0) ∧ SysC E K L' (rmC t f) w := by
  refine ⟨rmL L f, fun x hx => congrArg L.1 ((if_neg (fun z => ?_)).trans (if_neg (fun z => ?_))), rfl, h⟩
  · rw [z] at hx
    exact absurd hx (show ¬ 16 < 15 by decide)
  · omega
theorem clr_ex {E : gE} {K : kC} {L : lyC} {t : tC} {w : wd} {f : Nat} (h : SysC E K (clrL L f) (clrC t f) w) : ∃ L' : lyC, (∀ x : nmC, x.1 < 15 → L'.1 x = L.1 x) ∧ SysC E K L' (clrC t f) w := ⟨clrL L f, fun _ _ => rfl, h⟩
theorem okWC.hd {K : kC} {t : tC} (h : okWC K t) {f : Nat} (hf : f < K.2.1) (hl : 0 < (t.2.1 f).length) : ((t.2.1 f).getD 0 (0, 0, 0)).1 = nI (wcN ((t.2.1 f).getD 0 (0, 0, 0))) ∧ wcN ((t.2.1 f).getD 0 (0, 0, 0)) < K.1 := by
  refine h f hf _ ?_
  cases hh : t.2.1 f with
  | nil => rw [hh] at hl; exact absurd hl (by decide)
  | cons a l => exact List.mem_cons_self

def s_S_storeFirst (K : kC) (t : tC) (f : Nat) : tC :=
  if s_A_isEmpty K t f = 0 then
    if ((t.2.1 f).getD 0 (0, 0, 0)).2.1 ≤ (stC (stC (rmC t f) 3 f 0 (((t.2.1 f).getD 0 (0, 0, 0)).2.2)) 3 f 1 (((stC (rmC t f) 3 f 0 (((t.2.1 f).getD 0 (0, 0, 0)).2.2)).1 3 f 1) + 1)).1 5 0 (wcN ((t.2.1 f).getD 0 (0, 0, 0))) then
      s_P_send K (stC (stC (rmC t f) 3 f 0 (((t.2.1 f).getD 0 (0, 0, 0)).2.2)) 3 f 1 (((stC (rmC t f) 3 f 0 (((t.2.1 f).getD 0 (0, 0, 0)).2.2)).1 3 f 1) + 1)) 3 (nI (wcN ((t.2.1 f).getD 0 (0, 0, 0)))) (nI f) (((t.2.1 f).getD 0 (0, 0, 0)).2.1) ((stC (stC (rmC t f) 3 f 0 (((t.2.1 f).getD 0 (0, 0, 0)).2.2)) 3 f 1 (((stC (rmC t f) 3 f 0 (((t.2.1 f).getD 0 (0, 0, 0)).2.2)).1 3 f 1) + 1)).1 3 f 1) 0 0
    else
      s_P_send K (stC (stC (stC (stC (rmC t f) 3 f 0 (((t.2.1 f).getD 0 (0, 0, 0)).2.2)) 3 f 1 (((stC (rmC t f) 3 f 0 (((t.2.1 f).getD 0 (0, 0, 0)).2.2)).1 3 f 1) + 1)) 5 0 (wcN ((t.2.1 f).getD 0 (0, 0, 0))) (((t.2.1 f).getD 0 (0, 0, 0)).2.1)) 6 0 (wcN ((t.2.1 f).getD 0 (0, 0, 0))) ((stC (stC (stC (rmC t f) 3 f 0 (((t.2.1 f).getD 0 (0, 0, 0)).2.2)) 3 f 1 (((stC (rmC t f) 3 f 0 (((t.2.1 f).getD 0 (0, 0, 0)).2.2)).1 3 f 1) + 1)) 5 0 (wcN ((t.2.1 f).getD 0 (0, 0, 0))) (((t.2.1 f).getD 0 (0, 0, 0)).2.1)).1 3 f 1)) 3 (nI (wcN ((t.2.1 f).getD 0 (0, 0, 0)))) (nI f) (((t.2.1 f).getD 0 (0, 0, 0)).2.1) ((stC (stC (stC (stC (rmC t f) 3 f 0 (((t.2.1 f).getD 0 (0, 0, 0)).2.2)) 3 f 1 (((stC (rmC t f) 3 f 0 (((t.2.1 f).getD 0 (0, 0, 0)).2.2)).1 3 f 1) + 1)) 5 0 (wcN ((t.2.1 f).getD 0 (0, 0, 0))) (((t.2.1 f).getD 0 (0, 0, 0)).2.1)) 6 0 (wcN ((t.2.1 f).getD 0 (0, 0, 0))) ((stC (stC (stC (rmC t f) 3 f 0 (((t.2.1 f).getD 0 (0, 0, 0)).2.2)) 3 f 1 (((stC (rmC t f) 3 f 0 (((t.2.1 f).getD 0 (0, 0, 0)).2.2)).1 3 f 1) + 1)) 5 0 (wcN ((t.2.1 f).getD 0 (0, 0, 0))) (((t.2.1 f).getD 0 (0, 0, 0)).2.1)).1 3 f 1)).1 3 f 1) 0 0
  else
    t
set_option maxHeartbeats 4000000 in
set_option maxRecDepth 100000 in
theorem c_S_storeFirst {E : gE} {w : wd} {K : kC} {L : lyC} {t : tC} (hs : SysC E K L t w) (f : Nat) (hf : f < K.2.1) (hW : okWC K t) : Cn E y_S_storeFirst 4 0 0 [.ref (L.1 (8, 0, 0)), .int (nI f), .ref (L.1 (1, 0, 0))] w (fun r w' => r = none ∧ ∃ L' : lyC, (∀ x : nmC, x.1 < 15 → L'.1 x = L.1 x) ∧ SysC E K L' (s_S_storeFirst K t f) w') := by
  refine Cn.of (by decide) (Nat.le_of_ble_eq_true rfl) (fun A => ?_)
  show G E y_S_storeFirst _ 0 [(0, .ref (L.1 (8, 0, 0))), (1, .int (nI f)), (2, .ref (L.1 (1, 0, 0)))] [] w 0 0
  have h4 := hs.nc
  have h64 := hs.pn
  refine g_aload_n (j := 0) d_S_storeFirst_0 rfl ?_
  refine g_get d_S_storeFirst_1 f_S_37 hs.srv rfl ?_
  refine g_iload_n (j := 1) d_S_storeFirst_4 rfl ?_
  refine g_aald (t0 := 5) (j := f) d_S_storeFirst_5 hs.fls rfl rfl (by omega) (by omega) (rf_if (by omega)) ?_
  refine g_astore_n (lv' := [(3, _), (0, _), (1, _), (2, _)]) d_S_storeFirst_6 (by decide) rfl ?_
  refine g_aload_n (j := 0) d_S_storeFirst_7 rfl ?_
  refine g_get d_S_storeFirst_8 f_S_64 (hs.fl (f := f) (by omega)) rfl ?_
  refine g_callV (c_A_isEmpty hs f (by omega)) ok_A_isEmpty lk_S_87 in_A_isEmpty se_A_isEmpty (hs.lst (f := f) (by omega)) rfl d_S_storeFirst_11 rfl rfl (Nat.le_of_ble_eq_true rfl) ⟨(Nat.le_of_ble_eq_true rfl), (Nat.le_of_ble_eq_true rfl)⟩ (Nat.le_of_ble_eq_true rfl) (Nat.le_of_ble_eq_true rfl) (fun r w' hq => ?_)
  obtain ⟨rfl, rfl⟩ := hq
  refine g_if_eq (tgt := 18) d_S_storeFirst_14 (by decide) (fun h1 => ?_) (fun h1 => ?_)
  · skip
    have hlen := isE_pos h1
    obtain ⟨m, hm⟩ : ∃ m, (t.2.1 f).length = m + 1 := ⟨(t.2.1 f).length - 1, by omega⟩
    have hC := hW.hd hf hlen
    have hC2 := hC.2
    refine g_aload_n (j := 0) d_S_storeFirst_18 rfl ?_
    refine g_get d_S_storeFirst_19 f_S_64 (hs.fl (f := f) (by omega)) rfl ?_
    refine g_iconst (v := 0) d_S_storeFirst_22 (by decide) ?_
    refine g_callV (c_A_remove hs f m (by omega) hm) ok_A_remove lk_S_144 in_A_remove se_A_remove (hs.lst (f := f) (by omega)) rfl d_S_storeFirst_23 rfl rfl (Nat.le_of_ble_eq_true rfl) ⟨(Nat.le_of_ble_eq_true rfl), (Nat.le_of_ble_eq_true rfl)⟩ (Nat.le_of_ble_eq_true rfl) (Nat.le_of_ble_eq_true rfl) (fun r w' hq => ?_)
    obtain ⟨rfl, hrm⟩ := hq
    obtain ⟨L3, hL4, hh, hs2⟩ := rm_ex hrm
    rw [← hL4 (10, f, 0) (show 10 < 15 by decide), ← hL4 (8, 0, 0) (show 8 < 15 by decide), ← hL4 (1, 0, 0) (show 1 < 15 by decide)]
    rw [show L.1 (16, f, 0) = _ from hh.symm]
    refine g_cast d_S_storeFirst_26 cl_S_148 (hs2.wr (f := 4) (j := 0) (Or.inr rfl) Nat.zero_lt_one) rfl ?_
    refine g_astore (lv' := [(4, _), (3, _), (0, _), (1, _), (2, _)]) d_S_storeFirst_29 (by decide) rfl ?_
    refine g_aload_n (j := 1) d_S_storeFirst_31 rfl ?_
    refine g_aload (j := 0) d_S_storeFirst_32 rfl ?_
    refine g_get d_S_storeFirst_34 f_S_150 (hs2.wr (f := 4) (j := 0) (Or.inr rfl) Nat.zero_lt_one) rfl ?_
    refine g_norm (y := ((t.2.1 f).getD 0 (0, 0, 0)).2.2) rfl ?_
    refine k_fl (f := f) (j := 0) (by omega) d_S_storeFirst_37 fw_S_100 hs2 (fun _ => rfl) rfl rfl (Nat.le_of_ble_eq_true rfl) (fun w5 hs6 => ?_)
    refine g_aload_n (j := 1) d_S_storeFirst_40 rfl ?_
    refine g_dup d_S_storeFirst_41 rfl ?_
    refine g_get d_S_storeFirst_42 f_S_103 (hs6.fl (f := f) (by omega)) rfl ?_
    refine g_iconst (v := 1) d_S_storeFirst_45 (by decide) ?_
    refine g_iadd d_S_storeFirst_46 ?_
    refine k_fl (f := f) (j := 1) (by omega) d_S_storeFirst_47 fw_S_103 hs6 (fun _ => rfl) rfl rfl (Nat.le_of_ble_eq_true rfl) (fun w7 hs8 => ?_)
    refine g_aload (j := 0) d_S_storeFirst_50 rfl ?_
    refine g_get d_S_storeFirst_52 f_S_151 (hs8.wr (f := 4) (j := 0) (Or.inr rfl) Nat.zero_lt_one) rfl ?_
    refine g_norm (y := ((t.2.1 f).getD 0 (0, 0, 0)).2.1) rfl ?_
    refine g_aload_n (j := 2) d_S_storeFirst_55 rfl ?_
    refine g_get d_S_storeFirst_56 f_S_28 hs8.srv rfl ?_
    refine g_aload (j := 0) d_S_storeFirst_59 rfl ?_
    refine g_get d_S_storeFirst_61 f_S_152 (hs8.wr (f := 4) (j := 0) (Or.inr rfl) Nat.zero_lt_one) rfl ?_
    refine g_norm (y := nI (wcN ((t.2.1 f).getD 0 (0, 0, 0)))) hC.1 ?_
    refine g_iald (j := wcN ((t.2.1 f).getD 0 (0, 0, 0))) d_S_storeFirst_64 hs8.lws rfl (by omega) (by omega) ?_
    refine g_icmp_le (tgt := 97) d_S_storeFirst_65 (by decide) (fun h9 => ?_) (fun h9 => ?_)
    · skip
      refine g_aload_n (j := 4) d_S_storeFirst_97 rfl ?_
      refine g_iconst (v := 3) d_S_storeFirst_98 (by decide) ?_
      refine g_aload (j := 0) d_S_storeFirst_99 rfl ?_
      refine g_get d_S_storeFirst_101 f_S_152 (hs8.wr (f := 4) (j := 0) (Or.inr rfl) Nat.zero_lt_one) rfl ?_
      refine g_norm (y := nI (wcN ((t.2.1 f).getD 0 (0, 0, 0)))) hC.1 ?_
      refine g_iload_n (j := 3) d_S_storeFirst_104 rfl ?_
      refine g_aload (j := 0) d_S_storeFirst_105 rfl ?_
      refine g_get d_S_storeFirst_107 f_S_151 (hs8.wr (f := 4) (j := 0) (Or.inr rfl) Nat.zero_lt_one) rfl ?_
      refine g_norm (y := ((t.2.1 f).getD 0 (0, 0, 0)).2.1) rfl ?_
      refine g_aload_n (j := 1) d_S_storeFirst_110 rfl ?_
      refine g_get d_S_storeFirst_111 f_S_103 (hs8.fl (f := f) (by omega)) rfl ?_
      refine g_iconst (v := 0) d_S_storeFirst_114 (by decide) ?_
      refine g_iconst (v := 0) d_S_storeFirst_115 (by decide) ?_
      refine g_callV (c_P_send hs8 3 (nI (wcN ((t.2.1 f).getD 0 (0, 0, 0)))) (nI f) (((t.2.1 f).getD 0 (0, 0, 0)).2.1) ((stC (stC (rmC t f) 3 f 0 (((t.2.1 f).getD 0 (0, 0, 0)).2.2)) 3 f 1 (((stC (rmC t f) 3 f 0 (((t.2.1 f).getD 0 (0, 0, 0)).2.2)).1 3 f 1) + 1)).1 3 f 1) 0 0 ) ok_P_send lk_S_106 in_P_send se_P_send hs8.pool rfl d_S_storeFirst_116 rfl rfl (Nat.le_of_ble_eq_true rfl) ⟨(Nat.le_of_ble_eq_true rfl), (Nat.le_of_ble_eq_true rfl)⟩ (Nat.le_of_ble_eq_true rfl) (Nat.le_of_ble_eq_true rfl) (fun r w' hq => ?_)
      obtain ⟨rfl, hs10⟩ := hq
      have hz : s_S_storeFirst K t f = s_P_send K (stC (stC (rmC t f) 3 f 0 (((t.2.1 f).getD 0 (0, 0, 0)).2.2)) 3 f 1 (((stC (rmC t f) 3 f 0 (((t.2.1 f).getD 0 (0, 0, 0)).2.2)).1 3 f 1) + 1)) 3 (nI (wcN ((t.2.1 f).getD 0 (0, 0, 0)))) (nI f) (((t.2.1 f).getD 0 (0, 0, 0)).2.1) ((stC (stC (rmC t f) 3 f 0 (((t.2.1 f).getD 0 (0, 0, 0)).2.2)) 3 f 1 (((stC (rmC t f) 3 f 0 (((t.2.1 f).getD 0 (0, 0, 0)).2.2)).1 3 f 1) + 1)).1 3 f 1) 0 0 := by
        unfold s_S_storeFirst
        rw [if_pos h1, if_pos h9]
      exact g_return d_S_storeFirst_119 rfl (Nat.le_of_ble_eq_true rfl) (Nat.le_of_ble_eq_true rfl) ⟨rfl, _, (fun x hx => (hL4 x hx).trans ((fun _ _ => rfl) x hx)), by rw [hz]; exact hs10⟩
    · skip
      refine g_aload_n (j := 2) d_S_storeFirst_68 rfl ?_
      refine g_get d_S_storeFirst_69 f_S_28 hs8.srv rfl ?_
      refine g_aload (j := 0) d_S_storeFirst_72 rfl ?_
      refine g_get d_S_storeFirst_74 f_S_152 (hs8.wr (f := 4) (j := 0) (Or.inr rfl) Nat.zero_lt_one) rfl ?_
      refine g_norm (y := nI (wcN ((t.2.1 f).getD 0 (0, 0, 0)))) hC.1 ?_
      refine g_aload (j := 0) d_S_storeFirst_77 rfl ?_
      refine g_get d_S_storeFirst_79 f_S_151 (hs8.wr (f := 4) (j := 0) (Or.inr rfl) Nat.zero_lt_one) rfl ?_
      refine g_norm (y := ((t.2.1 f).getD 0 (0, 0, 0)).2.1) rfl ?_
      refine k_lws  (j := wcN ((t.2.1 f).getD 0 (0, 0, 0)))  d_S_storeFirst_82 hs8 rfl (by omega) (fun w11 hs12 => ?_)
      refine g_aload_n (j := 2) d_S_storeFirst_83 rfl ?_
      refine g_get d_S_storeFirst_84 f_S_32 hs12.srv rfl ?_
      refine g_aload (j := 0) d_S_storeFirst_87 rfl ?_
      refine g_get d_S_storeFirst_89 f_S_152 (hs12.wr (f := 4) (j := 0) (Or.inr rfl) Nat.zero_lt_one) rfl ?_
      refine g_norm (y := nI (wcN ((t.2.1 f).getD 0 (0, 0, 0)))) hC.1 ?_
      refine g_aload_n (j := 1) d_S_storeFirst_92 rfl ?_
      refine g_get d_S_storeFirst_93 f_S_103 (hs12.fl (f := f) (by omega)) rfl ?_
      refine k_lvs  (j := wcN ((t.2.1 f).getD 0 (0, 0, 0)))  d_S_storeFirst_96 hs12 rfl (by omega) (fun w13 hs14 => ?_)
      refine g_aload_n (j := 4) d_S_storeFirst_97 rfl ?_
      refine g_iconst (v := 3) d_S_storeFirst_98 (by decide) ?_
      refine g_aload (j := 0) d_S_storeFirst_99 rfl ?_
      refine g_get d_S_storeFirst_101 f_S_152 (hs14.wr (f := 4) (j := 0) (Or.inr rfl) Nat.zero_lt_one) rfl ?_
      refine g_norm (y := nI (wcN ((t.2.1 f).getD 0 (0, 0, 0)))) hC.1 ?_
      refine g_iload_n (j := 3) d_S_storeFirst_104 rfl ?_
      refine g_aload (j := 0) d_S_storeFirst_105 rfl ?_
      refine g_get d_S_storeFirst_107 f_S_151 (hs14.wr (f := 4) (j := 0) (Or.inr rfl) Nat.zero_lt_one) rfl ?_
      refine g_norm (y := ((t.2.1 f).getD 0 (0, 0, 0)).2.1) rfl ?_
      refine g_aload_n (j := 1) d_S_storeFirst_110 rfl ?_
      refine g_get d_S_storeFirst_111 f_S_103 (hs14.fl (f := f) (by omega)) rfl ?_
      refine g_iconst (v := 0) d_S_storeFirst_114 (by decide) ?_
      refine g_iconst (v := 0) d_S_storeFirst_115 (by decide) ?_
      refine g_callV (c_P_send hs14 3 (nI (wcN ((t.2.1 f).getD 0 (0, 0, 0)))) (nI f) (((t.2.1 f).getD 0 (0, 0, 0)).2.1) ((stC (stC (stC (stC (rmC t f) 3 f 0 (((t.2.1 f).getD 0 (0, 0, 0)).2.2)) 3 f 1 (((stC (rmC t f) 3 f 0 (((t.2.1 f).getD 0 (0, 0, 0)).2.2)).1 3 f 1) + 1)) 5 0 (wcN ((t.2.1 f).getD 0 (0, 0, 0))) (((t.2.1 f).getD 0 (0, 0, 0)).2.1)) 6 0 (wcN ((t.2.1 f).getD 0 (0, 0, 0))) ((stC (stC (stC (rmC t f) 3 f 0 (((t.2.1 f).getD 0 (0, 0, 0)).2.2)) 3 f 1 (((stC (rmC t f) 3 f 0 (((t.2.1 f).getD 0 (0, 0, 0)).2.2)).1 3 f 1) + 1)) 5 0 (wcN ((t.2.1 f).getD 0 (0, 0, 0))) (((t.2.1 f).getD 0 (0, 0, 0)).2.1)).1 3 f 1)).1 3 f 1) 0 0 ) ok_P_send lk_S_106 in_P_send se_P_send hs14.pool rfl d_S_storeFirst_116 rfl rfl (Nat.le_of_ble_eq_true rfl) ⟨(Nat.le_of_ble_eq_true rfl), (Nat.le_of_ble_eq_true rfl)⟩ (Nat.le_of_ble_eq_true rfl) (Nat.le_of_ble_eq_true rfl) (fun r w' hq => ?_)
      obtain ⟨rfl, hs15⟩ := hq
      have hz : s_S_storeFirst K t f = s_P_send K (stC (stC (stC (stC (rmC t f) 3 f 0 (((t.2.1 f).getD 0 (0, 0, 0)).2.2)) 3 f 1 (((stC (rmC t f) 3 f 0 (((t.2.1 f).getD 0 (0, 0, 0)).2.2)).1 3 f 1) + 1)) 5 0 (wcN ((t.2.1 f).getD 0 (0, 0, 0))) (((t.2.1 f).getD 0 (0, 0, 0)).2.1)) 6 0 (wcN ((t.2.1 f).getD 0 (0, 0, 0))) ((stC (stC (stC (rmC t f) 3 f 0 (((t.2.1 f).getD 0 (0, 0, 0)).2.2)) 3 f 1 (((stC (rmC t f) 3 f 0 (((t.2.1 f).getD 0 (0, 0, 0)).2.2)).1 3 f 1) + 1)) 5 0 (wcN ((t.2.1 f).getD 0 (0, 0, 0))) (((t.2.1 f).getD 0 (0, 0, 0)).2.1)).1 3 f 1)) 3 (nI (wcN ((t.2.1 f).getD 0 (0, 0, 0)))) (nI f) (((t.2.1 f).getD 0 (0, 0, 0)).2.1) ((stC (stC (stC (stC (rmC t f) 3 f 0 (((t.2.1 f).getD 0 (0, 0, 0)).2.2)) 3 f 1 (((stC (rmC t f) 3 f 0 (((t.2.1 f).getD 0 (0, 0, 0)).2.2)).1 3 f 1) + 1)) 5 0 (wcN ((t.2.1 f).getD 0 (0, 0, 0))) (((t.2.1 f).getD 0 (0, 0, 0)).2.1)) 6 0 (wcN ((t.2.1 f).getD 0 (0, 0, 0))) ((stC (stC (stC (rmC t f) 3 f 0 (((t.2.1 f).getD 0 (0, 0, 0)).2.2)) 3 f 1 (((stC (rmC t f) 3 f 0 (((t.2.1 f).getD 0 (0, 0, 0)).2.2)).1 3 f 1) + 1)) 5 0 (wcN ((t.2.1 f).getD 0 (0, 0, 0))) (((t.2.1 f).getD 0 (0, 0, 0)).2.1)).1 3 f 1)).1 3 f 1) 0 0 := by
        unfold s_S_storeFirst
        rw [if_pos h1, if_neg h9]
      exact g_return d_S_storeFirst_119 rfl (Nat.le_of_ble_eq_true rfl) (Nat.le_of_ble_eq_true rfl) ⟨rfl, _, (fun x hx => (hL4 x hx).trans ((fun _ _ => rfl) x hx)), by rw [hz]; exact hs15⟩
  · skip
    have hz : s_S_storeFirst K t f = t := by
      unfold s_S_storeFirst
      rw [if_neg h1]
    exact g_return d_S_storeFirst_17 rfl (Nat.le_of_ble_eq_true rfl) (Nat.le_of_ble_eq_true rfl) ⟨rfl, _, (fun _ _ => rfl), by rw [hz]; exact hs⟩
