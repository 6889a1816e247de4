theorem wi_R : Cond.instantiable "LeasedFilesModel" 34 ∈ WS := ws_at 658 (by decide +kernel) rfl
section LW
variable {E : gE} {n0 b Ln : Nat} {xs : Nat → Int32}
theorem len4 {i : Nat} (hLn : Ln ≤ 2052) (hi : i ≤ 4000) (q : ¬ nI Ln - 4 < nI i) : i + 4 ≤ Ln := by
  by_cases h4 : 4 ≤ Ln
  · obtain ⟨k, rfl⟩ : ∃ k, Ln = k + 4 := ⟨Ln - 4, by omega⟩
    have e : nI (k + 4) - 4 = nI k := by
      rw [← nI_add k 4]
      exact Int32.add_sub_cancel _ _
    rw [e] at q
    exact Nat.le_of_not_lt fun z => q (nI_lt (by omega) (by omega))
  · exfalso
    apply q
    rw [Int32.lt_iff_toInt_lt, nI_toInt (by omega)]
    rcases (show Ln = 0 ∨ Ln = 1 ∨ Ln = 2 ∨ Ln = 3 by omega) with rfl | rfl | rfl | rfl
    · have : (nI 0 - 4).toInt = -4 := by decide
      omega
    · have : (nI 1 - 4).toInt = -3 := by decide
      omega
    · have : (nI 2 - 4).toInt = -2 := by decide
      omega
    · have : (nI 3 - 4).toInt = -1 := by decide
      omega
set_option maxHeartbeats 4000000 in
/-- the loop over the script -/
theorem law_loop (hb : b < n0) (hLn : Ln ≤ 2052) (K : kC) : ∀ (m n s d : Nat) (r : tR) (t : tC) (L : lyC) (ad : Nat → Nat) (u v : wd) (ce sl : Nat), Ln ≤ 4 * (n + m) → 4 * n ≤ Ln + 4 → SysC E K L t u → SysR E ad r v → RS K n s d r t → s + d ≤ n → wdj u v → ce ≤ 134 + 2 * n → sl ≤ 3424 + 403 * n → G E y_Z_law (zL n0 b Ln xs) 58 [(3, .int (nI (4 * (n + 1)))), (2, .ref (ad 0)), (1, .ref (L.1 (0, 0, 0))), (0, .ref b)] [] (wj u v) ce sl := by
  intro m
  induction m with
  | zero =>
    intro n s d r t L ad u v ce sl hm hn C R h hsd hj hce hsl
    refine g_iload_n (j := 0) d_Z_law_58 rfl ?_
    refine g_aload_n (j := 3) d_Z_law_59 rfl ?_
    refine g_slen zL_ex (zL_no hb) d_Z_law_60 ?_
    refine g_iconst (v := 4) d_Z_law_61 (by decide) ?_
    refine g_isub d_Z_law_62 ?_
    refine g_icmp_gt (tgt := 704) d_Z_law_63 (by decide) (fun q => ?_) (fun q => ?_)
    · refine g_iconst (v := 1) d_Z_law_704 (by decide) ?_
      exact g_zreturn d_Z_law_705 rfl (by decide) (by show ce ≤ 600000; omega) (by show sl ≤ 7302249; omega) rfl
    · exact absurd (len4 hLn (by omega) q) (by omega)
  | succ m ih =>
    intro n s d r t L ad u v ce sl hm hn C R h hsd hj hce hsl
    refine g_iload_n (j := 0) d_Z_law_58 rfl ?_
    refine g_aload_n (j := 3) d_Z_law_59 rfl ?_
    refine g_slen zL_ex (zL_no hb) d_Z_law_60 ?_
    refine g_iconst (v := 4) d_Z_law_61 (by decide) ?_
    refine g_isub d_Z_law_62 ?_
    refine g_icmp_gt (tgt := 704) d_Z_law_63 (by decide) (fun q => ?_) (fun q => ?_)
    · refine g_iconst (v := 1) d_Z_law_704 (by decide) ?_
      exact g_zreturn d_Z_law_705 rfl (by decide) (by show ce ≤ 600000; omega) (by show sl ≤ 7302249; omega) rfl
    · have hi := len4 hLn (by omega) q
      have hk : Lk E (zL n0 b Ln xs) b n K := by
        intro s' d' r' t' L' ad' u' v' ce' sl' C' R' h' hsd' hj' hce' hsl'
        refine g_iinc (j := 0) (v := nI (4 * (n + 1 + 1))) (lv' := [(3, .int (nI (4 * (n + 1 + 1)))), (2, .ref (ad' 0)), (1, .ref (L'.1 (0, 0, 0))), (0, .ref b)]) d_Z_law_698 rfl ?_ (by decide) rfl ?_
        · have e4 : Int32.ofInt 4 = nI 4 := by decide
          rw [e4, nI_add]
          exact congrArg nI (by omega)
        · refine g_goto (tgt := 58) d_Z_law_701 (by decide) ?_
          exact ih (n + 1) s' d' r' t' L' ad' u' v' ce' sl' (by omega) (by omega) C' R' h' hsd' hj' hce' hsl'
      refine g_aload_n (j := 3) d_Z_law_66 rfl ?_
      refine g_iload_n (j := 0) d_Z_law_67 rfl ?_
      refine g_sld (j := 4 * (n + 1)) zL_ex (zL_no hb) rfl (by omega) (by omega) d_Z_law_68 ?_
      refine g_bipush (v := 31) d_Z_law_69 (by decide) ?_
      refine g_iand d_Z_law_71 ?_
      refine g_topi (fun y _ => ?_)
      by_cases ho : y.toInt < 0 ∨ 19 < y.toInt
      · refine g_tableOut (tgt := 698) d_Z_law_72 ho (by decide) ?_
        exact hk s d r t L ad u v ce sl C R (h.mono (Nat.le_succ n)) (by omega) hj (by omega) (by omega)
      · rcases (show y.toInt = 0 ∨ y.toInt = 1 ∨ y.toInt = 2 ∨ y.toInt = 3 ∨ y.toInt = 4 ∨ y.toInt = 5 ∨ y.toInt = 6 ∨ y.toInt = 7 ∨ y.toInt = 8 ∨ y.toInt = 9 ∨ y.toInt = 10 ∨ y.toInt = 11 ∨ y.toInt = 12 ∨ y.toInt = 13 ∨ y.toInt = 14 ∨ y.toInt = 15 ∨ y.toInt = 16 ∨ y.toInt = 17 ∨ y.toInt = 18 ∨ y.toInt = 19 by omega) with e | e | e | e | e | e | e | e | e | e | e | e | e | e | e | e | e | e | e | e
        · refine g_tableIn (tgt := 168) (off := 96) d_Z_law_72 (by rw [e]; decide) (by rw [e]; decide) (by rw [e]; rfl) (by decide) ?_
          exact br_read hb hLn hi C R h hsd hj hce hsl hk
        · refine g_tableIn (tgt := 201) (off := 129) d_Z_law_72 (by rw [e]; decide) (by rw [e]; decide) (by rw [e]; rfl) (by decide) ?_
          exact br_write hb hLn hi C R h hsd hj hce hsl hk
        · refine g_tableIn (tgt := 244) (off := 172) d_Z_law_72 (by rw [e]; decide) (by rw [e]; decide) (by rw [e]; rfl) (by decide) ?_
          exact br_retry hb hLn hi C R h hsd hj hce hsl hk
        · refine g_tableIn (tgt := 267) (off := 195) d_Z_law_72 (by rw [e]; decide) (by rw [e]; decide) (by rw [e]; rfl) (by decide) ?_
          exact br_status hb hLn hi C R h hsd hj hce hsl hk
        · refine g_tableIn (tgt := 290) (off := 218) d_Z_law_72 (by rw [e]; decide) (by rw [e]; decide) (by rw [e]; rfl) (by decide) ?_
          exact br_result hb hLn hi C R h hsd hj hce hsl hk
        · refine g_tableIn (tgt := 313) (off := 241) d_Z_law_72 (by rw [e]; decide) (by rw [e]; decide) (by rw [e]; rfl) (by decide) ?_
          exact br_version hb hLn hi C R h hsd hj hce hsl hk
        · refine g_tableIn (tgt := 336) (off := 264) d_Z_law_72 (by rw [e]; decide) (by rw [e]; decide) (by rw [e]; rfl) (by decide) ?_
          exact br_deliver hb hLn hi C R h hsd hj hce hsl hk
        · refine g_tableIn (tgt := 359) (off := 287) d_Z_law_72 (by rw [e]; decide) (by rw [e]; decide) (by rw [e]; rfl) (by decide) ?_
          exact br_lose hb hLn hi C R h hsd hj hce hsl hk
        · refine g_tableIn (tgt := 382) (off := 310) d_Z_law_72 (by rw [e]; decide) (by rw [e]; decide) (by rw [e]; rfl) (by decide) ?_
          exact br_pending hb hLn hi C R h hsd hj hce hsl hk
        · refine g_tableIn (tgt := 395) (off := 323) d_Z_law_72 (by rw [e]; decide) (by rw [e]; decide) (by rw [e]; rfl) (by decide) ?_
          exact br_message hb hLn hi C R h hsd hj hce hsl hk
        · refine g_tableIn (tgt := 428) (off := 356) d_Z_law_72 (by rw [e]; decide) (by rw [e]; decide) (by rw [e]; rfl) (by decide) ?_
          exact br_tick hb hLn hi C R h hsd hj hce hsl hk
        · refine g_tableIn (tgt := 451) (off := 379) d_Z_law_72 (by rw [e]; decide) (by rw [e]; decide) (by rw [e]; rfl) (by decide) ?_
          exact br_pass hb hLn hi C R h hsd hj hce hsl hk
        · refine g_tableIn (tgt := 484) (off := 412) d_Z_law_72 (by rw [e]; decide) (by rw [e]; decide) (by rw [e]; rfl) (by decide) ?_
          exact br_crash hb hLn hi C R h hsd hj hce hsl hk
        · refine g_tableIn (tgt := 507) (off := 435) d_Z_law_72 (by rw [e]; decide) (by rw [e]; decide) (by rw [e]; rfl) (by decide) ?_
          exact br_halt hb hLn hi C R h hsd hj hce hsl hk
        · refine g_tableIn (tgt := 520) (off := 448) d_Z_law_72 (by rw [e]; decide) (by rw [e]; decide) (by rw [e]; rfl) (by decide) ?_
          exact br_restart hb hLn hi C R h hsd hj hce hsl hk
        · refine g_tableIn (tgt := 533) (off := 461) d_Z_law_72 (by rw [e]; decide) (by rw [e]; decide) (by rw [e]; rfl) (by decide) ?_
          exact br_copy hb hLn hi C R h hsd hj hce hsl hk
        · refine g_tableIn (tgt := 576) (off := 504) d_Z_law_72 (by rw [e]; decide) (by rw [e]; decide) (by rw [e]; rfl) (by decide) ?_
          exact br_lease hb hLn hi C R h hsd hj hce hsl hk
        · refine g_tableIn (tgt := 609) (off := 537) d_Z_law_72 (by rw [e]; decide) (by rw [e]; decide) (by rw [e]; rfl) (by decide) ?_
          exact br_file hb hLn hi C R h hsd hj hce hsl hk
        · refine g_tableIn (tgt := 642) (off := 570) d_Z_law_72 (by rw [e]; decide) (by rw [e]; decide) (by rw [e]; rfl) (by decide) ?_
          exact br_server hb hLn hi C R h hsd hj hce hsl hk
        · refine g_tableIn (tgt := 665) (off := 593) d_Z_law_72 (by rw [e]; decide) (by rw [e]; decide) (by rw [e]; rfl) (by decide) ?_
          exact br_client hb hLn hi C R h hsd hj hce hsl hk
set_option maxHeartbeats 4000000 in
/-- the law from its entry -/
theorem law_start (hb : b < n0) (hLn : Ln ≤ 2052) : G E y_Z_law (zL n0 b Ln xs) 0 (lv_args 0 [.ref b]) [] w00 0 0 := by
  refine g_eq (lv' := [(0, .ref b)]) rfl rfl rfl ?_
  refine g_new (fs := [.null, .null, .null, .int 0]) t_L d_Z_law_0 (ci := 1) rfl u_L tk_L cl_Z_7 wi_L ok_L_init.2.1 (by decide) (Nat.le_of_ble_eq_true rfl) (Nat.le_of_ble_eq_true rfl) (fun q1 hq1 => ?_)
  refine g_dup d_Z_law_3 rfl ?_
  refine g_aload_n (j := 0) d_Z_law_4 rfl ?_
  refine g_iconst (v := 0) d_Z_law_5 (by decide) ?_
  refine g_callX (j := 0) zL_ex (zL_no hb) (by decide) (by decide) (by omega) lk_Z_9 d_Z_law_6 (Nat.le_of_ble_eq_true rfl) ⟨Nat.le_of_ble_eq_true rfl, Nat.le_of_ble_eq_true rfl⟩ (Nat.le_of_ble_eq_true rfl) (Nat.le_of_ble_eq_true rfl) ?_
  refine g_aload_n (j := 0) d_Z_law_9 rfl ?_
  refine g_iconst (v := 1) d_Z_law_10 (by decide) ?_
  refine g_callX (j := 1) zL_ex (zL_no hb) (by decide) (by decide) (by omega) lk_Z_9 d_Z_law_11 (Nat.le_of_ble_eq_true rfl) ⟨Nat.le_of_ble_eq_true rfl, Nat.le_of_ble_eq_true rfl⟩ (Nat.le_of_ble_eq_true rfl) (Nat.le_of_ble_eq_true rfl) ?_
  refine g_aload_n (j := 0) d_Z_law_14 rfl ?_
  refine g_iconst (v := 2) d_Z_law_15 (by decide) ?_
  refine g_callX (j := 2) zL_ex (zL_no hb) (by decide) (by decide) (by omega) lk_Z_9 d_Z_law_16 (Nat.le_of_ble_eq_true rfl) ⟨Nat.le_of_ble_eq_true rfl, Nat.le_of_ble_eq_true rfl⟩ (Nat.le_of_ble_eq_true rfl) (Nat.le_of_ble_eq_true rfl) ?_
  refine g_aload_n (j := 0) d_Z_law_19 rfl ?_
  refine g_iconst (v := 3) d_Z_law_20 (by decide) ?_
  refine g_callX (j := 3) zL_ex (zL_no hb) (by decide) (by decide) (by omega) lk_Z_9 d_Z_law_21 (Nat.le_of_ble_eq_true rfl) ⟨Nat.le_of_ble_eq_true rfl, Nat.le_of_ble_eq_true rfl⟩ (Nat.le_of_ble_eq_true rfl) (Nat.le_of_ble_eq_true rfl) ?_
  refine g_callI (c_L_init wh.ns (if 0 < Ln then xs 0 else 0) (if 1 < Ln then xs 1 else 0) (if 2 < Ln then xs 2 else 0) (if 3 < Ln then xs 3 else 0)) ok_L_init rfl rfl lk_Z_15 in_L_init d_Z_law_24 (rest := [.ref q1]) rfl rfl (Nat.le_of_ble_eq_true rfl) ⟨Nat.le_of_ble_eq_true rfl, Nat.le_of_ble_eq_true rfl⟩ (Nat.le_of_ble_eq_true rfl) (Nat.le_of_ble_eq_true rfl) (fun o u hq => ?_)
  obtain ⟨rfl, L, hL, C⟩ := hq
  refine g_eq (st' := [.ref q1]) rfl rfl rfl ?_
  refine g_astore_n (lv' := [(1, .ref q1), (0, .ref b)]) d_Z_law_27 (by decide) rfl ?_
  refine g_new (fs := fs0R) t_R d_Z_law_28 (ci := 0) rfl u_R tk_R cl_Z_18 wi_R ok_R_init.2.1 (by decide +kernel) (Nat.le_of_ble_eq_true rfl) (Nat.le_of_ble_eq_true rfl) (fun q2 hq2 => ?_)
  have hj1 : wdj ([q2], fun _ => .inr (0, fs0R)) u := by
    intro x hx hz
    have hz : x = q2 := List.mem_singleton.mp hz
    exact hq2 (hz ▸ hx)
  have hj0 : wdj u ([q2], fun _ => .inr (0, fs0R)) := by
    intro x hx hz
    have hx : x = q2 := List.mem_singleton.mp hx
    exact hq2 (hx ▸ hz)
  have hw : wl (wn u q2 (.inr (0, fs0R))) = wl (wj u ([q2], fun _ => .inr (0, fs0R))) := by
    rw [wl_wj hj0]
    exact (va_pl_push hq2).symm
  refine g_wl hw ?_
  refine g_swap hj0 (fun _ => ?_)
  refine g_dup d_Z_law_31 rfl ?_
  refine g_aload_n (j := 1) d_Z_law_32 rfl ?_
  refine g_iconst (v := 0) d_Z_law_33 (by decide) ?_
  refine g_callX (j := 0) zL_ex (zL_no hb) (by decide) (by decide) (by omega) lk_Z_9 d_Z_law_34 (Nat.le_of_ble_eq_true rfl) ⟨Nat.le_of_ble_eq_true rfl, Nat.le_of_ble_eq_true rfl⟩ (Nat.le_of_ble_eq_true rfl) (Nat.le_of_ble_eq_true rfl) ?_
  refine g_aload_n (j := 1) d_Z_law_37 rfl ?_
  refine g_iconst (v := 1) d_Z_law_38 (by decide) ?_
  refine g_callX (j := 1) zL_ex (zL_no hb) (by decide) (by decide) (by omega) lk_Z_9 d_Z_law_39 (Nat.le_of_ble_eq_true rfl) ⟨Nat.le_of_ble_eq_true rfl, Nat.le_of_ble_eq_true rfl⟩ (Nat.le_of_ble_eq_true rfl) (Nat.le_of_ble_eq_true rfl) ?_
  refine g_aload_n (j := 1) d_Z_law_42 rfl ?_
  refine g_iconst (v := 2) d_Z_law_43 (by decide) ?_
  refine g_callX (j := 2) zL_ex (zL_no hb) (by decide) (by decide) (by omega) lk_Z_9 d_Z_law_44 (Nat.le_of_ble_eq_true rfl) ⟨Nat.le_of_ble_eq_true rfl, Nat.le_of_ble_eq_true rfl⟩ (Nat.le_of_ble_eq_true rfl) (Nat.le_of_ble_eq_true rfl) ?_
  refine g_aload_n (j := 1) d_Z_law_47 rfl ?_
  refine g_iconst (v := 3) d_Z_law_48 (by decide) ?_
  refine g_callX (j := 3) zL_ex (zL_no hb) (by decide) (by decide) (by omega) lk_Z_9 d_Z_law_49 (Nat.le_of_ble_eq_true rfl) ⟨Nat.le_of_ble_eq_true rfl, Nat.le_of_ble_eq_true rfl⟩ (Nat.le_of_ble_eq_true rfl) (Nat.le_of_ble_eq_true rfl) ?_
  refine g_callIF (rest := [.ref q2]) hj1 (c_R_init (w := ([q2], fun _ => .inr (0, fs0R))) ⟨List.mem_singleton.mpr rfl, rfl⟩ (if 0 < Ln then xs 0 else 0) (if 1 < Ln then xs 1 else 0) (if 2 < Ln then xs 2 else 0) (if 3 < Ln then xs 3 else 0)) ok_R_init rfl rfl lk_Z_20 in_R_init d_Z_law_52 rfl rfl (Nat.le_of_ble_eq_true rfl) ⟨Nat.le_of_ble_eq_true rfl, Nat.le_of_ble_eq_true rfl⟩ (Nat.le_of_ble_eq_true rfl) (Nat.le_of_ble_eq_true rfl) (fun o v hq hj2 => ?_)
  obtain ⟨rfl, ad, had, R⟩ := hq
  subst had
  subst hL
  refine g_eq (st' := [.ref (ad 0)]) rfl rfl rfl ?_
  refine g_swap hj2 (fun hj3 => ?_)
  refine g_astore_n (lv' := [(2, .ref (ad 0)), (1, .ref (L.1 (0, 0, 0))), (0, .ref b)]) d_Z_law_55 (by decide) rfl ?_
  refine g_iconst (v := nI (4 * (0 + 1))) d_Z_law_56 (by decide) ?_
  refine g_istore_n (lv' := [(3, .int (nI (4 * (0 + 1)))), (2, .ref (ad 0)), (1, .ref (L.1 (0, 0, 0))), (0, .ref b)]) d_Z_law_57 (by decide) rfl ?_
  exact law_loop hb hLn _ 513 0 0 0 _ _ L ad u v _ _ (by omega) (by omega) C R (sim_init _ _ _ _) (Nat.le_refl _) hj3 (Nat.le_of_ble_eq_true rfl) (Nat.le_of_ble_eq_true rfl)
end LW
