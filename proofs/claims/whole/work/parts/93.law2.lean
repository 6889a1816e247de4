section LW
variable {E : gE} {n0 b Ln n s d ce sl : Nat} {xs : Nat → Int32} {K : kC} {L : lyC} {t : tC} {ad : Nat → Nat} {r : tR} {u v : wd}
set_option maxHeartbeats 4000000 in
theorem br_tick (hb : b < n0) (hLn : Ln ≤ 2052) (hi : 4 * (n + 1) + 4 ≤ Ln) (C : SysC E K L t u) (R : SysR E ad r v) (h : RS K n s d r t) (hsd : s + d ≤ n) (hj : wdj u v) (hce : ce ≤ 134 + 2 * n) (hsl : sl ≤ 3424 + 403 * n) (hk : Lk E (zL n0 b Ln xs) b n K) : G E y_Z_law (zL n0 b Ln xs) 428 [(3, .int (nI (4 * (n + 1)))), (2, .ref (ad 0)), (1, .ref (L.1 (0, 0, 0))), (0, .ref b)] [] (wj u v) ce sl := by
  refine g_aload_n (j := 2) d_Z_law_428 rfl ?_
  refine g_aload_n (j := 3) d_Z_law_429 rfl ?_
  refine g_iload_n (j := 0) d_Z_law_430 rfl ?_
  refine g_iconst (v := 1) d_Z_law_431 (by decide) ?_
  refine g_iadd d_Z_law_432 ?_
  refine g_sld (j := 4 * (n + 1) + 1) zL_ex (zL_no hb) (nI_add _ 1) (by omega) (by omega) d_Z_law_433 ?_
  obtain ⟨z, s', d', r', t', dL, mc, ms, dR, h', hsd', ⟨b1, b2, b3, b4⟩, cL, cR⟩ := pr_tick C R h hsd (by omega) (xs (4 * (n + 1) + 1))
  refine g_callVF (rest := []) hj cL ok_L_tick lk_Z_66 in_L_tick se_L_tick C.main rfl d_Z_law_434 rfl rfl (Nat.le_of_ble_eq_true rfl) ⟨by show dL + 1 ≤ 13; omega, by show 37 * dL + 37 ≤ 492; omega⟩ (by show ce + mc ≤ 600000; omega) (by show sl + ms ≤ 7302249; omega) (fun o u' hq hj' => ?_)
  obtain ⟨rfl, L', hL', C'⟩ := hq
  refine g_eq (st' := [.int z]) rfl rfl rfl ?_
  refine g_aload_n (j := 1) d_Z_law_437 rfl ?_
  refine g_aload_n (j := 3) d_Z_law_438 rfl ?_
  refine g_iload_n (j := 0) d_Z_law_439 rfl ?_
  refine g_iconst (v := 1) d_Z_law_440 (by decide) ?_
  refine g_iadd d_Z_law_441 ?_
  refine g_sld (j := 4 * (n + 1) + 1) zL_ex (zL_no hb) (nI_add _ 1) (by omega) (by omega) d_Z_law_442 ?_
  refine g_swap hj' (fun hj2 => ?_)
  refine g_callVF (rest := [.int z]) hj2 cR ok_R_tick lk_Z_69 in_R_tick se_R_tick R.obj rfl d_Z_law_443 rfl rfl (Nat.le_of_ble_eq_true rfl) ⟨by show dR + 1 ≤ 13; omega, by show 37 * dR + 37 ≤ 492; omega⟩ (by show ce + mc + 0 ≤ 600000; omega) (by show sl + ms + 0 ≤ 7302249; omega) (fun o v' hq hj3 => ?_)
  obtain ⟨rfl, R'⟩ := hq
  refine g_eq (st' := [.int z, .int z]) rfl rfl rfl ?_
  refine g_swap hj3 (fun hj4 => ?_)
  refine g_icmp_eq (tgt := 698) d_Z_law_446 (by decide) (fun _ => ?_) (fun q => absurd rfl q)
  rw [← hL']
  exact hk s' d' r' t' L' ad u' v' _ _ C' R' h' hsd' hj4 (by omega) (by omega)
set_option maxHeartbeats 4000000 in
theorem br_pass (hb : b < n0) (hLn : Ln ≤ 2052) (hi : 4 * (n + 1) + 4 ≤ Ln) (C : SysC E K L t u) (R : SysR E ad r v) (h : RS K n s d r t) (hsd : s + d ≤ n) (hj : wdj u v) (hce : ce ≤ 134 + 2 * n) (hsl : sl ≤ 3424 + 403 * n) (hk : Lk E (zL n0 b Ln xs) b n K) : G E y_Z_law (zL n0 b Ln xs) 451 [(3, .int (nI (4 * (n + 1)))), (2, .ref (ad 0)), (1, .ref (L.1 (0, 0, 0))), (0, .ref b)] [] (wj u v) ce sl := by
  refine g_aload_n (j := 2) d_Z_law_451 rfl ?_
  refine g_aload_n (j := 3) d_Z_law_452 rfl ?_
  refine g_iload_n (j := 0) d_Z_law_453 rfl ?_
  refine g_iconst (v := 1) d_Z_law_454 (by decide) ?_
  refine g_iadd d_Z_law_455 ?_
  refine g_sld (j := 4 * (n + 1) + 1) zL_ex (zL_no hb) (nI_add _ 1) (by omega) (by omega) d_Z_law_456 ?_
  refine g_aload_n (j := 3) d_Z_law_457 rfl ?_
  refine g_iload_n (j := 0) d_Z_law_458 rfl ?_
  refine g_iconst (v := 2) d_Z_law_459 (by decide) ?_
  refine g_iadd d_Z_law_460 ?_
  refine g_sld (j := 4 * (n + 1) + 2) zL_ex (zL_no hb) (nI_add _ 2) (by omega) (by omega) d_Z_law_461 ?_
  obtain ⟨z, s', d', r', t', dL, mc, ms, dR, h', hsd', ⟨b1, b2, b3, b4⟩, cL, cR⟩ := pr_pass C R h hsd (by omega) (xs (4 * (n + 1) + 1)) (xs (4 * (n + 1) + 2))
  refine g_callVF (rest := []) hj cL ok_L_pass lk_Z_70 in_L_pass se_L_pass C.main rfl d_Z_law_462 rfl rfl (Nat.le_of_ble_eq_true rfl) ⟨by show dL + 1 ≤ 13; omega, by show 37 * dL + 37 ≤ 492; omega⟩ (by show ce + mc ≤ 600000; omega) (by show sl + ms ≤ 7302249; omega) (fun o u' hq hj' => ?_)
  obtain ⟨rfl, L', hL', C'⟩ := hq
  refine g_eq (st' := [.int z]) rfl rfl rfl ?_
  refine g_aload_n (j := 1) d_Z_law_465 rfl ?_
  refine g_aload_n (j := 3) d_Z_law_466 rfl ?_
  refine g_iload_n (j := 0) d_Z_law_467 rfl ?_
  refine g_iconst (v := 1) d_Z_law_468 (by decide) ?_
  refine g_iadd d_Z_law_469 ?_
  refine g_sld (j := 4 * (n + 1) + 1) zL_ex (zL_no hb) (nI_add _ 1) (by omega) (by omega) d_Z_law_470 ?_
  refine g_aload_n (j := 3) d_Z_law_471 rfl ?_
  refine g_iload_n (j := 0) d_Z_law_472 rfl ?_
  refine g_iconst (v := 2) d_Z_law_473 (by decide) ?_
  refine g_iadd d_Z_law_474 ?_
  refine g_sld (j := 4 * (n + 1) + 2) zL_ex (zL_no hb) (nI_add _ 2) (by omega) (by omega) d_Z_law_475 ?_
  refine g_swap hj' (fun hj2 => ?_)
  refine g_callVF (rest := [.int z]) hj2 cR ok_R_pass lk_Z_73 in_R_pass se_R_pass R.obj rfl d_Z_law_476 rfl rfl (Nat.le_of_ble_eq_true rfl) ⟨by show dR + 1 ≤ 13; omega, by show 37 * dR + 37 ≤ 492; omega⟩ (by show ce + mc + 0 ≤ 600000; omega) (by show sl + ms + 0 ≤ 7302249; omega) (fun o v' hq hj3 => ?_)
  obtain ⟨rfl, R'⟩ := hq
  refine g_eq (st' := [.int z, .int z]) rfl rfl rfl ?_
  refine g_swap hj3 (fun hj4 => ?_)
  refine g_icmp_eq (tgt := 698) d_Z_law_479 (by decide) (fun _ => ?_) (fun q => absurd rfl q)
  rw [← hL']
  exact hk s' d' r' t' L' ad u' v' _ _ C' R' h' hsd' hj4 (by omega) (by omega)
set_option maxHeartbeats 4000000 in
theorem br_crash (hb : b < n0) (hLn : Ln ≤ 2052) (hi : 4 * (n + 1) + 4 ≤ Ln) (C : SysC E K L t u) (R : SysR E ad r v) (h : RS K n s d r t) (hsd : s + d ≤ n) (hj : wdj u v) (hce : ce ≤ 134 + 2 * n) (hsl : sl ≤ 3424 + 403 * n) (hk : Lk E (zL n0 b Ln xs) b n K) : G E y_Z_law (zL n0 b Ln xs) 484 [(3, .int (nI (4 * (n + 1)))), (2, .ref (ad 0)), (1, .ref (L.1 (0, 0, 0))), (0, .ref b)] [] (wj u v) ce sl := by
  refine g_aload_n (j := 2) d_Z_law_484 rfl ?_
  refine g_aload_n (j := 3) d_Z_law_485 rfl ?_
  refine g_iload_n (j := 0) d_Z_law_486 rfl ?_
  refine g_iconst (v := 1) d_Z_law_487 (by decide) ?_
  refine g_iadd d_Z_law_488 ?_
  refine g_sld (j := 4 * (n + 1) + 1) zL_ex (zL_no hb) (nI_add _ 1) (by omega) (by omega) d_Z_law_489 ?_
  obtain ⟨z, s', d', r', t', dL, mc, ms, dR, h', hsd', ⟨b1, b2, b3, b4⟩, cL, cR⟩ := pr_crash C R h hsd (by omega) (xs (4 * (n + 1) + 1))
  refine g_callVF (rest := []) hj cL ok_L_crash lk_Z_74 in_L_crash se_L_crash C.main rfl d_Z_law_490 rfl rfl (Nat.le_of_ble_eq_true rfl) ⟨by show dL + 1 ≤ 13; omega, by show 37 * dL + 37 ≤ 492; omega⟩ (by show ce + mc ≤ 600000; omega) (by show sl + ms ≤ 7302249; omega) (fun o u' hq hj' => ?_)
  obtain ⟨rfl, L', hL', C'⟩ := hq
  refine g_eq (st' := [.int z]) rfl rfl rfl ?_
  refine g_aload_n (j := 1) d_Z_law_493 rfl ?_
  refine g_aload_n (j := 3) d_Z_law_494 rfl ?_
  refine g_iload_n (j := 0) d_Z_law_495 rfl ?_
  refine g_iconst (v := 1) d_Z_law_496 (by decide) ?_
  refine g_iadd d_Z_law_497 ?_
  refine g_sld (j := 4 * (n + 1) + 1) zL_ex (zL_no hb) (nI_add _ 1) (by omega) (by omega) d_Z_law_498 ?_
  refine g_swap hj' (fun hj2 => ?_)
  refine g_callVF (rest := [.int z]) hj2 cR ok_R_crash lk_Z_77 in_R_crash se_R_crash R.obj rfl d_Z_law_499 rfl rfl (Nat.le_of_ble_eq_true rfl) ⟨by show dR + 1 ≤ 13; omega, by show 37 * dR + 37 ≤ 492; omega⟩ (by show ce + mc + 0 ≤ 600000; omega) (by show sl + ms + 0 ≤ 7302249; omega) (fun o v' hq hj3 => ?_)
  obtain ⟨rfl, R'⟩ := hq
  refine g_eq (st' := [.int z, .int z]) rfl rfl rfl ?_
  refine g_swap hj3 (fun hj4 => ?_)
  refine g_icmp_eq (tgt := 698) d_Z_law_502 (by decide) (fun _ => ?_) (fun q => absurd rfl q)
  rw [← hL']
  exact hk s' d' r' t' L' ad u' v' _ _ C' R' h' hsd' hj4 (by omega) (by omega)
set_option maxHeartbeats 4000000 in
theorem br_halt (hb : b < n0) (hLn : Ln ≤ 2052) (hi : 4 * (n + 1) + 4 ≤ Ln) (C : SysC E K L t u) (R : SysR E ad r v) (h : RS K n s d r t) (hsd : s + d ≤ n) (hj : wdj u v) (hce : ce ≤ 134 + 2 * n) (hsl : sl ≤ 3424 + 403 * n) (hk : Lk E (zL n0 b Ln xs) b n K) : G E y_Z_law (zL n0 b Ln xs) 507 [(3, .int (nI (4 * (n + 1)))), (2, .ref (ad 0)), (1, .ref (L.1 (0, 0, 0))), (0, .ref b)] [] (wj u v) ce sl := by
  refine g_aload_n (j := 2) d_Z_law_507 rfl ?_
  obtain ⟨z, s', d', r', t', dL, mc, ms, dR, h', hsd', ⟨b1, b2, b3, b4⟩, cL, cR⟩ := pr_halt C R h hsd (by omega) 
  refine g_callVF (rest := []) hj cL ok_L_halt lk_Z_78 in_L_halt se_L_halt C.main rfl d_Z_law_508 rfl rfl (Nat.le_of_ble_eq_true rfl) ⟨by show dL + 1 ≤ 13; omega, by show 37 * dL + 37 ≤ 492; omega⟩ (by show ce + mc ≤ 600000; omega) (by show sl + ms ≤ 7302249; omega) (fun o u' hq hj' => ?_)
  obtain ⟨rfl, L', hL', C'⟩ := hq
  refine g_eq (st' := [.int z]) rfl rfl rfl ?_
  refine g_aload_n (j := 1) d_Z_law_511 rfl ?_
  refine g_swap hj' (fun hj2 => ?_)
  refine g_callVF (rest := [.int z]) hj2 cR ok_R_halt lk_Z_81 in_R_halt se_R_halt R.obj rfl d_Z_law_512 rfl rfl (Nat.le_of_ble_eq_true rfl) ⟨by show dR + 1 ≤ 13; omega, by show 37 * dR + 37 ≤ 492; omega⟩ (by show ce + mc + 0 ≤ 600000; omega) (by show sl + ms + 0 ≤ 7302249; omega) (fun o v' hq hj3 => ?_)
  obtain ⟨rfl, R'⟩ := hq
  refine g_eq (st' := [.int z, .int z]) rfl rfl rfl ?_
  refine g_swap hj3 (fun hj4 => ?_)
  refine g_icmp_eq (tgt := 698) d_Z_law_515 (by decide) (fun _ => ?_) (fun q => absurd rfl q)
  rw [← hL']
  exact hk s' d' r' t' L' ad u' v' _ _ C' R' h' hsd' hj4 (by omega) (by omega)
set_option maxHeartbeats 4000000 in
theorem br_restart (hb : b < n0) (hLn : Ln ≤ 2052) (hi : 4 * (n + 1) + 4 ≤ Ln) (C : SysC E K L t u) (R : SysR E ad r v) (h : RS K n s d r t) (hsd : s + d ≤ n) (hj : wdj u v) (hce : ce ≤ 134 + 2 * n) (hsl : sl ≤ 3424 + 403 * n) (hk : Lk E (zL n0 b Ln xs) b n K) : G E y_Z_law (zL n0 b Ln xs) 520 [(3, .int (nI (4 * (n + 1)))), (2, .ref (ad 0)), (1, .ref (L.1 (0, 0, 0))), (0, .ref b)] [] (wj u v) ce sl := by
  refine g_aload_n (j := 2) d_Z_law_520 rfl ?_
  obtain ⟨z, s', d', r', t', dL, mc, ms, dR, h', hsd', ⟨b1, b2, b3, b4⟩, cL, cR⟩ := pr_restart C R h hsd (by omega) 
  refine g_callVF (rest := []) hj cL ok_L_restart lk_Z_82 in_L_restart se_L_restart C.main rfl d_Z_law_521 rfl rfl (Nat.le_of_ble_eq_true rfl) ⟨by show dL + 1 ≤ 13; omega, by show 37 * dL + 37 ≤ 492; omega⟩ (by show ce + mc ≤ 600000; omega) (by show sl + ms ≤ 7302249; omega) (fun o u' hq hj' => ?_)
  obtain ⟨rfl, L', hL', C'⟩ := hq
  refine g_eq (st' := [.int z]) rfl rfl rfl ?_
  refine g_aload_n (j := 1) d_Z_law_524 rfl ?_
  refine g_swap hj' (fun hj2 => ?_)
  refine g_callVF (rest := [.int z]) hj2 cR ok_R_restart lk_Z_85 in_R_restart se_R_restart R.obj rfl d_Z_law_525 rfl rfl (Nat.le_of_ble_eq_true rfl) ⟨by show dR + 1 ≤ 13; omega, by show 37 * dR + 37 ≤ 492; omega⟩ (by show ce + mc + 0 ≤ 600000; omega) (by show sl + ms + 0 ≤ 7302249; omega) (fun o v' hq hj3 => ?_)
  obtain ⟨rfl, R'⟩ := hq
  refine g_eq (st' := [.int z, .int z]) rfl rfl rfl ?_
  refine g_swap hj3 (fun hj4 => ?_)
  refine g_icmp_eq (tgt := 698) d_Z_law_528 (by decide) (fun _ => ?_) (fun q => absurd rfl q)
  rw [← hL']
  exact hk s' d' r' t' L' ad u' v' _ _ C' R' h' hsd' hj4 (by omega) (by omega)
end LW
