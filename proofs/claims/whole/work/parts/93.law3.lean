section LW
variable {E : gE} {n0 b Ln n s d ce sl : Nat} {xs : Nat → Int32} {K : kC} {L : lyC} {t : tC} {ad : Nat → Nat} {r : tR} {u v : wd}
set_option maxHeartbeats 4000000 in
theorem br_copy (hb : b < n0) (hLn : Ln ≤ 2052) (hi : 4 * (n + 1) + 4 ≤ Ln) (C : SysC E K L t u) (R : SysR E ad r v) (h : RS K n s d r t) (hsd : s + d ≤ n) (hj : wdj u v) (hce : ce ≤ 134 + 2 * n) (hsl : sl ≤ 3424 + 403 * n) (hk : Lk E (zL n0 b Ln xs) b n K) : G E y_Z_law (zL n0 b Ln xs) 533 [(3, .int (nI (4 * (n + 1)))), (2, .ref (ad 0)), (1, .ref (L.1 (0, 0, 0))), (0, .ref b)] [] (wj u v) ce sl := by
  refine g_aload_n (j := 2) d_Z_law_533 rfl ?_
  refine g_aload_n (j := 3) d_Z_law_534 rfl ?_
  refine g_iload_n (j := 0) d_Z_law_535 rfl ?_
  refine g_iconst (v := 1) d_Z_law_536 (by decide) ?_
  refine g_iadd d_Z_law_537 ?_
  refine g_sld (j := 4 * (n + 1) + 1) zL_ex (zL_no hb) (nI_add _ 1) (by omega) (by omega) d_Z_law_538 ?_
  refine g_aload_n (j := 3) d_Z_law_539 rfl ?_
  refine g_iload_n (j := 0) d_Z_law_540 rfl ?_
  refine g_iconst (v := 2) d_Z_law_541 (by decide) ?_
  refine g_iadd d_Z_law_542 ?_
  refine g_sld (j := 4 * (n + 1) + 2) zL_ex (zL_no hb) (nI_add _ 2) (by omega) (by omega) d_Z_law_543 ?_
  refine g_aload_n (j := 3) d_Z_law_544 rfl ?_
  refine g_iload_n (j := 0) d_Z_law_545 rfl ?_
  refine g_iconst (v := 3) d_Z_law_546 (by decide) ?_
  refine g_iadd d_Z_law_547 ?_
  refine g_sld (j := 4 * (n + 1) + 3) zL_ex (zL_no hb) (nI_add _ 3) (by omega) (by omega) d_Z_law_548 ?_
  obtain ⟨z, s', d', r', t', dL, mc, ms, dR, h', hsd', ⟨b1, b2, b3, b4⟩, cL, cR⟩ := pr_copy C R h hsd (by omega) (xs (4 * (n + 1) + 1)) (xs (4 * (n + 1) + 2)) (xs (4 * (n + 1) + 3))
  refine g_callVF (rest := []) hj cL ok_L_copy lk_Z_86 in_L_copy se_L_copy C.main rfl d_Z_law_549 rfl rfl (Nat.le_of_ble_eq_true rfl) ⟨by show dL + 1 ≤ 13; omega, by show 37 * dL + 37 ≤ 492; omega⟩ (by show ce + mc ≤ 600000; omega) (by show sl + ms ≤ 7302249; omega) (fun o u' hq hj' => ?_)
  obtain ⟨rfl, L', hL', C'⟩ := hq
  refine g_eq (st' := [.int z]) rfl rfl rfl ?_
  refine g_aload_n (j := 1) d_Z_law_552 rfl ?_
  refine g_aload_n (j := 3) d_Z_law_553 rfl ?_
  refine g_iload_n (j := 0) d_Z_law_554 rfl ?_
  refine g_iconst (v := 1) d_Z_law_555 (by decide) ?_
  refine g_iadd d_Z_law_556 ?_
  refine g_sld (j := 4 * (n + 1) + 1) zL_ex (zL_no hb) (nI_add _ 1) (by omega) (by omega) d_Z_law_557 ?_
  refine g_aload_n (j := 3) d_Z_law_558 rfl ?_
  refine g_iload_n (j := 0) d_Z_law_559 rfl ?_
  refine g_iconst (v := 2) d_Z_law_560 (by decide) ?_
  refine g_iadd d_Z_law_561 ?_
  refine g_sld (j := 4 * (n + 1) + 2) zL_ex (zL_no hb) (nI_add _ 2) (by omega) (by omega) d_Z_law_562 ?_
  refine g_aload_n (j := 3) d_Z_law_563 rfl ?_
  refine g_iload_n (j := 0) d_Z_law_564 rfl ?_
  refine g_iconst (v := 3) d_Z_law_565 (by decide) ?_
  refine g_iadd d_Z_law_566 ?_
  refine g_sld (j := 4 * (n + 1) + 3) zL_ex (zL_no hb) (nI_add _ 3) (by omega) (by omega) d_Z_law_567 ?_
  refine g_swap hj' (fun hj2 => ?_)
  refine g_callVF (rest := [.int z]) hj2 cR ok_R_copy lk_Z_89 in_R_copy se_R_copy R.obj rfl d_Z_law_568 rfl rfl (Nat.le_of_ble_eq_true rfl) ⟨by show dR + 1 ≤ 13; omega, by show 37 * dR + 37 ≤ 492; omega⟩ (by show ce + mc + 0 ≤ 600000; omega) (by show sl + ms + 0 ≤ 7302249; omega) (fun o v' hq hj3 => ?_)
  obtain ⟨rfl, R'⟩ := hq
  refine g_eq (st' := [.int z, .int z]) rfl rfl rfl ?_
  refine g_swap hj3 (fun hj4 => ?_)
  refine g_icmp_eq (tgt := 698) d_Z_law_571 (by decide) (fun _ => ?_) (fun q => absurd rfl q)
  rw [← hL']
  exact hk s' d' r' t' L' ad u' v' _ _ C' R' h' hsd' hj4 (by omega) (by omega)
set_option maxHeartbeats 4000000 in
theorem br_lease (hb : b < n0) (hLn : Ln ≤ 2052) (hi : 4 * (n + 1) + 4 ≤ Ln) (C : SysC E K L t u) (R : SysR E ad r v) (h : RS K n s d r t) (hsd : s + d ≤ n) (hj : wdj u v) (hce : ce ≤ 134 + 2 * n) (hsl : sl ≤ 3424 + 403 * n) (hk : Lk E (zL n0 b Ln xs) b n K) : G E y_Z_law (zL n0 b Ln xs) 576 [(3, .int (nI (4 * (n + 1)))), (2, .ref (ad 0)), (1, .ref (L.1 (0, 0, 0))), (0, .ref b)] [] (wj u v) ce sl := by
  refine g_aload_n (j := 2) d_Z_law_576 rfl ?_
  refine g_aload_n (j := 3) d_Z_law_577 rfl ?_
  refine g_iload_n (j := 0) d_Z_law_578 rfl ?_
  refine g_iconst (v := 1) d_Z_law_579 (by decide) ?_
  refine g_iadd d_Z_law_580 ?_
  refine g_sld (j := 4 * (n + 1) + 1) zL_ex (zL_no hb) (nI_add _ 1) (by omega) (by omega) d_Z_law_581 ?_
  refine g_aload_n (j := 3) d_Z_law_582 rfl ?_
  refine g_iload_n (j := 0) d_Z_law_583 rfl ?_
  refine g_iconst (v := 2) d_Z_law_584 (by decide) ?_
  refine g_iadd d_Z_law_585 ?_
  refine g_sld (j := 4 * (n + 1) + 2) zL_ex (zL_no hb) (nI_add _ 2) (by omega) (by omega) d_Z_law_586 ?_
  obtain ⟨z, s', d', r', t', dL, mc, ms, dR, h', hsd', ⟨b1, b2, b3, b4⟩, cL, cR⟩ := pr_lease C R h hsd (by omega) (xs (4 * (n + 1) + 1)) (xs (4 * (n + 1) + 2))
  refine g_callVF (rest := []) hj cL ok_L_lease lk_Z_90 in_L_lease se_L_lease C.main rfl d_Z_law_587 rfl rfl (Nat.le_of_ble_eq_true rfl) ⟨by show dL + 1 ≤ 13; omega, by show 37 * dL + 37 ≤ 492; omega⟩ (by show ce + mc ≤ 600000; omega) (by show sl + ms ≤ 7302249; omega) (fun o u' hq hj' => ?_)
  obtain ⟨rfl, L', hL', C'⟩ := hq
  refine g_eq (st' := [.int z]) rfl rfl rfl ?_
  refine g_aload_n (j := 1) d_Z_law_590 rfl ?_
  refine g_aload_n (j := 3) d_Z_law_591 rfl ?_
  refine g_iload_n (j := 0) d_Z_law_592 rfl ?_
  refine g_iconst (v := 1) d_Z_law_593 (by decide) ?_
  refine g_iadd d_Z_law_594 ?_
  refine g_sld (j := 4 * (n + 1) + 1) zL_ex (zL_no hb) (nI_add _ 1) (by omega) (by omega) d_Z_law_595 ?_
  refine g_aload_n (j := 3) d_Z_law_596 rfl ?_
  refine g_iload_n (j := 0) d_Z_law_597 rfl ?_
  refine g_iconst (v := 2) d_Z_law_598 (by decide) ?_
  refine g_iadd d_Z_law_599 ?_
  refine g_sld (j := 4 * (n + 1) + 2) zL_ex (zL_no hb) (nI_add _ 2) (by omega) (by omega) d_Z_law_600 ?_
  refine g_swap hj' (fun hj2 => ?_)
  refine g_callVF (rest := [.int z]) hj2 cR ok_R_lease lk_Z_93 in_R_lease se_R_lease R.obj rfl d_Z_law_601 rfl rfl (Nat.le_of_ble_eq_true rfl) ⟨by show dR + 1 ≤ 13; omega, by show 37 * dR + 37 ≤ 492; omega⟩ (by show ce + mc + 0 ≤ 600000; omega) (by show sl + ms + 0 ≤ 7302249; omega) (fun o v' hq hj3 => ?_)
  obtain ⟨rfl, R'⟩ := hq
  refine g_eq (st' := [.int z, .int z]) rfl rfl rfl ?_
  refine g_swap hj3 (fun hj4 => ?_)
  refine g_icmp_eq (tgt := 698) d_Z_law_604 (by decide) (fun _ => ?_) (fun q => absurd rfl q)
  rw [← hL']
  exact hk s' d' r' t' L' ad u' v' _ _ C' R' h' hsd' hj4 (by omega) (by omega)
set_option maxHeartbeats 4000000 in
theorem br_file (hb : b < n0) (hLn : Ln ≤ 2052) (hi : 4 * (n + 1) + 4 ≤ Ln) (C : SysC E K L t u) (R : SysR E ad r v) (h : RS K n s d r t) (hsd : s + d ≤ n) (hj : wdj u v) (hce : ce ≤ 134 + 2 * n) (hsl : sl ≤ 3424 + 403 * n) (hk : Lk E (zL n0 b Ln xs) b n K) : G E y_Z_law (zL n0 b Ln xs) 609 [(3, .int (nI (4 * (n + 1)))), (2, .ref (ad 0)), (1, .ref (L.1 (0, 0, 0))), (0, .ref b)] [] (wj u v) ce sl := by
  refine g_aload_n (j := 2) d_Z_law_609 rfl ?_
  refine g_aload_n (j := 3) d_Z_law_610 rfl ?_
  refine g_iload_n (j := 0) d_Z_law_611 rfl ?_
  refine g_iconst (v := 1) d_Z_law_612 (by decide) ?_
  refine g_iadd d_Z_law_613 ?_
  refine g_sld (j := 4 * (n + 1) + 1) zL_ex (zL_no hb) (nI_add _ 1) (by omega) (by omega) d_Z_law_614 ?_
  refine g_aload_n (j := 3) d_Z_law_615 rfl ?_
  refine g_iload_n (j := 0) d_Z_law_616 rfl ?_
  refine g_iconst (v := 2) d_Z_law_617 (by decide) ?_
  refine g_iadd d_Z_law_618 ?_
  refine g_sld (j := 4 * (n + 1) + 2) zL_ex (zL_no hb) (nI_add _ 2) (by omega) (by omega) d_Z_law_619 ?_
  obtain ⟨z, s', d', r', t', dL, mc, ms, dR, h', hsd', ⟨b1, b2, b3, b4⟩, cL, cR⟩ := pr_file C R h hsd (by omega) (xs (4 * (n + 1) + 1)) (xs (4 * (n + 1) + 2))
  refine g_callVF (rest := []) hj cL ok_L_file lk_Z_94 in_L_file se_L_file C.main rfl d_Z_law_620 rfl rfl (Nat.le_of_ble_eq_true rfl) ⟨by show dL + 1 ≤ 13; omega, by show 37 * dL + 37 ≤ 492; omega⟩ (by show ce + mc ≤ 600000; omega) (by show sl + ms ≤ 7302249; omega) (fun o u' hq hj' => ?_)
  obtain ⟨rfl, L', hL', C'⟩ := hq
  refine g_eq (st' := [.int z]) rfl rfl rfl ?_
  refine g_aload_n (j := 1) d_Z_law_623 rfl ?_
  refine g_aload_n (j := 3) d_Z_law_624 rfl ?_
  refine g_iload_n (j := 0) d_Z_law_625 rfl ?_
  refine g_iconst (v := 1) d_Z_law_626 (by decide) ?_
  refine g_iadd d_Z_law_627 ?_
  refine g_sld (j := 4 * (n + 1) + 1) zL_ex (zL_no hb) (nI_add _ 1) (by omega) (by omega) d_Z_law_628 ?_
  refine g_aload_n (j := 3) d_Z_law_629 rfl ?_
  refine g_iload_n (j := 0) d_Z_law_630 rfl ?_
  refine g_iconst (v := 2) d_Z_law_631 (by decide) ?_
  refine g_iadd d_Z_law_632 ?_
  refine g_sld (j := 4 * (n + 1) + 2) zL_ex (zL_no hb) (nI_add _ 2) (by omega) (by omega) d_Z_law_633 ?_
  refine g_swap hj' (fun hj2 => ?_)
  refine g_callVF (rest := [.int z]) hj2 cR ok_R_file lk_Z_97 in_R_file se_R_file R.obj rfl d_Z_law_634 rfl rfl (Nat.le_of_ble_eq_true rfl) ⟨by show dR + 1 ≤ 13; omega, by show 37 * dR + 37 ≤ 492; omega⟩ (by show ce + mc + 0 ≤ 600000; omega) (by show sl + ms + 0 ≤ 7302249; omega) (fun o v' hq hj3 => ?_)
  obtain ⟨rfl, R'⟩ := hq
  refine g_eq (st' := [.int z, .int z]) rfl rfl rfl ?_
  refine g_swap hj3 (fun hj4 => ?_)
  refine g_icmp_eq (tgt := 698) d_Z_law_637 (by decide) (fun _ => ?_) (fun q => absurd rfl q)
  rw [← hL']
  exact hk s' d' r' t' L' ad u' v' _ _ C' R' h' hsd' hj4 (by omega) (by omega)
set_option maxHeartbeats 4000000 in
theorem br_server (hb : b < n0) (hLn : Ln ≤ 2052) (hi : 4 * (n + 1) + 4 ≤ Ln) (C : SysC E K L t u) (R : SysR E ad r v) (h : RS K n s d r t) (hsd : s + d ≤ n) (hj : wdj u v) (hce : ce ≤ 134 + 2 * n) (hsl : sl ≤ 3424 + 403 * n) (hk : Lk E (zL n0 b Ln xs) b n K) : G E y_Z_law (zL n0 b Ln xs) 642 [(3, .int (nI (4 * (n + 1)))), (2, .ref (ad 0)), (1, .ref (L.1 (0, 0, 0))), (0, .ref b)] [] (wj u v) ce sl := by
  refine g_aload_n (j := 2) d_Z_law_642 rfl ?_
  refine g_aload_n (j := 3) d_Z_law_643 rfl ?_
  refine g_iload_n (j := 0) d_Z_law_644 rfl ?_
  refine g_iconst (v := 1) d_Z_law_645 (by decide) ?_
  refine g_iadd d_Z_law_646 ?_
  refine g_sld (j := 4 * (n + 1) + 1) zL_ex (zL_no hb) (nI_add _ 1) (by omega) (by omega) d_Z_law_647 ?_
  obtain ⟨z, s', d', r', t', dL, mc, ms, dR, h', hsd', ⟨b1, b2, b3, b4⟩, cL, cR⟩ := pr_server C R h hsd (by omega) (xs (4 * (n + 1) + 1))
  refine g_callVF (rest := []) hj cL ok_L_server lk_Z_98 in_L_server se_L_server C.main rfl d_Z_law_648 rfl rfl (Nat.le_of_ble_eq_true rfl) ⟨by show dL + 1 ≤ 13; omega, by show 37 * dL + 37 ≤ 492; omega⟩ (by show ce + mc ≤ 600000; omega) (by show sl + ms ≤ 7302249; omega) (fun o u' hq hj' => ?_)
  obtain ⟨rfl, L', hL', C'⟩ := hq
  refine g_eq (st' := [.int z]) rfl rfl rfl ?_
  refine g_aload_n (j := 1) d_Z_law_651 rfl ?_
  refine g_aload_n (j := 3) d_Z_law_652 rfl ?_
  refine g_iload_n (j := 0) d_Z_law_653 rfl ?_
  refine g_iconst (v := 1) d_Z_law_654 (by decide) ?_
  refine g_iadd d_Z_law_655 ?_
  refine g_sld (j := 4 * (n + 1) + 1) zL_ex (zL_no hb) (nI_add _ 1) (by omega) (by omega) d_Z_law_656 ?_
  refine g_swap hj' (fun hj2 => ?_)
  refine g_callVF (rest := [.int z]) hj2 cR ok_R_server lk_Z_101 in_R_server se_R_server R.obj rfl d_Z_law_657 rfl rfl (Nat.le_of_ble_eq_true rfl) ⟨by show dR + 1 ≤ 13; omega, by show 37 * dR + 37 ≤ 492; omega⟩ (by show ce + mc + 0 ≤ 600000; omega) (by show sl + ms + 0 ≤ 7302249; omega) (fun o v' hq hj3 => ?_)
  obtain ⟨rfl, R'⟩ := hq
  refine g_eq (st' := [.int z, .int z]) rfl rfl rfl ?_
  refine g_swap hj3 (fun hj4 => ?_)
  refine g_icmp_eq (tgt := 698) d_Z_law_660 (by decide) (fun _ => ?_) (fun q => absurd rfl q)
  rw [← hL']
  exact hk s' d' r' t' L' ad u' v' _ _ C' R' h' hsd' hj4 (by omega) (by omega)
set_option maxHeartbeats 4000000 in
theorem br_client (hb : b < n0) (hLn : Ln ≤ 2052) (hi : 4 * (n + 1) + 4 ≤ Ln) (C : SysC E K L t u) (R : SysR E ad r v) (h : RS K n s d r t) (hsd : s + d ≤ n) (hj : wdj u v) (hce : ce ≤ 134 + 2 * n) (hsl : sl ≤ 3424 + 403 * n) (hk : Lk E (zL n0 b Ln xs) b n K) : G E y_Z_law (zL n0 b Ln xs) 665 [(3, .int (nI (4 * (n + 1)))), (2, .ref (ad 0)), (1, .ref (L.1 (0, 0, 0))), (0, .ref b)] [] (wj u v) ce sl := by
  refine g_aload_n (j := 2) d_Z_law_665 rfl ?_
  refine g_aload_n (j := 3) d_Z_law_666 rfl ?_
  refine g_iload_n (j := 0) d_Z_law_667 rfl ?_
  refine g_iconst (v := 1) d_Z_law_668 (by decide) ?_
  refine g_iadd d_Z_law_669 ?_
  refine g_sld (j := 4 * (n + 1) + 1) zL_ex (zL_no hb) (nI_add _ 1) (by omega) (by omega) d_Z_law_670 ?_
  refine g_aload_n (j := 3) d_Z_law_671 rfl ?_
  refine g_iload_n (j := 0) d_Z_law_672 rfl ?_
  refine g_iconst (v := 2) d_Z_law_673 (by decide) ?_
  refine g_iadd d_Z_law_674 ?_
  refine g_sld (j := 4 * (n + 1) + 2) zL_ex (zL_no hb) (nI_add _ 2) (by omega) (by omega) d_Z_law_675 ?_
  obtain ⟨z, s', d', r', t', dL, mc, ms, dR, h', hsd', ⟨b1, b2, b3, b4⟩, cL, cR⟩ := pr_client C R h hsd (by omega) (xs (4 * (n + 1) + 1)) (xs (4 * (n + 1) + 2))
  refine g_callVF (rest := []) hj cL ok_L_client lk_Z_102 in_L_client se_L_client C.main rfl d_Z_law_676 rfl rfl (Nat.le_of_ble_eq_true rfl) ⟨by show dL + 1 ≤ 13; omega, by show 37 * dL + 37 ≤ 492; omega⟩ (by show ce + mc ≤ 600000; omega) (by show sl + ms ≤ 7302249; omega) (fun o u' hq hj' => ?_)
  obtain ⟨rfl, L', hL', C'⟩ := hq
  refine g_eq (st' := [.int z]) rfl rfl rfl ?_
  refine g_aload_n (j := 1) d_Z_law_679 rfl ?_
  refine g_aload_n (j := 3) d_Z_law_680 rfl ?_
  refine g_iload_n (j := 0) d_Z_law_681 rfl ?_
  refine g_iconst (v := 1) d_Z_law_682 (by decide) ?_
  refine g_iadd d_Z_law_683 ?_
  refine g_sld (j := 4 * (n + 1) + 1) zL_ex (zL_no hb) (nI_add _ 1) (by omega) (by omega) d_Z_law_684 ?_
  refine g_aload_n (j := 3) d_Z_law_685 rfl ?_
  refine g_iload_n (j := 0) d_Z_law_686 rfl ?_
  refine g_iconst (v := 2) d_Z_law_687 (by decide) ?_
  refine g_iadd d_Z_law_688 ?_
  refine g_sld (j := 4 * (n + 1) + 2) zL_ex (zL_no hb) (nI_add _ 2) (by omega) (by omega) d_Z_law_689 ?_
  refine g_swap hj' (fun hj2 => ?_)
  refine g_callVF (rest := [.int z]) hj2 cR ok_R_client lk_Z_105 in_R_client se_R_client R.obj rfl d_Z_law_690 rfl rfl (Nat.le_of_ble_eq_true rfl) ⟨by show dR + 1 ≤ 13; omega, by show 37 * dR + 37 ≤ 492; omega⟩ (by show ce + mc + 0 ≤ 600000; omega) (by show sl + ms + 0 ≤ 7302249; omega) (fun o v' hq hj3 => ?_)
  obtain ⟨rfl, R'⟩ := hq
  refine g_eq (st' := [.int z, .int z]) rfl rfl rfl ?_
  refine g_swap hj3 (fun hj4 => ?_)
  refine g_icmp_eq (tgt := 698) d_Z_law_693 (by decide) (fun _ => ?_) (fun q => absurd rfl q)
  rw [← hL']
  exact hk s' d' r' t' L' ad u' v' _ _ C' R' h' hsd' hj4 (by omega) (by omega)
end LW
