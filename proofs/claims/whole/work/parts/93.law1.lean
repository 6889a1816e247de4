section LW
variable {E : gE} {n0 b Ln n s d ce sl : Nat} {xs : Nat → Int32} {K : kC} {L : lyC} {t : tC} {ad : Nat → Nat} {r : tR} {u v : wd}
set_option maxHeartbeats 4000000 in
theorem br_version (hb : b < n0) (hLn : Ln ≤ 2052) (hi : 4 * (n + 1) + 4 ≤ Ln) (C : SysC E K L t u) (R : SysR E ad r v) (h : RS K n s d r t) (hsd : s + d ≤ n) (hj : wdj u v) (hce : ce ≤ 134 + 2 * n) (hsl : sl ≤ 3424 + 403 * n) (hk : Lk E (zL n0 b Ln xs) b n K) : G E y_Z_law (zL n0 b Ln xs) 313 [(3, .int (nI (4 * (n + 1)))), (2, .ref (ad 0)), (1, .ref (L.1 (0, 0, 0))), (0, .ref b)] [] (wj u v) ce sl := by
  refine g_aload_n (j := 2) d_Z_law_313 rfl ?_
  refine g_aload_n (j := 3) d_Z_law_314 rfl ?_
  refine g_iload_n (j := 0) d_Z_law_315 rfl ?_
  refine g_iconst (v := 1) d_Z_law_316 (by decide) ?_
  refine g_iadd d_Z_law_317 ?_
  refine g_sld (j := 4 * (n + 1) + 1) zL_ex (zL_no hb) (nI_add _ 1) (by omega) (by omega) d_Z_law_318 ?_
  obtain ⟨z, s', d', r', t', dL, mc, ms, dR, h', hsd', ⟨b1, b2, b3, b4⟩, cL, cR⟩ := pr_version C R h hsd (by omega) (xs (4 * (n + 1) + 1))
  refine g_callVF (rest := []) hj cL ok_L_version lk_Z_44 in_L_version se_L_version C.main rfl d_Z_law_319 rfl rfl (Nat.le_of_ble_eq_true rfl) ⟨by show dL + 1 ≤ 13; omega, by show 37 * dL + 37 ≤ 492; omega⟩ (by show ce + mc ≤ 600000; omega) (by show sl + ms ≤ 7302249; omega) (fun o u' hq hj' => ?_)
  obtain ⟨rfl, L', hL', C'⟩ := hq
  refine g_eq (st' := [.int z]) rfl rfl rfl ?_
  refine g_aload_n (j := 1) d_Z_law_322 rfl ?_
  refine g_aload_n (j := 3) d_Z_law_323 rfl ?_
  refine g_iload_n (j := 0) d_Z_law_324 rfl ?_
  refine g_iconst (v := 1) d_Z_law_325 (by decide) ?_
  refine g_iadd d_Z_law_326 ?_
  refine g_sld (j := 4 * (n + 1) + 1) zL_ex (zL_no hb) (nI_add _ 1) (by omega) (by omega) d_Z_law_327 ?_
  refine g_swap hj' (fun hj2 => ?_)
  refine g_callVF (rest := [.int z]) hj2 cR ok_R_version lk_Z_47 in_R_version se_R_version R.obj rfl d_Z_law_328 rfl rfl (Nat.le_of_ble_eq_true rfl) ⟨by show dR + 1 ≤ 13; omega, by show 37 * dR + 37 ≤ 492; omega⟩ (by show ce + mc + 0 ≤ 600000; omega) (by show sl + ms + 0 ≤ 7302249; omega) (fun o v' hq hj3 => ?_)
  obtain ⟨rfl, R'⟩ := hq
  refine g_eq (st' := [.int z, .int z]) rfl rfl rfl ?_
  refine g_swap hj3 (fun hj4 => ?_)
  refine g_icmp_eq (tgt := 698) d_Z_law_331 (by decide) (fun _ => ?_) (fun q => absurd rfl q)
  rw [← hL']
  exact hk s' d' r' t' L' ad u' v' _ _ C' R' h' hsd' hj4 (by omega) (by omega)
set_option maxHeartbeats 4000000 in
theorem br_deliver (hb : b < n0) (hLn : Ln ≤ 2052) (hi : 4 * (n + 1) + 4 ≤ Ln) (C : SysC E K L t u) (R : SysR E ad r v) (h : RS K n s d r t) (hsd : s + d ≤ n) (hj : wdj u v) (hce : ce ≤ 134 + 2 * n) (hsl : sl ≤ 3424 + 403 * n) (hk : Lk E (zL n0 b Ln xs) b n K) : G E y_Z_law (zL n0 b Ln xs) 336 [(3, .int (nI (4 * (n + 1)))), (2, .ref (ad 0)), (1, .ref (L.1 (0, 0, 0))), (0, .ref b)] [] (wj u v) ce sl := by
  refine g_aload_n (j := 2) d_Z_law_336 rfl ?_
  refine g_aload_n (j := 3) d_Z_law_337 rfl ?_
  refine g_iload_n (j := 0) d_Z_law_338 rfl ?_
  refine g_iconst (v := 1) d_Z_law_339 (by decide) ?_
  refine g_iadd d_Z_law_340 ?_
  refine g_sld (j := 4 * (n + 1) + 1) zL_ex (zL_no hb) (nI_add _ 1) (by omega) (by omega) d_Z_law_341 ?_
  obtain ⟨z, s', d', r', t', dL, mc, ms, dR, h', hsd', ⟨b1, b2, b3, b4⟩, cL, cR⟩ := pr_deliver C R h hsd (by omega) (xs (4 * (n + 1) + 1))
  refine g_callVF (rest := []) hj cL ok_L_deliver lk_Z_48 in_L_deliver se_L_deliver C.main rfl d_Z_law_342 rfl rfl (Nat.le_of_ble_eq_true rfl) ⟨by show dL + 1 ≤ 13; omega, by show 37 * dL + 37 ≤ 492; omega⟩ (by show ce + mc ≤ 600000; omega) (by show sl + ms ≤ 7302249; omega) (fun o u' hq hj' => ?_)
  obtain ⟨rfl, L', hL', C'⟩ := hq
  refine g_eq (st' := [.int z]) rfl rfl rfl ?_
  refine g_aload_n (j := 1) d_Z_law_345 rfl ?_
  refine g_aload_n (j := 3) d_Z_law_346 rfl ?_
  refine g_iload_n (j := 0) d_Z_law_347 rfl ?_
  refine g_iconst (v := 1) d_Z_law_348 (by decide) ?_
  refine g_iadd d_Z_law_349 ?_
  refine g_sld (j := 4 * (n + 1) + 1) zL_ex (zL_no hb) (nI_add _ 1) (by omega) (by omega) d_Z_law_350 ?_
  refine g_swap hj' (fun hj2 => ?_)
  refine g_callVF (rest := [.int z]) hj2 cR ok_R_deliver lk_Z_51 in_R_deliver se_R_deliver R.obj rfl d_Z_law_351 rfl rfl (Nat.le_of_ble_eq_true rfl) ⟨by show dR + 1 ≤ 13; omega, by show 37 * dR + 37 ≤ 492; omega⟩ (by show ce + mc + 0 ≤ 600000; omega) (by show sl + ms + 0 ≤ 7302249; omega) (fun o v' hq hj3 => ?_)
  obtain ⟨rfl, R'⟩ := hq
  refine g_eq (st' := [.int z, .int z]) rfl rfl rfl ?_
  refine g_swap hj3 (fun hj4 => ?_)
  refine g_icmp_eq (tgt := 698) d_Z_law_354 (by decide) (fun _ => ?_) (fun q => absurd rfl q)
  rw [← hL']
  exact hk s' d' r' t' L' ad u' v' _ _ C' R' h' hsd' hj4 (by omega) (by omega)
set_option maxHeartbeats 4000000 in
theorem br_lose (hb : b < n0) (hLn : Ln ≤ 2052) (hi : 4 * (n + 1) + 4 ≤ Ln) (C : SysC E K L t u) (R : SysR E ad r v) (h : RS K n s d r t) (hsd : s + d ≤ n) (hj : wdj u v) (hce : ce ≤ 134 + 2 * n) (hsl : sl ≤ 3424 + 403 * n) (hk : Lk E (zL n0 b Ln xs) b n K) : G E y_Z_law (zL n0 b Ln xs) 359 [(3, .int (nI (4 * (n + 1)))), (2, .ref (ad 0)), (1, .ref (L.1 (0, 0, 0))), (0, .ref b)] [] (wj u v) ce sl := by
  refine g_aload_n (j := 2) d_Z_law_359 rfl ?_
  refine g_aload_n (j := 3) d_Z_law_360 rfl ?_
  refine g_iload_n (j := 0) d_Z_law_361 rfl ?_
  refine g_iconst (v := 1) d_Z_law_362 (by decide) ?_
  refine g_iadd d_Z_law_363 ?_
  refine g_sld (j := 4 * (n + 1) + 1) zL_ex (zL_no hb) (nI_add _ 1) (by omega) (by omega) d_Z_law_364 ?_
  obtain ⟨z, s', d', r', t', dL, mc, ms, dR, h', hsd', ⟨b1, b2, b3, b4⟩, cL, cR⟩ := pr_lose C R h hsd (by omega) (xs (4 * (n + 1) + 1))
  refine g_callVF (rest := []) hj cL ok_L_lose lk_Z_52 in_L_lose se_L_lose C.main rfl d_Z_law_365 rfl rfl (Nat.le_of_ble_eq_true rfl) ⟨by show dL + 1 ≤ 13; omega, by show 37 * dL + 37 ≤ 492; omega⟩ (by show ce + mc ≤ 600000; omega) (by show sl + ms ≤ 7302249; omega) (fun o u' hq hj' => ?_)
  obtain ⟨rfl, L', hL', C'⟩ := hq
  refine g_eq (st' := [.int z]) rfl rfl rfl ?_
  refine g_aload_n (j := 1) d_Z_law_368 rfl ?_
  refine g_aload_n (j := 3) d_Z_law_369 rfl ?_
  refine g_iload_n (j := 0) d_Z_law_370 rfl ?_
  refine g_iconst (v := 1) d_Z_law_371 (by decide) ?_
  refine g_iadd d_Z_law_372 ?_
  refine g_sld (j := 4 * (n + 1) + 1) zL_ex (zL_no hb) (nI_add _ 1) (by omega) (by omega) d_Z_law_373 ?_
  refine g_swap hj' (fun hj2 => ?_)
  refine g_callVF (rest := [.int z]) hj2 cR ok_R_lose lk_Z_56 in_R_lose se_R_lose R.obj rfl d_Z_law_374 rfl rfl (Nat.le_of_ble_eq_true rfl) ⟨by show dR + 1 ≤ 13; omega, by show 37 * dR + 37 ≤ 492; omega⟩ (by show ce + mc + 0 ≤ 600000; omega) (by show sl + ms + 0 ≤ 7302249; omega) (fun o v' hq hj3 => ?_)
  obtain ⟨rfl, R'⟩ := hq
  refine g_eq (st' := [.int z, .int z]) rfl rfl rfl ?_
  refine g_swap hj3 (fun hj4 => ?_)
  refine g_icmp_eq (tgt := 698) d_Z_law_377 (by decide) (fun _ => ?_) (fun q => absurd rfl q)
  rw [← hL']
  exact hk s' d' r' t' L' ad u' v' _ _ C' R' h' hsd' hj4 (by omega) (by omega)
set_option maxHeartbeats 4000000 in
theorem br_pending (hb : b < n0) (hLn : Ln ≤ 2052) (hi : 4 * (n + 1) + 4 ≤ Ln) (C : SysC E K L t u) (R : SysR E ad r v) (h : RS K n s d r t) (hsd : s + d ≤ n) (hj : wdj u v) (hce : ce ≤ 134 + 2 * n) (hsl : sl ≤ 3424 + 403 * n) (hk : Lk E (zL n0 b Ln xs) b n K) : G E y_Z_law (zL n0 b Ln xs) 382 [(3, .int (nI (4 * (n + 1)))), (2, .ref (ad 0)), (1, .ref (L.1 (0, 0, 0))), (0, .ref b)] [] (wj u v) ce sl := by
  refine g_aload_n (j := 2) d_Z_law_382 rfl ?_
  obtain ⟨z, s', d', r', t', dL, mc, ms, dR, h', hsd', ⟨b1, b2, b3, b4⟩, cL, cR⟩ := pr_pending C R h hsd (by omega) 
  refine g_callVF (rest := []) hj cL ok_L_pending lk_Z_57 in_L_pending se_L_pending C.main rfl d_Z_law_383 rfl rfl (Nat.le_of_ble_eq_true rfl) ⟨by show dL + 1 ≤ 13; omega, by show 37 * dL + 37 ≤ 492; omega⟩ (by show ce + mc ≤ 600000; omega) (by show sl + ms ≤ 7302249; omega) (fun o u' hq hj' => ?_)
  obtain ⟨rfl, L', hL', C'⟩ := hq
  refine g_eq (st' := [.int z]) rfl rfl rfl ?_
  refine g_aload_n (j := 1) d_Z_law_386 rfl ?_
  refine g_swap hj' (fun hj2 => ?_)
  refine g_callVF (rest := [.int z]) hj2 cR ok_R_pending lk_Z_61 in_R_pending se_R_pending R.obj rfl d_Z_law_387 rfl rfl (Nat.le_of_ble_eq_true rfl) ⟨by show dR + 1 ≤ 13; omega, by show 37 * dR + 37 ≤ 492; omega⟩ (by show ce + mc + 0 ≤ 600000; omega) (by show sl + ms + 0 ≤ 7302249; omega) (fun o v' hq hj3 => ?_)
  obtain ⟨rfl, R'⟩ := hq
  refine g_eq (st' := [.int z, .int z]) rfl rfl rfl ?_
  refine g_swap hj3 (fun hj4 => ?_)
  refine g_icmp_eq (tgt := 698) d_Z_law_390 (by decide) (fun _ => ?_) (fun q => absurd rfl q)
  rw [← hL']
  exact hk s' d' r' t' L' ad u' v' _ _ C' R' h' hsd' hj4 (by omega) (by omega)
set_option maxHeartbeats 4000000 in
theorem br_message (hb : b < n0) (hLn : Ln ≤ 2052) (hi : 4 * (n + 1) + 4 ≤ Ln) (C : SysC E K L t u) (R : SysR E ad r v) (h : RS K n s d r t) (hsd : s + d ≤ n) (hj : wdj u v) (hce : ce ≤ 134 + 2 * n) (hsl : sl ≤ 3424 + 403 * n) (hk : Lk E (zL n0 b Ln xs) b n K) : G E y_Z_law (zL n0 b Ln xs) 395 [(3, .int (nI (4 * (n + 1)))), (2, .ref (ad 0)), (1, .ref (L.1 (0, 0, 0))), (0, .ref b)] [] (wj u v) ce sl := by
  refine g_aload_n (j := 2) d_Z_law_395 rfl ?_
  refine g_aload_n (j := 3) d_Z_law_396 rfl ?_
  refine g_iload_n (j := 0) d_Z_law_397 rfl ?_
  refine g_iconst (v := 1) d_Z_law_398 (by decide) ?_
  refine g_iadd d_Z_law_399 ?_
  refine g_sld (j := 4 * (n + 1) + 1) zL_ex (zL_no hb) (nI_add _ 1) (by omega) (by omega) d_Z_law_400 ?_
  refine g_aload_n (j := 3) d_Z_law_401 rfl ?_
  refine g_iload_n (j := 0) d_Z_law_402 rfl ?_
  refine g_iconst (v := 2) d_Z_law_403 (by decide) ?_
  refine g_iadd d_Z_law_404 ?_
  refine g_sld (j := 4 * (n + 1) + 2) zL_ex (zL_no hb) (nI_add _ 2) (by omega) (by omega) d_Z_law_405 ?_
  obtain ⟨z, s', d', r', t', dL, mc, ms, dR, h', hsd', ⟨b1, b2, b3, b4⟩, cL, cR⟩ := pr_message C R h hsd (by omega) (xs (4 * (n + 1) + 1)) (xs (4 * (n + 1) + 2))
  refine g_callVF (rest := []) hj cL ok_L_message lk_Z_62 in_L_message se_L_message C.main rfl d_Z_law_406 rfl rfl (Nat.le_of_ble_eq_true rfl) ⟨by show dL + 1 ≤ 13; omega, by show 37 * dL + 37 ≤ 492; omega⟩ (by show ce + mc ≤ 600000; omega) (by show sl + ms ≤ 7302249; omega) (fun o u' hq hj' => ?_)
  obtain ⟨rfl, L', hL', C'⟩ := hq
  refine g_eq (st' := [.int z]) rfl rfl rfl ?_
  refine g_aload_n (j := 1) d_Z_law_409 rfl ?_
  refine g_aload_n (j := 3) d_Z_law_410 rfl ?_
  refine g_iload_n (j := 0) d_Z_law_411 rfl ?_
  refine g_iconst (v := 1) d_Z_law_412 (by decide) ?_
  refine g_iadd d_Z_law_413 ?_
  refine g_sld (j := 4 * (n + 1) + 1) zL_ex (zL_no hb) (nI_add _ 1) (by omega) (by omega) d_Z_law_414 ?_
  refine g_aload_n (j := 3) d_Z_law_415 rfl ?_
  refine g_iload_n (j := 0) d_Z_law_416 rfl ?_
  refine g_iconst (v := 2) d_Z_law_417 (by decide) ?_
  refine g_iadd d_Z_law_418 ?_
  refine g_sld (j := 4 * (n + 1) + 2) zL_ex (zL_no hb) (nI_add _ 2) (by omega) (by omega) d_Z_law_419 ?_
  refine g_swap hj' (fun hj2 => ?_)
  refine g_callVF (rest := [.int z]) hj2 cR ok_R_message lk_Z_65 in_R_message se_R_message R.obj rfl d_Z_law_420 rfl rfl (Nat.le_of_ble_eq_true rfl) ⟨by show dR + 1 ≤ 13; omega, by show 37 * dR + 37 ≤ 492; omega⟩ (by show ce + mc + 0 ≤ 600000; omega) (by show sl + ms + 0 ≤ 7302249; omega) (fun o v' hq hj3 => ?_)
  obtain ⟨rfl, R'⟩ := hq
  refine g_eq (st' := [.int z, .int z]) rfl rfl rfl ?_
  refine g_swap hj3 (fun hj4 => ?_)
  refine g_icmp_eq (tgt := 698) d_Z_law_423 (by decide) (fun _ => ?_) (fun q => absurd rfl q)
  rw [← hL']
  exact hk s' d' r' t' L' ad u' v' _ _ C' R' h' hsd' hj4 (by omega) (by omega)
end LW
