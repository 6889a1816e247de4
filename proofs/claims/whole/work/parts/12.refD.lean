set_option maxHeartbeats 4000000 in
set_option maxRecDepth 100000 in
theorem c_R_read_bad {E : gE} {w : wd} {ad : Nat → Nat} {t : tR} (hs : SysR E ad t w) (x y : Int32) (hbad : s_R_isClient t x = 0 ∨ s_R_isFile t y = 0) : Cn E y_R_read 3 0 0 [.ref (ad 0), .int x, .int y] w (fun r w' => r = some (.int (-1)) ∧ w' = w) := by
  refine Cn.of (by decide) (Nat.le_of_ble_eq_true rfl) (fun A => ?_)
  show G E y_R_read _ 0 [(0, .ref (ad 0)), (1, .int x), (2, .int y)] [] w 0 0
  refine g_aload_n (j := 0) d_R_read_0 rfl ?_
  refine g_iload_n (j := 1) d_R_read_1 rfl ?_
  refine g_callV (c_R_isClient hs x) ok_R_isClient lk_R_103 in_R_isClient se_R_isClient hs.obj rfl d_R_read_2 rfl rfl (Nat.le_of_ble_eq_true rfl) ⟨(Nat.le_of_ble_eq_true rfl), (Nat.le_of_ble_eq_true rfl)⟩ (Nat.le_of_ble_eq_true rfl) (Nat.le_of_ble_eq_true rfl) (fun r w' hq => ?_)
  obtain ⟨rfl, rfl⟩ := hq
  refine g_if_eq (tgt := 16) d_R_read_5 (by decide) (fun h1 => ?_) (fun h1 => ?_)
  · skip
    refine g_iconst (v := (-1)) d_R_read_16 (by decide) ?_
    exact g_ireturn d_R_read_17 rfl (Nat.le_of_ble_eq_true rfl) (Nat.le_of_ble_eq_true rfl) ⟨rfl, rfl⟩
  · skip
    refine g_aload_n (j := 0) d_R_read_8 rfl ?_
    refine g_iload_n (j := 2) d_R_read_9 rfl ?_
    refine g_callV (c_R_isFile hs y) ok_R_isFile lk_R_107 in_R_isFile se_R_isFile hs.obj rfl d_R_read_10 rfl rfl (Nat.le_of_ble_eq_true rfl) ⟨(Nat.le_of_ble_eq_true rfl), (Nat.le_of_ble_eq_true rfl)⟩ (Nat.le_of_ble_eq_true rfl) (Nat.le_of_ble_eq_true rfl) (fun r w' hq => ?_)
    obtain ⟨rfl, rfl⟩ := hq
    refine g_if_ne (tgt := 18) d_R_read_13 (by decide) (fun h2 => ?_) (fun h2 => ?_)
    · skip
      rcases hbad with z | z
      · exact absurd z h1
      · exact absurd z h2
    · skip
      refine g_iconst (v := (-1)) d_R_read_16 (by decide) ?_
      exact g_ireturn d_R_read_17 rfl (Nat.le_of_ble_eq_true rfl) (Nat.le_of_ble_eq_true rfl) ⟨rfl, rfl⟩

set_option maxHeartbeats 4000000 in
set_option maxRecDepth 100000 in
theorem c_R_write_bad {E : gE} {w : wd} {ad : Nat → Nat} {t : tR} (hs : SysR E ad t w) (x y z0 : Int32) (hbad : s_R_isClient t x = 0 ∨ s_R_isFile t y = 0) : Cn E y_R_write 3 0 0 [.ref (ad 0), .int x, .int y, .int z0] w (fun r w' => r = some (.int (-1)) ∧ w' = w) := by
  refine Cn.of (by decide) (Nat.le_of_ble_eq_true rfl) (fun A => ?_)
  show G E y_R_write _ 0 [(0, .ref (ad 0)), (1, .int x), (2, .int y), (3, .int z0)] [] w 0 0
  refine g_aload_n (j := 0) d_R_write_0 rfl ?_
  refine g_iload_n (j := 1) d_R_write_1 rfl ?_
  refine g_callV (c_R_isClient hs x) ok_R_isClient lk_R_103 in_R_isClient se_R_isClient hs.obj rfl d_R_write_2 rfl rfl (Nat.le_of_ble_eq_true rfl) ⟨(Nat.le_of_ble_eq_true rfl), (Nat.le_of_ble_eq_true rfl)⟩ (Nat.le_of_ble_eq_true rfl) (Nat.le_of_ble_eq_true rfl) (fun r w' hq => ?_)
  obtain ⟨rfl, rfl⟩ := hq
  refine g_if_eq (tgt := 16) d_R_write_5 (by decide) (fun h1 => ?_) (fun h1 => ?_)
  · skip
    refine g_iconst (v := (-1)) d_R_write_16 (by decide) ?_
    exact g_ireturn d_R_write_17 rfl (Nat.le_of_ble_eq_true rfl) (Nat.le_of_ble_eq_true rfl) ⟨rfl, rfl⟩
  · skip
    refine g_aload_n (j := 0) d_R_write_8 rfl ?_
    refine g_iload_n (j := 2) d_R_write_9 rfl ?_
    refine g_callV (c_R_isFile hs y) ok_R_isFile lk_R_107 in_R_isFile se_R_isFile hs.obj rfl d_R_write_10 rfl rfl (Nat.le_of_ble_eq_true rfl) ⟨(Nat.le_of_ble_eq_true rfl), (Nat.le_of_ble_eq_true rfl)⟩ (Nat.le_of_ble_eq_true rfl) (Nat.le_of_ble_eq_true rfl) (fun r w' hq => ?_)
    obtain ⟨rfl, rfl⟩ := hq
    refine g_if_ne (tgt := 18) d_R_write_13 (by decide) (fun h2 => ?_) (fun h2 => ?_)
    · skip
      rcases hbad with z | z
      · exact absurd z h1
      · exact absurd z h2
    · skip
      refine g_iconst (v := (-1)) d_R_write_16 (by decide) ?_
      exact g_ireturn d_R_write_17 rfl (Nat.le_of_ble_eq_true rfl) (Nat.le_of_ble_eq_true rfl) ⟨rfl, rfl⟩

set_option maxHeartbeats 4000000 in
set_option maxRecDepth 100000 in
theorem c_R_retry_bad {E : gE} {w : wd} {ad : Nat → Nat} {t : tR} (hs : SysR E ad t w) (x : Int32) (hbad : s_R_isClient t x = 0) : Cn E y_R_retry 3 0 0 [.ref (ad 0), .int x] w (fun r w' => r = some (.int (-1)) ∧ w' = w) := by
  refine Cn.of (by decide) (Nat.le_of_ble_eq_true rfl) (fun A => ?_)
  show G E y_R_retry _ 0 [(0, .ref (ad 0)), (1, .int x)] [] w 0 0
  refine g_aload_n (j := 0) d_R_retry_0 rfl ?_
  refine g_iload_n (j := 1) d_R_retry_1 rfl ?_
  refine g_callV (c_R_isClient hs x) ok_R_isClient lk_R_103 in_R_isClient se_R_isClient hs.obj rfl d_R_retry_2 rfl rfl (Nat.le_of_ble_eq_true rfl) ⟨(Nat.le_of_ble_eq_true rfl), (Nat.le_of_ble_eq_true rfl)⟩ (Nat.le_of_ble_eq_true rfl) (Nat.le_of_ble_eq_true rfl) (fun r w' hq => ?_)
  obtain ⟨rfl, rfl⟩ := hq
  refine g_if_ne (tgt := 10) d_R_retry_5 (by decide) (fun h1 => ?_) (fun h1 => ?_)
  · skip
    exact absurd hbad h1
  · skip
    refine g_iconst (v := (-1)) d_R_retry_8 (by decide) ?_
    exact g_ireturn d_R_retry_9 rfl (Nat.le_of_ble_eq_true rfl) (Nat.le_of_ble_eq_true rfl) ⟨rfl, rfl⟩

set_option maxHeartbeats 4000000 in
set_option maxRecDepth 100000 in
theorem c_R_status_bad {E : gE} {w : wd} {ad : Nat → Nat} {t : tR} (hs : SysR E ad t w) (x : Int32) (hbad : s_R_isClient t x = 0) : Cn E y_R_status 3 0 0 [.ref (ad 0), .int x] w (fun r w' => r = some (.int (-1)) ∧ w' = w) := by
  refine Cn.of (by decide) (Nat.le_of_ble_eq_true rfl) (fun A => ?_)
  show G E y_R_status _ 0 [(0, .ref (ad 0)), (1, .int x)] [] w 0 0
  refine g_aload_n (j := 0) d_R_status_0 rfl ?_
  refine g_iload_n (j := 1) d_R_status_1 rfl ?_
  refine g_callV (c_R_isClient hs x) ok_R_isClient lk_R_103 in_R_isClient se_R_isClient hs.obj rfl d_R_status_2 rfl rfl (Nat.le_of_ble_eq_true rfl) ⟨(Nat.le_of_ble_eq_true rfl), (Nat.le_of_ble_eq_true rfl)⟩ (Nat.le_of_ble_eq_true rfl) (Nat.le_of_ble_eq_true rfl) (fun r w' hq => ?_)
  obtain ⟨rfl, rfl⟩ := hq
  refine g_if_eq (tgt := 17) d_R_status_5 (by decide) (fun h1 => ?_) (fun h1 => ?_)
  · skip
    refine g_iconst (v := (-1)) d_R_status_17 (by decide) ?_
    exact g_ireturn d_R_status_18 rfl (Nat.le_of_ble_eq_true rfl) (Nat.le_of_ble_eq_true rfl) ⟨rfl, rfl⟩
  · skip
    exact absurd hbad h1

set_option maxHeartbeats 4000000 in
set_option maxRecDepth 100000 in
theorem c_R_result_bad {E : gE} {w : wd} {ad : Nat → Nat} {t : tR} (hs : SysR E ad t w) (x : Int32) (hbad : s_R_isClient t x = 0) : Cn E y_R_result 3 0 0 [.ref (ad 0), .int x] w (fun r w' => r = some (.int 0) ∧ w' = w) := by
  refine Cn.of (by decide) (Nat.le_of_ble_eq_true rfl) (fun A => ?_)
  show G E y_R_result _ 0 [(0, .ref (ad 0)), (1, .int x)] [] w 0 0
  refine g_aload_n (j := 0) d_R_result_0 rfl ?_
  refine g_iload_n (j := 1) d_R_result_1 rfl ?_
  refine g_callV (c_R_isClient hs x) ok_R_isClient lk_R_103 in_R_isClient se_R_isClient hs.obj rfl d_R_result_2 rfl rfl (Nat.le_of_ble_eq_true rfl) ⟨(Nat.le_of_ble_eq_true rfl), (Nat.le_of_ble_eq_true rfl)⟩ (Nat.le_of_ble_eq_true rfl) (Nat.le_of_ble_eq_true rfl) (fun r w' hq => ?_)
  obtain ⟨rfl, rfl⟩ := hq
  refine g_if_eq (tgt := 27) d_R_result_5 (by decide) (fun h1 => ?_) (fun h1 => ?_)
  · skip
    refine g_iconst (v := 0) d_R_result_27 (by decide) ?_
    exact g_ireturn d_R_result_28 rfl (Nat.le_of_ble_eq_true rfl) (Nat.le_of_ble_eq_true rfl) ⟨rfl, rfl⟩
  · skip
    exact absurd hbad h1

set_option maxHeartbeats 4000000 in
set_option maxRecDepth 100000 in
theorem c_R_version_bad {E : gE} {w : wd} {ad : Nat → Nat} {t : tR} (hs : SysR E ad t w) (x : Int32) (hbad : s_R_isClient t x = 0) : Cn E y_R_version 3 0 0 [.ref (ad 0), .int x] w (fun r w' => r = some (.int (-1)) ∧ w' = w) := by
  refine Cn.of (by decide) (Nat.le_of_ble_eq_true rfl) (fun A => ?_)
  show G E y_R_version _ 0 [(0, .ref (ad 0)), (1, .int x)] [] w 0 0
  refine g_aload_n (j := 0) d_R_version_0 rfl ?_
  refine g_iload_n (j := 1) d_R_version_1 rfl ?_
  refine g_callV (c_R_isClient hs x) ok_R_isClient lk_R_103 in_R_isClient se_R_isClient hs.obj rfl d_R_version_2 rfl rfl (Nat.le_of_ble_eq_true rfl) ⟨(Nat.le_of_ble_eq_true rfl), (Nat.le_of_ble_eq_true rfl)⟩ (Nat.le_of_ble_eq_true rfl) (Nat.le_of_ble_eq_true rfl) (fun r w' hq => ?_)
  obtain ⟨rfl, rfl⟩ := hq
  refine g_if_eq (tgt := 27) d_R_version_5 (by decide) (fun h1 => ?_) (fun h1 => ?_)
  · skip
    refine g_iconst (v := (-1)) d_R_version_27 (by decide) ?_
    exact g_ireturn d_R_version_28 rfl (Nat.le_of_ble_eq_true rfl) (Nat.le_of_ble_eq_true rfl) ⟨rfl, rfl⟩
  · skip
    exact absurd hbad h1

set_option maxHeartbeats 4000000 in
set_option maxRecDepth 100000 in
theorem c_R_pass_bad {E : gE} {w : wd} {ad : Nat → Nat} {t : tR} (hs : SysR E ad t w) (x y : Int32) (hbad : s_R_isClient t x = 0) : Cn E y_R_pass 3 0 0 [.ref (ad 0), .int x, .int y] w (fun r w' => r = some (.int (-1)) ∧ w' = w) := by
  refine Cn.of (by decide) (Nat.le_of_ble_eq_true rfl) (fun A => ?_)
  show G E y_R_pass _ 0 [(0, .ref (ad 0)), (1, .int x), (2, .int y)] [] w 0 0
  refine g_aload_n (j := 0) d_R_pass_0 rfl ?_
  refine g_iload_n (j := 1) d_R_pass_1 rfl ?_
  refine g_callV (c_R_isClient hs x) ok_R_isClient lk_R_103 in_R_isClient se_R_isClient hs.obj rfl d_R_pass_2 rfl rfl (Nat.le_of_ble_eq_true rfl) ⟨(Nat.le_of_ble_eq_true rfl), (Nat.le_of_ble_eq_true rfl)⟩ (Nat.le_of_ble_eq_true rfl) (Nat.le_of_ble_eq_true rfl) (fun r w' hq => ?_)
  obtain ⟨rfl, rfl⟩ := hq
  refine g_if_eq (tgt := 19) d_R_pass_5 (by decide) (fun h1 => ?_) (fun h1 => ?_)
  · skip
    refine g_iconst (v := (-1)) d_R_pass_19 (by decide) ?_
    exact g_ireturn d_R_pass_20 rfl (Nat.le_of_ble_eq_true rfl) (Nat.le_of_ble_eq_true rfl) ⟨rfl, rfl⟩
  · skip
    exact absurd hbad h1

set_option maxHeartbeats 4000000 in
set_option maxRecDepth 100000 in
theorem c_R_copy_bad {E : gE} {w : wd} {ad : Nat → Nat} {t : tR} (hs : SysR E ad t w) (x y z0 : Int32) (hbad : s_R_isClient t x = 0 ∨ s_R_isFile t y = 0) : Cn E y_R_copy 3 0 0 [.ref (ad 0), .int x, .int y, .int z0] w (fun r w' => r = some (.int (-1)) ∧ w' = w) := by
  refine Cn.of (by decide) (Nat.le_of_ble_eq_true rfl) (fun A => ?_)
  show G E y_R_copy _ 0 [(0, .ref (ad 0)), (1, .int x), (2, .int y), (3, .int z0)] [] w 0 0
  refine g_aload_n (j := 0) d_R_copy_0 rfl ?_
  refine g_iload_n (j := 1) d_R_copy_1 rfl ?_
  refine g_callV (c_R_isClient hs x) ok_R_isClient lk_R_103 in_R_isClient se_R_isClient hs.obj rfl d_R_copy_2 rfl rfl (Nat.le_of_ble_eq_true rfl) ⟨(Nat.le_of_ble_eq_true rfl), (Nat.le_of_ble_eq_true rfl)⟩ (Nat.le_of_ble_eq_true rfl) (Nat.le_of_ble_eq_true rfl) (fun r w' hq => ?_)
  obtain ⟨rfl, rfl⟩ := hq
  refine g_if_eq (tgt := 38) d_R_copy_5 (by decide) (fun h1 => ?_) (fun h1 => ?_)
  · skip
    refine g_iconst (v := (-1)) d_R_copy_38 (by decide) ?_
    exact g_ireturn d_R_copy_39 rfl (Nat.le_of_ble_eq_true rfl) (Nat.le_of_ble_eq_true rfl) ⟨rfl, rfl⟩
  · skip
    refine g_aload_n (j := 0) d_R_copy_8 rfl ?_
    refine g_iload_n (j := 2) d_R_copy_9 rfl ?_
    refine g_callV (c_R_isFile hs y) ok_R_isFile lk_R_107 in_R_isFile se_R_isFile hs.obj rfl d_R_copy_10 rfl rfl (Nat.le_of_ble_eq_true rfl) ⟨(Nat.le_of_ble_eq_true rfl), (Nat.le_of_ble_eq_true rfl)⟩ (Nat.le_of_ble_eq_true rfl) (Nat.le_of_ble_eq_true rfl) (fun r w' hq => ?_)
    obtain ⟨rfl, rfl⟩ := hq
    refine g_if_eq (tgt := 38) d_R_copy_13 (by decide) (fun h2 => ?_) (fun h2 => ?_)
    · skip
      refine g_iconst (v := (-1)) d_R_copy_38 (by decide) ?_
      exact g_ireturn d_R_copy_39 rfl (Nat.le_of_ble_eq_true rfl) (Nat.le_of_ble_eq_true rfl) ⟨rfl, rfl⟩
    · skip
      rcases hbad with z | z
      · exact absurd z h1
      · exact absurd z h2

set_option maxHeartbeats 4000000 in
set_option maxRecDepth 100000 in
theorem c_R_lease_bad {E : gE} {w : wd} {ad : Nat → Nat} {t : tR} (hs : SysR E ad t w) (x y : Int32) (hbad : s_R_isClient t x = 0 ∨ s_R_isFile t y = 0) : Cn E y_R_lease 3 0 0 [.ref (ad 0), .int x, .int y] w (fun r w' => r = some (.int (-1)) ∧ w' = w) := by
  refine Cn.of (by decide) (Nat.le_of_ble_eq_true rfl) (fun A => ?_)
  show G E y_R_lease _ 0 [(0, .ref (ad 0)), (1, .int x), (2, .int y)] [] w 0 0
  refine g_aload_n (j := 0) d_R_lease_0 rfl ?_
  refine g_iload_n (j := 1) d_R_lease_1 rfl ?_
  refine g_callV (c_R_isClient hs x) ok_R_isClient lk_R_103 in_R_isClient se_R_isClient hs.obj rfl d_R_lease_2 rfl rfl (Nat.le_of_ble_eq_true rfl) ⟨(Nat.le_of_ble_eq_true rfl), (Nat.le_of_ble_eq_true rfl)⟩ (Nat.le_of_ble_eq_true rfl) (Nat.le_of_ble_eq_true rfl) (fun r w' hq => ?_)
  obtain ⟨rfl, rfl⟩ := hq
  refine g_if_eq (tgt := 36) d_R_lease_5 (by decide) (fun h1 => ?_) (fun h1 => ?_)
  · skip
    refine g_iconst (v := (-1)) d_R_lease_36 (by decide) ?_
    exact g_ireturn d_R_lease_37 rfl (Nat.le_of_ble_eq_true rfl) (Nat.le_of_ble_eq_true rfl) ⟨rfl, rfl⟩
  · skip
    refine g_aload_n (j := 0) d_R_lease_8 rfl ?_
    refine g_iload_n (j := 2) d_R_lease_9 rfl ?_
    refine g_callV (c_R_isFile hs y) ok_R_isFile lk_R_107 in_R_isFile se_R_isFile hs.obj rfl d_R_lease_10 rfl rfl (Nat.le_of_ble_eq_true rfl) ⟨(Nat.le_of_ble_eq_true rfl), (Nat.le_of_ble_eq_true rfl)⟩ (Nat.le_of_ble_eq_true rfl) (Nat.le_of_ble_eq_true rfl) (fun r w' hq => ?_)
    obtain ⟨rfl, rfl⟩ := hq
    refine g_if_eq (tgt := 36) d_R_lease_13 (by decide) (fun h2 => ?_) (fun h2 => ?_)
    · skip
      refine g_iconst (v := (-1)) d_R_lease_36 (by decide) ?_
      exact g_ireturn d_R_lease_37 rfl (Nat.le_of_ble_eq_true rfl) (Nat.le_of_ble_eq_true rfl) ⟨rfl, rfl⟩
    · skip
      rcases hbad with z | z
      · exact absurd z h1
      · exact absurd z h2

set_option maxHeartbeats 4000000 in
set_option maxRecDepth 100000 in
theorem c_R_client_bad {E : gE} {w : wd} {ad : Nat → Nat} {t : tR} (hs : SysR E ad t w) (x y : Int32) (hbad : s_R_isClient t x = 0) : Cn E y_R_client 3 0 0 [.ref (ad 0), .int x, .int y] w (fun r w' => r = some (.int (-1)) ∧ w' = w) := by
  refine Cn.of (by decide) (Nat.le_of_ble_eq_true rfl) (fun A => ?_)
  show G E y_R_client _ 0 [(0, .ref (ad 0)), (1, .int x), (2, .int y)] [] w 0 0
  refine g_aload_n (j := 0) d_R_client_0 rfl ?_
  refine g_iload_n (j := 1) d_R_client_1 rfl ?_
  refine g_callV (c_R_isClient hs x) ok_R_isClient lk_R_103 in_R_isClient se_R_isClient hs.obj rfl d_R_client_2 rfl rfl (Nat.le_of_ble_eq_true rfl) ⟨(Nat.le_of_ble_eq_true rfl), (Nat.le_of_ble_eq_true rfl)⟩ (Nat.le_of_ble_eq_true rfl) (Nat.le_of_ble_eq_true rfl) (fun r w' hq => ?_)
  obtain ⟨rfl, rfl⟩ := hq
  refine g_if_ne (tgt := 10) d_R_client_5 (by decide) (fun h1 => ?_) (fun h1 => ?_)
  · skip
    exact absurd hbad h1
  · skip
    refine g_iconst (v := (-1)) d_R_client_8 (by decide) ?_
    exact g_ireturn d_R_client_9 rfl (Nat.le_of_ble_eq_true rfl) (Nat.le_of_ble_eq_true rfl) ⟨rfl, rfl⟩

set_option maxHeartbeats 4000000 in
set_option maxRecDepth 100000 in
theorem c_R_crash_bad {E : gE} {w : wd} {ad : Nat → Nat} {t : tR} (hs : SysR E ad t w) (x : Int32) (hbad : s_R_isClient t x = 0) : Cn E y_R_crash 3 0 0 [.ref (ad 0), .int x] w (fun r w' => r = some (.int (-1)) ∧ w' = w) := by
  refine Cn.of (by decide) (Nat.le_of_ble_eq_true rfl) (fun A => ?_)
  show G E y_R_crash _ 0 [(0, .ref (ad 0)), (1, .int x)] [] w 0 0
  refine g_aload_n (j := 0) d_R_crash_0 rfl ?_
  refine g_iload_n (j := 1) d_R_crash_1 rfl ?_
  refine g_callV (c_R_isClient hs x) ok_R_isClient lk_R_103 in_R_isClient se_R_isClient hs.obj rfl d_R_crash_2 rfl rfl (Nat.le_of_ble_eq_true rfl) ⟨(Nat.le_of_ble_eq_true rfl), (Nat.le_of_ble_eq_true rfl)⟩ (Nat.le_of_ble_eq_true rfl) (Nat.le_of_ble_eq_true rfl) (fun r w' hq => ?_)
  obtain ⟨rfl, rfl⟩ := hq
  refine g_if_ne (tgt := 10) d_R_crash_5 (by decide) (fun h1 => ?_) (fun h1 => ?_)
  · skip
    exact absurd hbad h1
  · skip
    refine g_iconst (v := (-1)) d_R_crash_8 (by decide) ?_
    exact g_ireturn d_R_crash_9 rfl (Nat.le_of_ble_eq_true rfl) (Nat.le_of_ble_eq_true rfl) ⟨rfl, rfl⟩

set_option maxHeartbeats 4000000 in
set_option maxRecDepth 100000 in
theorem c_R_file_bad {E : gE} {w : wd} {ad : Nat → Nat} {t : tR} (hs : SysR E ad t w) (x y : Int32) (hbad : s_R_isFile t x = 0) : Cn E y_R_file 3 0 0 [.ref (ad 0), .int x, .int y] w (fun r w' => r = some (.int (-1)) ∧ w' = w) := by
  refine Cn.of (by decide) (Nat.le_of_ble_eq_true rfl) (fun A => ?_)
  show G E y_R_file _ 0 [(0, .ref (ad 0)), (1, .int x), (2, .int y)] [] w 0 0
  refine g_aload_n (j := 0) d_R_file_0 rfl ?_
  refine g_iload_n (j := 1) d_R_file_1 rfl ?_
  refine g_callV (c_R_isFile hs x) ok_R_isFile lk_R_107 in_R_isFile se_R_isFile hs.obj rfl d_R_file_2 rfl rfl (Nat.le_of_ble_eq_true rfl) ⟨(Nat.le_of_ble_eq_true rfl), (Nat.le_of_ble_eq_true rfl)⟩ (Nat.le_of_ble_eq_true rfl) (Nat.le_of_ble_eq_true rfl) (fun r w' hq => ?_)
  obtain ⟨rfl, rfl⟩ := hq
  refine g_if_eq (tgt := 17) d_R_file_5 (by decide) (fun h1 => ?_) (fun h1 => ?_)
  · skip
    refine g_iconst (v := (-1)) d_R_file_17 (by decide) ?_
    exact g_ireturn d_R_file_18 rfl (Nat.le_of_ble_eq_true rfl) (Nat.le_of_ble_eq_true rfl) ⟨rfl, rfl⟩
  · skip
    exact absurd hbad h1

set_option maxHeartbeats 4000000 in
set_option maxRecDepth 100000 in
theorem c_R_message_bad {E : gE} {w : wd} {ad : Nat → Nat} {t : tR} (hs : SysR E ad t w) (x y : Int32) (hbad : s_R_isMessage t x = 0 ∨ y < 0 ∨ 6 < y) : Cn E y_R_message 3 0 0 [.ref (ad 0), .int x, .int y] w (fun r w' => r = some (.int (-1)) ∧ w' = w) := by
  refine Cn.of (by decide) (Nat.le_of_ble_eq_true rfl) (fun A => ?_)
  show G E y_R_message _ 0 [(0, .ref (ad 0)), (1, .int x), (2, .int y)] [] w 0 0
  refine g_aload_n (j := 0) d_R_message_0 rfl ?_
  refine g_iload_n (j := 1) d_R_message_1 rfl ?_
  refine g_callV (c_R_isMessage hs x) ok_R_isMessage lk_R_148 in_R_isMessage se_R_isMessage hs.obj rfl d_R_message_2 rfl rfl (Nat.le_of_ble_eq_true rfl) ⟨(Nat.le_of_ble_eq_true rfl), (Nat.le_of_ble_eq_true rfl)⟩ (Nat.le_of_ble_eq_true rfl) (Nat.le_of_ble_eq_true rfl) (fun r w' hq => ?_)
  obtain ⟨rfl, rfl⟩ := hq
  refine g_if_eq (tgt := 32) d_R_message_5 (by decide) (fun h1 => ?_) (fun h1 => ?_)
  · skip
    refine g_iconst (v := (-1)) d_R_message_32 (by decide) ?_
    exact g_ireturn d_R_message_33 rfl (Nat.le_of_ble_eq_true rfl) (Nat.le_of_ble_eq_true rfl) ⟨rfl, rfl⟩
  · skip
    refine g_iload_n (j := 2) d_R_message_8 rfl ?_
    refine g_if_lt (tgt := 32) d_R_message_9 (by decide) (fun h2 => ?_) (fun h2 => ?_)
    · skip
      refine g_iconst (v := (-1)) d_R_message_32 (by decide) ?_
      exact g_ireturn d_R_message_33 rfl (Nat.le_of_ble_eq_true rfl) (Nat.le_of_ble_eq_true rfl) ⟨rfl, rfl⟩
    · skip
      refine g_iload_n (j := 2) d_R_message_12 rfl ?_
      refine g_bipush (v := 6) d_R_message_13 (by decide) ?_
      refine g_icmp_gt (tgt := 32) d_R_message_15 (by decide) (fun h3 => ?_) (fun h3 => ?_)
      · skip
        refine g_iconst (v := (-1)) d_R_message_32 (by decide) ?_
        exact g_ireturn d_R_message_33 rfl (Nat.le_of_ble_eq_true rfl) (Nat.le_of_ble_eq_true rfl) ⟨rfl, rfl⟩
      · skip
        rcases hbad with z | z | z
        · exact absurd z h1
        · exact absurd z h2
        · exact absurd z h3

set_option maxHeartbeats 4000000 in
set_option maxRecDepth 100000 in
theorem c_R_lose_bad {E : gE} {w : wd} {ad : Nat → Nat} {t : tR} (hs : SysR E ad t w) (x : Int32) (hbad : s_R_isMessage t x = 0) : Cn E y_R_lose 3 0 0 [.ref (ad 0), .int x] w (fun r w' => r = some (.int 0) ∧ w' = w) := by
  refine Cn.of (by decide) (Nat.le_of_ble_eq_true rfl) (fun A => ?_)
  show G E y_R_lose _ 0 [(0, .ref (ad 0)), (1, .int x)] [] w 0 0
  refine g_aload_n (j := 0) d_R_lose_0 rfl ?_
  refine g_iload_n (j := 1) d_R_lose_1 rfl ?_
  refine g_callV (c_R_isMessage hs x) ok_R_isMessage lk_R_148 in_R_isMessage se_R_isMessage hs.obj rfl d_R_lose_2 rfl rfl (Nat.le_of_ble_eq_true rfl) ⟨(Nat.le_of_ble_eq_true rfl), (Nat.le_of_ble_eq_true rfl)⟩ (Nat.le_of_ble_eq_true rfl) (Nat.le_of_ble_eq_true rfl) (fun r w' hq => ?_)
  obtain ⟨rfl, rfl⟩ := hq
  refine g_if_ne (tgt := 10) d_R_lose_5 (by decide) (fun h1 => ?_) (fun h1 => ?_)
  · skip
    exact absurd hbad h1
  · skip
    refine g_iconst (v := 0) d_R_lose_8 (by decide) ?_
    exact g_zreturn d_R_lose_9 rfl (by decide) (Nat.le_of_ble_eq_true rfl) (Nat.le_of_ble_eq_true rfl) ⟨rfl, rfl⟩

set_option maxHeartbeats 4000000 in
set_option maxRecDepth 100000 in
theorem c_R_deliver_bad {E : gE} {w : wd} {ad : Nat → Nat} {t : tR} (hs : SysR E ad t w) (x : Int32) (hbad : s_R_isMessage t x = 0) : Cn E y_R_deliver 9 0 0 [.ref (ad 0), .int x] w (fun r w' => r = some (.int (-1)) ∧ w' = w) := by
  refine Cn.of (by decide) (Nat.le_of_ble_eq_true rfl) (fun A => ?_)
  show G E y_R_deliver _ 0 [(0, .ref (ad 0)), (1, .int x)] [] w 0 0
  refine g_aload_n (j := 0) d_R_deliver_0 rfl ?_
  refine g_iload_n (j := 1) d_R_deliver_1 rfl ?_
  refine g_callV (c_R_isMessage hs x) ok_R_isMessage lk_R_148 in_R_isMessage se_R_isMessage hs.obj rfl d_R_deliver_2 rfl rfl (Nat.le_of_ble_eq_true rfl) ⟨(Nat.le_of_ble_eq_true rfl), (Nat.le_of_ble_eq_true rfl)⟩ (Nat.le_of_ble_eq_true rfl) (Nat.le_of_ble_eq_true rfl) (fun r w' hq => ?_)
  obtain ⟨rfl, rfl⟩ := hq
  refine g_if_ne (tgt := 10) d_R_deliver_5 (by decide) (fun h1 => ?_) (fun h1 => ?_)
  · skip
    exact absurd hbad h1
  · skip
    refine g_iconst (v := (-1)) d_R_deliver_8 (by decide) ?_
    exact g_ireturn d_R_deliver_9 rfl (Nat.le_of_ble_eq_true rfl) (Nat.le_of_ble_eq_true rfl) ⟨rfl, rfl⟩
