def s_R_isClient (t : tR) (x : Int32) : Int32 :=
  if x < 0 then
    0
  else
    if t.1 0 ≤ x then
      0
    else
      1
set_option maxHeartbeats 4000000 in
set_option maxRecDepth 100000 in
theorem c_R_isClient {E : gE} {w : wd} {ad : Nat → Nat} {t : tR} (hs : SysR E ad t w) (x : Int32) : Cn E y_R_isClient 1 0 0 [.ref (ad 0), .int x] w (fun r w' => r = some (.int (s_R_isClient t x)) ∧ w' = w) := by
  refine Cn.of (by decide) (Nat.le_of_ble_eq_true rfl) (fun A => ?_)
  show G E y_R_isClient _ 0 [(0, .ref (ad 0)), (1, .int x)] [] w 0 0
  refine g_iload_n (j := 1) d_R_isClient_0 rfl ?_
  refine g_if_lt (tgt := 16) d_R_isClient_1 (by decide) (fun h1 => ?_) (fun h1 => ?_)
  · skip
    refine g_iconst (v := 0) d_R_isClient_16 (by decide) ?_
    have hz : s_R_isClient t x = 0 := by
      unfold s_R_isClient
      rw [if_pos h1]
    exact g_zreturn d_R_isClient_17 rfl (by decide) (Nat.le_of_ble_eq_true rfl) (Nat.le_of_ble_eq_true rfl) ⟨by rw [hz], rfl⟩
  · skip
    refine g_iload_n (j := 1) d_R_isClient_4 rfl ?_
    refine g_aload_n (j := 0) d_R_isClient_5 rfl ?_
    refine g_get d_R_isClient_6 f_R_83 hs.obj rfl ?_
    refine g_icmp_ge (tgt := 16) d_R_isClient_9 (by decide) (fun h2 => ?_) (fun h2 => ?_)
    · skip
      refine g_iconst (v := 0) d_R_isClient_16 (by decide) ?_
      have hz : s_R_isClient t x = 0 := by
        unfold s_R_isClient
        rw [if_neg h1, if_pos h2]
      exact g_zreturn d_R_isClient_17 rfl (by decide) (Nat.le_of_ble_eq_true rfl) (Nat.le_of_ble_eq_true rfl) ⟨by rw [hz], rfl⟩
    · skip
      refine g_iconst (v := 1) d_R_isClient_12 (by decide) ?_
      refine g_goto (tgt := 17) d_R_isClient_13 (by decide) ?_
      have hz : s_R_isClient t x = 1 := by
        unfold s_R_isClient
        rw [if_neg h1, if_neg h2]
      exact g_zreturn d_R_isClient_17 rfl (by decide) (Nat.le_of_ble_eq_true rfl) (Nat.le_of_ble_eq_true rfl) ⟨by rw [hz], rfl⟩

def s_R_isFile (t : tR) (x : Int32) : Int32 :=
  if x < 0 then
    0
  else
    if t.1 1 ≤ x then
      0
    else
      1
set_option maxHeartbeats 4000000 in
set_option maxRecDepth 100000 in
theorem c_R_isFile {E : gE} {w : wd} {ad : Nat → Nat} {t : tR} (hs : SysR E ad t w) (x : Int32) : Cn E y_R_isFile 1 0 0 [.ref (ad 0), .int x] w (fun r w' => r = some (.int (s_R_isFile t x)) ∧ w' = w) := by
  refine Cn.of (by decide) (Nat.le_of_ble_eq_true rfl) (fun A => ?_)
  show G E y_R_isFile _ 0 [(0, .ref (ad 0)), (1, .int x)] [] w 0 0
  refine g_iload_n (j := 1) d_R_isFile_0 rfl ?_
  refine g_if_lt (tgt := 16) d_R_isFile_1 (by decide) (fun h1 => ?_) (fun h1 => ?_)
  · skip
    refine g_iconst (v := 0) d_R_isFile_16 (by decide) ?_
    have hz : s_R_isFile t x = 0 := by
      unfold s_R_isFile
      rw [if_pos h1]
    exact g_zreturn d_R_isFile_17 rfl (by decide) (Nat.le_of_ble_eq_true rfl) (Nat.le_of_ble_eq_true rfl) ⟨by rw [hz], rfl⟩
  · skip
    refine g_iload_n (j := 1) d_R_isFile_4 rfl ?_
    refine g_aload_n (j := 0) d_R_isFile_5 rfl ?_
    refine g_get d_R_isFile_6 f_R_87 hs.obj rfl ?_
    refine g_icmp_ge (tgt := 16) d_R_isFile_9 (by decide) (fun h2 => ?_) (fun h2 => ?_)
    · skip
      refine g_iconst (v := 0) d_R_isFile_16 (by decide) ?_
      have hz : s_R_isFile t x = 0 := by
        unfold s_R_isFile
        rw [if_neg h1, if_pos h2]
      exact g_zreturn d_R_isFile_17 rfl (by decide) (Nat.le_of_ble_eq_true rfl) (Nat.le_of_ble_eq_true rfl) ⟨by rw [hz], rfl⟩
    · skip
      refine g_iconst (v := 1) d_R_isFile_12 (by decide) ?_
      refine g_goto (tgt := 17) d_R_isFile_13 (by decide) ?_
      have hz : s_R_isFile t x = 1 := by
        unfold s_R_isFile
        rw [if_neg h1, if_neg h2]
      exact g_zreturn d_R_isFile_17 rfl (by decide) (Nat.le_of_ble_eq_true rfl) (Nat.le_of_ble_eq_true rfl) ⟨by rw [hz], rfl⟩

def s_R_isMessage (t : tR) (x : Int32) : Int32 :=
  if x < 0 then
    0
  else
    if t.1 9 ≤ x then
      0
    else
      1
set_option maxHeartbeats 4000000 in
set_option maxRecDepth 100000 in
theorem c_R_isMessage {E : gE} {w : wd} {ad : Nat → Nat} {t : tR} (hs : SysR E ad t w) (x : Int32) : Cn E y_R_isMessage 1 0 0 [.ref (ad 0), .int x] w (fun r w' => r = some (.int (s_R_isMessage t x)) ∧ w' = w) := by
  refine Cn.of (by decide) (Nat.le_of_ble_eq_true rfl) (fun A => ?_)
  show G E y_R_isMessage _ 0 [(0, .ref (ad 0)), (1, .int x)] [] w 0 0
  refine g_iload_n (j := 1) d_R_isMessage_0 rfl ?_
  refine g_if_lt (tgt := 16) d_R_isMessage_1 (by decide) (fun h1 => ?_) (fun h1 => ?_)
  · skip
    refine g_iconst (v := 0) d_R_isMessage_16 (by decide) ?_
    have hz : s_R_isMessage t x = 0 := by
      unfold s_R_isMessage
      rw [if_pos h1]
    exact g_zreturn d_R_isMessage_17 rfl (by decide) (Nat.le_of_ble_eq_true rfl) (Nat.le_of_ble_eq_true rfl) ⟨by rw [hz], rfl⟩
  · skip
    refine g_iload_n (j := 1) d_R_isMessage_4 rfl ?_
    refine g_aload_n (j := 0) d_R_isMessage_5 rfl ?_
    refine g_get d_R_isMessage_6 f_R_96 hs.obj rfl ?_
    refine g_icmp_ge (tgt := 16) d_R_isMessage_9 (by decide) (fun h2 => ?_) (fun h2 => ?_)
    · skip
      refine g_iconst (v := 0) d_R_isMessage_16 (by decide) ?_
      have hz : s_R_isMessage t x = 0 := by
        unfold s_R_isMessage
        rw [if_neg h1, if_pos h2]
      exact g_zreturn d_R_isMessage_17 rfl (by decide) (Nat.le_of_ble_eq_true rfl) (Nat.le_of_ble_eq_true rfl) ⟨by rw [hz], rfl⟩
    · skip
      refine g_iconst (v := 1) d_R_isMessage_12 (by decide) ?_
      refine g_goto (tgt := 17) d_R_isMessage_13 (by decide) ?_
      have hz : s_R_isMessage t x = 1 := by
        unfold s_R_isMessage
        rw [if_neg h1, if_neg h2]
      exact g_zreturn d_R_isMessage_17 rfl (by decide) (Nat.le_of_ble_eq_true rfl) (Nat.le_of_ble_eq_true rfl) ⟨by rw [hz], rfl⟩

def s_R_rest (x : Int32) (y : Int32) : Int32 :=
  if x ≤ y then
    0
  else
    x - y
set_option maxHeartbeats 4000000 in
set_option maxRecDepth 100000 in
theorem c_R_rest {E : gE} {w : wd} (x : Int32) (y : Int32) : Cn E y_R_rest 1 0 0 [.int x, .int y] w (fun r w' => r = some (.int (s_R_rest x y)) ∧ w' = w) := by
  refine Cn.of (by decide) (Nat.le_of_ble_eq_true rfl) (fun A => ?_)
  show G E y_R_rest _ 0 [(0, .int x), (1, .int y)] [] w 0 0
  refine g_iload_n (j := 0) d_R_rest_0 rfl ?_
  refine g_iload_n (j := 1) d_R_rest_1 rfl ?_
  refine g_icmp_le (tgt := 11) d_R_rest_2 (by decide) (fun h1 => ?_) (fun h1 => ?_)
  · skip
    refine g_iconst (v := 0) d_R_rest_11 (by decide) ?_
    have hz : s_R_rest x y = 0 := by
      unfold s_R_rest
      rw [if_pos h1]
    exact g_ireturn d_R_rest_12 rfl (Nat.le_of_ble_eq_true rfl) (Nat.le_of_ble_eq_true rfl) ⟨by rw [hz], rfl⟩
  · skip
    refine g_iload_n (j := 0) d_R_rest_5 rfl ?_
    refine g_iload_n (j := 1) d_R_rest_6 rfl ?_
    refine g_isub d_R_rest_7 ?_
    refine g_goto (tgt := 12) d_R_rest_8 (by decide) ?_
    have hz : s_R_rest x y = x - y := by
      unfold s_R_rest
      rw [if_neg h1]
    exact g_ireturn d_R_rest_12 rfl (Nat.le_of_ble_eq_true rfl) (Nat.le_of_ble_eq_true rfl) ⟨by rw [hz], rfl⟩

def s_R_finish (t : tR) (c : Nat) (x : Int32) (y : Int32) : tR :=
  stA (stA (stA t 11 c 1) 17 c x) 18 c y
set_option maxHeartbeats 4000000 in
set_option maxRecDepth 100000 in
theorem c_R_finish {E : gE} {w : wd} {ad : Nat → Nat} {t : tR} (hs : SysR E ad t w) (c : Nat) (x : Int32) (y : Int32) (hc : c < 4) : Cn E y_R_finish 1 0 0 [.ref (ad 0), .int (nI c), .int x, .int y] w (fun r w' => r = none ∧ SysR E ad (s_R_finish t c x y) w') := by
  refine Cn.of (by decide) (Nat.le_of_ble_eq_true rfl) (fun A => ?_)
  show G E y_R_finish _ 0 [(0, .ref (ad 0)), (1, .int (nI c)), (2, .int x), (3, .int y)] [] w 0 0
  refine g_aload_n (j := 0) d_R_finish_0 rfl ?_
  refine g_get d_R_finish_1 f_R_43 hs.obj rfl ?_
  refine g_iload_n (j := 1) d_R_finish_4 rfl ?_
  refine g_iconst (v := 1) d_R_finish_5 (by decide) ?_
  refine r_iast (k := 11) (j := c) d_R_finish_6 hs (by decide) rfl rfl (show c < 4 by omega) (fun w1 hs2 => ?_)
  refine g_aload_n (j := 0) d_R_finish_7 rfl ?_
  refine g_get d_R_finish_8 f_R_62 hs2.obj rfl ?_
  refine g_iload_n (j := 1) d_R_finish_11 rfl ?_
  refine g_iload_n (j := 2) d_R_finish_12 rfl ?_
  refine r_iast (k := 17) (j := c) d_R_finish_13 hs2 (by decide) rfl rfl (show c < 4 by omega) (fun w3 hs4 => ?_)
  refine g_aload_n (j := 0) d_R_finish_14 rfl ?_
  refine g_get d_R_finish_15 f_R_65 hs4.obj rfl ?_
  refine g_iload_n (j := 1) d_R_finish_18 rfl ?_
  refine g_iload_n (j := 3) d_R_finish_19 rfl ?_
  refine r_iast (k := 18) (j := c) d_R_finish_20 hs4 (by decide) rfl rfl (show c < 4 by omega) (fun w5 hs6 => ?_)
  have hz : s_R_finish t c x y = stA (stA (stA t 11 c 1) 17 c x) 18 c y := by
    unfold s_R_finish
    rfl
  exact g_return d_R_finish_21 rfl (Nat.le_of_ble_eq_true rfl) (Nat.le_of_ble_eq_true rfl) ⟨rfl, by rw [hz]; exact hs6⟩

def s_R_begin (t : tR) (c : Nat) (f : Nat) (x : Int32) (y : Int32) : tR :=
  stA (stA (stA (stA (stA (stA (stA t 10 c ((t.2 10 c) + 1)) 11 c 2) 12 c x) 13 c (nI f)) 14 c y) 15 c ((stA (stA (stA (stA (stA t 10 c ((t.2 10 c) + 1)) 11 c 2) 12 c x) 13 c (nI f)) 14 c y).2 9 c)) 16 c 0
set_option maxHeartbeats 4000000 in
set_option maxRecDepth 100000 in
theorem c_R_begin {E : gE} {w : wd} {ad : Nat → Nat} {t : tR} (hs : SysR E ad t w) (c : Nat) (f : Nat) (x : Int32) (y : Int32) (hc : c < 4) (hx : vp_nar .boolean x = x) : Cn E y_R_begin 1 0 0 [.ref (ad 0), .int (nI c), .int (nI f), .int x, .int y] w (fun r w' => r = none ∧ SysR E ad (s_R_begin t c f x y) w') := by
  refine Cn.of (by decide) (Nat.le_of_ble_eq_true rfl) (fun A => ?_)
  show G E y_R_begin _ 0 [(0, .ref (ad 0)), (1, .int (nI c)), (2, .int (nI f)), (3, .int x), (4, .int y)] [] w 0 0
  refine g_aload_n (j := 0) d_R_begin_0 rfl ?_
  refine g_get d_R_begin_1 f_R_40 hs.obj rfl ?_
  refine g_iload_n (j := 1) d_R_begin_4 rfl ?_
  refine g_dup2 d_R_begin_5 rfl rfl ?_
  refine r_iald (k := 10) (j := c) d_R_begin_6 hs (by decide) rfl rfl (show c < 4 by omega) ?_
  refine g_iconst (v := 1) d_R_begin_7 (by decide) ?_
  refine g_iadd d_R_begin_8 ?_
  refine r_iast (k := 10) (j := c) d_R_begin_9 hs (by decide) rfl rfl (show c < 4 by omega) (fun w1 hs2 => ?_)
  refine g_aload_n (j := 0) d_R_begin_10 rfl ?_
  refine g_get d_R_begin_11 f_R_43 hs2.obj rfl ?_
  refine g_iload_n (j := 1) d_R_begin_14 rfl ?_
  refine g_iconst (v := 2) d_R_begin_15 (by decide) ?_
  refine r_iast (k := 11) (j := c) d_R_begin_16 hs2 (by decide) rfl rfl (show c < 4 by omega) (fun w3 hs4 => ?_)
  refine g_aload_n (j := 0) d_R_begin_17 rfl ?_
  refine g_get d_R_begin_18 f_R_46 hs4.obj rfl ?_
  refine g_iload_n (j := 1) d_R_begin_21 rfl ?_
  refine g_iload_n (j := 3) d_R_begin_22 rfl ?_
  refine r_zast (k := 12) (j := c) d_R_begin_23 hs4 (by decide) rfl rfl (show c < 4 by omega) hx (fun w5 hs6 => ?_)
  refine g_aload_n (j := 0) d_R_begin_24 rfl ?_
  refine g_get d_R_begin_25 f_R_50 hs6.obj rfl ?_
  refine g_iload_n (j := 1) d_R_begin_28 rfl ?_
  refine g_iload_n (j := 2) d_R_begin_29 rfl ?_
  refine r_iast (k := 13) (j := c) d_R_begin_30 hs6 (by decide) rfl rfl (show c < 4 by omega) (fun w7 hs8 => ?_)
  refine g_aload_n (j := 0) d_R_begin_31 rfl ?_
  refine g_get d_R_begin_32 f_R_53 hs8.obj rfl ?_
  refine g_iload_n (j := 1) d_R_begin_35 rfl ?_
  refine g_iload (j := 4) d_R_begin_36 rfl ?_
  refine r_iast (k := 14) (j := c) d_R_begin_38 hs8 (by decide) rfl rfl (show c < 4 by omega) (fun w9 hs10 => ?_)
  refine g_aload_n (j := 0) d_R_begin_39 rfl ?_
  refine g_get d_R_begin_40 f_R_56 hs10.obj rfl ?_
  refine g_iload_n (j := 1) d_R_begin_43 rfl ?_
  refine g_aload_n (j := 0) d_R_begin_44 rfl ?_
  refine g_get d_R_begin_45 f_R_37 hs10.obj rfl ?_
  refine g_iload_n (j := 1) d_R_begin_48 rfl ?_
  refine r_iald (k := 9) (j := c) d_R_begin_49 hs10 (by decide) rfl rfl (show c < 4 by omega) ?_
  refine r_iast (k := 15) (j := c) d_R_begin_50 hs10 (by decide) rfl rfl (show c < 4 by omega) (fun w11 hs12 => ?_)
  refine g_aload_n (j := 0) d_R_begin_51 rfl ?_
  refine g_get d_R_begin_52 f_R_59 hs12.obj rfl ?_
  refine g_iload_n (j := 1) d_R_begin_55 rfl ?_
  refine g_iconst (v := 0) d_R_begin_56 (by decide) ?_
  refine r_zast (k := 16) (j := c) d_R_begin_57 hs12 (by decide) rfl rfl (show c < 4 by omega) (by decide) (fun w13 hs14 => ?_)
  have hz : s_R_begin t c f x y = stA (stA (stA (stA (stA (stA (stA t 10 c ((t.2 10 c) + 1)) 11 c 2) 12 c x) 13 c (nI f)) 14 c y) 15 c ((stA (stA (stA (stA (stA t 10 c ((t.2 10 c) + 1)) 11 c 2) 12 c x) 13 c (nI f)) 14 c y).2 9 c)) 16 c 0 := by
    unfold s_R_begin
    rfl
  exact g_return d_R_begin_58 rfl (Nat.le_of_ble_eq_true rfl) (Nat.le_of_ble_eq_true rfl) ⟨rfl, by rw [hz]; exact hs14⟩

def s_R_isLeased (t : tR) (c : Nat) (f : Nat) : Int32 :=
  if t.2 2 ((4 * c) + f) ≤ t.1 4 then
    0
  else
    1
set_option maxHeartbeats 4000000 in
set_option maxRecDepth 100000 in
theorem c_R_isLeased {E : gE} {w : wd} {ad : Nat → Nat} {t : tR} (hs : SysR E ad t w) (c : Nat) (f : Nat) (hc : c < 4) (hf : f < 4) : Cn E y_R_isLeased 1 0 0 [.ref (ad 0), .int (nI c), .int (nI f)] w (fun r w' => r = some (.int (s_R_isLeased t c f)) ∧ w' = w) := by
  refine Cn.of (by decide) (Nat.le_of_ble_eq_true rfl) (fun A => ?_)
  show G E y_R_isLeased _ 0 [(0, .ref (ad 0)), (1, .int (nI c)), (2, .int (nI f))] [] w 0 0
  refine g_aload_n (j := 0) d_R_isLeased_0 rfl ?_
  refine g_get d_R_isLeased_1 f_R_16 hs.obj rfl ?_
  refine g_iconst (v := 4) d_R_isLeased_4 (by decide) ?_
  refine g_iload_n (j := 1) d_R_isLeased_5 rfl ?_
  refine g_imul d_R_isLeased_6 ?_
  refine g_norm (y := nI (4 * c)) (pk_mul 4 c) ?_
  refine g_iload_n (j := 2) d_R_isLeased_7 rfl ?_
  refine g_iadd d_R_isLeased_8 ?_
  refine g_norm (y := nI ((4 * c) + f)) (nI_add (4 * c) f) ?_
  refine r_iald (k := 2) (j := (4 * c) + f) d_R_isLeased_9 hs (by decide) rfl rfl (show (4 * c) + f < 16 by omega) ?_
  refine g_aload_n (j := 0) d_R_isLeased_10 rfl ?_
  refine g_get d_R_isLeased_11 f_R_122 hs.obj rfl ?_
  refine g_icmp_le (tgt := 21) d_R_isLeased_14 (by decide) (fun h1 => ?_) (fun h1 => ?_)
  · skip
    refine g_iconst (v := 0) d_R_isLeased_21 (by decide) ?_
    have hz : s_R_isLeased t c f = 0 := by
      unfold s_R_isLeased
      rw [if_pos h1]
    exact g_zreturn d_R_isLeased_22 rfl (by decide) (Nat.le_of_ble_eq_true rfl) (Nat.le_of_ble_eq_true rfl) ⟨by rw [hz], rfl⟩
  · skip
    refine g_iconst (v := 1) d_R_isLeased_17 (by decide) ?_
    refine g_goto (tgt := 22) d_R_isLeased_18 (by decide) ?_
    have hz : s_R_isLeased t c f = 1 := by
      unfold s_R_isLeased
      rw [if_neg h1]
    exact g_zreturn d_R_isLeased_22 rfl (by decide) (Nat.le_of_ble_eq_true rfl) (Nat.le_of_ble_eq_true rfl) ⟨by rw [hz], rfl⟩

def s_R_stored (t : tR) (c : Nat) (x : Int32) (y : Int32) : tR :=
  if t.2 11 c = 2 then
    if t.2 12 c = 0 then
      t
    else
      if t.2 10 c = x then
        s_R_finish t c y y
      else
        t
  else
    t
set_option maxHeartbeats 4000000 in
set_option maxRecDepth 100000 in
theorem c_R_stored {E : gE} {w : wd} {ad : Nat → Nat} {t : tR} (hs : SysR E ad t w) (c : Nat) (x : Int32) (y : Int32) (hc : c < 4) : Cn E y_R_stored 2 0 0 [.ref (ad 0), .int (nI c), .int x, .int y] w (fun r w' => r = none ∧ SysR E ad (s_R_stored t c x y) w') := by
  refine Cn.of (by decide) (Nat.le_of_ble_eq_true rfl) (fun A => ?_)
  show G E y_R_stored _ 0 [(0, .ref (ad 0)), (1, .int (nI c)), (2, .int x), (3, .int y)] [] w 0 0
  refine g_aload_n (j := 0) d_R_stored_0 rfl ?_
  refine g_get d_R_stored_1 f_R_43 hs.obj rfl ?_
  refine g_iload_n (j := 1) d_R_stored_4 rfl ?_
  refine r_iald (k := 11) (j := c) d_R_stored_5 hs (by decide) rfl rfl (show c < 4 by omega) ?_
  refine g_iconst (v := 2) d_R_stored_6 (by decide) ?_
  refine g_icmp_ne (tgt := 36) d_R_stored_7 (by decide) (fun h1 => ?_) (fun h1 => ?_)
  · skip
    have hz : s_R_stored t c x y = t := by
      unfold s_R_stored
      rw [if_neg h1]
    exact g_return d_R_stored_36 rfl (Nat.le_of_ble_eq_true rfl) (Nat.le_of_ble_eq_true rfl) ⟨rfl, by rw [hz]; exact hs⟩
  · skip
    refine g_aload_n (j := 0) d_R_stored_10 rfl ?_
    refine g_get d_R_stored_11 f_R_46 hs.obj rfl ?_
    refine g_iload_n (j := 1) d_R_stored_14 rfl ?_
    refine r_zald (k := 12) (j := c) d_R_stored_15 hs (by decide) rfl rfl (show c < 4 by omega) ?_
    refine g_if_eq (tgt := 36) d_R_stored_16 (by decide) (fun h2 => ?_) (fun h2 => ?_)
    · skip
      have hz : s_R_stored t c x y = t := by
        unfold s_R_stored
        rw [if_pos h1, if_pos h2]
      exact g_return d_R_stored_36 rfl (Nat.le_of_ble_eq_true rfl) (Nat.le_of_ble_eq_true rfl) ⟨rfl, by rw [hz]; exact hs⟩
    · skip
      refine g_aload_n (j := 0) d_R_stored_19 rfl ?_
      refine g_get d_R_stored_20 f_R_40 hs.obj rfl ?_
      refine g_iload_n (j := 1) d_R_stored_23 rfl ?_
      refine r_iald (k := 10) (j := c) d_R_stored_24 hs (by decide) rfl rfl (show c < 4 by omega) ?_
      refine g_iload_n (j := 2) d_R_stored_25 rfl ?_
      refine g_icmp_ne (tgt := 36) d_R_stored_26 (by decide) (fun h3 => ?_) (fun h3 => ?_)
      · skip
        have hz : s_R_stored t c x y = t := by
          unfold s_R_stored
          rw [if_pos h1, if_neg h2, if_neg h3]
        exact g_return d_R_stored_36 rfl (Nat.le_of_ble_eq_true rfl) (Nat.le_of_ble_eq_true rfl) ⟨rfl, by rw [hz]; exact hs⟩
      · skip
        refine g_aload_n (j := 0) d_R_stored_29 rfl ?_
        refine g_iload_n (j := 1) d_R_stored_30 rfl ?_
        refine g_iload_n (j := 3) d_R_stored_31 rfl ?_
        refine g_iload_n (j := 3) d_R_stored_32 rfl ?_
        refine g_callV (c_R_finish hs c y y (by omega)) ok_R_finish lk_R_114 in_R_finish se_R_finish hs.obj rfl d_R_stored_33 rfl rfl (Nat.le_of_ble_eq_true rfl) ⟨(Nat.le_of_ble_eq_true rfl), (Nat.le_of_ble_eq_true rfl)⟩ (Nat.le_of_ble_eq_true rfl) (Nat.le_of_ble_eq_true rfl) (fun r w' hq => ?_)
        obtain ⟨rfl, hs4⟩ := hq
        have hz : s_R_stored t c x y = s_R_finish t c y y := by
          unfold s_R_stored
          rw [if_pos h1, if_neg h2, if_pos h3]
        exact g_return d_R_stored_36 rfl (Nat.le_of_ble_eq_true rfl) (Nat.le_of_ble_eq_true rfl) ⟨rfl, by rw [hz]; exact hs4⟩
