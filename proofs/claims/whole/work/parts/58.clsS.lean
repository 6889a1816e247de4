theorem has_gen {n c : Nat} (h : c < n) (hn : n < 1000) : ¬ (if nI c < 0 then (0 : Int32) else if nI n ≤ nI c then 0 else 1) = 0 := by
  rw [if_neg (nI_pos (by omega)), if_neg (fun z => absurd ((nI_leI (by omega) (by omega)).mp z) (by omega))]
  decide
theorem hasC {K : kC} (t : tC) {c : Nat} (h : c < K.1) (h4 : K.1 ≤ 4) : ¬ s_L_hasClient K t (nI c) = 0 := has_gen h (by omega)
theorem hasF {K : kC} (t : tC) {f : Nat} (h : f < K.2.1) (h4 : K.2.1 ≤ 4) : ¬ s_L_hasFile K t (nI f) = 0 := has_gen h (by omega)
theorem hasM {K : kC} (t : tC) {k : Nat} (h : k < t.2.2) (h4 : t.2.2 ≤ 64) : ¬ s_P_holds K t (nI k) = 0 := has_gen h (by omega)

def s_L_read (K : kC) (t : tC) (c : Nat) (f : Nat) : tC × Int32 :=
  ((s_C_startRead K t c f).1, (s_C_startRead K t c f).2)
set_option maxHeartbeats 4000000 in
set_option maxRecDepth 100000 in
theorem c_L_read {E : gE} {w : wd} {K : kC} {L : lyC} {t : tC} (hs : SysC E K L t w) (c : Nat) (f : Nat) (hc : c < K.1) (hf : f < K.2.1) : Cn E y_L_read 4 0 0 [.ref (L.1 (0, 0, 0)), .int (nI c), .int (nI f)] w (fun r w' => r = some (.int (s_L_read K t c f).2) ∧ SysC E K L (s_L_read K t c f).1 w') := by
  refine Cn.of (by decide) (Nat.le_of_ble_eq_true rfl) (fun A => ?_)
  show G E y_L_read _ 0 [(0, .ref (L.1 (0, 0, 0))), (1, .int (nI c)), (2, .int (nI f))] [] w 0 0
  have h4 := hs.nc
  have h64 := hs.pn
  refine g_aload_n (j := 0) d_L_read_0 rfl ?_
  refine g_iload_n (j := 1) d_L_read_1 rfl ?_
  refine g_callV (c_L_hasClient hs (nI c) ) ok_L_hasClient lk_L_40 in_L_hasClient se_L_hasClient hs.main rfl d_L_read_2 rfl rfl (Nat.le_of_ble_eq_true rfl) ⟨(Nat.le_of_ble_eq_true rfl), (Nat.le_of_ble_eq_true rfl)⟩ (Nat.le_of_ble_eq_true rfl) (Nat.le_of_ble_eq_true rfl) (fun r w' hq => ?_)
  obtain ⟨rfl, rfl⟩ := hq
  refine g_if_eq (tgt := 16) d_L_read_5 (by decide) (fun h => absurd h (hasC t hc h4.2.1)) (fun h1 => ?_)
  refine g_aload_n (j := 0) d_L_read_8 rfl ?_
  refine g_iload_n (j := 2) d_L_read_9 rfl ?_
  refine g_callV (c_L_hasFile hs (nI f) ) ok_L_hasFile lk_L_44 in_L_hasFile se_L_hasFile hs.main rfl d_L_read_10 rfl rfl (Nat.le_of_ble_eq_true rfl) ⟨(Nat.le_of_ble_eq_true rfl), (Nat.le_of_ble_eq_true rfl)⟩ (Nat.le_of_ble_eq_true rfl) (Nat.le_of_ble_eq_true rfl) (fun r w' hq => ?_)
  obtain ⟨rfl, rfl⟩ := hq
  refine g_if_ne (tgt := 18) d_L_read_13 (by decide) (fun h2 => ?_) (fun h => absurd h (hasF t hf h4.2.2.2))
  refine g_aload_n (j := 0) d_L_read_18 rfl ?_
  refine g_get d_L_read_19 f_L_35 hs.main rfl ?_
  refine g_iload_n (j := 1) d_L_read_22 rfl ?_
  refine g_aald (t0 := 3) (j := c) d_L_read_23 hs.clis rfl rfl (by omega) (by omega) (rf_if (by omega)) ?_
  refine g_iload_n (j := 2) d_L_read_24 rfl ?_
  refine g_aload_n (j := 0) d_L_read_25 rfl ?_
  refine g_get d_L_read_26 f_L_20 hs.main rfl ?_
  refine g_callV (c_C_startRead hs c f (by omega) (by omega)) ok_C_startRead lk_L_47 in_C_startRead se_C_startRead (hs.cli (c := c) (by omega)) rfl d_L_read_29 rfl rfl (Nat.le_of_ble_eq_true rfl) ⟨(Nat.le_of_ble_eq_true rfl), (Nat.le_of_ble_eq_true rfl)⟩ (Nat.le_of_ble_eq_true rfl) (Nat.le_of_ble_eq_true rfl) (fun r w' hq => ?_)
  obtain ⟨rfl, hs3⟩ := hq
  have hz : s_L_read K t c f = ((s_C_startRead K t c f).1, (s_C_startRead K t c f).2) := by
    unfold s_L_read
    rfl
  exact g_ireturn d_L_read_32 rfl (Nat.le_of_ble_eq_true rfl) (Nat.le_of_ble_eq_true rfl) ⟨by rw [hz], by rw [hz]; exact hs3⟩

set_option maxHeartbeats 4000000 in
set_option maxRecDepth 100000 in
theorem c_L_read_bad {E : gE} {w : wd} {K : kC} {L : lyC} {t : tC} (hs : SysC E K L t w) (x : Int32) (y : Int32) (hbad : s_L_hasClient K t x = 0 ∨ s_L_hasFile K t y = 0) : Cn E y_L_read 4 0 0 [.ref (L.1 (0, 0, 0)), .int x, .int y] w (fun r w' => r = some (.int (-1)) ∧ w' = w) := by
  refine Cn.of (by decide) (Nat.le_of_ble_eq_true rfl) (fun A => ?_)
  show G E y_L_read _ 0 [(0, .ref (L.1 (0, 0, 0))), (1, .int x), (2, .int y)] [] w 0 0
  have h4 := hs.nc
  have h64 := hs.pn
  refine g_aload_n (j := 0) d_L_read_0 rfl ?_
  refine g_iload_n (j := 1) d_L_read_1 rfl ?_
  refine g_callV (c_L_hasClient hs x ) ok_L_hasClient lk_L_40 in_L_hasClient se_L_hasClient hs.main rfl d_L_read_2 rfl rfl (Nat.le_of_ble_eq_true rfl) ⟨(Nat.le_of_ble_eq_true rfl), (Nat.le_of_ble_eq_true rfl)⟩ (Nat.le_of_ble_eq_true rfl) (Nat.le_of_ble_eq_true rfl) (fun r w' hq => ?_)
  obtain ⟨rfl, rfl⟩ := hq
  refine g_if_eq (tgt := 16) d_L_read_5 (by decide) (fun h1 => ?_) (fun h1 => ?_)
  · skip
    refine g_iconst (v := (-1)) d_L_read_16 (by decide) ?_
    exact g_ireturn d_L_read_17 rfl (Nat.le_of_ble_eq_true rfl) (Nat.le_of_ble_eq_true rfl) ⟨rfl, rfl⟩
  · skip
    refine g_aload_n (j := 0) d_L_read_8 rfl ?_
    refine g_iload_n (j := 2) d_L_read_9 rfl ?_
    refine g_callV (c_L_hasFile hs y ) ok_L_hasFile lk_L_44 in_L_hasFile se_L_hasFile hs.main rfl d_L_read_10 rfl rfl (Nat.le_of_ble_eq_true rfl) ⟨(Nat.le_of_ble_eq_true rfl), (Nat.le_of_ble_eq_true rfl)⟩ (Nat.le_of_ble_eq_true rfl) (Nat.le_of_ble_eq_true rfl) (fun r w' hq => ?_)
    obtain ⟨rfl, rfl⟩ := hq
    refine g_if_ne (tgt := 18) d_L_read_13 (by decide) (fun h => absurd (hbad.resolve_left h1) h) (fun h2 => ?_)
    refine g_iconst (v := (-1)) d_L_read_16 (by decide) ?_
    exact g_ireturn d_L_read_17 rfl (Nat.le_of_ble_eq_true rfl) (Nat.le_of_ble_eq_true rfl) ⟨rfl, rfl⟩

def s_L_write (K : kC) (t : tC) (c : Nat) (f : Nat) (v : Int32) : tC × Int32 :=
  ((s_C_startWrite K t c f v).1, (s_C_startWrite K t c f v).2)
set_option maxHeartbeats 4000000 in
set_option maxRecDepth 100000 in
theorem c_L_write {E : gE} {w : wd} {K : kC} {L : lyC} {t : tC} (hs : SysC E K L t w) (c : Nat) (f : Nat) (v : Int32) (hc : c < K.1) (hf : f < K.2.1) : Cn E y_L_write 4 0 0 [.ref (L.1 (0, 0, 0)), .int (nI c), .int (nI f), .int v] w (fun r w' => r = some (.int (s_L_write K t c f v).2) ∧ SysC E K L (s_L_write K t c f v).1 w') := by
  refine Cn.of (by decide) (Nat.le_of_ble_eq_true rfl) (fun A => ?_)
  show G E y_L_write _ 0 [(0, .ref (L.1 (0, 0, 0))), (1, .int (nI c)), (2, .int (nI f)), (3, .int v)] [] w 0 0
  have h4 := hs.nc
  have h64 := hs.pn
  refine g_aload_n (j := 0) d_L_write_0 rfl ?_
  refine g_iload_n (j := 1) d_L_write_1 rfl ?_
  refine g_callV (c_L_hasClient hs (nI c) ) ok_L_hasClient lk_L_40 in_L_hasClient se_L_hasClient hs.main rfl d_L_write_2 rfl rfl (Nat.le_of_ble_eq_true rfl) ⟨(Nat.le_of_ble_eq_true rfl), (Nat.le_of_ble_eq_true rfl)⟩ (Nat.le_of_ble_eq_true rfl) (Nat.le_of_ble_eq_true rfl) (fun r w' hq => ?_)
  obtain ⟨rfl, rfl⟩ := hq
  refine g_if_eq (tgt := 16) d_L_write_5 (by decide) (fun h => absurd h (hasC t hc h4.2.1)) (fun h1 => ?_)
  refine g_aload_n (j := 0) d_L_write_8 rfl ?_
  refine g_iload_n (j := 2) d_L_write_9 rfl ?_
  refine g_callV (c_L_hasFile hs (nI f) ) ok_L_hasFile lk_L_44 in_L_hasFile se_L_hasFile hs.main rfl d_L_write_10 rfl rfl (Nat.le_of_ble_eq_true rfl) ⟨(Nat.le_of_ble_eq_true rfl), (Nat.le_of_ble_eq_true rfl)⟩ (Nat.le_of_ble_eq_true rfl) (Nat.le_of_ble_eq_true rfl) (fun r w' hq => ?_)
  obtain ⟨rfl, rfl⟩ := hq
  refine g_if_ne (tgt := 18) d_L_write_13 (by decide) (fun h2 => ?_) (fun h => absurd h (hasF t hf h4.2.2.2))
  refine g_aload_n (j := 0) d_L_write_18 rfl ?_
  refine g_get d_L_write_19 f_L_35 hs.main rfl ?_
  refine g_iload_n (j := 1) d_L_write_22 rfl ?_
  refine g_aald (t0 := 3) (j := c) d_L_write_23 hs.clis rfl rfl (by omega) (by omega) (rf_if (by omega)) ?_
  refine g_iload_n (j := 2) d_L_write_24 rfl ?_
  refine g_iload_n (j := 3) d_L_write_25 rfl ?_
  refine g_aload_n (j := 0) d_L_write_26 rfl ?_
  refine g_get d_L_write_27 f_L_20 hs.main rfl ?_
  refine g_callV (c_C_startWrite hs c f v (by omega) (by omega)) ok_C_startWrite lk_L_51 in_C_startWrite se_C_startWrite (hs.cli (c := c) (by omega)) rfl d_L_write_30 rfl rfl (Nat.le_of_ble_eq_true rfl) ⟨(Nat.le_of_ble_eq_true rfl), (Nat.le_of_ble_eq_true rfl)⟩ (Nat.le_of_ble_eq_true rfl) (Nat.le_of_ble_eq_true rfl) (fun r w' hq => ?_)
  obtain ⟨rfl, hs3⟩ := hq
  have hz : s_L_write K t c f v = ((s_C_startWrite K t c f v).1, (s_C_startWrite K t c f v).2) := by
    unfold s_L_write
    rfl
  exact g_ireturn d_L_write_33 rfl (Nat.le_of_ble_eq_true rfl) (Nat.le_of_ble_eq_true rfl) ⟨by rw [hz], by rw [hz]; exact hs3⟩

set_option maxHeartbeats 4000000 in
set_option maxRecDepth 100000 in
theorem c_L_write_bad {E : gE} {w : wd} {K : kC} {L : lyC} {t : tC} (hs : SysC E K L t w) (x : Int32) (y : Int32) (v : Int32) (hbad : s_L_hasClient K t x = 0 ∨ s_L_hasFile K t y = 0) : Cn E y_L_write 4 0 0 [.ref (L.1 (0, 0, 0)), .int x, .int y, .int v] w (fun r w' => r = some (.int (-1)) ∧ w' = w) := by
  refine Cn.of (by decide) (Nat.le_of_ble_eq_true rfl) (fun A => ?_)
  show G E y_L_write _ 0 [(0, .ref (L.1 (0, 0, 0))), (1, .int x), (2, .int y), (3, .int v)] [] w 0 0
  have h4 := hs.nc
  have h64 := hs.pn
  refine g_aload_n (j := 0) d_L_write_0 rfl ?_
  refine g_iload_n (j := 1) d_L_write_1 rfl ?_
  refine g_callV (c_L_hasClient hs x ) ok_L_hasClient lk_L_40 in_L_hasClient se_L_hasClient hs.main rfl d_L_write_2 rfl rfl (Nat.le_of_ble_eq_true rfl) ⟨(Nat.le_of_ble_eq_true rfl), (Nat.le_of_ble_eq_true rfl)⟩ (Nat.le_of_ble_eq_true rfl) (Nat.le_of_ble_eq_true rfl) (fun r w' hq => ?_)
  obtain ⟨rfl, rfl⟩ := hq
  refine g_if_eq (tgt := 16) d_L_write_5 (by decide) (fun h1 => ?_) (fun h1 => ?_)
  · skip
    refine g_iconst (v := (-1)) d_L_write_16 (by decide) ?_
    exact g_ireturn d_L_write_17 rfl (Nat.le_of_ble_eq_true rfl) (Nat.le_of_ble_eq_true rfl) ⟨rfl, rfl⟩
  · skip
    refine g_aload_n (j := 0) d_L_write_8 rfl ?_
    refine g_iload_n (j := 2) d_L_write_9 rfl ?_
    refine g_callV (c_L_hasFile hs y ) ok_L_hasFile lk_L_44 in_L_hasFile se_L_hasFile hs.main rfl d_L_write_10 rfl rfl (Nat.le_of_ble_eq_true rfl) ⟨(Nat.le_of_ble_eq_true rfl), (Nat.le_of_ble_eq_true rfl)⟩ (Nat.le_of_ble_eq_true rfl) (Nat.le_of_ble_eq_true rfl) (fun r w' hq => ?_)
    obtain ⟨rfl, rfl⟩ := hq
    refine g_if_ne (tgt := 18) d_L_write_13 (by decide) (fun h => absurd (hbad.resolve_left h1) h) (fun h2 => ?_)
    refine g_iconst (v := (-1)) d_L_write_16 (by decide) ?_
    exact g_ireturn d_L_write_17 rfl (Nat.le_of_ble_eq_true rfl) (Nat.le_of_ble_eq_true rfl) ⟨rfl, rfl⟩

def s_L_retry (K : kC) (t : tC) (c : Nat) : tC × Int32 :=
  ((s_C_sendAgain K t c).1, (s_C_sendAgain K t c).2)
set_option maxHeartbeats 4000000 in
set_option maxRecDepth 100000 in
theorem c_L_retry {E : gE} {w : wd} {K : kC} {L : lyC} {t : tC} (hs : SysC E K L t w) (c : Nat) (hc : c < K.1) : Cn E y_L_retry 4 0 0 [.ref (L.1 (0, 0, 0)), .int (nI c)] w (fun r w' => r = some (.int (s_L_retry K t c).2) ∧ SysC E K L (s_L_retry K t c).1 w') := by
  refine Cn.of (by decide) (Nat.le_of_ble_eq_true rfl) (fun A => ?_)
  show G E y_L_retry _ 0 [(0, .ref (L.1 (0, 0, 0))), (1, .int (nI c))] [] w 0 0
  have h4 := hs.nc
  have h64 := hs.pn
  refine g_aload_n (j := 0) d_L_retry_0 rfl ?_
  refine g_iload_n (j := 1) d_L_retry_1 rfl ?_
  refine g_callV (c_L_hasClient hs (nI c) ) ok_L_hasClient lk_L_40 in_L_hasClient se_L_hasClient hs.main rfl d_L_retry_2 rfl rfl (Nat.le_of_ble_eq_true rfl) ⟨(Nat.le_of_ble_eq_true rfl), (Nat.le_of_ble_eq_true rfl)⟩ (Nat.le_of_ble_eq_true rfl) (Nat.le_of_ble_eq_true rfl) (fun r w' hq => ?_)
  obtain ⟨rfl, rfl⟩ := hq
  refine g_if_eq (tgt := 24) d_L_retry_5 (by decide) (fun h => absurd h (hasC t hc h4.2.1)) (fun h1 => ?_)
  refine g_aload_n (j := 0) d_L_retry_8 rfl ?_
  refine g_get d_L_retry_9 f_L_35 hs.main rfl ?_
  refine g_iload_n (j := 1) d_L_retry_12 rfl ?_
  refine g_aald (t0 := 3) (j := c) d_L_retry_13 hs.clis rfl rfl (by omega) (by omega) (rf_if (by omega)) ?_
  refine g_aload_n (j := 0) d_L_retry_14 rfl ?_
  refine g_get d_L_retry_15 f_L_20 hs.main rfl ?_
  refine g_callV (c_C_sendAgain hs c (by omega)) ok_C_sendAgain lk_L_55 in_C_sendAgain se_C_sendAgain (hs.cli (c := c) (by omega)) rfl d_L_retry_18 rfl rfl (Nat.le_of_ble_eq_true rfl) ⟨(Nat.le_of_ble_eq_true rfl), (Nat.le_of_ble_eq_true rfl)⟩ (Nat.le_of_ble_eq_true rfl) (Nat.le_of_ble_eq_true rfl) (fun r w' hq => ?_)
  obtain ⟨rfl, hs2⟩ := hq
  refine g_goto (tgt := 25) d_L_retry_21 (by decide) ?_
  have hz : s_L_retry K t c = ((s_C_sendAgain K t c).1, (s_C_sendAgain K t c).2) := by
    unfold s_L_retry
    rfl
  exact g_ireturn d_L_retry_25 rfl (Nat.le_of_ble_eq_true rfl) (Nat.le_of_ble_eq_true rfl) ⟨by rw [hz], by rw [hz]; exact hs2⟩

set_option maxHeartbeats 4000000 in
set_option maxRecDepth 100000 in
theorem c_L_retry_bad {E : gE} {w : wd} {K : kC} {L : lyC} {t : tC} (hs : SysC E K L t w) (x : Int32) (hbad : s_L_hasClient K t x = 0) : Cn E y_L_retry 4 0 0 [.ref (L.1 (0, 0, 0)), .int x] w (fun r w' => r = some (.int (-1)) ∧ w' = w) := by
  refine Cn.of (by decide) (Nat.le_of_ble_eq_true rfl) (fun A => ?_)
  show G E y_L_retry _ 0 [(0, .ref (L.1 (0, 0, 0))), (1, .int x)] [] w 0 0
  have h4 := hs.nc
  have h64 := hs.pn
  refine g_aload_n (j := 0) d_L_retry_0 rfl ?_
  refine g_iload_n (j := 1) d_L_retry_1 rfl ?_
  refine g_callV (c_L_hasClient hs x ) ok_L_hasClient lk_L_40 in_L_hasClient se_L_hasClient hs.main rfl d_L_retry_2 rfl rfl (Nat.le_of_ble_eq_true rfl) ⟨(Nat.le_of_ble_eq_true rfl), (Nat.le_of_ble_eq_true rfl)⟩ (Nat.le_of_ble_eq_true rfl) (Nat.le_of_ble_eq_true rfl) (fun r w' hq => ?_)
  obtain ⟨rfl, rfl⟩ := hq
  refine g_if_eq (tgt := 24) d_L_retry_5 (by decide) (fun h1 => ?_) (fun h => absurd (hbad) h)
  refine g_iconst (v := (-1)) d_L_retry_24 (by decide) ?_
  exact g_ireturn d_L_retry_25 rfl (Nat.le_of_ble_eq_true rfl) (Nat.le_of_ble_eq_true rfl) ⟨rfl, rfl⟩

def s_L_status (K : kC) (t : tC) (c : Nat) : Int32 :=
  t.1 0 c 1
set_option maxHeartbeats 4000000 in
set_option maxRecDepth 100000 in
theorem c_L_status {E : gE} {w : wd} {K : kC} {L : lyC} {t : tC} (hs : SysC E K L t w) (c : Nat) (hc : c < K.1) : Cn E y_L_status 2 0 0 [.ref (L.1 (0, 0, 0)), .int (nI c)] w (fun r w' => r = some (.int (s_L_status K t c)) ∧ w' = w) := by
  refine Cn.of (by decide) (Nat.le_of_ble_eq_true rfl) (fun A => ?_)
  show G E y_L_status _ 0 [(0, .ref (L.1 (0, 0, 0))), (1, .int (nI c))] [] w 0 0
  have h4 := hs.nc
  have h64 := hs.pn
  refine g_aload_n (j := 0) d_L_status_0 rfl ?_
  refine g_iload_n (j := 1) d_L_status_1 rfl ?_
  refine g_callV (c_L_hasClient hs (nI c) ) ok_L_hasClient lk_L_40 in_L_hasClient se_L_hasClient hs.main rfl d_L_status_2 rfl rfl (Nat.le_of_ble_eq_true rfl) ⟨(Nat.le_of_ble_eq_true rfl), (Nat.le_of_ble_eq_true rfl)⟩ (Nat.le_of_ble_eq_true rfl) (Nat.le_of_ble_eq_true rfl) (fun r w' hq => ?_)
  obtain ⟨rfl, rfl⟩ := hq
  refine g_if_eq (tgt := 20) d_L_status_5 (by decide) (fun h => absurd h (hasC t hc h4.2.1)) (fun h1 => ?_)
  refine g_aload_n (j := 0) d_L_status_8 rfl ?_
  refine g_get d_L_status_9 f_L_35 hs.main rfl ?_
  refine g_iload_n (j := 1) d_L_status_12 rfl ?_
  refine g_aald (t0 := 3) (j := c) d_L_status_13 hs.clis rfl rfl (by omega) (by omega) (rf_if (by omega)) ?_
  refine g_get d_L_status_14 f_L_59 (hs.cli (c := c) (by omega)) rfl ?_
  refine g_goto (tgt := 21) d_L_status_17 (by decide) ?_
  have hz : s_L_status K t c = t.1 0 c 1 := by
    unfold s_L_status
    rfl
  exact g_ireturn d_L_status_21 rfl (Nat.le_of_ble_eq_true rfl) (Nat.le_of_ble_eq_true rfl) ⟨by rw [hz], rfl⟩

set_option maxHeartbeats 4000000 in
set_option maxRecDepth 100000 in
theorem c_L_status_bad {E : gE} {w : wd} {K : kC} {L : lyC} {t : tC} (hs : SysC E K L t w) (x : Int32) (hbad : s_L_hasClient K t x = 0) : Cn E y_L_status 2 0 0 [.ref (L.1 (0, 0, 0)), .int x] w (fun r w' => r = some (.int (-1)) ∧ w' = w) := by
  refine Cn.of (by decide) (Nat.le_of_ble_eq_true rfl) (fun A => ?_)
  show G E y_L_status _ 0 [(0, .ref (L.1 (0, 0, 0))), (1, .int x)] [] w 0 0
  have h4 := hs.nc
  have h64 := hs.pn
  refine g_aload_n (j := 0) d_L_status_0 rfl ?_
  refine g_iload_n (j := 1) d_L_status_1 rfl ?_
  refine g_callV (c_L_hasClient hs x ) ok_L_hasClient lk_L_40 in_L_hasClient se_L_hasClient hs.main rfl d_L_status_2 rfl rfl (Nat.le_of_ble_eq_true rfl) ⟨(Nat.le_of_ble_eq_true rfl), (Nat.le_of_ble_eq_true rfl)⟩ (Nat.le_of_ble_eq_true rfl) (Nat.le_of_ble_eq_true rfl) (fun r w' hq => ?_)
  obtain ⟨rfl, rfl⟩ := hq
  refine g_if_eq (tgt := 20) d_L_status_5 (by decide) (fun h1 => ?_) (fun h => absurd (hbad) h)
  refine g_iconst (v := (-1)) d_L_status_20 (by decide) ?_
  exact g_ireturn d_L_status_21 rfl (Nat.le_of_ble_eq_true rfl) (Nat.le_of_ble_eq_true rfl) ⟨rfl, rfl⟩

def s_L_isDone (K : kC) (t : tC) (c : Nat) : Int32 :=
  if t.1 0 c 1 = 1 then
    1
  else
    0
set_option maxHeartbeats 4000000 in
set_option maxRecDepth 100000 in
theorem c_L_isDone {E : gE} {w : wd} {K : kC} {L : lyC} {t : tC} (hs : SysC E K L t w) (c : Nat) (hc : c < K.1) : Cn E y_L_isDone 2 0 0 [.ref (L.1 (0, 0, 0)), .int (nI c)] w (fun r w' => r = some (.int (s_L_isDone K t c)) ∧ w' = w) := by
  refine Cn.of (by decide) (Nat.le_of_ble_eq_true rfl) (fun A => ?_)
  show G E y_L_isDone _ 0 [(0, .ref (L.1 (0, 0, 0))), (1, .int (nI c))] [] w 0 0
  have h4 := hs.nc
  have h64 := hs.pn
  refine g_aload_n (j := 0) d_L_isDone_0 rfl ?_
  refine g_iload_n (j := 1) d_L_isDone_1 rfl ?_
  refine g_callV (c_L_hasClient hs (nI c) ) ok_L_hasClient lk_L_40 in_L_hasClient se_L_hasClient hs.main rfl d_L_isDone_2 rfl rfl (Nat.le_of_ble_eq_true rfl) ⟨(Nat.le_of_ble_eq_true rfl), (Nat.le_of_ble_eq_true rfl)⟩ (Nat.le_of_ble_eq_true rfl) (Nat.le_of_ble_eq_true rfl) (fun r w' hq => ?_)
  obtain ⟨rfl, rfl⟩ := hq
  refine g_if_eq (tgt := 25) d_L_isDone_5 (by decide) (fun h => absurd h (hasC t hc h4.2.1)) (fun h1 => ?_)
  refine g_aload_n (j := 0) d_L_isDone_8 rfl ?_
  refine g_get d_L_isDone_9 f_L_35 hs.main rfl ?_
  refine g_iload_n (j := 1) d_L_isDone_12 rfl ?_
  refine g_aald (t0 := 3) (j := c) d_L_isDone_13 hs.clis rfl rfl (by omega) (by omega) (rf_if (by omega)) ?_
  refine g_get d_L_isDone_14 f_L_59 (hs.cli (c := c) (by omega)) rfl ?_
  refine g_iconst (v := 1) d_L_isDone_17 (by decide) ?_
  refine g_icmp_ne (tgt := 25) d_L_isDone_18 (by decide) (fun h2 => ?_) (fun h2 => ?_)
  · skip
    refine g_iconst (v := 0) d_L_isDone_25 (by decide) ?_
    have hz : s_L_isDone K t c = 0 := by
      unfold s_L_isDone
      rw [if_neg h2]
    exact g_zreturn d_L_isDone_26 rfl (by decide) (Nat.le_of_ble_eq_true rfl) (Nat.le_of_ble_eq_true rfl) ⟨by rw [hz], rfl⟩
  · skip
    refine g_iconst (v := 1) d_L_isDone_21 (by decide) ?_
    refine g_goto (tgt := 26) d_L_isDone_22 (by decide) ?_
    have hz : s_L_isDone K t c = 1 := by
      unfold s_L_isDone
      rw [if_pos h2]
    exact g_zreturn d_L_isDone_26 rfl (by decide) (Nat.le_of_ble_eq_true rfl) (Nat.le_of_ble_eq_true rfl) ⟨by rw [hz], rfl⟩

set_option maxHeartbeats 4000000 in
set_option maxRecDepth 100000 in
theorem c_L_isDone_bad {E : gE} {w : wd} {K : kC} {L : lyC} {t : tC} (hs : SysC E K L t w) (x : Int32) (hbad : s_L_hasClient K t x = 0) : Cn E y_L_isDone 2 0 0 [.ref (L.1 (0, 0, 0)), .int x] w (fun r w' => r = some (.int 0) ∧ w' = w) := by
  refine Cn.of (by decide) (Nat.le_of_ble_eq_true rfl) (fun A => ?_)
  show G E y_L_isDone _ 0 [(0, .ref (L.1 (0, 0, 0))), (1, .int x)] [] w 0 0
  have h4 := hs.nc
  have h64 := hs.pn
  refine g_aload_n (j := 0) d_L_isDone_0 rfl ?_
  refine g_iload_n (j := 1) d_L_isDone_1 rfl ?_
  refine g_callV (c_L_hasClient hs x ) ok_L_hasClient lk_L_40 in_L_hasClient se_L_hasClient hs.main rfl d_L_isDone_2 rfl rfl (Nat.le_of_ble_eq_true rfl) ⟨(Nat.le_of_ble_eq_true rfl), (Nat.le_of_ble_eq_true rfl)⟩ (Nat.le_of_ble_eq_true rfl) (Nat.le_of_ble_eq_true rfl) (fun r w' hq => ?_)
  obtain ⟨rfl, rfl⟩ := hq
  refine g_if_eq (tgt := 25) d_L_isDone_5 (by decide) (fun h1 => ?_) (fun h => absurd (hbad) h)
  refine g_iconst (v := 0) d_L_isDone_25 (by decide) ?_
  exact g_zreturn d_L_isDone_26 rfl (by decide) (Nat.le_of_ble_eq_true rfl) (Nat.le_of_ble_eq_true rfl) ⟨rfl, rfl⟩

def s_L_result (K : kC) (t : tC) (c : Nat) : Int32 :=
  if s_L_isDone K t c = 0 then
    0
  else
    t.1 0 c 8
set_option maxHeartbeats 4000000 in
set_option maxRecDepth 100000 in
theorem c_L_result {E : gE} {w : wd} {K : kC} {L : lyC} {t : tC} (hs : SysC E K L t w) (c : Nat) (hc : c < K.1) : Cn E y_L_result 3 0 0 [.ref (L.1 (0, 0, 0)), .int (nI c)] w (fun r w' => r = some (.int (s_L_result K t c)) ∧ w' = w) := by
  refine Cn.of (by decide) (Nat.le_of_ble_eq_true rfl) (fun A => ?_)
  show G E y_L_result _ 0 [(0, .ref (L.1 (0, 0, 0))), (1, .int (nI c))] [] w 0 0
  have h4 := hs.nc
  have h64 := hs.pn
  refine g_aload_n (j := 0) d_L_result_0 rfl ?_
  refine g_iload_n (j := 1) d_L_result_1 rfl ?_
  refine g_callV (c_L_isDone hs c (by omega)) ok_L_isDone lk_L_62 in_L_isDone se_L_isDone hs.main rfl d_L_result_2 rfl rfl (Nat.le_of_ble_eq_true rfl) ⟨(Nat.le_of_ble_eq_true rfl), (Nat.le_of_ble_eq_true rfl)⟩ (Nat.le_of_ble_eq_true rfl) (Nat.le_of_ble_eq_true rfl) (fun r w' hq => ?_)
  obtain ⟨rfl, rfl⟩ := hq
  refine g_if_eq (tgt := 20) d_L_result_5 (by decide) (fun h1 => ?_) (fun h1 => ?_)
  · skip
    refine g_iconst (v := 0) d_L_result_20 (by decide) ?_
    have hz : s_L_result K t c = 0 := by
      unfold s_L_result
      rw [if_pos h1]
    exact g_ireturn d_L_result_21 rfl (Nat.le_of_ble_eq_true rfl) (Nat.le_of_ble_eq_true rfl) ⟨by rw [hz], rfl⟩
  · skip
    refine g_aload_n (j := 0) d_L_result_8 rfl ?_
    refine g_get d_L_result_9 f_L_35 hs.main rfl ?_
    refine g_iload_n (j := 1) d_L_result_12 rfl ?_
    refine g_aald (t0 := 3) (j := c) d_L_result_13 hs.clis rfl rfl (by omega) (by omega) (rf_if (by omega)) ?_
    refine g_get d_L_result_14 f_L_65 (hs.cli (c := c) (by omega)) rfl ?_
    refine g_goto (tgt := 21) d_L_result_17 (by decide) ?_
    have hz : s_L_result K t c = t.1 0 c 8 := by
      unfold s_L_result
      rw [if_neg h1]
    exact g_ireturn d_L_result_21 rfl (Nat.le_of_ble_eq_true rfl) (Nat.le_of_ble_eq_true rfl) ⟨by rw [hz], rfl⟩

def s_L_version (K : kC) (t : tC) (c : Nat) : Int32 :=
  if s_L_isDone K t c = 0 then
    (-1)
  else
    t.1 0 c 9
set_option maxHeartbeats 4000000 in
set_option maxRecDepth 100000 in
theorem c_L_version {E : gE} {w : wd} {K : kC} {L : lyC} {t : tC} (hs : SysC E K L t w) (c : Nat) (hc : c < K.1) : Cn E y_L_version 3 0 0 [.ref (L.1 (0, 0, 0)), .int (nI c)] w (fun r w' => r = some (.int (s_L_version K t c)) ∧ w' = w) := by
  refine Cn.of (by decide) (Nat.le_of_ble_eq_true rfl) (fun A => ?_)
  show G E y_L_version _ 0 [(0, .ref (L.1 (0, 0, 0))), (1, .int (nI c))] [] w 0 0
  have h4 := hs.nc
  have h64 := hs.pn
  refine g_aload_n (j := 0) d_L_version_0 rfl ?_
  refine g_iload_n (j := 1) d_L_version_1 rfl ?_
  refine g_callV (c_L_isDone hs c (by omega)) ok_L_isDone lk_L_62 in_L_isDone se_L_isDone hs.main rfl d_L_version_2 rfl rfl (Nat.le_of_ble_eq_true rfl) ⟨(Nat.le_of_ble_eq_true rfl), (Nat.le_of_ble_eq_true rfl)⟩ (Nat.le_of_ble_eq_true rfl) (Nat.le_of_ble_eq_true rfl) (fun r w' hq => ?_)
  obtain ⟨rfl, rfl⟩ := hq
  refine g_if_eq (tgt := 20) d_L_version_5 (by decide) (fun h1 => ?_) (fun h1 => ?_)
  · skip
    refine g_iconst (v := (-1)) d_L_version_20 (by decide) ?_
    have hz : s_L_version K t c = (-1) := by
      unfold s_L_version
      rw [if_pos h1]
    exact g_ireturn d_L_version_21 rfl (Nat.le_of_ble_eq_true rfl) (Nat.le_of_ble_eq_true rfl) ⟨by rw [hz], rfl⟩
  · skip
    refine g_aload_n (j := 0) d_L_version_8 rfl ?_
    refine g_get d_L_version_9 f_L_35 hs.main rfl ?_
    refine g_iload_n (j := 1) d_L_version_12 rfl ?_
    refine g_aald (t0 := 3) (j := c) d_L_version_13 hs.clis rfl rfl (by omega) (by omega) (rf_if (by omega)) ?_
    refine g_get d_L_version_14 f_L_68 (hs.cli (c := c) (by omega)) rfl ?_
    refine g_goto (tgt := 21) d_L_version_17 (by decide) ?_
    have hz : s_L_version K t c = t.1 0 c 9 := by
      unfold s_L_version
      rw [if_neg h1]
    exact g_ireturn d_L_version_21 rfl (Nat.le_of_ble_eq_true rfl) (Nat.le_of_ble_eq_true rfl) ⟨by rw [hz], rfl⟩

set_option maxHeartbeats 4000000 in
set_option maxRecDepth 100000 in
theorem c_L_result_bad {E : gE} {w : wd} {K : kC} {L : lyC} {t : tC} (hs : SysC E K L t w) (x : Int32) (hbad : s_L_hasClient K t x = 0) : Cn E y_L_result 3 0 0 [.ref (L.1 (0, 0, 0)), .int x] w (fun r w' => r = some (.int 0) ∧ w' = w) := by
  refine Cn.of (by decide) (Nat.le_of_ble_eq_true rfl) (fun A => ?_)
  show G E y_L_result _ 0 [(0, .ref (L.1 (0, 0, 0))), (1, .int x)] [] w 0 0
  have h4 := hs.nc
  have h64 := hs.pn
  refine g_aload_n (j := 0) d_L_result_0 rfl ?_
  refine g_iload_n (j := 1) d_L_result_1 rfl ?_
  refine g_callV (c_L_isDone_bad hs x hbad) ok_L_isDone lk_L_62 in_L_isDone se_L_isDone hs.main rfl d_L_result_2 rfl rfl (Nat.le_of_ble_eq_true rfl) ⟨(Nat.le_of_ble_eq_true rfl), (Nat.le_of_ble_eq_true rfl)⟩ (Nat.le_of_ble_eq_true rfl) (Nat.le_of_ble_eq_true rfl) (fun r w' hq => ?_)
  obtain ⟨rfl, rfl⟩ := hq
  refine g_if_eq (tgt := 20) d_L_result_5 (by decide) (fun h1 => ?_) (fun h => absurd (rfl) h)
  refine g_iconst (v := 0) d_L_result_20 (by decide) ?_
  exact g_ireturn d_L_result_21 rfl (Nat.le_of_ble_eq_true rfl) (Nat.le_of_ble_eq_true rfl) ⟨rfl, rfl⟩

set_option maxHeartbeats 4000000 in
set_option maxRecDepth 100000 in
theorem c_L_version_bad {E : gE} {w : wd} {K : kC} {L : lyC} {t : tC} (hs : SysC E K L t w) (x : Int32) (hbad : s_L_hasClient K t x = 0) : Cn E y_L_version 3 0 0 [.ref (L.1 (0, 0, 0)), .int x] w (fun r w' => r = some (.int (-1)) ∧ w' = w) := by
  refine Cn.of (by decide) (Nat.le_of_ble_eq_true rfl) (fun A => ?_)
  show G E y_L_version _ 0 [(0, .ref (L.1 (0, 0, 0))), (1, .int x)] [] w 0 0
  have h4 := hs.nc
  have h64 := hs.pn
  refine g_aload_n (j := 0) d_L_version_0 rfl ?_
  refine g_iload_n (j := 1) d_L_version_1 rfl ?_
  refine g_callV (c_L_isDone_bad hs x hbad) ok_L_isDone lk_L_62 in_L_isDone se_L_isDone hs.main rfl d_L_version_2 rfl rfl (Nat.le_of_ble_eq_true rfl) ⟨(Nat.le_of_ble_eq_true rfl), (Nat.le_of_ble_eq_true rfl)⟩ (Nat.le_of_ble_eq_true rfl) (Nat.le_of_ble_eq_true rfl) (fun r w' hq => ?_)
  obtain ⟨rfl, rfl⟩ := hq
  refine g_if_eq (tgt := 20) d_L_version_5 (by decide) (fun h1 => ?_) (fun h => absurd (rfl) h)
  refine g_iconst (v := (-1)) d_L_version_20 (by decide) ?_
  exact g_ireturn d_L_version_21 rfl (Nat.le_of_ble_eq_true rfl) (Nat.le_of_ble_eq_true rfl) ⟨rfl, rfl⟩

def s_L_pending (K : kC) (t : tC) : Int32 :=
  nI (t.2.2)
set_option maxHeartbeats 4000000 in
set_option maxRecDepth 100000 in
theorem c_L_pending {E : gE} {w : wd} {K : kC} {L : lyC} {t : tC} (hs : SysC E K L t w) : Cn E y_L_pending 1 0 0 [.ref (L.1 (0, 0, 0))] w (fun r w' => r = some (.int (s_L_pending K t )) ∧ w' = w) := by
  refine Cn.of (by decide) (Nat.le_of_ble_eq_true rfl) (fun A => ?_)
  show G E y_L_pending _ 0 [(0, .ref (L.1 (0, 0, 0)))] [] w 0 0
  have h4 := hs.nc
  have h64 := hs.pn
  refine g_aload_n (j := 0) d_L_pending_0 rfl ?_
  refine g_get d_L_pending_1 f_L_20 hs.main rfl ?_
  refine g_get d_L_pending_4 f_L_97 hs.pool rfl ?_
  have hz : s_L_pending K t = nI (t.2.2) := by
    unfold s_L_pending
    rfl
  exact g_ireturn d_L_pending_7 rfl (Nat.le_of_ble_eq_true rfl) (Nat.le_of_ble_eq_true rfl) ⟨by rw [hz], rfl⟩

def s_L_message (K : kC) (t : tC) (k : Nat) (y : Int32) : Int32 :=
  s_M_part K t k y
set_option maxHeartbeats 4000000 in
set_option maxRecDepth 100000 in
theorem c_L_message {E : gE} {w : wd} {K : kC} {L : lyC} {t : tC} (hs : SysC E K L t w) (k : Nat) (y : Int32) (hk : k < t.2.2) : Cn E y_L_message 2 0 0 [.ref (L.1 (0, 0, 0)), .int (nI k), .int y] w (fun r w' => r = some (.int (s_L_message K t k y)) ∧ w' = w) := by
  refine Cn.of (by decide) (Nat.le_of_ble_eq_true rfl) (fun A => ?_)
  show G E y_L_message _ 0 [(0, .ref (L.1 (0, 0, 0))), (1, .int (nI k)), (2, .int y)] [] w 0 0
  have h4 := hs.nc
  have h64 := hs.pn
  refine g_aload_n (j := 0) d_L_message_0 rfl ?_
  refine g_get d_L_message_1 f_L_20 hs.main rfl ?_
  refine g_iload_n (j := 1) d_L_message_4 rfl ?_
  refine g_callV (c_P_holds hs (nI k) ) ok_P_holds lk_L_71 in_P_holds se_P_holds hs.pool rfl d_L_message_5 rfl rfl (Nat.le_of_ble_eq_true rfl) ⟨(Nat.le_of_ble_eq_true rfl), (Nat.le_of_ble_eq_true rfl)⟩ (Nat.le_of_ble_eq_true rfl) (Nat.le_of_ble_eq_true rfl) (fun r w' hq => ?_)
  obtain ⟨rfl, rfl⟩ := hq
  refine g_if_eq (tgt := 27) d_L_message_8 (by decide) (fun h => absurd h (hasM t hk h64)) (fun h1 => ?_)
  refine g_aload_n (j := 0) d_L_message_11 rfl ?_
  refine g_get d_L_message_12 f_L_20 hs.main rfl ?_
  refine g_get d_L_message_15 f_L_100 hs.pool rfl ?_
  refine g_iload_n (j := 1) d_L_message_18 rfl ?_
  refine g_aald (t0 := 2) (j := k) d_L_message_19 hs.msgs rfl rfl (by omega) (by omega) (rf_if (by omega)) ?_
  refine g_iload_n (j := 2) d_L_message_20 rfl ?_
  refine g_callV (c_M_part hs k y (by omega)) ok_M_part lk_L_104 in_M_part se_M_part (hs.msg (i := k) (by omega)) rfl d_L_message_21 rfl rfl (Nat.le_of_ble_eq_true rfl) ⟨(Nat.le_of_ble_eq_true rfl), (Nat.le_of_ble_eq_true rfl)⟩ (Nat.le_of_ble_eq_true rfl) (Nat.le_of_ble_eq_true rfl) (fun r w' hq => ?_)
  obtain ⟨rfl, rfl⟩ := hq
  refine g_goto (tgt := 28) d_L_message_24 (by decide) ?_
  have hz : s_L_message K t k y = s_M_part K t k y := by
    unfold s_L_message
    rfl
  exact g_ireturn d_L_message_28 rfl (Nat.le_of_ble_eq_true rfl) (Nat.le_of_ble_eq_true rfl) ⟨by rw [hz], rfl⟩

set_option maxHeartbeats 4000000 in
set_option maxRecDepth 100000 in
theorem c_L_message_bad {E : gE} {w : wd} {K : kC} {L : lyC} {t : tC} (hs : SysC E K L t w) (x : Int32) (y : Int32) (hbad : s_P_holds K t x = 0) : Cn E y_L_message 2 0 0 [.ref (L.1 (0, 0, 0)), .int x, .int y] w (fun r w' => r = some (.int (-1)) ∧ w' = w) := by
  refine Cn.of (by decide) (Nat.le_of_ble_eq_true rfl) (fun A => ?_)
  show G E y_L_message _ 0 [(0, .ref (L.1 (0, 0, 0))), (1, .int x), (2, .int y)] [] w 0 0
  have h4 := hs.nc
  have h64 := hs.pn
  refine g_aload_n (j := 0) d_L_message_0 rfl ?_
  refine g_get d_L_message_1 f_L_20 hs.main rfl ?_
  refine g_iload_n (j := 1) d_L_message_4 rfl ?_
  refine g_callV (c_P_holds hs x ) ok_P_holds lk_L_71 in_P_holds se_P_holds hs.pool rfl d_L_message_5 rfl rfl (Nat.le_of_ble_eq_true rfl) ⟨(Nat.le_of_ble_eq_true rfl), (Nat.le_of_ble_eq_true rfl)⟩ (Nat.le_of_ble_eq_true rfl) (Nat.le_of_ble_eq_true rfl) (fun r w' hq => ?_)
  obtain ⟨rfl, rfl⟩ := hq
  refine g_if_eq (tgt := 27) d_L_message_8 (by decide) (fun h1 => ?_) (fun h => absurd (hbad) h)
  refine g_iconst (v := (-1)) d_L_message_27 (by decide) ?_
  exact g_ireturn d_L_message_28 rfl (Nat.le_of_ble_eq_true rfl) (Nat.le_of_ble_eq_true rfl) ⟨rfl, rfl⟩

def s_L_tick (K : kC) (t : tC) (x : Int32) : tC × Int32 :=
  if s_L_isStep x = 0 then
    (t, (-1))
  else
    ((s_S_letTimeGoBy K t x).1, (s_S_letTimeGoBy K t x).2)
set_option maxHeartbeats 4000000 in
set_option maxRecDepth 100000 in
theorem c_L_tick {E : gE} {w : wd} {K : kC} {L : lyC} {t : tC} (hs : SysC E K L t w) (x : Int32) (hW : okWC K t) : Cn E y_L_tick 7 0 0 [.ref (L.1 (0, 0, 0)), .int x] w (fun r w' => r = some (.int (s_L_tick K t x).2) ∧ ∃ L' : lyC, (∀ x : nmC, x.1 < 15 → L'.1 x = L.1 x) ∧ SysC E K L' (s_L_tick K t x).1 w') := by
  refine Cn.of (by decide) (Nat.le_of_ble_eq_true rfl) (fun A => ?_)
  show G E y_L_tick _ 0 [(0, .ref (L.1 (0, 0, 0))), (1, .int x)] [] w 0 0
  have h4 := hs.nc
  have h64 := hs.pn
  refine g_iload_n (j := 1) d_L_tick_0 rfl ?_
  refine g_callS (c_L_isStep x ) ok_L_isStep lk_L_108 st_L_isStep d_L_tick_1 rfl rfl (Nat.le_of_ble_eq_true rfl) ⟨(Nat.le_of_ble_eq_true rfl), (Nat.le_of_ble_eq_true rfl)⟩ (Nat.le_of_ble_eq_true rfl) (Nat.le_of_ble_eq_true rfl) (fun r w' hq => ?_)
  obtain ⟨rfl, rfl⟩ := hq
  refine g_if_eq (tgt := 22) d_L_tick_4 (by decide) (fun h1 => ?_) (fun h1 => ?_)
  · skip
    refine g_iconst (v := (-1)) d_L_tick_22 (by decide) ?_
    have hz : s_L_tick K t x = (t, (-1)) := by
      unfold s_L_tick
      rw [if_pos h1]
    exact g_ireturn d_L_tick_23 rfl (Nat.le_of_ble_eq_true rfl) (Nat.le_of_ble_eq_true rfl) ⟨by rw [hz], _, (fun _ _ => rfl), by rw [hz]; exact hs⟩
  · skip
    refine g_aload_n (j := 0) d_L_tick_7 rfl ?_
    refine g_get d_L_tick_8 f_L_29 hs.main rfl ?_
    refine g_iload_n (j := 1) d_L_tick_11 rfl ?_
    refine g_aload_n (j := 0) d_L_tick_12 rfl ?_
    refine g_get d_L_tick_13 f_L_20 hs.main rfl ?_
    refine g_callV (c_S_letTimeGoBy hs x hW) ok_S_letTimeGoBy lk_L_111 in_S_letTimeGoBy se_S_letTimeGoBy hs.srv rfl d_L_tick_16 rfl rfl (Nat.le_of_ble_eq_true rfl) ⟨(Nat.le_of_ble_eq_true rfl), (Nat.le_of_ble_eq_true rfl)⟩ (Nat.le_of_ble_eq_true rfl) (Nat.le_of_ble_eq_true rfl) (fun r w' hq => ?_)
    obtain ⟨rfl, L3, hL4, hs2⟩ := hq
    rw [← hL4 (0, 0, 0) (show 0 < 15 by decide)]
    refine g_goto (tgt := 23) d_L_tick_19 (by decide) ?_
    have hz : s_L_tick K t x = ((s_S_letTimeGoBy K t x).1, (s_S_letTimeGoBy K t x).2) := by
      unfold s_L_tick
      rw [if_neg h1]
    exact g_ireturn d_L_tick_23 rfl (Nat.le_of_ble_eq_true rfl) (Nat.le_of_ble_eq_true rfl) ⟨by rw [hz], _, (fun x hx => (hL4 x hx).trans ((fun _ _ => rfl) x hx)), by rw [hz]; exact hs2⟩

def s_L_pass (K : kC) (t : tC) (c : Nat) (y : Int32) : tC × Int32 :=
  if s_L_isStep y = 0 then
    (t, (-1))
  else
    (stC t 0 c 0 ((t.1 0 c 0) + y), (stC t 0 c 0 ((t.1 0 c 0) + y)).1 0 c 0)
set_option maxHeartbeats 4000000 in
set_option maxRecDepth 100000 in
theorem c_L_pass {E : gE} {w : wd} {K : kC} {L : lyC} {t : tC} (hs : SysC E K L t w) (c : Nat) (y : Int32) (hc : c < K.1) : Cn E y_L_pass 2 0 0 [.ref (L.1 (0, 0, 0)), .int (nI c), .int y] w (fun r w' => r = some (.int (s_L_pass K t c y).2) ∧ SysC E K L (s_L_pass K t c y).1 w') := by
  refine Cn.of (by decide) (Nat.le_of_ble_eq_true rfl) (fun A => ?_)
  show G E y_L_pass _ 0 [(0, .ref (L.1 (0, 0, 0))), (1, .int (nI c)), (2, .int y)] [] w 0 0
  have h4 := hs.nc
  have h64 := hs.pn
  refine g_aload_n (j := 0) d_L_pass_0 rfl ?_
  refine g_iload_n (j := 1) d_L_pass_1 rfl ?_
  refine g_callV (c_L_hasClient hs (nI c) ) ok_L_hasClient lk_L_40 in_L_hasClient se_L_hasClient hs.main rfl d_L_pass_2 rfl rfl (Nat.le_of_ble_eq_true rfl) ⟨(Nat.le_of_ble_eq_true rfl), (Nat.le_of_ble_eq_true rfl)⟩ (Nat.le_of_ble_eq_true rfl) (Nat.le_of_ble_eq_true rfl) (fun r w' hq => ?_)
  obtain ⟨rfl, rfl⟩ := hq
  refine g_if_eq (tgt := 15) d_L_pass_5 (by decide) (fun h => absurd h (hasC t hc h4.2.1)) (fun h1 => ?_)
  refine g_iload_n (j := 2) d_L_pass_8 rfl ?_
  refine g_callS (c_L_isStep y ) ok_L_isStep lk_L_108 st_L_isStep d_L_pass_9 rfl rfl (Nat.le_of_ble_eq_true rfl) ⟨(Nat.le_of_ble_eq_true rfl), (Nat.le_of_ble_eq_true rfl)⟩ (Nat.le_of_ble_eq_true rfl) (Nat.le_of_ble_eq_true rfl) (fun r w' hq => ?_)
  obtain ⟨rfl, rfl⟩ := hq
  refine g_if_ne (tgt := 17) d_L_pass_12 (by decide) (fun h2 => ?_) (fun h2 => ?_)
  · skip
    refine g_aload_n (j := 0) d_L_pass_17 rfl ?_
    refine g_get d_L_pass_18 f_L_35 hs.main rfl ?_
    refine g_iload_n (j := 1) d_L_pass_21 rfl ?_
    refine g_aald (t0 := 3) (j := c) d_L_pass_22 hs.clis rfl rfl (by omega) (by omega) (rf_if (by omega)) ?_
    refine g_dup d_L_pass_23 rfl ?_
    refine g_get d_L_pass_24 f_L_114 (hs.cli (c := c) (by omega)) rfl ?_
    refine g_iload_n (j := 2) d_L_pass_27 rfl ?_
    refine g_iadd d_L_pass_28 ?_
    refine k_cli (c := c) (j := 0) (by omega) d_L_pass_29 fw_L_114 hs (fun _ => rfl) rfl rfl (Nat.le_of_ble_eq_true rfl) (fun w3 hs4 => ?_)
    refine g_aload_n (j := 0) d_L_pass_32 rfl ?_
    refine g_get d_L_pass_33 f_L_35 hs4.main rfl ?_
    refine g_iload_n (j := 1) d_L_pass_36 rfl ?_
    refine g_aald (t0 := 3) (j := c) d_L_pass_37 hs4.clis rfl rfl (by omega) (by omega) (rf_if (by omega)) ?_
    refine g_get d_L_pass_38 f_L_114 (hs4.cli (c := c) (by omega)) rfl ?_
    have hz : s_L_pass K t c y = (stC t 0 c 0 ((t.1 0 c 0) + y), (stC t 0 c 0 ((t.1 0 c 0) + y)).1 0 c 0) := by
      unfold s_L_pass
      rw [if_neg h2]
    exact g_ireturn d_L_pass_41 rfl (Nat.le_of_ble_eq_true rfl) (Nat.le_of_ble_eq_true rfl) ⟨by rw [hz], by rw [hz]; exact hs4⟩
  · skip
    refine g_iconst (v := (-1)) d_L_pass_15 (by decide) ?_
    have hz : s_L_pass K t c y = (t, (-1)) := by
      unfold s_L_pass
      rw [if_pos h2]
    exact g_ireturn d_L_pass_16 rfl (Nat.le_of_ble_eq_true rfl) (Nat.le_of_ble_eq_true rfl) ⟨by rw [hz], by rw [hz]; exact hs⟩

set_option maxHeartbeats 4000000 in
set_option maxRecDepth 100000 in
theorem c_L_pass_bad {E : gE} {w : wd} {K : kC} {L : lyC} {t : tC} (hs : SysC E K L t w) (x : Int32) (y : Int32) (hbad : s_L_hasClient K t x = 0) : Cn E y_L_pass 2 0 0 [.ref (L.1 (0, 0, 0)), .int x, .int y] w (fun r w' => r = some (.int (-1)) ∧ w' = w) := by
  refine Cn.of (by decide) (Nat.le_of_ble_eq_true rfl) (fun A => ?_)
  show G E y_L_pass _ 0 [(0, .ref (L.1 (0, 0, 0))), (1, .int x), (2, .int y)] [] w 0 0
  have h4 := hs.nc
  have h64 := hs.pn
  refine g_aload_n (j := 0) d_L_pass_0 rfl ?_
  refine g_iload_n (j := 1) d_L_pass_1 rfl ?_
  refine g_callV (c_L_hasClient hs x ) ok_L_hasClient lk_L_40 in_L_hasClient se_L_hasClient hs.main rfl d_L_pass_2 rfl rfl (Nat.le_of_ble_eq_true rfl) ⟨(Nat.le_of_ble_eq_true rfl), (Nat.le_of_ble_eq_true rfl)⟩ (Nat.le_of_ble_eq_true rfl) (Nat.le_of_ble_eq_true rfl) (fun r w' hq => ?_)
  obtain ⟨rfl, rfl⟩ := hq
  refine g_if_eq (tgt := 15) d_L_pass_5 (by decide) (fun h1 => ?_) (fun h => absurd (hbad) h)
  refine g_iconst (v := (-1)) d_L_pass_15 (by decide) ?_
  exact g_ireturn d_L_pass_16 rfl (Nat.le_of_ble_eq_true rfl) (Nat.le_of_ble_eq_true rfl) ⟨rfl, rfl⟩

def s_L_crash (K : kC) (t : tC) (c : Nat) : tC × Int32 :=
  ((s_C_forget K t c).1, (s_C_forget K t c).2)
set_option maxHeartbeats 4000000 in
set_option maxRecDepth 100000 in
theorem c_L_crash {E : gE} {w : wd} {K : kC} {L : lyC} {t : tC} (hs : SysC E K L t w) (c : Nat) (hc : c < K.1) : Cn E y_L_crash 2 0 0 [.ref (L.1 (0, 0, 0)), .int (nI c)] w (fun r w' => r = some (.int (s_L_crash K t c).2) ∧ SysC E K L (s_L_crash K t c).1 w') := by
  refine Cn.of (by decide) (Nat.le_of_ble_eq_true rfl) (fun A => ?_)
  show G E y_L_crash _ 0 [(0, .ref (L.1 (0, 0, 0))), (1, .int (nI c))] [] w 0 0
  have h4 := hs.nc
  have h64 := hs.pn
  refine g_aload_n (j := 0) d_L_crash_0 rfl ?_
  refine g_iload_n (j := 1) d_L_crash_1 rfl ?_
  refine g_callV (c_L_hasClient hs (nI c) ) ok_L_hasClient lk_L_40 in_L_hasClient se_L_hasClient hs.main rfl d_L_crash_2 rfl rfl (Nat.le_of_ble_eq_true rfl) ⟨(Nat.le_of_ble_eq_true rfl), (Nat.le_of_ble_eq_true rfl)⟩ (Nat.le_of_ble_eq_true rfl) (Nat.le_of_ble_eq_true rfl) (fun r w' hq => ?_)
  obtain ⟨rfl, rfl⟩ := hq
  refine g_if_eq (tgt := 20) d_L_crash_5 (by decide) (fun h => absurd h (hasC t hc h4.2.1)) (fun h1 => ?_)
  refine g_aload_n (j := 0) d_L_crash_8 rfl ?_
  refine g_get d_L_crash_9 f_L_35 hs.main rfl ?_
  refine g_iload_n (j := 1) d_L_crash_12 rfl ?_
  refine g_aald (t0 := 3) (j := c) d_L_crash_13 hs.clis rfl rfl (by omega) (by omega) (rf_if (by omega)) ?_
  refine g_callV (c_C_forget hs c (by omega)) ok_C_forget lk_L_117 in_C_forget se_C_forget (hs.cli (c := c) (by omega)) rfl d_L_crash_14 rfl rfl (Nat.le_of_ble_eq_true rfl) ⟨(Nat.le_of_ble_eq_true rfl), (Nat.le_of_ble_eq_true rfl)⟩ (Nat.le_of_ble_eq_true rfl) (Nat.le_of_ble_eq_true rfl) (fun r w' hq => ?_)
  obtain ⟨rfl, hs2⟩ := hq
  refine g_goto (tgt := 21) d_L_crash_17 (by decide) ?_
  have hz : s_L_crash K t c = ((s_C_forget K t c).1, (s_C_forget K t c).2) := by
    unfold s_L_crash
    rfl
  exact g_ireturn d_L_crash_21 rfl (Nat.le_of_ble_eq_true rfl) (Nat.le_of_ble_eq_true rfl) ⟨by rw [hz], by rw [hz]; exact hs2⟩

set_option maxHeartbeats 4000000 in
set_option maxRecDepth 100000 in
theorem c_L_crash_bad {E : gE} {w : wd} {K : kC} {L : lyC} {t : tC} (hs : SysC E K L t w) (x : Int32) (hbad : s_L_hasClient K t x = 0) : Cn E y_L_crash 2 0 0 [.ref (L.1 (0, 0, 0)), .int x] w (fun r w' => r = some (.int (-1)) ∧ w' = w) := by
  refine Cn.of (by decide) (Nat.le_of_ble_eq_true rfl) (fun A => ?_)
  show G E y_L_crash _ 0 [(0, .ref (L.1 (0, 0, 0))), (1, .int x)] [] w 0 0
  have h4 := hs.nc
  have h64 := hs.pn
  refine g_aload_n (j := 0) d_L_crash_0 rfl ?_
  refine g_iload_n (j := 1) d_L_crash_1 rfl ?_
  refine g_callV (c_L_hasClient hs x ) ok_L_hasClient lk_L_40 in_L_hasClient se_L_hasClient hs.main rfl d_L_crash_2 rfl rfl (Nat.le_of_ble_eq_true rfl) ⟨(Nat.le_of_ble_eq_true rfl), (Nat.le_of_ble_eq_true rfl)⟩ (Nat.le_of_ble_eq_true rfl) (Nat.le_of_ble_eq_true rfl) (fun r w' hq => ?_)
  obtain ⟨rfl, rfl⟩ := hq
  refine g_if_eq (tgt := 20) d_L_crash_5 (by decide) (fun h1 => ?_) (fun h => absurd (hbad) h)
  refine g_iconst (v := (-1)) d_L_crash_20 (by decide) ?_
  exact g_ireturn d_L_crash_21 rfl (Nat.le_of_ble_eq_true rfl) (Nat.le_of_ble_eq_true rfl) ⟨rfl, rfl⟩

def s_L_halt (K : kC) (t : tC) : tC × Int32 :=
  if t.1 2 0 1 = 0 then
    (t, (-1))
  else
    ((s_S_goDown K t ).1, (s_S_goDown K t ).2)
set_option maxHeartbeats 4000000 in
set_option maxRecDepth 100000 in
theorem c_L_halt {E : gE} {w : wd} {K : kC} {L : lyC} {t : tC} (hs : SysC E K L t w) : Cn E y_L_halt 3 0 0 [.ref (L.1 (0, 0, 0))] w (fun r w' => r = some (.int (s_L_halt K t ).2) ∧ ∃ L' : lyC, (∀ x : nmC, x.1 < 15 → L'.1 x = L.1 x) ∧ SysC E K L' (s_L_halt K t ).1 w') := by
  refine Cn.of (by decide) (Nat.le_of_ble_eq_true rfl) (fun A => ?_)
  show G E y_L_halt _ 0 [(0, .ref (L.1 (0, 0, 0)))] [] w 0 0
  have h4 := hs.nc
  have h64 := hs.pn
  refine g_aload_n (j := 0) d_L_halt_0 rfl ?_
  refine g_get d_L_halt_1 f_L_29 hs.main rfl ?_
  refine g_get d_L_halt_4 f_L_121 hs.srv rfl ?_
  refine g_if_eq (tgt := 20) d_L_halt_7 (by decide) (fun h1 => ?_) (fun h1 => ?_)
  · skip
    refine g_iconst (v := (-1)) d_L_halt_20 (by decide) ?_
    have hz : s_L_halt K t = (t, (-1)) := by
      unfold s_L_halt
      rw [if_pos h1]
    exact g_ireturn d_L_halt_21 rfl (Nat.le_of_ble_eq_true rfl) (Nat.le_of_ble_eq_true rfl) ⟨by rw [hz], _, (fun _ _ => rfl), by rw [hz]; exact hs⟩
  · skip
    refine g_aload_n (j := 0) d_L_halt_10 rfl ?_
    refine g_get d_L_halt_11 f_L_29 hs.main rfl ?_
    refine g_callV (c_S_goDown hs ) ok_S_goDown lk_L_125 in_S_goDown se_S_goDown hs.srv rfl d_L_halt_14 rfl rfl (Nat.le_of_ble_eq_true rfl) ⟨(Nat.le_of_ble_eq_true rfl), (Nat.le_of_ble_eq_true rfl)⟩ (Nat.le_of_ble_eq_true rfl) (Nat.le_of_ble_eq_true rfl) (fun r w' hq => ?_)
    obtain ⟨rfl, L3, hL4, hs2⟩ := hq
    rw [← hL4 (0, 0, 0) (show 0 < 15 by decide)]
    refine g_goto (tgt := 21) d_L_halt_17 (by decide) ?_
    have hz : s_L_halt K t = ((s_S_goDown K t ).1, (s_S_goDown K t ).2) := by
      unfold s_L_halt
      rw [if_neg h1]
    exact g_ireturn d_L_halt_21 rfl (Nat.le_of_ble_eq_true rfl) (Nat.le_of_ble_eq_true rfl) ⟨by rw [hz], _, (fun x hx => (hL4 x hx).trans ((fun _ _ => rfl) x hx)), by rw [hz]; exact hs2⟩

def s_L_restart (K : kC) (t : tC) : tC × Int32 :=
  if t.1 2 0 1 = 0 then
    ((s_S_comeUp K t ).1, (s_S_comeUp K t ).2)
  else
    (t, (-1))
set_option maxHeartbeats 4000000 in
set_option maxRecDepth 100000 in
theorem c_L_restart {E : gE} {w : wd} {K : kC} {L : lyC} {t : tC} (hs : SysC E K L t w) : Cn E y_L_restart 2 0 0 [.ref (L.1 (0, 0, 0))] w (fun r w' => r = some (.int (s_L_restart K t ).2) ∧ SysC E K L (s_L_restart K t ).1 w') := by
  refine Cn.of (by decide) (Nat.le_of_ble_eq_true rfl) (fun A => ?_)
  show G E y_L_restart _ 0 [(0, .ref (L.1 (0, 0, 0)))] [] w 0 0
  have h4 := hs.nc
  have h64 := hs.pn
  refine g_aload_n (j := 0) d_L_restart_0 rfl ?_
  refine g_get d_L_restart_1 f_L_29 hs.main rfl ?_
  refine g_get d_L_restart_4 f_L_121 hs.srv rfl ?_
  refine g_if_eq (tgt := 14) d_L_restart_7 (by decide) (fun h1 => ?_) (fun h1 => ?_)
  · skip
    refine g_aload_n (j := 0) d_L_restart_14 rfl ?_
    refine g_get d_L_restart_15 f_L_29 hs.main rfl ?_
    refine g_callV (c_S_comeUp hs ) ok_S_comeUp lk_L_128 in_S_comeUp se_S_comeUp hs.srv rfl d_L_restart_18 rfl rfl (Nat.le_of_ble_eq_true rfl) ⟨(Nat.le_of_ble_eq_true rfl), (Nat.le_of_ble_eq_true rfl)⟩ (Nat.le_of_ble_eq_true rfl) (Nat.le_of_ble_eq_true rfl) (fun r w' hq => ?_)
    obtain ⟨rfl, hs2⟩ := hq
    have hz : s_L_restart K t = ((s_S_comeUp K t ).1, (s_S_comeUp K t ).2) := by
      unfold s_L_restart
      rw [if_pos h1]
    exact g_ireturn d_L_restart_21 rfl (Nat.le_of_ble_eq_true rfl) (Nat.le_of_ble_eq_true rfl) ⟨by rw [hz], by rw [hz]; exact hs2⟩
  · skip
    refine g_iconst (v := (-1)) d_L_restart_10 (by decide) ?_
    refine g_goto (tgt := 21) d_L_restart_11 (by decide) ?_
    have hz : s_L_restart K t = (t, (-1)) := by
      unfold s_L_restart
      rw [if_neg h1]
    exact g_ireturn d_L_restart_21 rfl (Nat.le_of_ble_eq_true rfl) (Nat.le_of_ble_eq_true rfl) ⟨by rw [hz], by rw [hz]; exact hs⟩

def s_L_copy (K : kC) (t : tC) (c : Nat) (f : Nat) (v : Int32) : Int32 :=
  s_Y_part K t c f v (t.1 0 c 0)
set_option maxHeartbeats 4000000 in
set_option maxRecDepth 100000 in
theorem c_L_copy {E : gE} {w : wd} {K : kC} {L : lyC} {t : tC} (hs : SysC E K L t w) (c : Nat) (f : Nat) (v : Int32) (hc : c < K.1) (hf : f < K.2.1) : Cn E y_L_copy 4 0 0 [.ref (L.1 (0, 0, 0)), .int (nI c), .int (nI f), .int v] w (fun r w' => r = some (.int (s_L_copy K t c f v)) ∧ w' = w) := by
  refine Cn.of (by decide) (Nat.le_of_ble_eq_true rfl) (fun A => ?_)
  show G E y_L_copy _ 0 [(0, .ref (L.1 (0, 0, 0))), (1, .int (nI c)), (2, .int (nI f)), (3, .int v)] [] w 0 0
  have h4 := hs.nc
  have h64 := hs.pn
  refine g_aload_n (j := 0) d_L_copy_0 rfl ?_
  refine g_iload_n (j := 1) d_L_copy_1 rfl ?_
  refine g_callV (c_L_hasClient hs (nI c) ) ok_L_hasClient lk_L_40 in_L_hasClient se_L_hasClient hs.main rfl d_L_copy_2 rfl rfl (Nat.le_of_ble_eq_true rfl) ⟨(Nat.le_of_ble_eq_true rfl), (Nat.le_of_ble_eq_true rfl)⟩ (Nat.le_of_ble_eq_true rfl) (Nat.le_of_ble_eq_true rfl) (fun r w' hq => ?_)
  obtain ⟨rfl, rfl⟩ := hq
  refine g_if_eq (tgt := 16) d_L_copy_5 (by decide) (fun h => absurd h (hasC t hc h4.2.1)) (fun h1 => ?_)
  refine g_aload_n (j := 0) d_L_copy_8 rfl ?_
  refine g_iload_n (j := 2) d_L_copy_9 rfl ?_
  refine g_callV (c_L_hasFile hs (nI f) ) ok_L_hasFile lk_L_44 in_L_hasFile se_L_hasFile hs.main rfl d_L_copy_10 rfl rfl (Nat.le_of_ble_eq_true rfl) ⟨(Nat.le_of_ble_eq_true rfl), (Nat.le_of_ble_eq_true rfl)⟩ (Nat.le_of_ble_eq_true rfl) (Nat.le_of_ble_eq_true rfl) (fun r w' hq => ?_)
  obtain ⟨rfl, rfl⟩ := hq
  refine g_if_ne (tgt := 18) d_L_copy_13 (by decide) (fun h2 => ?_) (fun h => absurd h (hasF t hf h4.2.2.2))
  refine g_aload_n (j := 0) d_L_copy_18 rfl ?_
  refine g_get d_L_copy_19 f_L_35 hs.main rfl ?_
  refine g_iload_n (j := 1) d_L_copy_22 rfl ?_
  refine g_aald (t0 := 3) (j := c) d_L_copy_23 hs.clis rfl rfl (by omega) (by omega) (rf_if (by omega)) ?_
  refine g_get d_L_copy_24 f_L_131 (hs.cli (c := c) (by omega)) rfl ?_
  refine g_iload_n (j := 2) d_L_copy_27 rfl ?_
  refine g_aald (t0 := 4) (j := f) d_L_copy_28 (hs.cps (c := c) (by omega)) rfl rfl (by omega) (by omega) (rf_if (by omega)) ?_
  refine g_iload_n (j := 3) d_L_copy_29 rfl ?_
  refine g_aload_n (j := 0) d_L_copy_30 rfl ?_
  refine g_get d_L_copy_31 f_L_35 hs.main rfl ?_
  refine g_iload_n (j := 1) d_L_copy_34 rfl ?_
  refine g_aald (t0 := 3) (j := c) d_L_copy_35 hs.clis rfl rfl (by omega) (by omega) (rf_if (by omega)) ?_
  refine g_get d_L_copy_36 f_L_114 (hs.cli (c := c) (by omega)) rfl ?_
  refine g_callV (c_Y_part hs c f v (t.1 0 c 0) (by omega) (by omega)) ok_Y_part lk_L_135 in_Y_part se_Y_part (hs.cp (c := c) (f := f) (by omega) (by omega)) rfl d_L_copy_39 rfl rfl (Nat.le_of_ble_eq_true rfl) ⟨(Nat.le_of_ble_eq_true rfl), (Nat.le_of_ble_eq_true rfl)⟩ (Nat.le_of_ble_eq_true rfl) (Nat.le_of_ble_eq_true rfl) (fun r w' hq => ?_)
  obtain ⟨rfl, rfl⟩ := hq
  have hz : s_L_copy K t c f v = s_Y_part K t c f v (t.1 0 c 0) := by
    unfold s_L_copy
    rfl
  exact g_ireturn d_L_copy_42 rfl (Nat.le_of_ble_eq_true rfl) (Nat.le_of_ble_eq_true rfl) ⟨by rw [hz], rfl⟩

set_option maxHeartbeats 4000000 in
set_option maxRecDepth 100000 in
theorem c_L_copy_bad {E : gE} {w : wd} {K : kC} {L : lyC} {t : tC} (hs : SysC E K L t w) (x : Int32) (y : Int32) (v : Int32) (hbad : s_L_hasClient K t x = 0 ∨ s_L_hasFile K t y = 0) : Cn E y_L_copy 4 0 0 [.ref (L.1 (0, 0, 0)), .int x, .int y, .int v] w (fun r w' => r = some (.int (-1)) ∧ w' = w) := by
  refine Cn.of (by decide) (Nat.le_of_ble_eq_true rfl) (fun A => ?_)
  show G E y_L_copy _ 0 [(0, .ref (L.1 (0, 0, 0))), (1, .int x), (2, .int y), (3, .int v)] [] w 0 0
  have h4 := hs.nc
  have h64 := hs.pn
  refine g_aload_n (j := 0) d_L_copy_0 rfl ?_
  refine g_iload_n (j := 1) d_L_copy_1 rfl ?_
  refine g_callV (c_L_hasClient hs x ) ok_L_hasClient lk_L_40 in_L_hasClient se_L_hasClient hs.main rfl d_L_copy_2 rfl rfl (Nat.le_of_ble_eq_true rfl) ⟨(Nat.le_of_ble_eq_true rfl), (Nat.le_of_ble_eq_true rfl)⟩ (Nat.le_of_ble_eq_true rfl) (Nat.le_of_ble_eq_true rfl) (fun r w' hq => ?_)
  obtain ⟨rfl, rfl⟩ := hq
  refine g_if_eq (tgt := 16) d_L_copy_5 (by decide) (fun h1 => ?_) (fun h1 => ?_)
  · skip
    refine g_iconst (v := (-1)) d_L_copy_16 (by decide) ?_
    exact g_ireturn d_L_copy_17 rfl (Nat.le_of_ble_eq_true rfl) (Nat.le_of_ble_eq_true rfl) ⟨rfl, rfl⟩
  · skip
    refine g_aload_n (j := 0) d_L_copy_8 rfl ?_
    refine g_iload_n (j := 2) d_L_copy_9 rfl ?_
    refine g_callV (c_L_hasFile hs y ) ok_L_hasFile lk_L_44 in_L_hasFile se_L_hasFile hs.main rfl d_L_copy_10 rfl rfl (Nat.le_of_ble_eq_true rfl) ⟨(Nat.le_of_ble_eq_true rfl), (Nat.le_of_ble_eq_true rfl)⟩ (Nat.le_of_ble_eq_true rfl) (Nat.le_of_ble_eq_true rfl) (fun r w' hq => ?_)
    obtain ⟨rfl, rfl⟩ := hq
    refine g_if_ne (tgt := 18) d_L_copy_13 (by decide) (fun h => absurd (hbad.resolve_left h1) h) (fun h2 => ?_)
    refine g_iconst (v := (-1)) d_L_copy_16 (by decide) ?_
    exact g_ireturn d_L_copy_17 rfl (Nat.le_of_ble_eq_true rfl) (Nat.le_of_ble_eq_true rfl) ⟨rfl, rfl⟩

def s_L_lease (K : kC) (t : tC) (c : Nat) (f : Nat) : Int32 :=
  s_L_timeLeft (t.1 4 f c) (t.1 2 0 0)
set_option maxHeartbeats 4000000 in
set_option maxRecDepth 100000 in
theorem c_L_lease {E : gE} {w : wd} {K : kC} {L : lyC} {t : tC} (hs : SysC E K L t w) (c : Nat) (f : Nat) (hc : c < K.1) (hf : f < K.2.1) : Cn E y_L_lease 3 0 0 [.ref (L.1 (0, 0, 0)), .int (nI c), .int (nI f)] w (fun r w' => r = some (.int (s_L_lease K t c f)) ∧ w' = w) := by
  refine Cn.of (by decide) (Nat.le_of_ble_eq_true rfl) (fun A => ?_)
  show G E y_L_lease _ 0 [(0, .ref (L.1 (0, 0, 0))), (1, .int (nI c)), (2, .int (nI f))] [] w 0 0
  have h4 := hs.nc
  have h64 := hs.pn
  refine g_aload_n (j := 0) d_L_lease_0 rfl ?_
  refine g_iload_n (j := 1) d_L_lease_1 rfl ?_
  refine g_callV (c_L_hasClient hs (nI c) ) ok_L_hasClient lk_L_40 in_L_hasClient se_L_hasClient hs.main rfl d_L_lease_2 rfl rfl (Nat.le_of_ble_eq_true rfl) ⟨(Nat.le_of_ble_eq_true rfl), (Nat.le_of_ble_eq_true rfl)⟩ (Nat.le_of_ble_eq_true rfl) (Nat.le_of_ble_eq_true rfl) (fun r w' hq => ?_)
  obtain ⟨rfl, rfl⟩ := hq
  refine g_if_eq (tgt := 16) d_L_lease_5 (by decide) (fun h => absurd h (hasC t hc h4.2.1)) (fun h1 => ?_)
  refine g_aload_n (j := 0) d_L_lease_8 rfl ?_
  refine g_iload_n (j := 2) d_L_lease_9 rfl ?_
  refine g_callV (c_L_hasFile hs (nI f) ) ok_L_hasFile lk_L_44 in_L_hasFile se_L_hasFile hs.main rfl d_L_lease_10 rfl rfl (Nat.le_of_ble_eq_true rfl) ⟨(Nat.le_of_ble_eq_true rfl), (Nat.le_of_ble_eq_true rfl)⟩ (Nat.le_of_ble_eq_true rfl) (Nat.le_of_ble_eq_true rfl) (fun r w' hq => ?_)
  obtain ⟨rfl, rfl⟩ := hq
  refine g_if_ne (tgt := 18) d_L_lease_13 (by decide) (fun h2 => ?_) (fun h => absurd h (hasF t hf h4.2.2.2))
  refine g_aload_n (j := 0) d_L_lease_18 rfl ?_
  refine g_get d_L_lease_19 f_L_29 hs.main rfl ?_
  refine g_get d_L_lease_22 f_L_139 hs.srv rfl ?_
  refine g_iload_n (j := 2) d_L_lease_25 rfl ?_
  refine g_aald (t0 := 5) (j := f) d_L_lease_26 hs.fls rfl rfl (by omega) (by omega) (rf_if (by omega)) ?_
  refine g_get d_L_lease_27 f_L_142 (hs.fl (f := f) (by omega)) rfl ?_
  refine g_iload_n (j := 1) d_L_lease_30 rfl ?_
  refine g_iald (j := c) d_L_lease_31 (hs.ends (f := f) (by omega)) rfl (by omega) (by omega) ?_
  refine g_aload_n (j := 0) d_L_lease_32 rfl ?_
  refine g_get d_L_lease_33 f_L_29 hs.main rfl ?_
  refine g_get d_L_lease_36 f_L_148 hs.srv rfl ?_
  refine g_callS (c_L_timeLeft (t.1 4 f c) (t.1 2 0 0) ) ok_L_timeLeft lk_L_149 st_L_timeLeft d_L_lease_39 rfl rfl (Nat.le_of_ble_eq_true rfl) ⟨(Nat.le_of_ble_eq_true rfl), (Nat.le_of_ble_eq_true rfl)⟩ (Nat.le_of_ble_eq_true rfl) (Nat.le_of_ble_eq_true rfl) (fun r w' hq => ?_)
  obtain ⟨rfl, rfl⟩ := hq
  have hz : s_L_lease K t c f = s_L_timeLeft (t.1 4 f c) (t.1 2 0 0) := by
    unfold s_L_lease
    rfl
  exact g_ireturn d_L_lease_42 rfl (Nat.le_of_ble_eq_true rfl) (Nat.le_of_ble_eq_true rfl) ⟨by rw [hz], rfl⟩

set_option maxHeartbeats 4000000 in
set_option maxRecDepth 100000 in
theorem c_L_lease_bad {E : gE} {w : wd} {K : kC} {L : lyC} {t : tC} (hs : SysC E K L t w) (x : Int32) (y : Int32) (hbad : s_L_hasClient K t x = 0 ∨ s_L_hasFile K t y = 0) : Cn E y_L_lease 3 0 0 [.ref (L.1 (0, 0, 0)), .int x, .int y] w (fun r w' => r = some (.int (-1)) ∧ w' = w) := by
  refine Cn.of (by decide) (Nat.le_of_ble_eq_true rfl) (fun A => ?_)
  show G E y_L_lease _ 0 [(0, .ref (L.1 (0, 0, 0))), (1, .int x), (2, .int y)] [] w 0 0
  have h4 := hs.nc
  have h64 := hs.pn
  refine g_aload_n (j := 0) d_L_lease_0 rfl ?_
  refine g_iload_n (j := 1) d_L_lease_1 rfl ?_
  refine g_callV (c_L_hasClient hs x ) ok_L_hasClient lk_L_40 in_L_hasClient se_L_hasClient hs.main rfl d_L_lease_2 rfl rfl (Nat.le_of_ble_eq_true rfl) ⟨(Nat.le_of_ble_eq_true rfl), (Nat.le_of_ble_eq_true rfl)⟩ (Nat.le_of_ble_eq_true rfl) (Nat.le_of_ble_eq_true rfl) (fun r w' hq => ?_)
  obtain ⟨rfl, rfl⟩ := hq
  refine g_if_eq (tgt := 16) d_L_lease_5 (by decide) (fun h1 => ?_) (fun h1 => ?_)
  · skip
    refine g_iconst (v := (-1)) d_L_lease_16 (by decide) ?_
    exact g_ireturn d_L_lease_17 rfl (Nat.le_of_ble_eq_true rfl) (Nat.le_of_ble_eq_true rfl) ⟨rfl, rfl⟩
  · skip
    refine g_aload_n (j := 0) d_L_lease_8 rfl ?_
    refine g_iload_n (j := 2) d_L_lease_9 rfl ?_
    refine g_callV (c_L_hasFile hs y ) ok_L_hasFile lk_L_44 in_L_hasFile se_L_hasFile hs.main rfl d_L_lease_10 rfl rfl (Nat.le_of_ble_eq_true rfl) ⟨(Nat.le_of_ble_eq_true rfl), (Nat.le_of_ble_eq_true rfl)⟩ (Nat.le_of_ble_eq_true rfl) (Nat.le_of_ble_eq_true rfl) (fun r w' hq => ?_)
    obtain ⟨rfl, rfl⟩ := hq
    refine g_if_ne (tgt := 18) d_L_lease_13 (by decide) (fun h => absurd (hbad.resolve_left h1) h) (fun h2 => ?_)
    refine g_iconst (v := (-1)) d_L_lease_16 (by decide) ?_
    exact g_ireturn d_L_lease_17 rfl (Nat.le_of_ble_eq_true rfl) (Nat.le_of_ble_eq_true rfl) ⟨rfl, rfl⟩

def s_L_file (K : kC) (t : tC) (f : Nat) (y : Int32) : Int32 :=
  s_F_part K t f y
set_option maxHeartbeats 4000000 in
set_option maxRecDepth 100000 in
theorem c_L_file {E : gE} {w : wd} {K : kC} {L : lyC} {t : tC} (hs : SysC E K L t w) (f : Nat) (y : Int32) (hf : f < K.2.1) : Cn E y_L_file 5 0 0 [.ref (L.1 (0, 0, 0)), .int (nI f), .int y] w (fun r w' => r = some (.int (s_L_file K t f y)) ∧ w' = w) := by
  refine Cn.of (by decide) (Nat.le_of_ble_eq_true rfl) (fun A => ?_)
  show G E y_L_file _ 0 [(0, .ref (L.1 (0, 0, 0))), (1, .int (nI f)), (2, .int y)] [] w 0 0
  have h4 := hs.nc
  have h64 := hs.pn
  refine g_aload_n (j := 0) d_L_file_0 rfl ?_
  refine g_iload_n (j := 1) d_L_file_1 rfl ?_
  refine g_callV (c_L_hasFile hs (nI f) ) ok_L_hasFile lk_L_44 in_L_hasFile se_L_hasFile hs.main rfl d_L_file_2 rfl rfl (Nat.le_of_ble_eq_true rfl) ⟨(Nat.le_of_ble_eq_true rfl), (Nat.le_of_ble_eq_true rfl)⟩ (Nat.le_of_ble_eq_true rfl) (Nat.le_of_ble_eq_true rfl) (fun r w' hq => ?_)
  obtain ⟨rfl, rfl⟩ := hq
  refine g_if_eq (tgt := 24) d_L_file_5 (by decide) (fun h => absurd h (hasF t hf h4.2.2.2)) (fun h1 => ?_)
  refine g_aload_n (j := 0) d_L_file_8 rfl ?_
  refine g_get d_L_file_9 f_L_29 hs.main rfl ?_
  refine g_get d_L_file_12 f_L_139 hs.srv rfl ?_
  refine g_iload_n (j := 1) d_L_file_15 rfl ?_
  refine g_aald (t0 := 5) (j := f) d_L_file_16 hs.fls rfl rfl (by omega) (by omega) (rf_if (by omega)) ?_
  refine g_iload_n (j := 2) d_L_file_17 rfl ?_
  refine g_callV (c_F_part hs f y (by omega)) ok_F_part lk_L_152 in_F_part se_F_part (hs.fl (f := f) (by omega)) rfl d_L_file_18 rfl rfl (Nat.le_of_ble_eq_true rfl) ⟨(Nat.le_of_ble_eq_true rfl), (Nat.le_of_ble_eq_true rfl)⟩ (Nat.le_of_ble_eq_true rfl) (Nat.le_of_ble_eq_true rfl) (fun r w' hq => ?_)
  obtain ⟨rfl, rfl⟩ := hq
  refine g_goto (tgt := 25) d_L_file_21 (by decide) ?_
  have hz : s_L_file K t f y = s_F_part K t f y := by
    unfold s_L_file
    rfl
  exact g_ireturn d_L_file_25 rfl (Nat.le_of_ble_eq_true rfl) (Nat.le_of_ble_eq_true rfl) ⟨by rw [hz], rfl⟩

set_option maxHeartbeats 4000000 in
set_option maxRecDepth 100000 in
theorem c_L_file_bad {E : gE} {w : wd} {K : kC} {L : lyC} {t : tC} (hs : SysC E K L t w) (x : Int32) (y : Int32) (hbad : s_L_hasFile K t x = 0) : Cn E y_L_file 5 0 0 [.ref (L.1 (0, 0, 0)), .int x, .int y] w (fun r w' => r = some (.int (-1)) ∧ w' = w) := by
  refine Cn.of (by decide) (Nat.le_of_ble_eq_true rfl) (fun A => ?_)
  show G E y_L_file _ 0 [(0, .ref (L.1 (0, 0, 0))), (1, .int x), (2, .int y)] [] w 0 0
  have h4 := hs.nc
  have h64 := hs.pn
  refine g_aload_n (j := 0) d_L_file_0 rfl ?_
  refine g_iload_n (j := 1) d_L_file_1 rfl ?_
  refine g_callV (c_L_hasFile hs x ) ok_L_hasFile lk_L_44 in_L_hasFile se_L_hasFile hs.main rfl d_L_file_2 rfl rfl (Nat.le_of_ble_eq_true rfl) ⟨(Nat.le_of_ble_eq_true rfl), (Nat.le_of_ble_eq_true rfl)⟩ (Nat.le_of_ble_eq_true rfl) (Nat.le_of_ble_eq_true rfl) (fun r w' hq => ?_)
  obtain ⟨rfl, rfl⟩ := hq
  refine g_if_eq (tgt := 24) d_L_file_5 (by decide) (fun h1 => ?_) (fun h => absurd (hbad) h)
  refine g_iconst (v := (-1)) d_L_file_24 (by decide) ?_
  exact g_ireturn d_L_file_25 rfl (Nat.le_of_ble_eq_true rfl) (Nat.le_of_ble_eq_true rfl) ⟨rfl, rfl⟩

def s_L_server (K : kC) (t : tC) (x : Int32) : Int32 :=
  s_S_part K t x
set_option maxHeartbeats 4000000 in
set_option maxRecDepth 100000 in
theorem c_L_server {E : gE} {w : wd} {K : kC} {L : lyC} {t : tC} (hs : SysC E K L t w) (x : Int32) : Cn E y_L_server 4 0 0 [.ref (L.1 (0, 0, 0)), .int x] w (fun r w' => r = some (.int (s_L_server K t x)) ∧ w' = w) := by
  refine Cn.of (by decide) (Nat.le_of_ble_eq_true rfl) (fun A => ?_)
  show G E y_L_server _ 0 [(0, .ref (L.1 (0, 0, 0))), (1, .int x)] [] w 0 0
  have h4 := hs.nc
  have h64 := hs.pn
  refine g_aload_n (j := 0) d_L_server_0 rfl ?_
  refine g_get d_L_server_1 f_L_29 hs.main rfl ?_
  refine g_iload_n (j := 1) d_L_server_4 rfl ?_
  refine g_callV (c_S_part hs x ) ok_S_part lk_L_153 in_S_part se_S_part hs.srv rfl d_L_server_5 rfl rfl (Nat.le_of_ble_eq_true rfl) ⟨(Nat.le_of_ble_eq_true rfl), (Nat.le_of_ble_eq_true rfl)⟩ (Nat.le_of_ble_eq_true rfl) (Nat.le_of_ble_eq_true rfl) (fun r w' hq => ?_)
  obtain ⟨rfl, rfl⟩ := hq
  have hz : s_L_server K t x = s_S_part K t x := by
    unfold s_L_server
    rfl
  exact g_ireturn d_L_server_8 rfl (Nat.le_of_ble_eq_true rfl) (Nat.le_of_ble_eq_true rfl) ⟨by rw [hz], rfl⟩

def s_L_client (K : kC) (t : tC) (c : Nat) (y : Int32) : Int32 :=
  s_C_part K t c y
set_option maxHeartbeats 4000000 in
set_option maxRecDepth 100000 in
theorem c_L_client {E : gE} {w : wd} {K : kC} {L : lyC} {t : tC} (hs : SysC E K L t w) (c : Nat) (y : Int32) (hc : c < K.1) : Cn E y_L_client 3 0 0 [.ref (L.1 (0, 0, 0)), .int (nI c), .int y] w (fun r w' => r = some (.int (s_L_client K t c y)) ∧ w' = w) := by
  refine Cn.of (by decide) (Nat.le_of_ble_eq_true rfl) (fun A => ?_)
  show G E y_L_client _ 0 [(0, .ref (L.1 (0, 0, 0))), (1, .int (nI c)), (2, .int y)] [] w 0 0
  have h4 := hs.nc
  have h64 := hs.pn
  refine g_aload_n (j := 0) d_L_client_0 rfl ?_
  refine g_iload_n (j := 1) d_L_client_1 rfl ?_
  refine g_callV (c_L_hasClient hs (nI c) ) ok_L_hasClient lk_L_40 in_L_hasClient se_L_hasClient hs.main rfl d_L_client_2 rfl rfl (Nat.le_of_ble_eq_true rfl) ⟨(Nat.le_of_ble_eq_true rfl), (Nat.le_of_ble_eq_true rfl)⟩ (Nat.le_of_ble_eq_true rfl) (Nat.le_of_ble_eq_true rfl) (fun r w' hq => ?_)
  obtain ⟨rfl, rfl⟩ := hq
  refine g_if_eq (tgt := 21) d_L_client_5 (by decide) (fun h => absurd h (hasC t hc h4.2.1)) (fun h1 => ?_)
  refine g_aload_n (j := 0) d_L_client_8 rfl ?_
  refine g_get d_L_client_9 f_L_35 hs.main rfl ?_
  refine g_iload_n (j := 1) d_L_client_12 rfl ?_
  refine g_aald (t0 := 3) (j := c) d_L_client_13 hs.clis rfl rfl (by omega) (by omega) (rf_if (by omega)) ?_
  refine g_iload_n (j := 2) d_L_client_14 rfl ?_
  refine g_callV (c_C_part hs c y (by omega)) ok_C_part lk_L_154 in_C_part se_C_part (hs.cli (c := c) (by omega)) rfl d_L_client_15 rfl rfl (Nat.le_of_ble_eq_true rfl) ⟨(Nat.le_of_ble_eq_true rfl), (Nat.le_of_ble_eq_true rfl)⟩ (Nat.le_of_ble_eq_true rfl) (Nat.le_of_ble_eq_true rfl) (fun r w' hq => ?_)
  obtain ⟨rfl, rfl⟩ := hq
  refine g_goto (tgt := 22) d_L_client_18 (by decide) ?_
  have hz : s_L_client K t c y = s_C_part K t c y := by
    unfold s_L_client
    rfl
  exact g_ireturn d_L_client_22 rfl (Nat.le_of_ble_eq_true rfl) (Nat.le_of_ble_eq_true rfl) ⟨by rw [hz], rfl⟩

set_option maxHeartbeats 4000000 in
set_option maxRecDepth 100000 in
theorem c_L_client_bad {E : gE} {w : wd} {K : kC} {L : lyC} {t : tC} (hs : SysC E K L t w) (x : Int32) (y : Int32) (hbad : s_L_hasClient K t x = 0) : Cn E y_L_client 3 0 0 [.ref (L.1 (0, 0, 0)), .int x, .int y] w (fun r w' => r = some (.int (-1)) ∧ w' = w) := by
  refine Cn.of (by decide) (Nat.le_of_ble_eq_true rfl) (fun A => ?_)
  show G E y_L_client _ 0 [(0, .ref (L.1 (0, 0, 0))), (1, .int x), (2, .int y)] [] w 0 0
  have h4 := hs.nc
  have h64 := hs.pn
  refine g_aload_n (j := 0) d_L_client_0 rfl ?_
  refine g_iload_n (j := 1) d_L_client_1 rfl ?_
  refine g_callV (c_L_hasClient hs x ) ok_L_hasClient lk_L_40 in_L_hasClient se_L_hasClient hs.main rfl d_L_client_2 rfl rfl (Nat.le_of_ble_eq_true rfl) ⟨(Nat.le_of_ble_eq_true rfl), (Nat.le_of_ble_eq_true rfl)⟩ (Nat.le_of_ble_eq_true rfl) (Nat.le_of_ble_eq_true rfl) (fun r w' hq => ?_)
  obtain ⟨rfl, rfl⟩ := hq
  refine g_if_eq (tgt := 21) d_L_client_5 (by decide) (fun h1 => ?_) (fun h => absurd (hbad) h)
  refine g_iconst (v := (-1)) d_L_client_21 (by decide) ?_
  exact g_ireturn d_L_client_22 rfl (Nat.le_of_ble_eq_true rfl) (Nat.le_of_ble_eq_true rfl) ⟨rfl, rfl⟩
