/-- a cast to the object's own class -/
theorem g_cast {E : gE} {Y : mY} {Z : gZ} {pc : Nat} {lv : List (Nat × Value)} {st : List Value} {w : wd} {ce sl a ci N index : Nat} {fs : List Value} {nm : String} {T : u_T} (hd : decode Y.2.1 pc = .ok (.checkcast index, 3)) (hlk : Cond.classLink Y.1.cls index nm ∈ WS) (ha : wh w a (.inr (ci, fs))) (hc : vwCl[ci]? = some (nm, T, N)) (k : G E Y Z (pc + 3) lv (.ref a :: st) w ce sl) : G E Y Z pc lv (.ref a :: st) w ce sl := by
  intro p e s m args below meth c H locs ls X hl hP hD hS
  exact va_castS X.x X.b X.own (X.ts _ hlk) (X.K.1.1 ci _ hc).2 (g_recv X.K hP ha hc) hd (k p e s m args below meth c H locs ls X hl hP hD hS)


set_option maxHeartbeats 4000000 in
set_option maxRecDepth 100000 in
theorem c_Q_checkIndex {E : gE} {w : wd} (i n : Nat) (hi : i < n) (hn : n < 2 ^ 31) : Cn E y_Q_checkIndex 1 0 0 [.int (nI i), .int (nI n), .null] w (fun r w' => r = some (.int (nI i)) ∧ w' = w) := by
  refine Cn.of (by decide) (Nat.le_of_ble_eq_true rfl) (fun A => ?_)
  show G E y_Q_checkIndex _ 0 [(0, .int (nI i)), (1, .int (nI n)), (2, .null)] [] w 0 0
  refine g_iload_n (j := 0) d_Q_checkIndex_0 rfl ?_
  refine g_if_lt (tgt := 9) d_Q_checkIndex_1 (by decide) (fun h => absurd h (nI_pos (by omega))) (fun h => ?_)
  refine g_iload_n (j := 0) d_Q_checkIndex_4 rfl ?_
  refine g_iload_n (j := 1) d_Q_checkIndex_5 rfl ?_
  refine g_icmp_lt (tgt := 16) d_Q_checkIndex_6 (by decide) (fun h => ?_) (fun h => absurd (nI_lt hi hn) h)
  refine g_iload_n (j := 0) d_Q_checkIndex_16 rfl ?_
  exact g_ireturn d_Q_checkIndex_17 rfl (Nat.le_of_ble_eq_true rfl) (Nat.le_of_ble_eq_true rfl) ⟨rfl, rfl⟩
set_option maxHeartbeats 4000000 in
set_option maxRecDepth 100000 in
theorem c_O_checkIndex {E : gE} {w : wd} (i n : Nat) (hi : i < n) (hn : n < 2 ^ 31) : Cn E y_O_checkIndex 2 0 0 [.int (nI i), .int (nI n)] w (fun r w' => r = some (.int (nI i)) ∧ w' = w) := by
  refine Cn.of (by decide) (Nat.le_of_ble_eq_true rfl) (fun A => ?_)
  show G E y_O_checkIndex _ 0 [(0, .int (nI i)), (1, .int (nI n))] [] w 0 0
  refine g_iload_n (j := 0) d_O_checkIndex_0 rfl ?_
  refine g_iload_n (j := 1) d_O_checkIndex_1 rfl ?_
  refine g_null d_O_checkIndex_2 ?_
  refine g_callS (c_Q_checkIndex i n hi hn) ok_Q_checkIndex lk_O_105 st_Q_checkIndex d_O_checkIndex_3 rfl rfl (Nat.le_of_ble_eq_true rfl) ⟨(Nat.le_of_ble_eq_true rfl), (Nat.le_of_ble_eq_true rfl)⟩ (Nat.le_of_ble_eq_true rfl) (Nat.le_of_ble_eq_true rfl) (fun r w' hq => ?_)
  obtain ⟨rfl, rfl⟩ := hq
  exact g_ireturn d_O_checkIndex_6 rfl (Nat.le_of_ble_eq_true rfl) (Nat.le_of_ble_eq_true rfl) ⟨rfl, rfl⟩

def s_A_isEmpty (K : kC) (t : tC) (f : Nat) : Int32 :=
  if nI ((t.2.1 f).length) = 0 then
    1
  else
    0
set_option maxHeartbeats 4000000 in
set_option maxRecDepth 100000 in
theorem c_A_isEmpty {E : gE} {w : wd} {K : kC} {L : lyC} {t : tC} (hs : SysC E K L t w) (f : Nat) (hf : f < K.2.1) : Cn E y_A_isEmpty 1 0 0 [.ref (L.1 (14, f, 0))] w (fun r w' => r = some (.int (s_A_isEmpty K t f)) ∧ w' = w) := by
  refine Cn.of (by decide) (Nat.le_of_ble_eq_true rfl) (fun A => ?_)
  show G E y_A_isEmpty _ 0 [(0, .ref (L.1 (14, f, 0)))] [] w 0 0
  have h4 := hs.nc
  have h64 := hs.pn
  refine g_aload_n (j := 0) d_A_isEmpty_0 rfl ?_
  refine g_get d_A_isEmpty_1 f_A_48 (hs.lst (f := f) (by omega)) rfl ?_
  refine g_if_ne (tgt := 11) d_A_isEmpty_4 (by decide) (fun h1 => ?_) (fun h1 => ?_)
  · skip
    refine g_iconst (v := 0) d_A_isEmpty_11 (by decide) ?_
    have hz : s_A_isEmpty K t f = 0 := by
      unfold s_A_isEmpty
      rw [if_neg h1]
    exact g_zreturn d_A_isEmpty_12 rfl (by decide) (Nat.le_of_ble_eq_true rfl) (Nat.le_of_ble_eq_true rfl) ⟨by rw [hz], rfl⟩
  · skip
    refine g_iconst (v := 1) d_A_isEmpty_7 (by decide) ?_
    refine g_goto (tgt := 12) d_A_isEmpty_8 (by decide) ?_
    have hz : s_A_isEmpty K t f = 1 := by
      unfold s_A_isEmpty
      rw [if_pos h1]
    exact g_zreturn d_A_isEmpty_12 rfl (by decide) (Nat.le_of_ble_eq_true rfl) (Nat.le_of_ble_eq_true rfl) ⟨by rw [hz], rfl⟩

def s_A_size (K : kC) (t : tC) (f : Nat) : Int32 :=
  nI ((t.2.1 f).length)
set_option maxHeartbeats 4000000 in
set_option maxRecDepth 100000 in
theorem c_A_size {E : gE} {w : wd} {K : kC} {L : lyC} {t : tC} (hs : SysC E K L t w) (f : Nat) (hf : f < K.2.1) : Cn E y_A_size 1 0 0 [.ref (L.1 (14, f, 0))] w (fun r w' => r = some (.int (s_A_size K t f)) ∧ w' = w) := by
  refine Cn.of (by decide) (Nat.le_of_ble_eq_true rfl) (fun A => ?_)
  show G E y_A_size _ 0 [(0, .ref (L.1 (14, f, 0)))] [] w 0 0
  have h4 := hs.nc
  have h64 := hs.pn
  refine g_aload_n (j := 0) d_A_size_0 rfl ?_
  refine g_get d_A_size_1 f_A_48 (hs.lst (f := f) (by omega)) rfl ?_
  have hz : s_A_size K t f = nI ((t.2.1 f).length) := by
    unfold s_A_size
    rfl
  exact g_ireturn d_A_size_4 rfl (Nat.le_of_ble_eq_true rfl) (Nat.le_of_ble_eq_true rfl) ⟨by rw [hz], rfl⟩

set_option maxHeartbeats 4000000 in
set_option maxRecDepth 100000 in
theorem c_A_elementData {E : gE} {w : wd} {K : kC} {L : lyC} {t : tC} (hs : SysC E K L t w) (f j : Nat) (hf : f < K.2.1) (hj : j < (t.2.1 f).length) : Cn E y_A_elementData 1 0 0 [.ref (L.1 (14, f, 0)), .int (nI j)] w (fun r w' => r = some (.ref (L.1 (16, f, j))) ∧ w' = w) := by
  refine Cn.of (by decide) (Nat.le_of_ble_eq_true rfl) (fun A => ?_)
  show G E y_A_elementData _ 0 [(0, .ref (L.1 (14, f, 0))), (1, .int (nI j))] [] w 0 0
  have h5 := hs.2.2.2.2 f hf
  have hcap : 0 < L.2.2 f := by omega
  refine g_aload_n (j := 0) d_A_elementData_0 rfl ?_
  refine g_get d_A_elementData_1 f_A_9 (hs.lst hf) rfl ?_
  rw [show elC E L f = L.1 (15, f, 0) from if_neg (by omega)]
  refine g_iload_n (j := 1) d_A_elementData_4 rfl ?_
  refine g_aald (t0 := 6) (j := j) d_A_elementData_5 (hs.el hf hcap) rfl rfl (by omega) (by omega) (v := .ref (L.1 (16, f, j))) (by rw [if_pos hj]; rfl) ?_
  exact g_areturn d_A_elementData_6 rfl (Or.inr ⟨_, rfl⟩) (Nat.le_of_ble_eq_true rfl) (Nat.le_of_ble_eq_true rfl) ⟨rfl, rfl⟩
set_option maxHeartbeats 4000000 in
set_option maxRecDepth 100000 in
theorem c_A_get {E : gE} {w : wd} {K : kC} {L : lyC} {t : tC} (hs : SysC E K L t w) (f j : Nat) (hf : f < K.2.1) (hj : j < (t.2.1 f).length) : Cn E y_A_get 3 0 0 [.ref (L.1 (14, f, 0)), .int (nI j)] w (fun r w' => r = some (.ref (L.1 (16, f, j))) ∧ w' = w) := by
  refine Cn.of (by decide) (Nat.le_of_ble_eq_true rfl) (fun A => ?_)
  show G E y_A_get _ 0 [(0, .ref (L.1 (14, f, 0))), (1, .int (nI j))] [] w 0 0
  have h5 := hs.2.2.2.2 f hf
  refine g_iload_n (j := 1) d_A_get_0 rfl ?_
  refine g_aload_n (j := 0) d_A_get_1 rfl ?_
  refine g_get d_A_get_2 f_A_48 (hs.lst hf) rfl ?_
  refine g_callS (c_O_checkIndex j (t.2.1 f).length hj (by omega)) ok_O_checkIndex lk_A_118 st_O_checkIndex d_A_get_5 rfl rfl (Nat.le_of_ble_eq_true rfl) ⟨(Nat.le_of_ble_eq_true rfl), (Nat.le_of_ble_eq_true rfl)⟩ (Nat.le_of_ble_eq_true rfl) (Nat.le_of_ble_eq_true rfl) (fun r w' hq => ?_)
  obtain ⟨rfl, rfl⟩ := hq
  refine g_pop d_A_get_8 rfl ?_
  refine g_aload_n (j := 0) d_A_get_9 rfl ?_
  refine g_iload_n (j := 1) d_A_get_10 rfl ?_
  refine g_callV (c_A_elementData hs f j hf hj) ok_A_elementData lk_A_123 in_A_elementData se_A_elementData (hs.lst hf) rfl d_A_get_11 rfl rfl (Nat.le_of_ble_eq_true rfl) ⟨(Nat.le_of_ble_eq_true rfl), (Nat.le_of_ble_eq_true rfl)⟩ (Nat.le_of_ble_eq_true rfl) (Nat.le_of_ble_eq_true rfl) (fun r w' hq => ?_)
  obtain ⟨rfl, rfl⟩ := hq
  exact g_areturn d_A_get_14 rfl (Or.inr ⟨_, rfl⟩) (Nat.le_of_ble_eq_true rfl) (Nat.le_of_ble_eq_true rfl) ⟨rfl, rfl⟩

def s_W_isOf (K : kC) (t : tC) (f : Nat) (j : Nat) (x : Int32) (y : Int32) : Int32 :=
  if ((t.2.1 f).getD j (0, 0, 0)).1 = x then
    if ((t.2.1 f).getD j (0, 0, 0)).2.1 = y then
      1
    else
      0
  else
    0
set_option maxHeartbeats 4000000 in
set_option maxRecDepth 100000 in
theorem c_W_isOf {E : gE} {w : wd} {K : kC} {L : lyC} {t : tC} (hs : SysC E K L t w) (f : Nat) (j : Nat) (x : Int32) (y : Int32) (hf : f < K.2.1 ∨ f = 4) (hj : j < (t.2.1 f).length) : Cn E y_W_isOf 1 0 0 [.ref (L.1 (16, f, j)), .int x, .int y] w (fun r w' => r = some (.int (s_W_isOf K t f j x y)) ∧ w' = w) := by
  refine Cn.of (by decide) (Nat.le_of_ble_eq_true rfl) (fun A => ?_)
  show G E y_W_isOf _ 0 [(0, .ref (L.1 (16, f, j))), (1, .int x), (2, .int y)] [] w 0 0
  have h4 := hs.nc
  have h64 := hs.pn
  refine g_aload_n (j := 0) d_W_isOf_0 rfl ?_
  refine g_get d_W_isOf_1 f_W_7 (hs.wr (f := f) (j := j) (by omega) (by omega)) rfl ?_
  refine g_iload_n (j := 1) d_W_isOf_4 rfl ?_
  refine g_icmp_ne (tgt := 20) d_W_isOf_5 (by decide) (fun h1 => ?_) (fun h1 => ?_)
  · skip
    refine g_iconst (v := 0) d_W_isOf_20 (by decide) ?_
    have hz : s_W_isOf K t f j x y = 0 := by
      unfold s_W_isOf
      rw [if_neg h1]
    exact g_zreturn d_W_isOf_21 rfl (by decide) (Nat.le_of_ble_eq_true rfl) (Nat.le_of_ble_eq_true rfl) ⟨by rw [hz], rfl⟩
  · skip
    refine g_aload_n (j := 0) d_W_isOf_8 rfl ?_
    refine g_get d_W_isOf_9 f_W_13 (hs.wr (f := f) (j := j) (by omega) (by omega)) rfl ?_
    refine g_iload_n (j := 2) d_W_isOf_12 rfl ?_
    refine g_icmp_ne (tgt := 20) d_W_isOf_13 (by decide) (fun h2 => ?_) (fun h2 => ?_)
    · skip
      refine g_iconst (v := 0) d_W_isOf_20 (by decide) ?_
      have hz : s_W_isOf K t f j x y = 0 := by
        unfold s_W_isOf
        rw [if_pos h1, if_neg h2]
      exact g_zreturn d_W_isOf_21 rfl (by decide) (Nat.le_of_ble_eq_true rfl) (Nat.le_of_ble_eq_true rfl) ⟨by rw [hz], rfl⟩
    · skip
      refine g_iconst (v := 1) d_W_isOf_16 (by decide) ?_
      refine g_goto (tgt := 21) d_W_isOf_17 (by decide) ?_
      have hz : s_W_isOf K t f j x y = 1 := by
        unfold s_W_isOf
        rw [if_pos h1, if_pos h2]
      exact g_zreturn d_W_isOf_21 rfl (by decide) (Nat.le_of_ble_eq_true rfl) (Nat.le_of_ble_eq_true rfl) ⟨by rw [hz], rfl⟩
