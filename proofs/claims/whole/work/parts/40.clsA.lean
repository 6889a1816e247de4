theorem wm_i : Cond.initialized "java/lang/Math" ∈ WS := ws_at 2 (by decide +kernel) rfl
theorem wm_mins : Cond.static Lib.Math.min.name ∈ WS := ws_at 31 (by decide +kernel) rfl
theorem wm_maxs : Cond.static Lib.Math.max.name ∈ WS := ws_at 34 (by decide +kernel) rfl
set_option maxRecDepth 100000 in
theorem wm_minc : Cond.code Lib.Math.min.name Lib.Math.min.code 2 (some .int) ∈ WS := ws_at 32 rfl rfl
set_option maxRecDepth 100000 in
theorem wm_maxc : Cond.code Lib.Math.max.name Lib.Math.max.code 2 (some .int) ∈ WS := ws_at 35 rfl rfl

theorem toInt_inj {x y : Int32} (h : x.toInt = y.toInt) : x = y := Int32.toInt_inj.mp h
/-- a value that is none of lo .. hi lies outside -/
theorem sw_out (x : Int32) (lo hi : Nat) (_ : lo ≤ hi) (hhi : hi < 1000) (h : ∀ j : Nat, lo ≤ j → j ≤ hi → ¬ x = nI j) : x.toInt < (lo : Int) ∨ (hi : Int) < x.toInt := by
  refine Decidable.byContradiction fun hc => ?_
  have h1 : (lo : Int) ≤ x.toInt ∧ x.toInt ≤ (hi : Int) := by omega
  refine h x.toInt.toNat (by omega) (by omega) (toInt_inj ?_)
  rw [nI_toInt (by omega)]
  omega
theorem sw_ne {x : Int32} {k : Nat} (hk : k < 1000) (h : ¬ x = nI k) : ¬ (k : Int) = x.toInt := fun z => h (toInt_inj (by rw [nI_toInt (by omega), z]))
theorem sw_lk (x : Int) {ps : List (Int × Int)} {d : Int} (h : ∀ p ∈ ps, ¬ p.1 = x) : Op.lookupswitch.offset ps d x = d := by
  induction ps with
  | nil => rfl
  | cons p r ih =>
    obtain ⟨a, b⟩ := p
    rw [Op.lookupswitch.offset_cons, if_neg (h (a, b) List.mem_cons_self)]
    exact ih (fun q hq => h q (List.mem_cons_of_mem _ hq))

def s_L_timeLeft (x : Int32) (y : Int32) : Int32 :=
  (if 0 < x - y then x - y else 0)
set_option maxHeartbeats 4000000 in
set_option maxRecDepth 100000 in
theorem c_L_timeLeft {E : gE} {w : wd} (x : Int32) (y : Int32) : Cn E y_L_timeLeft 2 0 0 [.int x, .int y] w (fun r w' => r = some (.int (s_L_timeLeft x y)) ∧ w' = w) := by
  refine Cn.of (by decide) (Nat.le_of_ble_eq_true rfl) (fun A => ?_)
  show G E y_L_timeLeft _ 0 [(0, .int x), (1, .int y)] [] w 0 0
  refine g_iconst (v := 0) d_L_timeLeft_0 (by decide) ?_
  refine g_iload_n (j := 0) d_L_timeLeft_1 rfl ?_
  refine g_iload_n (j := 1) d_L_timeLeft_2 rfl ?_
  refine g_isub d_L_timeLeft_3 ?_
  refine g_max d_L_timeLeft_4 lk_L_160 wm_maxs wm_i wm_maxc ⟨(Nat.le_of_ble_eq_true rfl), (Nat.le_of_ble_eq_true rfl)⟩ (Nat.le_of_ble_eq_true rfl) (Nat.le_of_ble_eq_true rfl) (Nat.le_of_ble_eq_true rfl) ?_
  have hz : s_L_timeLeft x y = (if 0 < x - y then x - y else 0) := by
    unfold s_L_timeLeft
    rfl
  exact g_ireturn d_L_timeLeft_7 rfl (Nat.le_of_ble_eq_true rfl) (Nat.le_of_ble_eq_true rfl) ⟨by rw [hz], rfl⟩

def s_L_isStep (x : Int32) : Int32 :=
  if x < 0 then
    0
  else
    if 1000 < x then
      0
    else
      1
set_option maxHeartbeats 4000000 in
set_option maxRecDepth 100000 in
theorem c_L_isStep {E : gE} {w : wd} (x : Int32) : Cn E y_L_isStep 1 0 0 [.int x] w (fun r w' => r = some (.int (s_L_isStep x)) ∧ w' = w) := by
  refine Cn.of (by decide) (Nat.le_of_ble_eq_true rfl) (fun A => ?_)
  show G E y_L_isStep _ 0 [(0, .int x)] [] w 0 0
  refine g_iload_n (j := 0) d_L_isStep_0 rfl ?_
  refine g_if_lt (tgt := 15) d_L_isStep_1 (by decide) (fun h1 => ?_) (fun h1 => ?_)
  · skip
    refine g_iconst (v := 0) d_L_isStep_15 (by decide) ?_
    have hz : s_L_isStep x = 0 := by
      unfold s_L_isStep
      rw [if_pos h1]
    exact g_zreturn d_L_isStep_16 rfl (by decide) (Nat.le_of_ble_eq_true rfl) (Nat.le_of_ble_eq_true rfl) ⟨by rw [hz], rfl⟩
  · skip
    refine g_iload_n (j := 0) d_L_isStep_4 rfl ?_
    refine g_sipush (v := 1000) d_L_isStep_5 (by decide) ?_
    refine g_icmp_gt (tgt := 15) d_L_isStep_8 (by decide) (fun h2 => ?_) (fun h2 => ?_)
    · skip
      refine g_iconst (v := 0) d_L_isStep_15 (by decide) ?_
      have hz : s_L_isStep x = 0 := by
        unfold s_L_isStep
        rw [if_neg h1, if_pos h2]
      exact g_zreturn d_L_isStep_16 rfl (by decide) (Nat.le_of_ble_eq_true rfl) (Nat.le_of_ble_eq_true rfl) ⟨by rw [hz], rfl⟩
    · skip
      refine g_iconst (v := 1) d_L_isStep_11 (by decide) ?_
      refine g_goto (tgt := 16) d_L_isStep_12 (by decide) ?_
      have hz : s_L_isStep x = 1 := by
        unfold s_L_isStep
        rw [if_neg h1, if_neg h2]
      exact g_zreturn d_L_isStep_16 rfl (by decide) (Nat.le_of_ble_eq_true rfl) (Nat.le_of_ble_eq_true rfl) ⟨by rw [hz], rfl⟩

def s_L_clamp (x : Int32) (y : Int32) : Int32 :=
  (if 1 < (if y < x then y else x) then (if y < x then y else x) else 1)
set_option maxHeartbeats 4000000 in
set_option maxRecDepth 100000 in
theorem c_L_clamp {E : gE} {w : wd} (x : Int32) (y : Int32) : Cn E y_L_clamp 2 0 0 [.int x, .int y] w (fun r w' => r = some (.int (s_L_clamp x y)) ∧ w' = w) := by
  refine Cn.of (by decide) (Nat.le_of_ble_eq_true rfl) (fun A => ?_)
  show G E y_L_clamp _ 0 [(0, .int x), (1, .int y)] [] w 0 0
  refine g_iconst (v := 1) d_L_clamp_0 (by decide) ?_
  refine g_iload_n (j := 0) d_L_clamp_1 rfl ?_
  refine g_iload_n (j := 1) d_L_clamp_2 rfl ?_
  refine g_min d_L_clamp_3 lk_L_155 wm_mins wm_i wm_minc ⟨(Nat.le_of_ble_eq_true rfl), (Nat.le_of_ble_eq_true rfl)⟩ (Nat.le_of_ble_eq_true rfl) (Nat.le_of_ble_eq_true rfl) (Nat.le_of_ble_eq_true rfl) ?_
  refine g_max d_L_clamp_6 lk_L_160 wm_maxs wm_i wm_maxc ⟨(Nat.le_of_ble_eq_true rfl), (Nat.le_of_ble_eq_true rfl)⟩ (Nat.le_of_ble_eq_true rfl) (Nat.le_of_ble_eq_true rfl) (Nat.le_of_ble_eq_true rfl) ?_
  have hz : s_L_clamp x y = (if 1 < (if y < x then y else x) then (if y < x then y else x) else 1) := by
    unfold s_L_clamp
    rfl
  exact g_ireturn d_L_clamp_9 rfl (Nat.le_of_ble_eq_true rfl) (Nat.le_of_ble_eq_true rfl) ⟨by rw [hz], rfl⟩

def s_L_hasClient (K : kC) (t : tC) (x : Int32) : Int32 :=
  if x < 0 then
    0
  else
    if nI (K.1) ≤ x then
      0
    else
      1
set_option maxHeartbeats 4000000 in
set_option maxRecDepth 100000 in
theorem c_L_hasClient {E : gE} {w : wd} {K : kC} {L : lyC} {t : tC} (hs : SysC E K L t w) (x : Int32) : Cn E y_L_hasClient 1 0 0 [.ref (L.1 (0, 0, 0)), .int x] w (fun r w' => r = some (.int (s_L_hasClient K t x)) ∧ w' = w) := by
  refine Cn.of (by decide) (Nat.le_of_ble_eq_true rfl) (fun A => ?_)
  show G E y_L_hasClient _ 0 [(0, .ref (L.1 (0, 0, 0))), (1, .int x)] [] w 0 0
  have h4 := hs.nc
  have h64 := hs.pn
  refine g_iload_n (j := 1) d_L_hasClient_0 rfl ?_
  refine g_if_lt (tgt := 17) d_L_hasClient_1 (by decide) (fun h1 => ?_) (fun h1 => ?_)
  · skip
    refine g_iconst (v := 0) d_L_hasClient_17 (by decide) ?_
    have hz : s_L_hasClient K t x = 0 := by
      unfold s_L_hasClient
      rw [if_pos h1]
    exact g_zreturn d_L_hasClient_18 rfl (by decide) (Nat.le_of_ble_eq_true rfl) (Nat.le_of_ble_eq_true rfl) ⟨by rw [hz], rfl⟩
  · skip
    refine g_iload_n (j := 1) d_L_hasClient_4 rfl ?_
    refine g_aload_n (j := 0) d_L_hasClient_5 rfl ?_
    refine g_get d_L_hasClient_6 f_L_35 hs.main rfl ?_
    refine g_alen (t0 := 3) d_L_hasClient_9 hs.clis rfl ?_
    refine g_norm (y := nI K.1) rfl ?_
    refine g_icmp_ge (tgt := 17) d_L_hasClient_10 (by decide) (fun h2 => ?_) (fun h2 => ?_)
    · skip
      refine g_iconst (v := 0) d_L_hasClient_17 (by decide) ?_
      have hz : s_L_hasClient K t x = 0 := by
        unfold s_L_hasClient
        rw [if_neg h1, if_pos h2]
      exact g_zreturn d_L_hasClient_18 rfl (by decide) (Nat.le_of_ble_eq_true rfl) (Nat.le_of_ble_eq_true rfl) ⟨by rw [hz], rfl⟩
    · skip
      refine g_iconst (v := 1) d_L_hasClient_13 (by decide) ?_
      refine g_goto (tgt := 18) d_L_hasClient_14 (by decide) ?_
      have hz : s_L_hasClient K t x = 1 := by
        unfold s_L_hasClient
        rw [if_neg h1, if_neg h2]
      exact g_zreturn d_L_hasClient_18 rfl (by decide) (Nat.le_of_ble_eq_true rfl) (Nat.le_of_ble_eq_true rfl) ⟨by rw [hz], rfl⟩

def s_L_hasFile (K : kC) (t : tC) (x : Int32) : Int32 :=
  if x < 0 then
    0
  else
    if nI (K.2.1) ≤ x then
      0
    else
      1
set_option maxHeartbeats 4000000 in
set_option maxRecDepth 100000 in
theorem c_L_hasFile {E : gE} {w : wd} {K : kC} {L : lyC} {t : tC} (hs : SysC E K L t w) (x : Int32) : Cn E y_L_hasFile 1 0 0 [.ref (L.1 (0, 0, 0)), .int x] w (fun r w' => r = some (.int (s_L_hasFile K t x)) ∧ w' = w) := by
  refine Cn.of (by decide) (Nat.le_of_ble_eq_true rfl) (fun A => ?_)
  show G E y_L_hasFile _ 0 [(0, .ref (L.1 (0, 0, 0))), (1, .int x)] [] w 0 0
  have h4 := hs.nc
  have h64 := hs.pn
  refine g_iload_n (j := 1) d_L_hasFile_0 rfl ?_
  refine g_if_lt (tgt := 16) d_L_hasFile_1 (by decide) (fun h1 => ?_) (fun h1 => ?_)
  · skip
    refine g_iconst (v := 0) d_L_hasFile_16 (by decide) ?_
    have hz : s_L_hasFile K t x = 0 := by
      unfold s_L_hasFile
      rw [if_pos h1]
    exact g_zreturn d_L_hasFile_17 rfl (by decide) (Nat.le_of_ble_eq_true rfl) (Nat.le_of_ble_eq_true rfl) ⟨by rw [hz], rfl⟩
  · skip
    refine g_iload_n (j := 1) d_L_hasFile_4 rfl ?_
    refine g_aload_n (j := 0) d_L_hasFile_5 rfl ?_
    refine g_get d_L_hasFile_6 f_L_13 hs.main rfl ?_
    refine g_icmp_ge (tgt := 16) d_L_hasFile_9 (by decide) (fun h2 => ?_) (fun h2 => ?_)
    · skip
      refine g_iconst (v := 0) d_L_hasFile_16 (by decide) ?_
      have hz : s_L_hasFile K t x = 0 := by
        unfold s_L_hasFile
        rw [if_neg h1, if_pos h2]
      exact g_zreturn d_L_hasFile_17 rfl (by decide) (Nat.le_of_ble_eq_true rfl) (Nat.le_of_ble_eq_true rfl) ⟨by rw [hz], rfl⟩
    · skip
      refine g_iconst (v := 1) d_L_hasFile_12 (by decide) ?_
      refine g_goto (tgt := 17) d_L_hasFile_13 (by decide) ?_
      have hz : s_L_hasFile K t x = 1 := by
        unfold s_L_hasFile
        rw [if_neg h1, if_neg h2]
      exact g_zreturn d_L_hasFile_17 rfl (by decide) (Nat.le_of_ble_eq_true rfl) (Nat.le_of_ble_eq_true rfl) ⟨by rw [hz], rfl⟩

def s_M_goesToServer (K : kC) (t : tC) (i : Nat) : Int32 :=
  if t.1 7 i 0 = 0 then
    1
  else
    if t.1 7 i 0 = 1 then
      1
    else
      if t.1 7 i 0 = 5 then
        1
      else
        0
set_option maxHeartbeats 4000000 in
set_option maxRecDepth 100000 in
theorem c_M_goesToServer {E : gE} {w : wd} {K : kC} {L : lyC} {t : tC} (hs : SysC E K L t w) (i : Nat) (hi : i ≤ 64) : Cn E y_M_goesToServer 1 0 0 [.ref (L.1 (3, i, 0))] w (fun r w' => r = some (.int (s_M_goesToServer K t i)) ∧ w' = w) := by
  refine Cn.of (by decide) (Nat.le_of_ble_eq_true rfl) (fun A => ?_)
  show G E y_M_goesToServer _ 0 [(0, .ref (L.1 (3, i, 0)))] [] w 0 0
  have h4 := hs.nc
  have h64 := hs.pn
  refine g_aload_n (j := 0) d_M_goesToServer_0 rfl ?_
  refine g_get d_M_goesToServer_1 f_M_9 (hs.msg (i := i) (by omega)) rfl ?_
  refine g_if_eq (tgt := 23) d_M_goesToServer_4 (by decide) (fun h1 => ?_) (fun h1 => ?_)
  · skip
    refine g_iconst (v := 1) d_M_goesToServer_23 (by decide) ?_
    refine g_goto (tgt := 28) d_M_goesToServer_24 (by decide) ?_
    have hz : s_M_goesToServer K t i = 1 := by
      unfold s_M_goesToServer
      rw [if_pos h1]
    exact g_zreturn d_M_goesToServer_28 rfl (by decide) (Nat.le_of_ble_eq_true rfl) (Nat.le_of_ble_eq_true rfl) ⟨by rw [hz], rfl⟩
  · skip
    refine g_aload_n (j := 0) d_M_goesToServer_7 rfl ?_
    refine g_get d_M_goesToServer_8 f_M_9 (hs.msg (i := i) (by omega)) rfl ?_
    refine g_iconst (v := 1) d_M_goesToServer_11 (by decide) ?_
    refine g_icmp_eq (tgt := 23) d_M_goesToServer_12 (by decide) (fun h2 => ?_) (fun h2 => ?_)
    · skip
      refine g_iconst (v := 1) d_M_goesToServer_23 (by decide) ?_
      refine g_goto (tgt := 28) d_M_goesToServer_24 (by decide) ?_
      have hz : s_M_goesToServer K t i = 1 := by
        unfold s_M_goesToServer
        rw [if_neg h1, if_pos h2]
      exact g_zreturn d_M_goesToServer_28 rfl (by decide) (Nat.le_of_ble_eq_true rfl) (Nat.le_of_ble_eq_true rfl) ⟨by rw [hz], rfl⟩
    · skip
      refine g_aload_n (j := 0) d_M_goesToServer_15 rfl ?_
      refine g_get d_M_goesToServer_16 f_M_9 (hs.msg (i := i) (by omega)) rfl ?_
      refine g_iconst (v := 5) d_M_goesToServer_19 (by decide) ?_
      refine g_icmp_ne (tgt := 27) d_M_goesToServer_20 (by decide) (fun h3 => ?_) (fun h3 => ?_)
      · skip
        refine g_iconst (v := 0) d_M_goesToServer_27 (by decide) ?_
        have hz : s_M_goesToServer K t i = 0 := by
          unfold s_M_goesToServer
          rw [if_neg h1, if_neg h2, if_neg h3]
        exact g_zreturn d_M_goesToServer_28 rfl (by decide) (Nat.le_of_ble_eq_true rfl) (Nat.le_of_ble_eq_true rfl) ⟨by rw [hz], rfl⟩
      · skip
        refine g_iconst (v := 1) d_M_goesToServer_23 (by decide) ?_
        refine g_goto (tgt := 28) d_M_goesToServer_24 (by decide) ?_
        have hz : s_M_goesToServer K t i = 1 := by
          unfold s_M_goesToServer
          rw [if_neg h1, if_neg h2, if_pos h3]
        exact g_zreturn d_M_goesToServer_28 rfl (by decide) (Nat.le_of_ble_eq_true rfl) (Nat.le_of_ble_eq_true rfl) ⟨by rw [hz], rfl⟩

def s_P_holds (K : kC) (t : tC) (x : Int32) : Int32 :=
  if x < 0 then
    0
  else
    if nI (t.2.2) ≤ x then
      0
    else
      1
set_option maxHeartbeats 4000000 in
set_option maxRecDepth 100000 in
theorem c_P_holds {E : gE} {w : wd} {K : kC} {L : lyC} {t : tC} (hs : SysC E K L t w) (x : Int32) : Cn E y_P_holds 1 0 0 [.ref (L.1 (1, 0, 0)), .int x] w (fun r w' => r = some (.int (s_P_holds K t x)) ∧ w' = w) := by
  refine Cn.of (by decide) (Nat.le_of_ble_eq_true rfl) (fun A => ?_)
  show G E y_P_holds _ 0 [(0, .ref (L.1 (1, 0, 0))), (1, .int x)] [] w 0 0
  have h4 := hs.nc
  have h64 := hs.pn
  refine g_iload_n (j := 1) d_P_holds_0 rfl ?_
  refine g_if_lt (tgt := 16) d_P_holds_1 (by decide) (fun h1 => ?_) (fun h1 => ?_)
  · skip
    refine g_iconst (v := 0) d_P_holds_16 (by decide) ?_
    have hz : s_P_holds K t x = 0 := by
      unfold s_P_holds
      rw [if_pos h1]
    exact g_zreturn d_P_holds_17 rfl (by decide) (Nat.le_of_ble_eq_true rfl) (Nat.le_of_ble_eq_true rfl) ⟨by rw [hz], rfl⟩
  · skip
    refine g_iload_n (j := 1) d_P_holds_4 rfl ?_
    refine g_aload_n (j := 0) d_P_holds_5 rfl ?_
    refine g_get d_P_holds_6 f_P_17 hs.pool rfl ?_
    refine g_icmp_ge (tgt := 16) d_P_holds_9 (by decide) (fun h2 => ?_) (fun h2 => ?_)
    · skip
      refine g_iconst (v := 0) d_P_holds_16 (by decide) ?_
      have hz : s_P_holds K t x = 0 := by
        unfold s_P_holds
        rw [if_neg h1, if_pos h2]
      exact g_zreturn d_P_holds_17 rfl (by decide) (Nat.le_of_ble_eq_true rfl) (Nat.le_of_ble_eq_true rfl) ⟨by rw [hz], rfl⟩
    · skip
      refine g_iconst (v := 1) d_P_holds_12 (by decide) ?_
      refine g_goto (tgt := 17) d_P_holds_13 (by decide) ?_
      have hz : s_P_holds K t x = 1 := by
        unfold s_P_holds
        rw [if_neg h1, if_neg h2]
      exact g_zreturn d_P_holds_17 rfl (by decide) (Nat.le_of_ble_eq_true rfl) (Nat.le_of_ble_eq_true rfl) ⟨by rw [hz], rfl⟩

def s_Y_isGoodAt (K : kC) (t : tC) (c : Nat) (f : Nat) (x : Int32) : Int32 :=
  if t.1 1 (4 * c + f) 0 = 0 then
    0
  else
    if t.1 1 (4 * c + f) 3 ≤ x then
      0
    else
      1
set_option maxHeartbeats 4000000 in
set_option maxRecDepth 100000 in
theorem c_Y_isGoodAt {E : gE} {w : wd} {K : kC} {L : lyC} {t : tC} (hs : SysC E K L t w) (c : Nat) (f : Nat) (x : Int32) (hc : c < K.1) (hf : f < K.2.1) : Cn E y_Y_isGoodAt 1 0 0 [.ref (L.1 (7, c, f)), .int x] w (fun r w' => r = some (.int (s_Y_isGoodAt K t c f x)) ∧ w' = w) := by
  refine Cn.of (by decide) (Nat.le_of_ble_eq_true rfl) (fun A => ?_)
  show G E y_Y_isGoodAt _ 0 [(0, .ref (L.1 (7, c, f))), (1, .int x)] [] w 0 0
  have h4 := hs.nc
  have h64 := hs.pn
  refine g_aload_n (j := 0) d_Y_isGoodAt_0 rfl ?_
  refine g_get d_Y_isGoodAt_1 f_Y_9 (hs.cp (c := c) (f := f) (by omega) (by omega)) rfl ?_
  refine g_if_eq (tgt := 19) d_Y_isGoodAt_4 (by decide) (fun h1 => ?_) (fun h1 => ?_)
  · skip
    refine g_iconst (v := 0) d_Y_isGoodAt_19 (by decide) ?_
    have hz : s_Y_isGoodAt K t c f x = 0 := by
      unfold s_Y_isGoodAt
      rw [if_pos h1]
    exact g_zreturn d_Y_isGoodAt_20 rfl (by decide) (Nat.le_of_ble_eq_true rfl) (Nat.le_of_ble_eq_true rfl) ⟨by rw [hz], rfl⟩
  · skip
    refine g_aload_n (j := 0) d_Y_isGoodAt_7 rfl ?_
    refine g_get d_Y_isGoodAt_8 f_Y_22 (hs.cp (c := c) (f := f) (by omega) (by omega)) rfl ?_
    refine g_iload_n (j := 1) d_Y_isGoodAt_11 rfl ?_
    refine g_icmp_le (tgt := 19) d_Y_isGoodAt_12 (by decide) (fun h2 => ?_) (fun h2 => ?_)
    · skip
      refine g_iconst (v := 0) d_Y_isGoodAt_19 (by decide) ?_
      have hz : s_Y_isGoodAt K t c f x = 0 := by
        unfold s_Y_isGoodAt
        rw [if_neg h1, if_pos h2]
      exact g_zreturn d_Y_isGoodAt_20 rfl (by decide) (Nat.le_of_ble_eq_true rfl) (Nat.le_of_ble_eq_true rfl) ⟨by rw [hz], rfl⟩
    · skip
      refine g_iconst (v := 1) d_Y_isGoodAt_15 (by decide) ?_
      refine g_goto (tgt := 20) d_Y_isGoodAt_16 (by decide) ?_
      have hz : s_Y_isGoodAt K t c f x = 1 := by
        unfold s_Y_isGoodAt
        rw [if_neg h1, if_neg h2]
      exact g_zreturn d_Y_isGoodAt_20 rfl (by decide) (Nat.le_of_ble_eq_true rfl) (Nat.le_of_ble_eq_true rfl) ⟨by rw [hz], rfl⟩

def s_Y_hold (K : kC) (t : tC) (c : Nat) (f : Nat) (x : Int32) (y : Int32) (z : Int32) : tC :=
  stC (stC (stC (stC t 1 ((4 * c + f)) 0 1) 1 ((4 * c + f)) 1 x) 1 ((4 * c + f)) 2 y) 1 ((4 * c + f)) 3 z
set_option maxHeartbeats 4000000 in
set_option maxRecDepth 100000 in
theorem c_Y_hold {E : gE} {w : wd} {K : kC} {L : lyC} {t : tC} (hs : SysC E K L t w) (c : Nat) (f : Nat) (x : Int32) (y : Int32) (z : Int32) (hc : c < K.1) (hf : f < K.2.1) : Cn E y_Y_hold 1 0 0 [.ref (L.1 (7, c, f)), .int x, .int y, .int z] w (fun r w' => r = none ∧ SysC E K L (s_Y_hold K t c f x y z) w') := by
  refine Cn.of (by decide) (Nat.le_of_ble_eq_true rfl) (fun A => ?_)
  show G E y_Y_hold _ 0 [(0, .ref (L.1 (7, c, f))), (1, .int x), (2, .int y), (3, .int z)] [] w 0 0
  have h4 := hs.nc
  have h64 := hs.pn
  refine g_aload_n (j := 0) d_Y_hold_0 rfl ?_
  refine g_iconst (v := 1) d_Y_hold_1 (by decide) ?_
  refine k_cp (c := c) (f := f) (j := 0) (by omega) (by omega) d_Y_hold_2 fw_Y_9 hs (fun _ => rfl) rfl rfl (Nat.le_of_ble_eq_true rfl) (fun w1 hs2 => ?_)
  refine g_aload_n (j := 0) d_Y_hold_5 rfl ?_
  refine g_iload_n (j := 1) d_Y_hold_6 rfl ?_
  refine k_cp (c := c) (f := f) (j := 1) (by omega) (by omega) d_Y_hold_7 fw_Y_15 hs2 (fun _ => rfl) rfl rfl (Nat.le_of_ble_eq_true rfl) (fun w3 hs4 => ?_)
  refine g_aload_n (j := 0) d_Y_hold_10 rfl ?_
  refine g_iload_n (j := 2) d_Y_hold_11 rfl ?_
  refine k_cp (c := c) (f := f) (j := 2) (by omega) (by omega) d_Y_hold_12 fw_Y_19 hs4 (fun _ => rfl) rfl rfl (Nat.le_of_ble_eq_true rfl) (fun w5 hs6 => ?_)
  refine g_aload_n (j := 0) d_Y_hold_15 rfl ?_
  refine g_iload_n (j := 3) d_Y_hold_16 rfl ?_
  refine k_cp (c := c) (f := f) (j := 3) (by omega) (by omega) d_Y_hold_17 fw_Y_22 hs6 (fun _ => rfl) rfl rfl (Nat.le_of_ble_eq_true rfl) (fun w7 hs8 => ?_)
  have hz : s_Y_hold K t c f x y z = stC (stC (stC (stC t 1 ((4 * c + f)) 0 1) 1 ((4 * c + f)) 1 x) 1 ((4 * c + f)) 2 y) 1 ((4 * c + f)) 3 z := by
    unfold s_Y_hold
    rfl
  exact g_return d_Y_hold_20 rfl (Nat.le_of_ble_eq_true rfl) (Nat.le_of_ble_eq_true rfl) ⟨rfl, by rw [hz]; exact hs8⟩

def s_C_finish (K : kC) (t : tC) (c : Nat) (x : Int32) (y : Int32) : tC :=
  stC (stC (stC t 0 c 1 1) 0 c 8 x) 0 c 9 y
set_option maxHeartbeats 4000000 in
set_option maxRecDepth 100000 in
theorem c_C_finish {E : gE} {w : wd} {K : kC} {L : lyC} {t : tC} (hs : SysC E K L t w) (c : Nat) (x : Int32) (y : Int32) (hc : c < K.1) : Cn E y_C_finish 1 0 0 [.ref (L.1 (5, c, 0)), .int x, .int y] w (fun r w' => r = none ∧ SysC E K L (s_C_finish K t c x y) w') := by
  refine Cn.of (by decide) (Nat.le_of_ble_eq_true rfl) (fun A => ?_)
  show G E y_C_finish _ 0 [(0, .ref (L.1 (5, c, 0))), (1, .int x), (2, .int y)] [] w 0 0
  have h4 := hs.nc
  have h64 := hs.pn
  refine g_aload_n (j := 0) d_C_finish_0 rfl ?_
  refine g_iconst (v := 1) d_C_finish_1 (by decide) ?_
  refine k_cli (c := c) (j := 1) (by omega) d_C_finish_2 fw_C_15 hs (fun _ => rfl) rfl rfl (Nat.le_of_ble_eq_true rfl) (fun w1 hs2 => ?_)
  refine g_aload_n (j := 0) d_C_finish_5 rfl ?_
  refine g_iload_n (j := 1) d_C_finish_6 rfl ?_
  refine k_cli (c := c) (j := 8) (by omega) d_C_finish_7 fw_C_37 hs2 (fun _ => rfl) rfl rfl (Nat.le_of_ble_eq_true rfl) (fun w3 hs4 => ?_)
  refine g_aload_n (j := 0) d_C_finish_10 rfl ?_
  refine g_iload_n (j := 2) d_C_finish_11 rfl ?_
  refine k_cli (c := c) (j := 9) (by omega) d_C_finish_12 fw_C_40 hs4 (fun _ => rfl) rfl rfl (Nat.le_of_ble_eq_true rfl) (fun w5 hs6 => ?_)
  have hz : s_C_finish K t c x y = stC (stC (stC t 0 c 1 1) 0 c 8 x) 0 c 9 y := by
    unfold s_C_finish
    rfl
  exact g_return d_C_finish_15 rfl (Nat.le_of_ble_eq_true rfl) (Nat.le_of_ble_eq_true rfl) ⟨rfl, by rw [hz]; exact hs6⟩

def s_C_waitsToRead (K : kC) (t : tC) (c : Nat) : Int32 :=
  if t.1 0 c 1 = 2 then
    if t.1 0 c 3 = 0 then
      0
    else
      1
  else
    0
set_option maxHeartbeats 4000000 in
set_option maxRecDepth 100000 in
theorem c_C_waitsToRead {E : gE} {w : wd} {K : kC} {L : lyC} {t : tC} (hs : SysC E K L t w) (c : Nat) (hc : c < K.1) : Cn E y_C_waitsToRead 1 0 0 [.ref (L.1 (5, c, 0))] w (fun r w' => r = some (.int (s_C_waitsToRead K t c)) ∧ w' = w) := by
  refine Cn.of (by decide) (Nat.le_of_ble_eq_true rfl) (fun A => ?_)
  show G E y_C_waitsToRead _ 0 [(0, .ref (L.1 (5, c, 0)))] [] w 0 0
  have h4 := hs.nc
  have h64 := hs.pn
  refine g_aload_n (j := 0) d_C_waitsToRead_0 rfl ?_
  refine g_get d_C_waitsToRead_1 f_C_15 (hs.cli (c := c) (by omega)) rfl ?_
  refine g_iconst (v := 2) d_C_waitsToRead_4 (by decide) ?_
  refine g_icmp_ne (tgt := 19) d_C_waitsToRead_5 (by decide) (fun h1 => ?_) (fun h1 => ?_)
  · skip
    refine g_iconst (v := 0) d_C_waitsToRead_19 (by decide) ?_
    have hz : s_C_waitsToRead K t c = 0 := by
      unfold s_C_waitsToRead
      rw [if_neg h1]
    exact g_zreturn d_C_waitsToRead_20 rfl (by decide) (Nat.le_of_ble_eq_true rfl) (Nat.le_of_ble_eq_true rfl) ⟨by rw [hz], rfl⟩
  · skip
    refine g_aload_n (j := 0) d_C_waitsToRead_8 rfl ?_
    refine g_get d_C_waitsToRead_9 f_C_21 (hs.cli (c := c) (by omega)) rfl ?_
    refine g_if_eq (tgt := 19) d_C_waitsToRead_12 (by decide) (fun h2 => ?_) (fun h2 => ?_)
    · skip
      refine g_iconst (v := 0) d_C_waitsToRead_19 (by decide) ?_
      have hz : s_C_waitsToRead K t c = 0 := by
        unfold s_C_waitsToRead
        rw [if_pos h1, if_pos h2]
      exact g_zreturn d_C_waitsToRead_20 rfl (by decide) (Nat.le_of_ble_eq_true rfl) (Nat.le_of_ble_eq_true rfl) ⟨by rw [hz], rfl⟩
    · skip
      refine g_iconst (v := 1) d_C_waitsToRead_15 (by decide) ?_
      refine g_goto (tgt := 20) d_C_waitsToRead_16 (by decide) ?_
      have hz : s_C_waitsToRead K t c = 1 := by
        unfold s_C_waitsToRead
        rw [if_pos h1, if_neg h2]
      exact g_zreturn d_C_waitsToRead_20 rfl (by decide) (Nat.le_of_ble_eq_true rfl) (Nat.le_of_ble_eq_true rfl) ⟨by rw [hz], rfl⟩

def s_C_waitsToWrite (K : kC) (t : tC) (c : Nat) : Int32 :=
  if t.1 0 c 1 = 2 then
    if t.1 0 c 3 = 0 then
      1
    else
      0
  else
    0
set_option maxHeartbeats 4000000 in
set_option maxRecDepth 100000 in
theorem c_C_waitsToWrite {E : gE} {w : wd} {K : kC} {L : lyC} {t : tC} (hs : SysC E K L t w) (c : Nat) (hc : c < K.1) : Cn E y_C_waitsToWrite 1 0 0 [.ref (L.1 (5, c, 0))] w (fun r w' => r = some (.int (s_C_waitsToWrite K t c)) ∧ w' = w) := by
  refine Cn.of (by decide) (Nat.le_of_ble_eq_true rfl) (fun A => ?_)
  show G E y_C_waitsToWrite _ 0 [(0, .ref (L.1 (5, c, 0)))] [] w 0 0
  have h4 := hs.nc
  have h64 := hs.pn
  refine g_aload_n (j := 0) d_C_waitsToWrite_0 rfl ?_
  refine g_get d_C_waitsToWrite_1 f_C_15 (hs.cli (c := c) (by omega)) rfl ?_
  refine g_iconst (v := 2) d_C_waitsToWrite_4 (by decide) ?_
  refine g_icmp_ne (tgt := 19) d_C_waitsToWrite_5 (by decide) (fun h1 => ?_) (fun h1 => ?_)
  · skip
    refine g_iconst (v := 0) d_C_waitsToWrite_19 (by decide) ?_
    have hz : s_C_waitsToWrite K t c = 0 := by
      unfold s_C_waitsToWrite
      rw [if_neg h1]
    exact g_zreturn d_C_waitsToWrite_20 rfl (by decide) (Nat.le_of_ble_eq_true rfl) (Nat.le_of_ble_eq_true rfl) ⟨by rw [hz], rfl⟩
  · skip
    refine g_aload_n (j := 0) d_C_waitsToWrite_8 rfl ?_
    refine g_get d_C_waitsToWrite_9 f_C_21 (hs.cli (c := c) (by omega)) rfl ?_
    refine g_if_ne (tgt := 19) d_C_waitsToWrite_12 (by decide) (fun h2 => ?_) (fun h2 => ?_)
    · skip
      refine g_iconst (v := 0) d_C_waitsToWrite_19 (by decide) ?_
      have hz : s_C_waitsToWrite K t c = 0 := by
        unfold s_C_waitsToWrite
        rw [if_pos h1, if_neg h2]
      exact g_zreturn d_C_waitsToWrite_20 rfl (by decide) (Nat.le_of_ble_eq_true rfl) (Nat.le_of_ble_eq_true rfl) ⟨by rw [hz], rfl⟩
    · skip
      refine g_iconst (v := 1) d_C_waitsToWrite_15 (by decide) ?_
      refine g_goto (tgt := 20) d_C_waitsToWrite_16 (by decide) ?_
      have hz : s_C_waitsToWrite K t c = 1 := by
        unfold s_C_waitsToWrite
        rw [if_pos h1, if_pos h2]
      exact g_zreturn d_C_waitsToWrite_20 rfl (by decide) (Nat.le_of_ble_eq_true rfl) (Nat.le_of_ble_eq_true rfl) ⟨by rw [hz], rfl⟩

def s_C_startOperation (K : kC) (t : tC) (c : Nat) (f : Nat) (x : Int32) : tC :=
  stC (stC (stC (stC (stC (stC t 0 c 2 ((t.1 0 c 2) + 1)) 0 c 1 2) 0 c 3 x) 0 c 4 (nI f)) 0 c 6 ((stC (stC (stC (stC t 0 c 2 ((t.1 0 c 2) + 1)) 0 c 1 2) 0 c 3 x) 0 c 4 (nI f)).1 0 c 0)) 0 c 7 0
set_option maxHeartbeats 4000000 in
set_option maxRecDepth 100000 in
theorem c_C_startOperation {E : gE} {w : wd} {K : kC} {L : lyC} {t : tC} (hs : SysC E K L t w) (c : Nat) (f : Nat) (x : Int32) (hc : c < K.1) (hf : f < K.2.1) (hx : narrow .boolean (.int x) = .int x ∧ fits .boolean (.int x) = true) : Cn E y_C_startOperation 1 0 0 [.ref (L.1 (5, c, 0)), .int (nI f), .int x] w (fun r w' => r = none ∧ SysC E K L (s_C_startOperation K t c f x) w') := by
  refine Cn.of (by decide) (Nat.le_of_ble_eq_true rfl) (fun A => ?_)
  show G E y_C_startOperation _ 0 [(0, .ref (L.1 (5, c, 0))), (1, .int (nI f)), (2, .int x)] [] w 0 0
  have h4 := hs.nc
  have h64 := hs.pn
  refine g_aload_n (j := 0) d_C_startOperation_0 rfl ?_
  refine g_dup d_C_startOperation_1 rfl ?_
  refine g_get d_C_startOperation_2 f_C_18 (hs.cli (c := c) (by omega)) rfl ?_
  refine g_iconst (v := 1) d_C_startOperation_5 (by decide) ?_
  refine g_iadd d_C_startOperation_6 ?_
  refine k_cli (c := c) (j := 2) (by omega) d_C_startOperation_7 fw_C_18 hs (fun _ => rfl) rfl rfl (Nat.le_of_ble_eq_true rfl) (fun w1 hs2 => ?_)
  refine g_aload_n (j := 0) d_C_startOperation_10 rfl ?_
  refine g_iconst (v := 2) d_C_startOperation_11 (by decide) ?_
  refine k_cli (c := c) (j := 1) (by omega) d_C_startOperation_12 fw_C_15 hs2 (fun _ => rfl) rfl rfl (Nat.le_of_ble_eq_true rfl) (fun w3 hs4 => ?_)
  refine g_aload_n (j := 0) d_C_startOperation_15 rfl ?_
  refine g_iload_n (j := 2) d_C_startOperation_16 rfl ?_
  refine k_cli (c := c) (j := 3) (by omega) d_C_startOperation_17 fw_C_21 hs4 (fun _ => rfl) hx.1 hx.2 (Nat.le_of_ble_eq_true rfl) (fun w5 hs6 => ?_)
  refine g_aload_n (j := 0) d_C_startOperation_20 rfl ?_
  refine g_iload_n (j := 1) d_C_startOperation_21 rfl ?_
  refine k_cli (c := c) (j := 4) (by omega) d_C_startOperation_22 fw_C_25 hs6 (fun _ => rfl) rfl rfl (Nat.le_of_ble_eq_true rfl) (fun w7 hs8 => ?_)
  refine g_aload_n (j := 0) d_C_startOperation_25 rfl ?_
  refine g_aload_n (j := 0) d_C_startOperation_26 rfl ?_
  refine g_get d_C_startOperation_27 f_C_9 (hs8.cli (c := c) (by omega)) rfl ?_
  refine k_cli (c := c) (j := 6) (by omega) d_C_startOperation_30 fw_C_31 hs8 (fun _ => rfl) rfl rfl (Nat.le_of_ble_eq_true rfl) (fun w9 hs10 => ?_)
  refine g_aload_n (j := 0) d_C_startOperation_33 rfl ?_
  refine g_iconst (v := 0) d_C_startOperation_34 (by decide) ?_
  refine k_cli (c := c) (j := 7) (by omega) d_C_startOperation_35 fw_C_34 hs10 (fun _ => rfl) rfl rfl (Nat.le_of_ble_eq_true rfl) (fun w11 hs12 => ?_)
  have hz : s_C_startOperation K t c f x = stC (stC (stC (stC (stC (stC t 0 c 2 ((t.1 0 c 2) + 1)) 0 c 1 2) 0 c 3 x) 0 c 4 (nI f)) 0 c 6 ((stC (stC (stC (stC t 0 c 2 ((t.1 0 c 2) + 1)) 0 c 1 2) 0 c 3 x) 0 c 4 (nI f)).1 0 c 0)) 0 c 7 0 := by
    unfold s_C_startOperation
    rfl
  exact g_return d_C_startOperation_38 rfl (Nat.le_of_ble_eq_true rfl) (Nat.le_of_ble_eq_true rfl) ⟨rfl, by rw [hz]; exact hs12⟩
