theorem lenC {n : Nat} (h : ¬ nI n = 0) : 0 < n := by
  refine Nat.pos_of_ne_zero fun z => h ?_
  rw [z]
  rfl
theorem isE_pos {K : kC} {t : tC} {f : Nat} (h : s_A_isEmpty K t f = 0) : 0 < (t.2.1 f).length := by
  refine lenC fun z => ?_
  unfold s_A_isEmpty at h
  rw [if_pos z] at h
  exact absurd h (by decide)
theorem isE_zero {K : kC} {t : tC} {f : Nat} (h : ¬ s_A_isEmpty K t f = 0) (hl : (t.2.1 f).length < 2 ^ 31) : t.2.1 f = [] := by
  unfold s_A_isEmpty at h
  by_cases z : nI (t.2.1 f).length = 0
  · have : (t.2.1 f).length = 0 := (nI_eq (b := 0) hl (by omega)).mp z
    exact List.length_eq_zero_iff.mp this
  · rw [if_neg z] at h
    exact absurd rfl h

def s_F_isFirst (K : kC) (t : tC) (f : Nat) (x : Int32) (y : Int32) : Int32 :=
  if s_A_isEmpty K t f = 0 then
    if s_W_isOf K t f 0 x y = 0 then
      0
    else
      1
  else
    0
set_option maxHeartbeats 4000000 in
set_option maxRecDepth 100000 in
theorem c_F_isFirst {E : gE} {w : wd} {K : kC} {L : lyC} {t : tC} (hs : SysC E K L t w) (f : Nat) (x : Int32) (y : Int32) (hf : f < K.2.1) : Cn E y_F_isFirst 4 0 0 [.ref (L.1 (10, f, 0)), .int x, .int y] w (fun r w' => r = some (.int (s_F_isFirst K t f x y)) ∧ w' = w) := by
  refine Cn.of (by decide) (Nat.le_of_ble_eq_true rfl) (fun A => ?_)
  show G E y_F_isFirst _ 0 [(0, .ref (L.1 (10, f, 0))), (1, .int x), (2, .int y)] [] w 0 0
  have h4 := hs.nc
  have h64 := hs.pn
  refine g_aload_n (j := 0) d_F_isFirst_0 rfl ?_
  refine g_get d_F_isFirst_1 f_F_12 (hs.fl (f := f) (by omega)) rfl ?_
  refine g_callV (c_A_isEmpty hs f (by omega)) ok_A_isEmpty lk_F_29 in_A_isEmpty se_A_isEmpty (hs.lst (f := f) (by omega)) rfl d_F_isFirst_4 rfl rfl (Nat.le_of_ble_eq_true rfl) ⟨(Nat.le_of_ble_eq_true rfl), (Nat.le_of_ble_eq_true rfl)⟩ (Nat.le_of_ble_eq_true rfl) (Nat.le_of_ble_eq_true rfl) (fun r w' hq => ?_)
  obtain ⟨rfl, rfl⟩ := hq
  refine g_if_ne (tgt := 33) d_F_isFirst_7 (by decide) (fun h1 => ?_) (fun h1 => ?_)
  · skip
    refine g_iconst (v := 0) d_F_isFirst_33 (by decide) ?_
    have hz : s_F_isFirst K t f x y = 0 := by
      unfold s_F_isFirst
      rw [if_neg h1]
    exact g_zreturn d_F_isFirst_34 rfl (by decide) (Nat.le_of_ble_eq_true rfl) (Nat.le_of_ble_eq_true rfl) ⟨by rw [hz], rfl⟩
  · skip
    have hlen := isE_pos h1
    refine g_aload_n (j := 0) d_F_isFirst_10 rfl ?_
    refine g_get d_F_isFirst_11 f_F_12 (hs.fl (f := f) (by omega)) rfl ?_
    refine g_iconst (v := 0) d_F_isFirst_14 (by decide) ?_
    refine g_callV (c_A_get hs f 0 (by omega) (by omega)) ok_A_get lk_F_33 in_A_get se_A_get (hs.lst (f := f) (by omega)) rfl d_F_isFirst_15 rfl rfl (Nat.le_of_ble_eq_true rfl) ⟨(Nat.le_of_ble_eq_true rfl), (Nat.le_of_ble_eq_true rfl)⟩ (Nat.le_of_ble_eq_true rfl) (Nat.le_of_ble_eq_true rfl) (fun r w' hq => ?_)
    obtain ⟨rfl, rfl⟩ := hq
    refine g_cast d_F_isFirst_18 cl_F_37 (hs.wr (f := f) (j := 0) (by omega) (by omega)) rfl ?_
    refine g_iload_n (j := 1) d_F_isFirst_21 rfl ?_
    refine g_iload_n (j := 2) d_F_isFirst_22 rfl ?_
    refine g_callV (c_W_isOf hs f 0 x y (by omega) (by omega)) ok_W_isOf lk_F_39 in_W_isOf se_W_isOf (hs.wr (f := f) (j := 0) (by omega) (by omega)) rfl d_F_isFirst_23 rfl rfl (Nat.le_of_ble_eq_true rfl) ⟨(Nat.le_of_ble_eq_true rfl), (Nat.le_of_ble_eq_true rfl)⟩ (Nat.le_of_ble_eq_true rfl) (Nat.le_of_ble_eq_true rfl) (fun r w' hq => ?_)
    obtain ⟨rfl, rfl⟩ := hq
    refine g_if_eq (tgt := 33) d_F_isFirst_26 (by decide) (fun h2 => ?_) (fun h2 => ?_)
    · skip
      refine g_iconst (v := 0) d_F_isFirst_33 (by decide) ?_
      have hz : s_F_isFirst K t f x y = 0 := by
        unfold s_F_isFirst
        rw [if_pos h1, if_pos h2]
      exact g_zreturn d_F_isFirst_34 rfl (by decide) (Nat.le_of_ble_eq_true rfl) (Nat.le_of_ble_eq_true rfl) ⟨by rw [hz], rfl⟩
    · skip
      refine g_iconst (v := 1) d_F_isFirst_29 (by decide) ?_
      refine g_goto (tgt := 34) d_F_isFirst_30 (by decide) ?_
      have hz : s_F_isFirst K t f x y = 1 := by
        unfold s_F_isFirst
        rw [if_pos h1, if_neg h2]
      exact g_zreturn d_F_isFirst_34 rfl (by decide) (Nat.le_of_ble_eq_true rfl) (Nat.le_of_ble_eq_true rfl) ⟨by rw [hz], rfl⟩

def s_F_part (K : kC) (t : tC) (f : Nat) (x : Int32) : Int32 :=
  if x = 0 then
    t.1 3 f 0
  else
    if x = 1 then
      t.1 3 f 1
    else
      if x = 2 then
        s_A_size K t f
      else
        if x = 3 then
          if s_A_isEmpty K t f = 0 then
            ((t.2.1 f).getD 0 (0, 0, 0)).1
          else
            (-1)
        else
          (-1)
set_option maxHeartbeats 4000000 in
set_option maxRecDepth 100000 in
theorem c_F_part {E : gE} {w : wd} {K : kC} {L : lyC} {t : tC} (hs : SysC E K L t w) (f : Nat) (x : Int32) (hf : f < K.2.1) : Cn E y_F_part 4 0 0 [.ref (L.1 (10, f, 0)), .int x] w (fun r w' => r = some (.int (s_F_part K t f x)) ∧ w' = w) := by
  refine Cn.of (by decide) (Nat.le_of_ble_eq_true rfl) (fun A => ?_)
  show G E y_F_part _ 0 [(0, .ref (L.1 (10, f, 0))), (1, .int x)] [] w 0 0
  have h4 := hs.nc
  have h64 := hs.pn
  refine g_iload_n (j := 1) d_F_part_0 rfl ?_
  rcases Decidable.em (x = 0) with h1 | h1
  · skip
    refine g_tableIn (tgt := 32) (off := 31) d_F_part_1 (by rw [h1]; decide) (by rw [h1]; decide) (by rw [h1]; rfl) (by decide) ?_
    refine g_aload_n (j := 0) d_F_part_32 rfl ?_
    refine g_get d_F_part_33 f_F_18 (hs.fl (f := f) (by omega)) rfl ?_
    have hz : s_F_part K t f x = t.1 3 f 0 := by
      unfold s_F_part
      rw [if_pos h1]
    exact g_ireturn d_F_part_36 rfl (Nat.le_of_ble_eq_true rfl) (Nat.le_of_ble_eq_true rfl) ⟨by rw [hz], rfl⟩
  · skip
    rcases Decidable.em (x = 1) with h2 | h2
    · skip
      refine g_tableIn (tgt := 37) (off := 36) d_F_part_1 (by rw [h2]; decide) (by rw [h2]; decide) (by rw [h2]; rfl) (by decide) ?_
      refine g_aload_n (j := 0) d_F_part_37 rfl ?_
      refine g_get d_F_part_38 f_F_22 (hs.fl (f := f) (by omega)) rfl ?_
      have hz : s_F_part K t f x = t.1 3 f 1 := by
        unfold s_F_part
        rw [if_neg h1, if_pos h2]
      exact g_ireturn d_F_part_41 rfl (Nat.le_of_ble_eq_true rfl) (Nat.le_of_ble_eq_true rfl) ⟨by rw [hz], rfl⟩
    · skip
      rcases Decidable.em (x = 2) with h3 | h3
      · skip
        refine g_tableIn (tgt := 42) (off := 41) d_F_part_1 (by rw [h3]; decide) (by rw [h3]; decide) (by rw [h3]; rfl) (by decide) ?_
        refine g_aload_n (j := 0) d_F_part_42 rfl ?_
        refine g_get d_F_part_43 f_F_12 (hs.fl (f := f) (by omega)) rfl ?_
        refine g_callV (c_A_size hs f (by omega)) ok_A_size lk_F_43 in_A_size se_A_size (hs.lst (f := f) (by omega)) rfl d_F_part_46 rfl rfl (Nat.le_of_ble_eq_true rfl) ⟨(Nat.le_of_ble_eq_true rfl), (Nat.le_of_ble_eq_true rfl)⟩ (Nat.le_of_ble_eq_true rfl) (Nat.le_of_ble_eq_true rfl) (fun r w' hq => ?_)
        obtain ⟨rfl, rfl⟩ := hq
        have hz : s_F_part K t f x = s_A_size K t f := by
          unfold s_F_part
          rw [if_neg h1, if_neg h2, if_pos h3]
        exact g_ireturn d_F_part_49 rfl (Nat.le_of_ble_eq_true rfl) (Nat.le_of_ble_eq_true rfl) ⟨by rw [hz], rfl⟩
      · skip
        rcases Decidable.em (x = 3) with h4 | h4
        · skip
          refine g_tableIn (tgt := 50) (off := 49) d_F_part_1 (by rw [h4]; decide) (by rw [h4]; decide) (by rw [h4]; rfl) (by decide) ?_
          refine g_aload_n (j := 0) d_F_part_50 rfl ?_
          refine g_get d_F_part_51 f_F_12 (hs.fl (f := f) (by omega)) rfl ?_
          refine g_callV (c_A_isEmpty hs f (by omega)) ok_A_isEmpty lk_F_29 in_A_isEmpty se_A_isEmpty (hs.lst (f := f) (by omega)) rfl d_F_part_54 rfl rfl (Nat.le_of_ble_eq_true rfl) ⟨(Nat.le_of_ble_eq_true rfl), (Nat.le_of_ble_eq_true rfl)⟩ (Nat.le_of_ble_eq_true rfl) (Nat.le_of_ble_eq_true rfl) (fun r w' hq => ?_)
          obtain ⟨rfl, rfl⟩ := hq
          refine g_if_eq (tgt := 64) d_F_part_57 (by decide) (fun h5 => ?_) (fun h5 => ?_)
          · skip
            have hlen := isE_pos h5
            refine g_aload_n (j := 0) d_F_part_64 rfl ?_
            refine g_get d_F_part_65 f_F_12 (hs.fl (f := f) (by omega)) rfl ?_
            refine g_iconst (v := 0) d_F_part_68 (by decide) ?_
            refine g_callV (c_A_get hs f 0 (by omega) (by omega)) ok_A_get lk_F_33 in_A_get se_A_get (hs.lst (f := f) (by omega)) rfl d_F_part_69 rfl rfl (Nat.le_of_ble_eq_true rfl) ⟨(Nat.le_of_ble_eq_true rfl), (Nat.le_of_ble_eq_true rfl)⟩ (Nat.le_of_ble_eq_true rfl) (Nat.le_of_ble_eq_true rfl) (fun r w' hq => ?_)
            obtain ⟨rfl, rfl⟩ := hq
            refine g_cast d_F_part_72 cl_F_37 (hs.wr (f := f) (j := 0) (by omega) (by omega)) rfl ?_
            refine g_get d_F_part_75 f_F_54 (hs.wr (f := f) (j := 0) (by omega) (by omega)) rfl ?_
            have hz : s_F_part K t f x = ((t.2.1 f).getD 0 (0, 0, 0)).1 := by
              unfold s_F_part
              rw [if_neg h1, if_neg h2, if_neg h3, if_pos h4, if_pos h5]
            exact g_ireturn d_F_part_78 rfl (Nat.le_of_ble_eq_true rfl) (Nat.le_of_ble_eq_true rfl) ⟨by rw [hz], rfl⟩
          · skip
            refine g_iconst (v := (-1)) d_F_part_60 (by decide) ?_
            refine g_goto (tgt := 78) d_F_part_61 (by decide) ?_
            have hz : s_F_part K t f x = (-1) := by
              unfold s_F_part
              rw [if_neg h1, if_neg h2, if_neg h3, if_pos h4, if_neg h5]
            exact g_ireturn d_F_part_78 rfl (Nat.le_of_ble_eq_true rfl) (Nat.le_of_ble_eq_true rfl) ⟨by rw [hz], rfl⟩
        · skip
          refine g_tableOut (tgt := 79) d_F_part_1 (sw_out x 0 3 (Nat.le_of_ble_eq_true rfl) (by decide) (fun j hj1 hj2 => by
            have hh : j = 0 ∨ j = 1 ∨ j = 2 ∨ j = 3 := by omega
            rcases hh with rfl | rfl | rfl | rfl
            · exact h1
            · exact h2
            · exact h3
            · exact h4)) (by decide) ?_
          refine g_iconst (v := (-1)) d_F_part_79 (by decide) ?_
          have hz : s_F_part K t f x = (-1) := by
            unfold s_F_part
            rw [if_neg h1, if_neg h2, if_neg h3, if_neg h4]
          exact g_ireturn d_F_part_80 rfl (Nat.le_of_ble_eq_true rfl) (Nat.le_of_ble_eq_true rfl) ⟨by rw [hz], rfl⟩

/-- is one of the first n leases longer than x -/
def ilL (g : Nat → Int32) (x : Int32) : Nat → Nat → Int32
  | 0, _ => 0
  | r + 1, n => if g n ≤ x then ilL g x r (n + 1) else 1
def s_F_isLeasedAt (K : kC) (t : tC) (f : Nat) (x : Int32) : Int32 := ilL (t.1 4 f) x K.1 0

set_option maxHeartbeats 4000000 in
set_option maxRecDepth 100000 in
theorem l_F_isLeasedAt {E : gE} {w : wd} {K : kC} {L : lyC} {t : tC} (hs : SysC E K L t w) (f : Nat) (hf : f < K.2.1) (x : Int32) {A : Nat → Prop} {V : Int32} : ∀ (r n : Nat), ilL (t.1 4 f) x r n = V → r + n = K.1 → G E y_F_isLeasedAt (rmD 1 0 0, A, (fun r w' => r = some (.int V) ∧ w' = w), fun _ => True) 2 [(2, .int (nI n)), (0, .ref (L.1 (10, f, 0))), (1, .int x)] [] w 0 0 := by
  have h4 := hs.nc
  intro r
  induction r with
  | zero =>
    intro n hV hr
    refine g_iload_n (j := 0) d_F_isLeasedAt_2 rfl ?_
    refine g_aload_n (j := 1) d_F_isLeasedAt_3 rfl ?_
    refine g_get d_F_isLeasedAt_4 f_F_25 (hs.fl (f := f) (by omega)) rfl ?_
    refine g_alen (t0 := 0) d_F_isLeasedAt_7 (hs.ends (f := f) (by omega)) rfl ?_
    refine g_norm (y := nI K.1) rfl ?_
    refine g_icmp_ge (tgt := 29) d_F_isLeasedAt_8 (by decide) (fun h1 => ?_) (fun h => absurd ((nI_leI (by omega) (by omega)).mpr (by omega)) h)
    refine g_iconst (v := 0) d_F_isLeasedAt_29 (by decide) ?_
    exact g_zreturn d_F_isLeasedAt_30 rfl (by decide) (Nat.le_of_ble_eq_true rfl) (Nat.le_of_ble_eq_true rfl) ⟨by rw [← hV, ilL], rfl⟩
  | succ r ih =>
    intro n hV hr
    refine g_iload_n (j := 0) d_F_isLeasedAt_2 rfl ?_
    refine g_aload_n (j := 1) d_F_isLeasedAt_3 rfl ?_
    refine g_get d_F_isLeasedAt_4 f_F_25 (hs.fl (f := f) (by omega)) rfl ?_
    refine g_alen (t0 := 0) d_F_isLeasedAt_7 (hs.ends (f := f) (by omega)) rfl ?_
    refine g_norm (y := nI K.1) rfl ?_
    refine g_icmp_ge (tgt := 29) d_F_isLeasedAt_8 (by decide) (fun h => absurd h (fun z => absurd ((nI_leI (by omega) (by omega)).mp z) (by omega))) (fun h1 => ?_)
    refine g_aload_n (j := 1) d_F_isLeasedAt_11 rfl ?_
    refine g_get d_F_isLeasedAt_12 f_F_25 (hs.fl (f := f) (by omega)) rfl ?_
    refine g_iload_n (j := 0) d_F_isLeasedAt_15 rfl ?_
    refine g_iald (j := n) d_F_isLeasedAt_16 (hs.ends (f := f) (by omega)) rfl (by omega) (by omega) ?_
    refine g_iload_n (j := 2) d_F_isLeasedAt_17 rfl ?_
    refine g_icmp_le (tgt := 23) d_F_isLeasedAt_18 (by decide) (fun h2 => ?_) (fun h2 => ?_)
    · skip
      refine g_iinc (j := 0) (v := nI (n + 1)) (lv' := [(2, _), (0, _), (1, _)]) d_F_isLeasedAt_23 rfl (nI_1 n) (by decide) rfl ?_
      refine g_goto (tgt := 2) d_F_isLeasedAt_26 (by decide) ?_
      refine ih (n + 1) (by rw [← hV, ilL, if_pos h2]) (by omega)
    · skip
      refine g_iconst (v := 1) d_F_isLeasedAt_21 (by decide) ?_
      exact g_zreturn d_F_isLeasedAt_22 rfl (by decide) (Nat.le_of_ble_eq_true rfl) (Nat.le_of_ble_eq_true rfl) ⟨by rw [← hV, ilL, if_neg h2], rfl⟩

set_option maxHeartbeats 4000000 in
set_option maxRecDepth 100000 in
theorem c_F_isLeasedAt {E : gE} {w : wd} {K : kC} {L : lyC} {t : tC} (hs : SysC E K L t w) (f : Nat) (x : Int32) (hf : f < K.2.1) : Cn E y_F_isLeasedAt 1 0 0 [.ref (L.1 (10, f, 0)), .int x] w (fun r w' => r = some (.int (s_F_isLeasedAt K t f x)) ∧ w' = w) := by
  refine Cn.of (by decide) (Nat.le_of_ble_eq_true rfl) (fun A => ?_)
  show G E y_F_isLeasedAt _ 0 [(0, .ref (L.1 (10, f, 0))), (1, .int x)] [] w 0 0
  have h4 := hs.nc
  refine g_iconst (v := 0) d_F_isLeasedAt_0 (by decide) ?_
  refine g_istore_n (lv' := [(2, _), (0, _), (1, _)]) d_F_isLeasedAt_1 (by decide) rfl ?_
  exact l_F_isLeasedAt hs f hf x K.1 0 rfl (by omega)

def enL (t : tC) (f : Nat) (x : Int32) : Nat → tC
  | 0 => t
  | n + 1 => stC (enL t f x n) 4 f n x
def s_F_endLeases (K : kC) (t : tC) (f : Nat) (x : Int32) : tC := enL t f x K.1

set_option maxHeartbeats 4000000 in
set_option maxRecDepth 100000 in
theorem l_F_endLeases {E : gE} {K : kC} {L : lyC} {t : tC} (f : Nat) (hf : f < K.2.1) (x : Int32) {A : Nat → Prop} : ∀ (r n : Nat) {w : wd}, SysC E K L (enL t f x n) w → r + n = K.1 → G E y_F_endLeases (rmD 1 0 0, A, (fun r w' => r = none ∧ SysC E K L (enL t f x K.1) w'), fun _ => True) 2 [(2, .int (nI n)), (0, .ref (L.1 (10, f, 0))), (1, .int x)] [] w 0 0 := by
  intro r
  induction r with
  | zero =>
    intro n w hs hr
    have h4 := hs.nc
    refine g_iload_n (j := 0) d_F_endLeases_2 rfl ?_
    refine g_aload_n (j := 1) d_F_endLeases_3 rfl ?_
    refine g_get d_F_endLeases_4 f_F_25 (hs.fl (f := f) (by omega)) rfl ?_
    refine g_alen (t0 := 0) d_F_endLeases_7 (hs.ends (f := f) (by omega)) rfl ?_
    refine g_norm (y := nI K.1) rfl ?_
    refine g_icmp_ge (tgt := 24) d_F_endLeases_8 (by decide) (fun h1 => ?_) (fun h => absurd ((nI_leI (by omega) (by omega)).mpr (by omega)) h)
    have he : n = K.1 := by omega
    subst he
    exact g_return d_F_endLeases_24 rfl (Nat.le_of_ble_eq_true rfl) (Nat.le_of_ble_eq_true rfl) ⟨rfl, hs⟩
  | succ r ih =>
    intro n w hs hr
    have h4 := hs.nc
    refine g_iload_n (j := 0) d_F_endLeases_2 rfl ?_
    refine g_aload_n (j := 1) d_F_endLeases_3 rfl ?_
    refine g_get d_F_endLeases_4 f_F_25 (hs.fl (f := f) (by omega)) rfl ?_
    refine g_alen (t0 := 0) d_F_endLeases_7 (hs.ends (f := f) (by omega)) rfl ?_
    refine g_norm (y := nI K.1) rfl ?_
    refine g_icmp_ge (tgt := 24) d_F_endLeases_8 (by decide) (fun h => absurd h (fun z => absurd ((nI_leI (by omega) (by omega)).mp z) (by omega))) (fun h1 => ?_)
    refine g_aload_n (j := 1) d_F_endLeases_11 rfl ?_
    refine g_get d_F_endLeases_12 f_F_25 (hs.fl (f := f) (by omega)) rfl ?_
    refine g_iload_n (j := 0) d_F_endLeases_15 rfl ?_
    refine g_iload_n (j := 2) d_F_endLeases_16 rfl ?_
    refine k_ends (f := f) (j := n) (by omega) d_F_endLeases_17 hs rfl (by omega) (fun w2 hs3 => ?_)
    refine g_iinc (j := 0) (v := nI (n + 1)) (lv' := [(2, _), (0, _), (1, _)]) d_F_endLeases_18 rfl (nI_1 n) (by decide) rfl ?_
    refine g_goto (tgt := 2) d_F_endLeases_21 (by decide) ?_
    exact ih (n + 1) hs3 (by omega)

set_option maxHeartbeats 4000000 in
set_option maxRecDepth 100000 in
theorem c_F_endLeases {E : gE} {w : wd} {K : kC} {L : lyC} {t : tC} (hs : SysC E K L t w) (f : Nat) (x : Int32) (hf : f < K.2.1) : Cn E y_F_endLeases 1 0 0 [.ref (L.1 (10, f, 0)), .int x] w (fun r w' => r = none ∧ SysC E K L (s_F_endLeases K t f x) w') := by
  refine Cn.of (by decide) (Nat.le_of_ble_eq_true rfl) (fun A => ?_)
  show G E y_F_endLeases _ 0 [(0, .ref (L.1 (10, f, 0))), (1, .int x)] [] w 0 0
  have h4 := hs.nc
  refine g_iconst (v := 0) d_F_endLeases_0 (by decide) ?_
  refine g_istore_n (lv' := [(2, _), (0, _), (1, _)]) d_F_endLeases_1 (by decide) rfl ?_
  exact l_F_endLeases f hf x K.1 0 hs (by omega)

def iwL (K : kC) (t : tC) (f : Nat) (x y : Int32) : Nat → Nat → Int32
  | 0, _ => 0
  | r + 1, n => if s_W_isOf K t f n x y = 0 then iwL K t f x y r (n + 1) else 1
def s_F_isWaiting (K : kC) (t : tC) (f : Nat) (x y : Int32) : Int32 := iwL K t f x y (t.2.1 f).length 0

set_option maxHeartbeats 4000000 in
set_option maxRecDepth 100000 in
theorem l_F_isWaiting {E : gE} {w : wd} {K : kC} {L : lyC} {t : tC} (hs : SysC E K L t w) (f : Nat) (hf : f < K.2.1) (x y : Int32) {A : Nat → Prop} {V : Int32} : ∀ (r n : Nat), iwL K t f x y r n = V → r + n = (t.2.1 f).length → G E y_F_isWaiting (rmD 4 0 0, A, (fun r w' => r = some (.int V) ∧ w' = w), fun _ => True) 2 [(3, .int (nI n)), (0, .ref (L.1 (10, f, 0))), (1, .int x), (2, .int y)] [] w 0 0 := by
  have h4 := hs.nc
  have h5 := hs.2.2.2.2 f hf
  intro r
  induction r with
  | zero =>
    intro n hV hr
    refine g_iload_n (j := 0) d_F_isWaiting_2 rfl ?_
    refine g_aload_n (j := 1) d_F_isWaiting_3 rfl ?_
    refine g_get d_F_isWaiting_4 f_F_12 (hs.fl (f := f) (by omega)) rfl ?_
    refine g_callV (c_A_size hs f (by omega)) ok_A_size lk_F_43 in_A_size se_A_size (hs.lst (f := f) (by omega)) rfl d_F_isWaiting_7 rfl rfl (Nat.le_of_ble_eq_true rfl) ⟨(Nat.le_of_ble_eq_true rfl), (Nat.le_of_ble_eq_true rfl)⟩ (Nat.le_of_ble_eq_true rfl) (Nat.le_of_ble_eq_true rfl) (fun r w' hq => ?_)
    obtain ⟨rfl, rfl⟩ := hq
    refine g_norm (y := nI ((t.2.1 f).length)) rfl ?_
    refine g_icmp_ge (tgt := 40) d_F_isWaiting_10 (by decide) (fun h1 => ?_) (fun h => absurd ((nI_leI (by omega) (by omega)).mpr (by omega)) h)
    refine g_iconst (v := 0) d_F_isWaiting_40 (by decide) ?_
    exact g_zreturn d_F_isWaiting_41 rfl (by decide) (Nat.le_of_ble_eq_true rfl) (Nat.le_of_ble_eq_true rfl) ⟨by rw [← hV, iwL], rfl⟩
  | succ r ih =>
    intro n hV hr
    refine g_iload_n (j := 0) d_F_isWaiting_2 rfl ?_
    refine g_aload_n (j := 1) d_F_isWaiting_3 rfl ?_
    refine g_get d_F_isWaiting_4 f_F_12 (hs.fl (f := f) (by omega)) rfl ?_
    refine g_callV (c_A_size hs f (by omega)) ok_A_size lk_F_43 in_A_size se_A_size (hs.lst (f := f) (by omega)) rfl d_F_isWaiting_7 rfl rfl (Nat.le_of_ble_eq_true rfl) ⟨(Nat.le_of_ble_eq_true rfl), (Nat.le_of_ble_eq_true rfl)⟩ (Nat.le_of_ble_eq_true rfl) (Nat.le_of_ble_eq_true rfl) (fun r w' hq => ?_)
    obtain ⟨rfl, rfl⟩ := hq
    refine g_norm (y := nI ((t.2.1 f).length)) rfl ?_
    refine g_icmp_ge (tgt := 40) d_F_isWaiting_10 (by decide) (fun h => absurd h (fun z => absurd ((nI_leI (by omega) (by omega)).mp z) (by omega))) (fun h1 => ?_)
    refine g_aload_n (j := 1) d_F_isWaiting_13 rfl ?_
    refine g_get d_F_isWaiting_14 f_F_12 (hs.fl (f := f) (by omega)) rfl ?_
    refine g_iload_n (j := 0) d_F_isWaiting_17 rfl ?_
    refine g_callV (c_A_get hs f n (by omega) (by omega)) ok_A_get lk_F_33 in_A_get se_A_get (hs.lst (f := f) (by omega)) rfl d_F_isWaiting_18 rfl rfl (Nat.le_of_ble_eq_true rfl) ⟨(Nat.le_of_ble_eq_true rfl), (Nat.le_of_ble_eq_true rfl)⟩ (Nat.le_of_ble_eq_true rfl) (Nat.le_of_ble_eq_true rfl) (fun r w' hq => ?_)
    obtain ⟨rfl, rfl⟩ := hq
    refine g_cast d_F_isWaiting_21 cl_F_37 (hs.wr (f := f) (j := n) (by omega) (by omega)) rfl ?_
    refine g_iload_n (j := 2) d_F_isWaiting_24 rfl ?_
    refine g_iload_n (j := 3) d_F_isWaiting_25 rfl ?_
    refine g_callV (c_W_isOf hs f n x y (by omega) (by omega)) ok_W_isOf lk_F_39 in_W_isOf se_W_isOf (hs.wr (f := f) (j := n) (by omega) (by omega)) rfl d_F_isWaiting_26 rfl rfl (Nat.le_of_ble_eq_true rfl) ⟨(Nat.le_of_ble_eq_true rfl), (Nat.le_of_ble_eq_true rfl)⟩ (Nat.le_of_ble_eq_true rfl) (Nat.le_of_ble_eq_true rfl) (fun r w' hq => ?_)
    obtain ⟨rfl, rfl⟩ := hq
    refine g_if_eq (tgt := 34) d_F_isWaiting_29 (by decide) (fun h2 => ?_) (fun h2 => ?_)
    · skip
      refine g_iinc (j := 0) (v := nI (n + 1)) (lv' := [(3, _), (0, _), (1, _), (2, _)]) d_F_isWaiting_34 rfl (nI_1 n) (by decide) rfl ?_
      refine g_goto (tgt := 2) d_F_isWaiting_37 (by decide) ?_
      refine ih (n + 1) (by rw [← hV, iwL, if_pos h2]) (by omega)
    · skip
      refine g_iconst (v := 1) d_F_isWaiting_32 (by decide) ?_
      exact g_zreturn d_F_isWaiting_33 rfl (by decide) (Nat.le_of_ble_eq_true rfl) (Nat.le_of_ble_eq_true rfl) ⟨by rw [← hV, iwL, if_neg h2], rfl⟩

set_option maxHeartbeats 4000000 in
set_option maxRecDepth 100000 in
theorem c_F_isWaiting {E : gE} {w : wd} {K : kC} {L : lyC} {t : tC} (hs : SysC E K L t w) (f : Nat) (x y : Int32) (hf : f < K.2.1) : Cn E y_F_isWaiting 4 0 0 [.ref (L.1 (10, f, 0)), .int x, .int y] w (fun r w' => r = some (.int (s_F_isWaiting K t f x y)) ∧ w' = w) := by
  refine Cn.of (by decide) (Nat.le_of_ble_eq_true rfl) (fun A => ?_)
  show G E y_F_isWaiting _ 0 [(0, .ref (L.1 (10, f, 0))), (1, .int x), (2, .int y)] [] w 0 0
  have h4 := hs.nc
  refine g_iconst (v := 0) d_F_isWaiting_0 (by decide) ?_
  refine g_istore_n (lv' := [(3, _), (0, _), (1, _), (2, _)]) d_F_isWaiting_1 (by decide) rfl ?_
  exact l_F_isWaiting hs f hf x y (t.2.1 f).length 0 rfl (by omega)

def fgT (t : tC) (c : Nat) : Nat → tC
  | 0 => t
  | f + 1 => stC (fgT t c f) 1 (4 * c + f) 0 0
def fgN (t : tC) (c : Nat) : Nat → Nat
  | 0 => 0
  | f + 1 => if (fgT t c f).1 1 (4 * c + f) 0 = 0 then fgN t c f else fgN t c f + 1
def s_C_forget (K : kC) (t : tC) (c : Nat) : tC × Int32 := (stC (fgT t c K.2.1) 0 c 1 0, nI (fgN t c K.2.1))

set_option maxHeartbeats 4000000 in
set_option maxRecDepth 100000 in
theorem l_C_forget {E : gE} {K : kC} {L : lyC} {t : tC} (c : Nat) (hc : c < K.1) {A : Nat → Prop} : ∀ (r n b : Nat) {w : wd}, fgN t c n = b → SysC E K L (fgT t c n) w → r + n = K.2.1 → G E y_C_forget (rmD 1 0 0, A, (fun r w' => r = some (.int (s_C_forget K t c).2) ∧ SysC E K L (s_C_forget K t c).1 w'), fun _ => True) 4 [(2, .int (nI n)), (1, .int (nI b)), (0, .ref (L.1 (5, c, 0)))] [] w 0 0 := by
  intro r
  induction r with
  | zero =>
    intro n b w hv hs hr
    have h4 := hs.nc
    refine g_iload_n (j := 0) d_C_forget_4 rfl ?_
    refine g_aload_n (j := 2) d_C_forget_5 rfl ?_
    refine g_get d_C_forget_6 f_C_51 (hs.cli (c := c) (by omega)) rfl ?_
    refine g_alen (t0 := 4) d_C_forget_9 (hs.cps (c := c) (by omega)) rfl ?_
    refine g_norm (y := nI K.2.1) rfl ?_
    refine g_icmp_ge (tgt := 44) d_C_forget_10 (by decide) (fun h1 => ?_) (fun h => absurd ((nI_leI (by omega) (by omega)).mpr (by omega)) h)
    have he : n = K.2.1 := by omega
    subst he
    subst hv
    refine g_aload_n (j := 2) d_C_forget_44 rfl ?_
    refine g_iconst (v := 0) d_C_forget_45 (by decide) ?_
    refine k_cli (c := c) (j := 1) (by omega) d_C_forget_46 fw_C_15 hs (fun _ => rfl) rfl rfl (Nat.le_of_ble_eq_true rfl) (fun w2 hs3 => ?_)
    refine g_iload_n (j := 1) d_C_forget_49 rfl ?_
    exact g_ireturn d_C_forget_50 rfl (Nat.le_of_ble_eq_true rfl) (Nat.le_of_ble_eq_true rfl) ⟨rfl, hs3⟩
  | succ r ih =>
    intro n b w hv hs hr
    have h4 := hs.nc
    refine g_iload_n (j := 0) d_C_forget_4 rfl ?_
    refine g_aload_n (j := 2) d_C_forget_5 rfl ?_
    refine g_get d_C_forget_6 f_C_51 (hs.cli (c := c) (by omega)) rfl ?_
    refine g_alen (t0 := 4) d_C_forget_9 (hs.cps (c := c) (by omega)) rfl ?_
    refine g_norm (y := nI K.2.1) rfl ?_
    refine g_icmp_ge (tgt := 44) d_C_forget_10 (by decide) (fun h => absurd h (fun z => absurd ((nI_leI (by omega) (by omega)).mp z) (by omega))) (fun h1 => ?_)
    refine g_aload_n (j := 2) d_C_forget_13 rfl ?_
    refine g_get d_C_forget_14 f_C_51 (hs.cli (c := c) (by omega)) rfl ?_
    refine g_iload_n (j := 0) d_C_forget_17 rfl ?_
    refine g_aald (t0 := 4) (j := n) d_C_forget_18 (hs.cps (c := c) (by omega)) rfl rfl (by omega) (by omega) (rf_if (by omega)) ?_
    refine g_get d_C_forget_19 f_C_76 (hs.cp (c := c) (f := n) (by omega) (by omega)) rfl ?_
    refine g_if_eq (tgt := 28) d_C_forget_22 (by decide) (fun h2 => ?_) (fun h2 => ?_)
    · skip
      refine g_aload_n (j := 2) d_C_forget_28 rfl ?_
      refine g_get d_C_forget_29 f_C_51 (hs.cli (c := c) (by omega)) rfl ?_
      refine g_iload_n (j := 0) d_C_forget_32 rfl ?_
      refine g_aald (t0 := 4) (j := n) d_C_forget_33 (hs.cps (c := c) (by omega)) rfl rfl (by omega) (by omega) (rf_if (by omega)) ?_
      refine g_iconst (v := 0) d_C_forget_34 (by decide) ?_
      refine k_cp (c := c) (f := n) (j := 0) (by omega) (by omega) d_C_forget_35 fw_C_76 hs (fun _ => rfl) rfl rfl (Nat.le_of_ble_eq_true rfl) (fun w3 hs4 => ?_)
      refine g_iinc (j := 0) (v := nI (n + 1)) (lv' := [(2, _), (1, _), (0, _)]) d_C_forget_38 rfl (nI_1 n) (by decide) rfl ?_
      refine g_goto (tgt := 4) d_C_forget_41 (by decide) ?_
      exact ih (n + 1) _ (by rw [fgN, if_pos h2, hv]) hs4 (by omega)
    · skip
      refine g_iinc (j := 1) (v := nI (b + 1)) (lv' := [(1, _), (2, _), (0, _)]) d_C_forget_25 rfl (nI_1 b) (by decide) rfl ?_
      refine g_aload_n (j := 2) d_C_forget_28 rfl ?_
      refine g_get d_C_forget_29 f_C_51 (hs.cli (c := c) (by omega)) rfl ?_
      refine g_iload_n (j := 1) d_C_forget_32 rfl ?_
      refine g_aald (t0 := 4) (j := n) d_C_forget_33 (hs.cps (c := c) (by omega)) rfl rfl (by omega) (by omega) (rf_if (by omega)) ?_
      refine g_iconst (v := 0) d_C_forget_34 (by decide) ?_
      refine k_cp (c := c) (f := n) (j := 0) (by omega) (by omega) d_C_forget_35 fw_C_76 hs (fun _ => rfl) rfl rfl (Nat.le_of_ble_eq_true rfl) (fun w5 hs6 => ?_)
      refine g_iinc (j := 1) (v := nI (n + 1)) (lv' := [(2, _), (1, _), (0, _)]) d_C_forget_38 rfl (nI_1 n) (by decide) rfl ?_
      refine g_goto (tgt := 4) d_C_forget_41 (by decide) ?_
      exact ih (n + 1) _ (by rw [fgN, if_neg h2, hv]) hs6 (by omega)

set_option maxHeartbeats 4000000 in
set_option maxRecDepth 100000 in
theorem c_C_forget {E : gE} {w : wd} {K : kC} {L : lyC} {t : tC} (hs : SysC E K L t w) (c : Nat) (hc : c < K.1) : Cn E y_C_forget 1 0 0 [.ref (L.1 (5, c, 0))] w (fun r w' => r = some (.int (s_C_forget K t c).2) ∧ SysC E K L (s_C_forget K t c).1 w') := by
  refine Cn.of (by decide) (Nat.le_of_ble_eq_true rfl) (fun A => ?_)
  show G E y_C_forget _ 0 [(0, .ref (L.1 (5, c, 0)))] [] w 0 0
  have h4 := hs.nc
  refine g_iconst (v := 0) d_C_forget_0 (by decide) ?_
  refine g_istore_n (lv' := [(1, _), (0, _)]) d_C_forget_1 (by decide) rfl ?_
  refine g_iconst (v := 0) d_C_forget_2 (by decide) ?_
  refine g_istore_n (lv' := [(2, _), (1, _), (0, _)]) d_C_forget_3 (by decide) rfl ?_
  exact l_C_forget c hc K.2.1 0 0 rfl hs (by omega)
