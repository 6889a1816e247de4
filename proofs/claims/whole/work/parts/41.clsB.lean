def s_M_part (K : kC) (t : tC) (i : Nat) (x : Int32) : Int32 :=
  if x = 0 then
    t.1 7 i 0
  else
    if x = 1 then
      t.1 7 i 1
    else
      if x = 2 then
        t.1 7 i 2
      else
        if x = 3 then
          t.1 7 i 3
        else
          if x = 4 then
            t.1 7 i 4
          else
            if x = 5 then
              t.1 7 i 5
            else
              if x = 6 then
                t.1 7 i 6
              else
                (-1)
set_option maxHeartbeats 4000000 in
set_option maxRecDepth 100000 in
theorem c_M_part {E : gE} {w : wd} {K : kC} {L : lyC} {t : tC} (hs : SysC E K L t w) (i : Nat) (x : Int32) (hi : i ≤ 64) : Cn E y_M_part 1 0 0 [.ref (L.1 (3, i, 0)), .int x] w (fun r w' => r = some (.int (s_M_part K t i x)) ∧ w' = w) := by
  refine Cn.of (by decide) (Nat.le_of_ble_eq_true rfl) (fun A => ?_)
  show G E y_M_part _ 0 [(0, .ref (L.1 (3, i, 0))), (1, .int x)] [] w 0 0
  have h4 := hs.nc
  have h64 := hs.pn
  refine g_iload_n (j := 1) d_M_part_0 rfl ?_
  rcases Decidable.em (x = 0) with h1 | h1
  · skip
    refine g_tableIn (tgt := 44) (off := 43) d_M_part_1 (by rw [h1]; decide) (by rw [h1]; decide) (by rw [h1]; rfl) (by decide) ?_
    refine g_aload_n (j := 0) d_M_part_44 rfl ?_
    refine g_get d_M_part_45 f_M_9 (hs.msg (i := i) (by omega)) rfl ?_
    have hz : s_M_part K t i x = t.1 7 i 0 := by
      unfold s_M_part
      rw [if_pos h1]
    exact g_ireturn d_M_part_48 rfl (Nat.le_of_ble_eq_true rfl) (Nat.le_of_ble_eq_true rfl) ⟨by rw [hz], rfl⟩
  · skip
    rcases Decidable.em (x = 1) with h2 | h2
    · skip
      refine g_tableIn (tgt := 49) (off := 48) d_M_part_1 (by rw [h2]; decide) (by rw [h2]; decide) (by rw [h2]; rfl) (by decide) ?_
      refine g_aload_n (j := 0) d_M_part_49 rfl ?_
      refine g_get d_M_part_50 f_M_15 (hs.msg (i := i) (by omega)) rfl ?_
      have hz : s_M_part K t i x = t.1 7 i 1 := by
        unfold s_M_part
        rw [if_neg h1, if_pos h2]
      exact g_ireturn d_M_part_53 rfl (Nat.le_of_ble_eq_true rfl) (Nat.le_of_ble_eq_true rfl) ⟨by rw [hz], rfl⟩
    · skip
      rcases Decidable.em (x = 2) with h3 | h3
      · skip
        refine g_tableIn (tgt := 54) (off := 53) d_M_part_1 (by rw [h3]; decide) (by rw [h3]; decide) (by rw [h3]; rfl) (by decide) ?_
        refine g_aload_n (j := 0) d_M_part_54 rfl ?_
        refine g_get d_M_part_55 f_M_18 (hs.msg (i := i) (by omega)) rfl ?_
        have hz : s_M_part K t i x = t.1 7 i 2 := by
          unfold s_M_part
          rw [if_neg h1, if_neg h2, if_pos h3]
        exact g_ireturn d_M_part_58 rfl (Nat.le_of_ble_eq_true rfl) (Nat.le_of_ble_eq_true rfl) ⟨by rw [hz], rfl⟩
      · skip
        rcases Decidable.em (x = 3) with h4 | h4
        · skip
          refine g_tableIn (tgt := 59) (off := 58) d_M_part_1 (by rw [h4]; decide) (by rw [h4]; decide) (by rw [h4]; rfl) (by decide) ?_
          refine g_aload_n (j := 0) d_M_part_59 rfl ?_
          refine g_get d_M_part_60 f_M_21 (hs.msg (i := i) (by omega)) rfl ?_
          have hz : s_M_part K t i x = t.1 7 i 3 := by
            unfold s_M_part
            rw [if_neg h1, if_neg h2, if_neg h3, if_pos h4]
          exact g_ireturn d_M_part_63 rfl (Nat.le_of_ble_eq_true rfl) (Nat.le_of_ble_eq_true rfl) ⟨by rw [hz], rfl⟩
        · skip
          rcases Decidable.em (x = 4) with h5 | h5
          · skip
            refine g_tableIn (tgt := 64) (off := 63) d_M_part_1 (by rw [h5]; decide) (by rw [h5]; decide) (by rw [h5]; rfl) (by decide) ?_
            refine g_aload_n (j := 0) d_M_part_64 rfl ?_
            refine g_get d_M_part_65 f_M_24 (hs.msg (i := i) (by omega)) rfl ?_
            have hz : s_M_part K t i x = t.1 7 i 4 := by
              unfold s_M_part
              rw [if_neg h1, if_neg h2, if_neg h3, if_neg h4, if_pos h5]
            exact g_ireturn d_M_part_68 rfl (Nat.le_of_ble_eq_true rfl) (Nat.le_of_ble_eq_true rfl) ⟨by rw [hz], rfl⟩
          · skip
            rcases Decidable.em (x = 5) with h6 | h6
            · skip
              refine g_tableIn (tgt := 69) (off := 68) d_M_part_1 (by rw [h6]; decide) (by rw [h6]; decide) (by rw [h6]; rfl) (by decide) ?_
              refine g_aload_n (j := 0) d_M_part_69 rfl ?_
              refine g_get d_M_part_70 f_M_27 (hs.msg (i := i) (by omega)) rfl ?_
              have hz : s_M_part K t i x = t.1 7 i 5 := by
                unfold s_M_part
                rw [if_neg h1, if_neg h2, if_neg h3, if_neg h4, if_neg h5, if_pos h6]
              exact g_ireturn d_M_part_73 rfl (Nat.le_of_ble_eq_true rfl) (Nat.le_of_ble_eq_true rfl) ⟨by rw [hz], rfl⟩
            · skip
              rcases Decidable.em (x = 6) with h7 | h7
              · skip
                refine g_tableIn (tgt := 74) (off := 73) d_M_part_1 (by rw [h7]; decide) (by rw [h7]; decide) (by rw [h7]; rfl) (by decide) ?_
                refine g_aload_n (j := 0) d_M_part_74 rfl ?_
                refine g_get d_M_part_75 f_M_30 (hs.msg (i := i) (by omega)) rfl ?_
                have hz : s_M_part K t i x = t.1 7 i 6 := by
                  unfold s_M_part
                  rw [if_neg h1, if_neg h2, if_neg h3, if_neg h4, if_neg h5, if_neg h6, if_pos h7]
                exact g_ireturn d_M_part_78 rfl (Nat.le_of_ble_eq_true rfl) (Nat.le_of_ble_eq_true rfl) ⟨by rw [hz], rfl⟩
              · skip
                refine g_tableOut (tgt := 79) d_M_part_1 (sw_out x 0 6 (Nat.le_of_ble_eq_true rfl) (by decide) (fun j hj1 hj2 => by
                  have hh : j = 0 ∨ j = 1 ∨ j = 2 ∨ j = 3 ∨ j = 4 ∨ j = 5 ∨ j = 6 := by omega
                  rcases hh with rfl | rfl | rfl | rfl | rfl | rfl | rfl
                  · exact h1
                  · exact h2
                  · exact h3
                  · exact h4
                  · exact h5
                  · exact h6
                  · exact h7)) (by decide) ?_
                refine g_iconst (v := (-1)) d_M_part_79 (by decide) ?_
                have hz : s_M_part K t i x = (-1) := by
                  unfold s_M_part
                  rw [if_neg h1, if_neg h2, if_neg h3, if_neg h4, if_neg h5, if_neg h6, if_neg h7]
                exact g_ireturn d_M_part_80 rfl (Nat.le_of_ble_eq_true rfl) (Nat.le_of_ble_eq_true rfl) ⟨by rw [hz], rfl⟩

def s_Y_part (K : kC) (t : tC) (c : Nat) (f : Nat) (x : Int32) (y : Int32) : Int32 :=
  if t.1 1 (4 * c + f) 0 = 0 then
    (-1)
  else
    if x = 0 then
      s_L_timeLeft (t.1 1 (4 * c + f) 3) y
    else
      if x = 1 then
        t.1 1 (4 * c + f) 1
      else
        if x = 2 then
          t.1 1 (4 * c + f) 2
        else
          (-1)
set_option maxHeartbeats 4000000 in
set_option maxRecDepth 100000 in
theorem c_Y_part {E : gE} {w : wd} {K : kC} {L : lyC} {t : tC} (hs : SysC E K L t w) (c : Nat) (f : Nat) (x : Int32) (y : Int32) (hc : c < K.1) (hf : f < K.2.1) : Cn E y_Y_part 3 0 0 [.ref (L.1 (7, c, f)), .int x, .int y] w (fun r w' => r = some (.int (s_Y_part K t c f x y)) ∧ w' = w) := by
  refine Cn.of (by decide) (Nat.le_of_ble_eq_true rfl) (fun A => ?_)
  show G E y_Y_part _ 0 [(0, .ref (L.1 (7, c, f))), (1, .int x), (2, .int y)] [] w 0 0
  have h4 := hs.nc
  have h64 := hs.pn
  refine g_aload_n (j := 0) d_Y_part_0 rfl ?_
  refine g_get d_Y_part_1 f_Y_9 (hs.cp (c := c) (f := f) (by omega) (by omega)) rfl ?_
  refine g_if_ne (tgt := 9) d_Y_part_4 (by decide) (fun h1 => ?_) (fun h1 => ?_)
  · skip
    refine g_iload_n (j := 1) d_Y_part_9 rfl ?_
    rcases Decidable.em (x = 0) with h2 | h2
    · skip
      refine g_tableIn (tgt := 36) (off := 26) d_Y_part_10 (by rw [h2]; decide) (by rw [h2]; decide) (by rw [h2]; rfl) (by decide) ?_
      refine g_aload_n (j := 0) d_Y_part_36 rfl ?_
      refine g_get d_Y_part_37 f_Y_22 (hs.cp (c := c) (f := f) (by omega) (by omega)) rfl ?_
      refine g_iload_n (j := 2) d_Y_part_40 rfl ?_
      refine g_callSN (c_L_timeLeft (t.1 1 (4 * c + f) 3) y ) ok_L_timeLeft lk_Y_25 st_L_timeLeft d_Y_part_41 rfl rfl (Nat.le_of_ble_eq_true rfl) ⟨(Nat.le_of_ble_eq_true rfl), (Nat.le_of_ble_eq_true rfl)⟩ (Nat.le_of_ble_eq_true rfl) (Nat.le_of_ble_eq_true rfl) (fun r w' hq => ?_)
      obtain ⟨rfl, rfl⟩ := hq
      have hz : s_Y_part K t c f x y = s_L_timeLeft (t.1 1 (4 * c + f) 3) y := by
        unfold s_Y_part
        rw [if_neg h1, if_pos h2]
      exact g_ireturn d_Y_part_44 rfl (Nat.le_of_ble_eq_true rfl) (Nat.le_of_ble_eq_true rfl) ⟨by rw [hz], rfl⟩
    · skip
      rcases Decidable.em (x = 1) with h3 | h3
      · skip
        refine g_tableIn (tgt := 45) (off := 35) d_Y_part_10 (by rw [h3]; decide) (by rw [h3]; decide) (by rw [h3]; rfl) (by decide) ?_
        refine g_aload_n (j := 0) d_Y_part_45 rfl ?_
        refine g_get d_Y_part_46 f_Y_15 (hs.cp (c := c) (f := f) (by omega) (by omega)) rfl ?_
        have hz : s_Y_part K t c f x y = t.1 1 (4 * c + f) 1 := by
          unfold s_Y_part
          rw [if_neg h1, if_neg h2, if_pos h3]
        exact g_ireturn d_Y_part_49 rfl (Nat.le_of_ble_eq_true rfl) (Nat.le_of_ble_eq_true rfl) ⟨by rw [hz], rfl⟩
      · skip
        rcases Decidable.em (x = 2) with h4 | h4
        · skip
          refine g_tableIn (tgt := 50) (off := 40) d_Y_part_10 (by rw [h4]; decide) (by rw [h4]; decide) (by rw [h4]; rfl) (by decide) ?_
          refine g_aload_n (j := 0) d_Y_part_50 rfl ?_
          refine g_get d_Y_part_51 f_Y_19 (hs.cp (c := c) (f := f) (by omega) (by omega)) rfl ?_
          have hz : s_Y_part K t c f x y = t.1 1 (4 * c + f) 2 := by
            unfold s_Y_part
            rw [if_neg h1, if_neg h2, if_neg h3, if_pos h4]
          exact g_ireturn d_Y_part_54 rfl (Nat.le_of_ble_eq_true rfl) (Nat.le_of_ble_eq_true rfl) ⟨by rw [hz], rfl⟩
        · skip
          refine g_tableOut (tgt := 55) d_Y_part_10 (sw_out x 0 2 (Nat.le_of_ble_eq_true rfl) (by decide) (fun j hj1 hj2 => by
            have hh : j = 0 ∨ j = 1 ∨ j = 2 := by omega
            rcases hh with rfl | rfl | rfl
            · exact h2
            · exact h3
            · exact h4)) (by decide) ?_
          refine g_iconst (v := (-1)) d_Y_part_55 (by decide) ?_
          have hz : s_Y_part K t c f x y = (-1) := by
            unfold s_Y_part
            rw [if_neg h1, if_neg h2, if_neg h3, if_neg h4]
          exact g_ireturn d_Y_part_56 rfl (Nat.le_of_ble_eq_true rfl) (Nat.le_of_ble_eq_true rfl) ⟨by rw [hz], rfl⟩
  · skip
    refine g_iconst (v := (-1)) d_Y_part_7 (by decide) ?_
    have hz : s_Y_part K t c f x y = (-1) := by
      unfold s_Y_part
      rw [if_pos h1]
    exact g_ireturn d_Y_part_8 rfl (Nat.le_of_ble_eq_true rfl) (Nat.le_of_ble_eq_true rfl) ⟨by rw [hz], rfl⟩

def s_C_part (K : kC) (t : tC) (c : Nat) (x : Int32) : Int32 :=
  if x = 0 then
    t.1 0 c 2
  else
    if x = 1 then
      if s_C_waitsToRead K t c = 0 then
        0
      else
        if t.1 0 c 7 = 0 then
          0
        else
          1
    else
      t.1 0 c 0
set_option maxHeartbeats 4000000 in
set_option maxRecDepth 100000 in
theorem c_C_part {E : gE} {w : wd} {K : kC} {L : lyC} {t : tC} (hs : SysC E K L t w) (c : Nat) (x : Int32) (hc : c < K.1) : Cn E y_C_part 2 0 0 [.ref (L.1 (5, c, 0)), .int x] w (fun r w' => r = some (.int (s_C_part K t c x)) ∧ w' = w) := by
  refine Cn.of (by decide) (Nat.le_of_ble_eq_true rfl) (fun A => ?_)
  show G E y_C_part _ 0 [(0, .ref (L.1 (5, c, 0))), (1, .int x)] [] w 0 0
  have h4 := hs.nc
  have h64 := hs.pn
  refine g_iload_n (j := 1) d_C_part_0 rfl ?_
  rcases Decidable.em (x = 0) with h1 | h1
  · skip
    refine g_lookup (tgt := 28) (off := 27) d_C_part_1 (by decide) (by rw [h1]; decide) (by decide) ?_
    refine g_aload_n (j := 0) d_C_part_28 rfl ?_
    refine g_get d_C_part_29 f_C_18 (hs.cli (c := c) (by omega)) rfl ?_
    have hz : s_C_part K t c x = t.1 0 c 2 := by
      unfold s_C_part
      rw [if_pos h1]
    exact g_ireturn d_C_part_32 rfl (Nat.le_of_ble_eq_true rfl) (Nat.le_of_ble_eq_true rfl) ⟨by rw [hz], rfl⟩
  · skip
    rcases Decidable.em (x = 1) with h2 | h2
    · skip
      refine g_lookup (tgt := 33) (off := 32) d_C_part_1 (by decide) (by rw [h2]; decide) (by decide) ?_
      refine g_aload_n (j := 0) d_C_part_33 rfl ?_
      refine g_callV (c_C_waitsToRead hs c (by omega)) ok_C_waitsToRead lk_C_95 in_C_waitsToRead se_C_waitsToRead (hs.cli (c := c) (by omega)) rfl d_C_part_34 rfl rfl (Nat.le_of_ble_eq_true rfl) ⟨(Nat.le_of_ble_eq_true rfl), (Nat.le_of_ble_eq_true rfl)⟩ (Nat.le_of_ble_eq_true rfl) (Nat.le_of_ble_eq_true rfl) (fun r w' hq => ?_)
      obtain ⟨rfl, rfl⟩ := hq
      refine g_if_eq (tgt := 51) d_C_part_37 (by decide) (fun h3 => ?_) (fun h3 => ?_)
      · skip
        refine g_iconst (v := 0) d_C_part_51 (by decide) ?_
        have hz : s_C_part K t c x = 0 := by
          unfold s_C_part
          rw [if_neg h1, if_pos h2, if_pos h3]
        exact g_ireturn d_C_part_52 rfl (Nat.le_of_ble_eq_true rfl) (Nat.le_of_ble_eq_true rfl) ⟨by rw [hz], rfl⟩
      · skip
        refine g_aload_n (j := 0) d_C_part_40 rfl ?_
        refine g_get d_C_part_41 f_C_34 (hs.cli (c := c) (by omega)) rfl ?_
        refine g_if_eq (tgt := 51) d_C_part_44 (by decide) (fun h4 => ?_) (fun h4 => ?_)
        · skip
          refine g_iconst (v := 0) d_C_part_51 (by decide) ?_
          have hz : s_C_part K t c x = 0 := by
            unfold s_C_part
            rw [if_neg h1, if_pos h2, if_neg h3, if_pos h4]
          exact g_ireturn d_C_part_52 rfl (Nat.le_of_ble_eq_true rfl) (Nat.le_of_ble_eq_true rfl) ⟨by rw [hz], rfl⟩
        · skip
          refine g_iconst (v := 1) d_C_part_47 (by decide) ?_
          refine g_goto (tgt := 52) d_C_part_48 (by decide) ?_
          have hz : s_C_part K t c x = 1 := by
            unfold s_C_part
            rw [if_neg h1, if_pos h2, if_neg h3, if_neg h4]
          exact g_ireturn d_C_part_52 rfl (Nat.le_of_ble_eq_true rfl) (Nat.le_of_ble_eq_true rfl) ⟨by rw [hz], rfl⟩
    · skip
      refine g_lookup (tgt := 53) d_C_part_1 (by decide) (sw_lk x.toInt (by
        intro p hp
        simp only [List.mem_cons, List.not_mem_nil, or_false] at hp
        rcases hp with rfl | rfl
        · exact sw_ne (k := 0) (by decide) h1
        · exact sw_ne (k := 1) (by decide) h2)) (by decide) ?_
      refine g_aload_n (j := 0) d_C_part_53 rfl ?_
      refine g_get d_C_part_54 f_C_9 (hs.cli (c := c) (by omega)) rfl ?_
      have hz : s_C_part K t c x = t.1 0 c 0 := by
        unfold s_C_part
        rw [if_neg h1, if_neg h2]
      exact g_ireturn d_C_part_57 rfl (Nat.le_of_ble_eq_true rfl) (Nat.le_of_ble_eq_true rfl) ⟨by rw [hz], rfl⟩

def s_S_part (K : kC) (t : tC) (x : Int32) : Int32 :=
  if x = 0 then
    t.1 2 0 0
  else
    if x = 1 then
      if t.1 2 0 1 = 0 then
        0
      else
        1
    else
      if x = 2 then
        t.1 2 0 2
      else
        if x = 3 then
          s_L_timeLeft (t.1 2 0 3) (t.1 2 0 0)
        else
          (-1)
set_option maxHeartbeats 4000000 in
set_option maxRecDepth 100000 in
theorem c_S_part {E : gE} {w : wd} {K : kC} {L : lyC} {t : tC} (hs : SysC E K L t w) (x : Int32) : Cn E y_S_part 3 0 0 [.ref (L.1 (8, 0, 0)), .int x] w (fun r w' => r = some (.int (s_S_part K t x)) ∧ w' = w) := by
  refine Cn.of (by decide) (Nat.le_of_ble_eq_true rfl) (fun A => ?_)
  show G E y_S_part _ 0 [(0, .ref (L.1 (8, 0, 0))), (1, .int x)] [] w 0 0
  have h4 := hs.nc
  have h64 := hs.pn
  refine g_iload_n (j := 1) d_S_part_0 rfl ?_
  rcases Decidable.em (x = 0) with h1 | h1
  · skip
    refine g_tableIn (tgt := 32) (off := 31) d_S_part_1 (by rw [h1]; decide) (by rw [h1]; decide) (by rw [h1]; rfl) (by decide) ?_
    refine g_aload_n (j := 0) d_S_part_32 rfl ?_
    refine g_get d_S_part_33 f_S_9 hs.srv rfl ?_
    have hz : s_S_part K t x = t.1 2 0 0 := by
      unfold s_S_part
      rw [if_pos h1]
    exact g_ireturn d_S_part_36 rfl (Nat.le_of_ble_eq_true rfl) (Nat.le_of_ble_eq_true rfl) ⟨by rw [hz], rfl⟩
  · skip
    rcases Decidable.em (x = 1) with h2 | h2
    · skip
      refine g_tableIn (tgt := 37) (off := 36) d_S_part_1 (by rw [h2]; decide) (by rw [h2]; decide) (by rw [h2]; rfl) (by decide) ?_
      refine g_aload_n (j := 0) d_S_part_37 rfl ?_
      refine g_get d_S_part_38 f_S_15 hs.srv rfl ?_
      refine g_if_eq (tgt := 48) d_S_part_41 (by decide) (fun h3 => ?_) (fun h3 => ?_)
      · skip
        refine g_iconst (v := 0) d_S_part_48 (by decide) ?_
        have hz : s_S_part K t x = 0 := by
          unfold s_S_part
          rw [if_neg h1, if_pos h2, if_pos h3]
        exact g_ireturn d_S_part_49 rfl (Nat.le_of_ble_eq_true rfl) (Nat.le_of_ble_eq_true rfl) ⟨by rw [hz], rfl⟩
      · skip
        refine g_iconst (v := 1) d_S_part_44 (by decide) ?_
        refine g_goto (tgt := 49) d_S_part_45 (by decide) ?_
        have hz : s_S_part K t x = 1 := by
          unfold s_S_part
          rw [if_neg h1, if_pos h2, if_neg h3]
        exact g_ireturn d_S_part_49 rfl (Nat.le_of_ble_eq_true rfl) (Nat.le_of_ble_eq_true rfl) ⟨by rw [hz], rfl⟩
    · skip
      rcases Decidable.em (x = 2) with h4 | h4
      · skip
        refine g_tableIn (tgt := 50) (off := 49) d_S_part_1 (by rw [h4]; decide) (by rw [h4]; decide) (by rw [h4]; rfl) (by decide) ?_
        refine g_aload_n (j := 0) d_S_part_50 rfl ?_
        refine g_get d_S_part_51 f_S_19 hs.srv rfl ?_
        have hz : s_S_part K t x = t.1 2 0 2 := by
          unfold s_S_part
          rw [if_neg h1, if_neg h2, if_pos h4]
        exact g_ireturn d_S_part_54 rfl (Nat.le_of_ble_eq_true rfl) (Nat.le_of_ble_eq_true rfl) ⟨by rw [hz], rfl⟩
      · skip
        rcases Decidable.em (x = 3) with h5 | h5
        · skip
          refine g_tableIn (tgt := 55) (off := 54) d_S_part_1 (by rw [h5]; decide) (by rw [h5]; decide) (by rw [h5]; rfl) (by decide) ?_
          refine g_aload_n (j := 0) d_S_part_55 rfl ?_
          refine g_get d_S_part_56 f_S_22 hs.srv rfl ?_
          refine g_aload_n (j := 0) d_S_part_59 rfl ?_
          refine g_get d_S_part_60 f_S_9 hs.srv rfl ?_
          refine g_callSN (c_L_timeLeft (t.1 2 0 3) (t.1 2 0 0) ) ok_L_timeLeft lk_S_80 st_L_timeLeft d_S_part_63 rfl rfl (Nat.le_of_ble_eq_true rfl) ⟨(Nat.le_of_ble_eq_true rfl), (Nat.le_of_ble_eq_true rfl)⟩ (Nat.le_of_ble_eq_true rfl) (Nat.le_of_ble_eq_true rfl) (fun r w' hq => ?_)
          obtain ⟨rfl, rfl⟩ := hq
          have hz : s_S_part K t x = s_L_timeLeft (t.1 2 0 3) (t.1 2 0 0) := by
            unfold s_S_part
            rw [if_neg h1, if_neg h2, if_neg h4, if_pos h5]
          exact g_ireturn d_S_part_66 rfl (Nat.le_of_ble_eq_true rfl) (Nat.le_of_ble_eq_true rfl) ⟨by rw [hz], rfl⟩
        · skip
          refine g_tableOut (tgt := 67) d_S_part_1 (sw_out x 0 3 (Nat.le_of_ble_eq_true rfl) (by decide) (fun j hj1 hj2 => by
            have hh : j = 0 ∨ j = 1 ∨ j = 2 ∨ j = 3 := by omega
            rcases hh with rfl | rfl | rfl | rfl
            · exact h1
            · exact h2
            · exact h4
            · exact h5)) (by decide) ?_
          refine g_iconst (v := (-1)) d_S_part_67 (by decide) ?_
          have hz : s_S_part K t x = (-1) := by
            unfold s_S_part
            rw [if_neg h1, if_neg h2, if_neg h4, if_neg h5]
          exact g_ireturn d_S_part_68 rfl (Nat.le_of_ble_eq_true rfl) (Nat.le_of_ble_eq_true rfl) ⟨by rw [hz], rfl⟩

def s_S_comeUp (K : kC) (t : tC) : tC × Int32 :=
  (stC (stC (stC t 2 0 1 1) 2 0 2 (((stC t 2 0 1 1).1 2 0 2) + 1)) 2 0 3 (((stC (stC t 2 0 1 1) 2 0 2 (((stC t 2 0 1 1).1 2 0 2) + 1)).1 2 0 0) + K.2.2.1), (stC (stC (stC t 2 0 1 1) 2 0 2 (((stC t 2 0 1 1).1 2 0 2) + 1)) 2 0 3 (((stC (stC t 2 0 1 1) 2 0 2 (((stC t 2 0 1 1).1 2 0 2) + 1)).1 2 0 0) + K.2.2.1)).1 2 0 2)
set_option maxHeartbeats 4000000 in
set_option maxRecDepth 100000 in
theorem c_S_comeUp {E : gE} {w : wd} {K : kC} {L : lyC} {t : tC} (hs : SysC E K L t w) : Cn E y_S_comeUp 1 0 0 [.ref (L.1 (8, 0, 0))] w (fun r w' => r = some (.int (s_S_comeUp K t ).2) ∧ SysC E K L (s_S_comeUp K t ).1 w') := by
  refine Cn.of (by decide) (Nat.le_of_ble_eq_true rfl) (fun A => ?_)
  show G E y_S_comeUp _ 0 [(0, .ref (L.1 (8, 0, 0)))] [] w 0 0
  have h4 := hs.nc
  have h64 := hs.pn
  refine g_aload_n (j := 0) d_S_comeUp_0 rfl ?_
  refine g_iconst (v := 1) d_S_comeUp_1 (by decide) ?_
  refine k_srv  (j := 1)  d_S_comeUp_2 fw_S_15 hs (fun _ => rfl) rfl rfl (Nat.le_of_ble_eq_true rfl) (fun w1 hs2 => ?_)
  refine g_aload_n (j := 0) d_S_comeUp_5 rfl ?_
  refine g_dup d_S_comeUp_6 rfl ?_
  refine g_get d_S_comeUp_7 f_S_19 hs2.srv rfl ?_
  refine g_iconst (v := 1) d_S_comeUp_10 (by decide) ?_
  refine g_iadd d_S_comeUp_11 ?_
  refine k_srv  (j := 2)  d_S_comeUp_12 fw_S_19 hs2 (fun _ => rfl) rfl rfl (Nat.le_of_ble_eq_true rfl) (fun w3 hs4 => ?_)
  refine g_aload_n (j := 0) d_S_comeUp_15 rfl ?_
  refine g_aload_n (j := 0) d_S_comeUp_16 rfl ?_
  refine g_get d_S_comeUp_17 f_S_9 hs4.srv rfl ?_
  refine g_aload_n (j := 0) d_S_comeUp_20 rfl ?_
  refine g_get d_S_comeUp_21 f_S_25 hs4.srv rfl ?_
  refine g_iadd d_S_comeUp_24 ?_
  refine k_srv  (j := 3)  d_S_comeUp_25 fw_S_22 hs4 (fun _ => rfl) rfl rfl (Nat.le_of_ble_eq_true rfl) (fun w5 hs6 => ?_)
  refine g_aload_n (j := 0) d_S_comeUp_28 rfl ?_
  refine g_get d_S_comeUp_29 f_S_19 hs6.srv rfl ?_
  have hz : s_S_comeUp K t = (stC (stC (stC t 2 0 1 1) 2 0 2 (((stC t 2 0 1 1).1 2 0 2) + 1)) 2 0 3 (((stC (stC t 2 0 1 1) 2 0 2 (((stC t 2 0 1 1).1 2 0 2) + 1)).1 2 0 0) + K.2.2.1), (stC (stC (stC t 2 0 1 1) 2 0 2 (((stC t 2 0 1 1).1 2 0 2) + 1)) 2 0 3 (((stC (stC t 2 0 1 1) 2 0 2 (((stC t 2 0 1 1).1 2 0 2) + 1)).1 2 0 0) + K.2.2.1)).1 2 0 2) := by
    unfold s_S_comeUp
    rfl
  exact g_ireturn d_S_comeUp_32 rfl (Nat.le_of_ble_eq_true rfl) (Nat.le_of_ble_eq_true rfl) ⟨by rw [hz], by rw [hz]; exact hs6⟩

def s_P_send (K : kC) (t : tC) (k : Int32) (cc : Int32) (ff : Int32) (wo : Int32) (a : Int32) (b : Int32) (d : Int32) : tC :=
  if nI (t.2.2) < 64 then
    cnC (stC (stC (stC (stC (stC (stC (stC t 7 t.2.2 0 k) 7 t.2.2 1 cc) 7 t.2.2 2 ff) 7 t.2.2 3 wo) 7 t.2.2 4 a) 7 t.2.2 5 b) 7 t.2.2 6 d) (t.2.2 + 1)
  else
    t
set_option maxHeartbeats 4000000 in
set_option maxRecDepth 100000 in
theorem c_P_send {E : gE} {w : wd} {K : kC} {L : lyC} {t : tC} (hs : SysC E K L t w) (k : Int32) (cc : Int32) (ff : Int32) (wo : Int32) (a : Int32) (b : Int32) (d : Int32) : Cn E y_P_send 1 0 0 [.ref (L.1 (1, 0, 0)), .int k, .int cc, .int ff, .int wo, .int a, .int b, .int d] w (fun r w' => r = none ∧ SysC E K L (s_P_send K t k cc ff wo a b d) w') := by
  refine Cn.of (by decide) (Nat.le_of_ble_eq_true rfl) (fun A => ?_)
  show G E y_P_send _ 0 [(0, .ref (L.1 (1, 0, 0))), (1, .int k), (2, .int cc), (3, .int ff), (4, .int wo), (5, .int a), (6, .int b), (7, .int d)] [] w 0 0
  have h4 := hs.nc
  have h64 := hs.pn
  refine g_aload_n (j := 0) d_P_send_0 rfl ?_
  refine g_get d_P_send_1 f_P_17 hs.pool rfl ?_
  refine g_norm (y := nI t.2.2) rfl ?_
  refine g_bipush (v := 64) d_P_send_4 (by decide) ?_
  refine g_icmp_lt (tgt := 10) d_P_send_6 (by decide) (fun h1 => ?_) (fun h1 => ?_)
  · skip
    have hn2 : t.2.2 < 64 := (nI_ltI (b := 64) (by omega) (by omega)).mp h1
    refine g_aload_n (j := 0) d_P_send_10 rfl ?_
    refine g_get d_P_send_11 f_P_11 hs.pool rfl ?_
    refine g_aload_n (j := 0) d_P_send_14 rfl ?_
    refine g_get d_P_send_15 f_P_17 hs.pool rfl ?_
    refine g_norm (y := nI t.2.2) rfl ?_
    refine g_aald (t0 := 2) (j := t.2.2) d_P_send_18 hs.msgs rfl rfl (by omega) (by omega) (rf_if (by omega)) ?_
    refine g_astore (lv' := [(8, _), (0, _), (1, _), (2, _), (3, _), (4, _), (5, _), (6, _), (7, _)]) d_P_send_19 (by decide) rfl ?_
    refine g_aload (j := 0) d_P_send_21 rfl ?_
    refine g_iload_n (j := 2) d_P_send_23 rfl ?_
    refine k_msg (i := t.2.2) (j := 0) (by omega) d_P_send_24 fw_P_26 hs (fun _ => rfl) rfl rfl (Nat.le_of_ble_eq_true rfl) (fun w2 hs3 => ?_)
    refine g_aload (j := 0) d_P_send_27 rfl ?_
    refine g_iload_n (j := 3) d_P_send_29 rfl ?_
    refine k_msg (i := t.2.2) (j := 1) (by omega) d_P_send_30 fw_P_29 hs3 (fun _ => rfl) rfl rfl (Nat.le_of_ble_eq_true rfl) (fun w4 hs5 => ?_)
    refine g_aload (j := 0) d_P_send_33 rfl ?_
    refine g_iload_n (j := 4) d_P_send_35 rfl ?_
    refine k_msg (i := t.2.2) (j := 2) (by omega) d_P_send_36 fw_P_32 hs5 (fun _ => rfl) rfl rfl (Nat.le_of_ble_eq_true rfl) (fun w6 hs7 => ?_)
    refine g_aload (j := 0) d_P_send_39 rfl ?_
    refine g_iload (j := 5) d_P_send_41 rfl ?_
    refine k_msg (i := t.2.2) (j := 3) (by omega) d_P_send_43 fw_P_35 hs7 (fun _ => rfl) rfl rfl (Nat.le_of_ble_eq_true rfl) (fun w8 hs9 => ?_)
    refine g_aload (j := 0) d_P_send_46 rfl ?_
    refine g_iload (j := 6) d_P_send_48 rfl ?_
    refine k_msg (i := t.2.2) (j := 4) (by omega) d_P_send_50 fw_P_38 hs9 (fun _ => rfl) rfl rfl (Nat.le_of_ble_eq_true rfl) (fun w10 hs11 => ?_)
    refine g_aload (j := 0) d_P_send_53 rfl ?_
    refine g_iload (j := 7) d_P_send_55 rfl ?_
    refine k_msg (i := t.2.2) (j := 5) (by omega) d_P_send_57 fw_P_41 hs11 (fun _ => rfl) rfl rfl (Nat.le_of_ble_eq_true rfl) (fun w12 hs13 => ?_)
    refine g_aload (j := 0) d_P_send_60 rfl ?_
    refine g_iload (j := 8) d_P_send_62 rfl ?_
    refine k_msg (i := t.2.2) (j := 6) (by omega) d_P_send_64 fw_P_44 hs13 (fun _ => rfl) rfl rfl (Nat.le_of_ble_eq_true rfl) (fun w14 hs15 => ?_)
    refine g_aload_n (j := 1) d_P_send_67 rfl ?_
    refine g_dup d_P_send_68 rfl ?_
    refine g_get d_P_send_69 f_P_17 hs15.pool rfl ?_
    refine g_norm (y := nI t.2.2) rfl ?_
    refine g_iconst (v := 1) d_P_send_72 (by decide) ?_
    refine g_iadd d_P_send_73 ?_
    refine g_norm (y := nI (t.2.2 + 1)) (nI_add t.2.2 1) ?_
    refine g_put d_P_send_74 fw_P_17 (Or.inl rfl) hs15.pool rfl rfl (Nat.le_of_ble_eq_true rfl) ?_
    have hs17 := hs15.cnt (n := t.2.2 + 1) (by omega)
    generalize hww : wu _ (L.1 (1, 0, 0)) _ = w16 at hs17
    refine g_eq rfl rfl (show _ = w16 from hww) ?_
    clear hww
    have hz : s_P_send K t k cc ff wo a b d = cnC (stC (stC (stC (stC (stC (stC (stC t 7 t.2.2 0 k) 7 t.2.2 1 cc) 7 t.2.2 2 ff) 7 t.2.2 3 wo) 7 t.2.2 4 a) 7 t.2.2 5 b) 7 t.2.2 6 d) (t.2.2 + 1) := by
      unfold s_P_send
      rw [if_pos h1]
    exact g_return d_P_send_77 rfl (Nat.le_of_ble_eq_true rfl) (Nat.le_of_ble_eq_true rfl) ⟨rfl, by rw [hz]; exact hs17⟩
  · skip
    have hz : s_P_send K t k cc ff wo a b d = t := by
      unfold s_P_send
      rw [if_neg h1]
    exact g_return d_P_send_9 rfl (Nat.le_of_ble_eq_true rfl) (Nat.le_of_ble_eq_true rfl) ⟨rfl, by rw [hz]; exact hs⟩

def s_C_sendRequest (K : kC) (t : tC) (c : Nat) : tC :=
  if t.1 0 c 3 = 0 then
    s_P_send K t 1 (nI c) (t.1 0 c 4) (t.1 0 c 2) (t.1 0 c 5) 0 0
  else
    s_P_send K t 0 (nI c) (t.1 0 c 4) (t.1 0 c 2) 0 0 0
set_option maxHeartbeats 4000000 in
set_option maxRecDepth 100000 in
theorem c_C_sendRequest {E : gE} {w : wd} {K : kC} {L : lyC} {t : tC} (hs : SysC E K L t w) (c : Nat) (hc : c < K.1) : Cn E y_C_sendRequest 2 0 0 [.ref (L.1 (5, c, 0)), .ref (L.1 (1, 0, 0))] w (fun r w' => r = none ∧ SysC E K L (s_C_sendRequest K t c) w') := by
  refine Cn.of (by decide) (Nat.le_of_ble_eq_true rfl) (fun A => ?_)
  show G E y_C_sendRequest _ 0 [(0, .ref (L.1 (5, c, 0))), (1, .ref (L.1 (1, 0, 0)))] [] w 0 0
  have h4 := hs.nc
  have h64 := hs.pn
  refine g_aload_n (j := 0) d_C_sendRequest_0 rfl ?_
  refine g_get d_C_sendRequest_1 f_C_21 (hs.cli (c := c) (by omega)) rfl ?_
  refine g_if_eq (tgt := 30) d_C_sendRequest_4 (by decide) (fun h1 => ?_) (fun h1 => ?_)
  · skip
    refine g_aload_n (j := 1) d_C_sendRequest_30 rfl ?_
    refine g_iconst (v := 1) d_C_sendRequest_31 (by decide) ?_
    refine g_aload_n (j := 0) d_C_sendRequest_32 rfl ?_
    refine g_get d_C_sendRequest_33 f_C_43 (hs.cli (c := c) (by omega)) rfl ?_
    refine g_aload_n (j := 0) d_C_sendRequest_36 rfl ?_
    refine g_get d_C_sendRequest_37 f_C_25 (hs.cli (c := c) (by omega)) rfl ?_
    refine g_aload_n (j := 0) d_C_sendRequest_40 rfl ?_
    refine g_get d_C_sendRequest_41 f_C_18 (hs.cli (c := c) (by omega)) rfl ?_
    refine g_aload_n (j := 0) d_C_sendRequest_44 rfl ?_
    refine g_get d_C_sendRequest_45 f_C_28 (hs.cli (c := c) (by omega)) rfl ?_
    refine g_iconst (v := 0) d_C_sendRequest_48 (by decide) ?_
    refine g_iconst (v := 0) d_C_sendRequest_49 (by decide) ?_
    refine g_callV (c_P_send hs 1 (nI c) (t.1 0 c 4) (t.1 0 c 2) (t.1 0 c 5) 0 0 ) ok_P_send lk_C_99 in_P_send se_P_send hs.pool rfl d_C_sendRequest_50 rfl rfl (Nat.le_of_ble_eq_true rfl) ⟨(Nat.le_of_ble_eq_true rfl), (Nat.le_of_ble_eq_true rfl)⟩ (Nat.le_of_ble_eq_true rfl) (Nat.le_of_ble_eq_true rfl) (fun r w' hq => ?_)
    obtain ⟨rfl, hs2⟩ := hq
    have hz : s_C_sendRequest K t c = s_P_send K t 1 (nI c) (t.1 0 c 4) (t.1 0 c 2) (t.1 0 c 5) 0 0 := by
      unfold s_C_sendRequest
      rw [if_pos h1]
    exact g_return d_C_sendRequest_53 rfl (Nat.le_of_ble_eq_true rfl) (Nat.le_of_ble_eq_true rfl) ⟨rfl, by rw [hz]; exact hs2⟩
  · skip
    refine g_aload_n (j := 1) d_C_sendRequest_7 rfl ?_
    refine g_iconst (v := 0) d_C_sendRequest_8 (by decide) ?_
    refine g_aload_n (j := 0) d_C_sendRequest_9 rfl ?_
    refine g_get d_C_sendRequest_10 f_C_43 (hs.cli (c := c) (by omega)) rfl ?_
    refine g_aload_n (j := 0) d_C_sendRequest_13 rfl ?_
    refine g_get d_C_sendRequest_14 f_C_25 (hs.cli (c := c) (by omega)) rfl ?_
    refine g_aload_n (j := 0) d_C_sendRequest_17 rfl ?_
    refine g_get d_C_sendRequest_18 f_C_18 (hs.cli (c := c) (by omega)) rfl ?_
    refine g_iconst (v := 0) d_C_sendRequest_21 (by decide) ?_
    refine g_iconst (v := 0) d_C_sendRequest_22 (by decide) ?_
    refine g_iconst (v := 0) d_C_sendRequest_23 (by decide) ?_
    refine g_callV (c_P_send hs 0 (nI c) (t.1 0 c 4) (t.1 0 c 2) 0 0 0 ) ok_P_send lk_C_99 in_P_send se_P_send hs.pool rfl d_C_sendRequest_24 rfl rfl (Nat.le_of_ble_eq_true rfl) ⟨(Nat.le_of_ble_eq_true rfl), (Nat.le_of_ble_eq_true rfl)⟩ (Nat.le_of_ble_eq_true rfl) (Nat.le_of_ble_eq_true rfl) (fun r w' hq => ?_)
    obtain ⟨rfl, hs3⟩ := hq
    refine g_goto (tgt := 53) d_C_sendRequest_27 (by decide) ?_
    have hz : s_C_sendRequest K t c = s_P_send K t 0 (nI c) (t.1 0 c 4) (t.1 0 c 2) 0 0 0 := by
      unfold s_C_sendRequest
      rw [if_neg h1]
    exact g_return d_C_sendRequest_53 rfl (Nat.le_of_ble_eq_true rfl) (Nat.le_of_ble_eq_true rfl) ⟨rfl, by rw [hz]; exact hs3⟩

def s_C_startRead (K : kC) (t : tC) (c : Nat) (f : Nat) : tC × Int32 :=
  if t.1 0 c 1 = 2 then
    (t, 0)
  else
    if s_Y_isGoodAt K (s_C_startOperation K t c f 1) c f ((s_C_startOperation K t c f 1).1 0 c 0) = 0 then
      (s_C_sendRequest K (s_C_startOperation K t c f 1) c, (s_C_sendRequest K (s_C_startOperation K t c f 1) c).1 0 c 1)
    else
      (s_C_finish K (s_C_startOperation K t c f 1) c ((s_C_startOperation K t c f 1).1 1 (4 * c + f) 1) ((s_C_startOperation K t c f 1).1 1 (4 * c + f) 2), (s_C_finish K (s_C_startOperation K t c f 1) c ((s_C_startOperation K t c f 1).1 1 (4 * c + f) 1) ((s_C_startOperation K t c f 1).1 1 (4 * c + f) 2)).1 0 c 1)
set_option maxHeartbeats 4000000 in
set_option maxRecDepth 100000 in
theorem c_C_startRead {E : gE} {w : wd} {K : kC} {L : lyC} {t : tC} (hs : SysC E K L t w) (c : Nat) (f : Nat) (hc : c < K.1) (hf : f < K.2.1) : Cn E y_C_startRead 3 0 0 [.ref (L.1 (5, c, 0)), .int (nI f), .ref (L.1 (1, 0, 0))] w (fun r w' => r = some (.int (s_C_startRead K t c f).2) ∧ SysC E K L (s_C_startRead K t c f).1 w') := by
  refine Cn.of (by decide) (Nat.le_of_ble_eq_true rfl) (fun A => ?_)
  show G E y_C_startRead _ 0 [(0, .ref (L.1 (5, c, 0))), (1, .int (nI f)), (2, .ref (L.1 (1, 0, 0)))] [] w 0 0
  have h4 := hs.nc
  have h64 := hs.pn
  refine g_aload_n (j := 0) d_C_startRead_0 rfl ?_
  refine g_get d_C_startRead_1 f_C_15 (hs.cli (c := c) (by omega)) rfl ?_
  refine g_iconst (v := 2) d_C_startRead_4 (by decide) ?_
  refine g_icmp_ne (tgt := 10) d_C_startRead_5 (by decide) (fun h1 => ?_) (fun h1 => ?_)
  · skip
    refine g_aload_n (j := 0) d_C_startRead_10 rfl ?_
    refine g_iload_n (j := 1) d_C_startRead_11 rfl ?_
    refine g_iconst (v := 1) d_C_startRead_12 (by decide) ?_
    refine g_callV (c_C_startOperation hs c f 1 (by omega) (by omega) ⟨rfl, rfl⟩) ok_C_startOperation lk_C_56 in_C_startOperation se_C_startOperation (hs.cli (c := c) (by omega)) rfl d_C_startRead_13 rfl rfl (Nat.le_of_ble_eq_true rfl) ⟨(Nat.le_of_ble_eq_true rfl), (Nat.le_of_ble_eq_true rfl)⟩ (Nat.le_of_ble_eq_true rfl) (Nat.le_of_ble_eq_true rfl) (fun r w' hq => ?_)
    obtain ⟨rfl, hs2⟩ := hq
    refine g_aload_n (j := 0) d_C_startRead_16 rfl ?_
    refine g_get d_C_startRead_17 f_C_51 (hs2.cli (c := c) (by omega)) rfl ?_
    refine g_iload_n (j := 1) d_C_startRead_20 rfl ?_
    refine g_aald (t0 := 4) (j := f) d_C_startRead_21 (hs2.cps (c := c) (by omega)) rfl rfl (by omega) (by omega) (rf_if (by omega)) ?_
    refine g_astore_n (lv' := [(3, _), (0, _), (1, _), (2, _)]) d_C_startRead_22 (by decide) rfl ?_
    refine g_aload_n (j := 0) d_C_startRead_23 rfl ?_
    refine g_aload_n (j := 1) d_C_startRead_24 rfl ?_
    refine g_get d_C_startRead_25 f_C_9 (hs2.cli (c := c) (by omega)) rfl ?_
    refine g_callV (c_Y_isGoodAt hs2 c f ((s_C_startOperation K t c f 1).1 0 c 0) (by omega) (by omega)) ok_Y_isGoodAt lk_C_60 in_Y_isGoodAt se_Y_isGoodAt (hs2.cp (c := c) (f := f) (by omega) (by omega)) rfl d_C_startRead_28 rfl rfl (Nat.le_of_ble_eq_true rfl) ⟨(Nat.le_of_ble_eq_true rfl), (Nat.le_of_ble_eq_true rfl)⟩ (Nat.le_of_ble_eq_true rfl) (Nat.le_of_ble_eq_true rfl) (fun r w' hq => ?_)
    obtain ⟨rfl, rfl⟩ := hq
    refine g_if_eq (tgt := 49) d_C_startRead_31 (by decide) (fun h3 => ?_) (fun h3 => ?_)
    · skip
      refine g_aload_n (j := 1) d_C_startRead_49 rfl ?_
      refine g_aload_n (j := 3) d_C_startRead_50 rfl ?_
      refine g_callV (c_C_sendRequest hs2 c (by omega)) ok_C_sendRequest lk_C_72 in_C_sendRequest se_C_sendRequest (hs2.cli (c := c) (by omega)) rfl d_C_startRead_51 rfl rfl (Nat.le_of_ble_eq_true rfl) ⟨(Nat.le_of_ble_eq_true rfl), (Nat.le_of_ble_eq_true rfl)⟩ (Nat.le_of_ble_eq_true rfl) (Nat.le_of_ble_eq_true rfl) (fun r w' hq => ?_)
      obtain ⟨rfl, hs4⟩ := hq
      refine g_aload_n (j := 1) d_C_startRead_54 rfl ?_
      refine g_get d_C_startRead_55 f_C_15 (hs4.cli (c := c) (by omega)) rfl ?_
      have hz : s_C_startRead K t c f = (s_C_sendRequest K (s_C_startOperation K t c f 1) c, (s_C_sendRequest K (s_C_startOperation K t c f 1) c).1 0 c 1) := by
        unfold s_C_startRead
        rw [if_neg h1, if_pos h3]
      exact g_ireturn d_C_startRead_58 rfl (Nat.le_of_ble_eq_true rfl) (Nat.le_of_ble_eq_true rfl) ⟨by rw [hz], by rw [hz]; exact hs4⟩
    · skip
      refine g_aload_n (j := 1) d_C_startRead_34 rfl ?_
      refine g_aload_n (j := 0) d_C_startRead_35 rfl ?_
      refine g_get d_C_startRead_36 f_C_64 (hs2.cp (c := c) (f := f) (by omega) (by omega)) rfl ?_
      refine g_aload_n (j := 0) d_C_startRead_39 rfl ?_
      refine g_get d_C_startRead_40 f_C_65 (hs2.cp (c := c) (f := f) (by omega) (by omega)) rfl ?_
      refine g_callV (c_C_finish hs2 c ((s_C_startOperation K t c f 1).1 1 (4 * c + f) 1) ((s_C_startOperation K t c f 1).1 1 (4 * c + f) 2) (by omega)) ok_C_finish lk_C_68 in_C_finish se_C_finish (hs2.cli (c := c) (by omega)) rfl d_C_startRead_43 rfl rfl (Nat.le_of_ble_eq_true rfl) ⟨(Nat.le_of_ble_eq_true rfl), (Nat.le_of_ble_eq_true rfl)⟩ (Nat.le_of_ble_eq_true rfl) (Nat.le_of_ble_eq_true rfl) (fun r w' hq => ?_)
      obtain ⟨rfl, hs5⟩ := hq
      refine g_goto (tgt := 54) d_C_startRead_46 (by decide) ?_
      refine g_aload_n (j := 1) d_C_startRead_54 rfl ?_
      refine g_get d_C_startRead_55 f_C_15 (hs5.cli (c := c) (by omega)) rfl ?_
      have hz : s_C_startRead K t c f = (s_C_finish K (s_C_startOperation K t c f 1) c ((s_C_startOperation K t c f 1).1 1 (4 * c + f) 1) ((s_C_startOperation K t c f 1).1 1 (4 * c + f) 2), (s_C_finish K (s_C_startOperation K t c f 1) c ((s_C_startOperation K t c f 1).1 1 (4 * c + f) 1) ((s_C_startOperation K t c f 1).1 1 (4 * c + f) 2)).1 0 c 1) := by
        unfold s_C_startRead
        rw [if_neg h1, if_neg h3]
      exact g_ireturn d_C_startRead_58 rfl (Nat.le_of_ble_eq_true rfl) (Nat.le_of_ble_eq_true rfl) ⟨by rw [hz], by rw [hz]; exact hs5⟩
  · skip
    refine g_iconst (v := 0) d_C_startRead_8 (by decide) ?_
    have hz : s_C_startRead K t c f = (t, 0) := by
      unfold s_C_startRead
      rw [if_pos h1]
    exact g_ireturn d_C_startRead_9 rfl (Nat.le_of_ble_eq_true rfl) (Nat.le_of_ble_eq_true rfl) ⟨by rw [hz], by rw [hz]; exact hs⟩

def s_C_startWrite (K : kC) (t : tC) (c : Nat) (f : Nat) (x : Int32) : tC × Int32 :=
  if t.1 0 c 1 = 2 then
    (t, 0)
  else
    (s_C_sendRequest K (stC (stC (s_C_startOperation K t c f 0) 0 c 5 x) 1 ((4 * c + f)) 0 0) c, (s_C_sendRequest K (stC (stC (s_C_startOperation K t c f 0) 0 c 5 x) 1 ((4 * c + f)) 0 0) c).1 0 c 1)
set_option maxHeartbeats 4000000 in
set_option maxRecDepth 100000 in
theorem c_C_startWrite {E : gE} {w : wd} {K : kC} {L : lyC} {t : tC} (hs : SysC E K L t w) (c : Nat) (f : Nat) (x : Int32) (hc : c < K.1) (hf : f < K.2.1) : Cn E y_C_startWrite 3 0 0 [.ref (L.1 (5, c, 0)), .int (nI f), .int x, .ref (L.1 (1, 0, 0))] w (fun r w' => r = some (.int (s_C_startWrite K t c f x).2) ∧ SysC E K L (s_C_startWrite K t c f x).1 w') := by
  refine Cn.of (by decide) (Nat.le_of_ble_eq_true rfl) (fun A => ?_)
  show G E y_C_startWrite _ 0 [(0, .ref (L.1 (5, c, 0))), (1, .int (nI f)), (2, .int x), (3, .ref (L.1 (1, 0, 0)))] [] w 0 0
  have h4 := hs.nc
  have h64 := hs.pn
  refine g_aload_n (j := 0) d_C_startWrite_0 rfl ?_
  refine g_get d_C_startWrite_1 f_C_15 (hs.cli (c := c) (by omega)) rfl ?_
  refine g_iconst (v := 2) d_C_startWrite_4 (by decide) ?_
  refine g_icmp_ne (tgt := 10) d_C_startWrite_5 (by decide) (fun h1 => ?_) (fun h1 => ?_)
  · skip
    refine g_aload_n (j := 0) d_C_startWrite_10 rfl ?_
    refine g_iload_n (j := 1) d_C_startWrite_11 rfl ?_
    refine g_iconst (v := 0) d_C_startWrite_12 (by decide) ?_
    refine g_callV (c_C_startOperation hs c f 0 (by omega) (by omega) ⟨rfl, rfl⟩) ok_C_startOperation lk_C_56 in_C_startOperation se_C_startOperation (hs.cli (c := c) (by omega)) rfl d_C_startWrite_13 rfl rfl (Nat.le_of_ble_eq_true rfl) ⟨(Nat.le_of_ble_eq_true rfl), (Nat.le_of_ble_eq_true rfl)⟩ (Nat.le_of_ble_eq_true rfl) (Nat.le_of_ble_eq_true rfl) (fun r w' hq => ?_)
    obtain ⟨rfl, hs2⟩ := hq
    refine g_aload_n (j := 0) d_C_startWrite_16 rfl ?_
    refine g_iload_n (j := 2) d_C_startWrite_17 rfl ?_
    refine k_cli (c := c) (j := 5) (by omega) d_C_startWrite_18 fw_C_28 hs2 (fun _ => rfl) rfl rfl (Nat.le_of_ble_eq_true rfl) (fun w3 hs4 => ?_)
    refine g_aload_n (j := 0) d_C_startWrite_21 rfl ?_
    refine g_get d_C_startWrite_22 f_C_51 (hs4.cli (c := c) (by omega)) rfl ?_
    refine g_iload_n (j := 1) d_C_startWrite_25 rfl ?_
    refine g_aald (t0 := 4) (j := f) d_C_startWrite_26 (hs4.cps (c := c) (by omega)) rfl rfl (by omega) (by omega) (rf_if (by omega)) ?_
    refine g_iconst (v := 0) d_C_startWrite_27 (by decide) ?_
    refine k_cp (c := c) (f := f) (j := 0) (by omega) (by omega) d_C_startWrite_28 fw_C_76 hs4 (fun _ => rfl) rfl rfl (Nat.le_of_ble_eq_true rfl) (fun w5 hs6 => ?_)
    refine g_aload_n (j := 0) d_C_startWrite_31 rfl ?_
    refine g_aload_n (j := 3) d_C_startWrite_32 rfl ?_
    refine g_callV (c_C_sendRequest hs6 c (by omega)) ok_C_sendRequest lk_C_72 in_C_sendRequest se_C_sendRequest (hs6.cli (c := c) (by omega)) rfl d_C_startWrite_33 rfl rfl (Nat.le_of_ble_eq_true rfl) ⟨(Nat.le_of_ble_eq_true rfl), (Nat.le_of_ble_eq_true rfl)⟩ (Nat.le_of_ble_eq_true rfl) (Nat.le_of_ble_eq_true rfl) (fun r w' hq => ?_)
    obtain ⟨rfl, hs7⟩ := hq
    refine g_aload_n (j := 0) d_C_startWrite_36 rfl ?_
    refine g_get d_C_startWrite_37 f_C_15 (hs7.cli (c := c) (by omega)) rfl ?_
    have hz : s_C_startWrite K t c f x = (s_C_sendRequest K (stC (stC (s_C_startOperation K t c f 0) 0 c 5 x) 1 ((4 * c + f)) 0 0) c, (s_C_sendRequest K (stC (stC (s_C_startOperation K t c f 0) 0 c 5 x) 1 ((4 * c + f)) 0 0) c).1 0 c 1) := by
      unfold s_C_startWrite
      rw [if_neg h1]
    exact g_ireturn d_C_startWrite_40 rfl (Nat.le_of_ble_eq_true rfl) (Nat.le_of_ble_eq_true rfl) ⟨by rw [hz], by rw [hz]; exact hs7⟩
  · skip
    refine g_iconst (v := 0) d_C_startWrite_8 (by decide) ?_
    have hz : s_C_startWrite K t c f x = (t, 0) := by
      unfold s_C_startWrite
      rw [if_pos h1]
    exact g_ireturn d_C_startWrite_9 rfl (Nat.le_of_ble_eq_true rfl) (Nat.le_of_ble_eq_true rfl) ⟨by rw [hz], by rw [hz]; exact hs⟩

def s_C_sendAgain (K : kC) (t : tC) (c : Nat) : tC × Int32 :=
  if t.1 0 c 1 = 2 then
    (s_C_sendRequest K t c, (s_C_sendRequest K t c).1 0 c 2)
  else
    (t, 0)
set_option maxHeartbeats 4000000 in
set_option maxRecDepth 100000 in
theorem c_C_sendAgain {E : gE} {w : wd} {K : kC} {L : lyC} {t : tC} (hs : SysC E K L t w) (c : Nat) (hc : c < K.1) : Cn E y_C_sendAgain 3 0 0 [.ref (L.1 (5, c, 0)), .ref (L.1 (1, 0, 0))] w (fun r w' => r = some (.int (s_C_sendAgain K t c).2) ∧ SysC E K L (s_C_sendAgain K t c).1 w') := by
  refine Cn.of (by decide) (Nat.le_of_ble_eq_true rfl) (fun A => ?_)
  show G E y_C_sendAgain _ 0 [(0, .ref (L.1 (5, c, 0))), (1, .ref (L.1 (1, 0, 0)))] [] w 0 0
  have h4 := hs.nc
  have h64 := hs.pn
  refine g_aload_n (j := 0) d_C_sendAgain_0 rfl ?_
  refine g_get d_C_sendAgain_1 f_C_15 (hs.cli (c := c) (by omega)) rfl ?_
  refine g_iconst (v := 2) d_C_sendAgain_4 (by decide) ?_
  refine g_icmp_eq (tgt := 10) d_C_sendAgain_5 (by decide) (fun h1 => ?_) (fun h1 => ?_)
  · skip
    refine g_aload_n (j := 0) d_C_sendAgain_10 rfl ?_
    refine g_aload_n (j := 1) d_C_sendAgain_11 rfl ?_
    refine g_callV (c_C_sendRequest hs c (by omega)) ok_C_sendRequest lk_C_72 in_C_sendRequest se_C_sendRequest (hs.cli (c := c) (by omega)) rfl d_C_sendAgain_12 rfl rfl (Nat.le_of_ble_eq_true rfl) ⟨(Nat.le_of_ble_eq_true rfl), (Nat.le_of_ble_eq_true rfl)⟩ (Nat.le_of_ble_eq_true rfl) (Nat.le_of_ble_eq_true rfl) (fun r w' hq => ?_)
    obtain ⟨rfl, hs2⟩ := hq
    refine g_aload_n (j := 0) d_C_sendAgain_15 rfl ?_
    refine g_get d_C_sendAgain_16 f_C_18 (hs2.cli (c := c) (by omega)) rfl ?_
    have hz : s_C_sendAgain K t c = (s_C_sendRequest K t c, (s_C_sendRequest K t c).1 0 c 2) := by
      unfold s_C_sendAgain
      rw [if_pos h1]
    exact g_ireturn d_C_sendAgain_19 rfl (Nat.le_of_ble_eq_true rfl) (Nat.le_of_ble_eq_true rfl) ⟨by rw [hz], by rw [hz]; exact hs2⟩
  · skip
    refine g_iconst (v := 0) d_C_sendAgain_8 (by decide) ?_
    have hz : s_C_sendAgain K t c = (t, 0) := by
      unfold s_C_sendAgain
      rw [if_neg h1]
    exact g_ireturn d_C_sendAgain_9 rfl (Nat.le_of_ble_eq_true rfl) (Nat.le_of_ble_eq_true rfl) ⟨by rw [hz], by rw [hz]; exact hs⟩

def s_C_receiveStored (K : kC) (t : tC) (c : Nat) (i : Nat) : tC :=
  if s_C_waitsToWrite K t c = 0 then
    t
  else
    if t.1 7 i 3 = t.1 0 c 2 then
      s_C_finish K t c (t.1 7 i 4) (t.1 7 i 4)
    else
      t
set_option maxHeartbeats 4000000 in
set_option maxRecDepth 100000 in
theorem c_C_receiveStored {E : gE} {w : wd} {K : kC} {L : lyC} {t : tC} (hs : SysC E K L t w) (c : Nat) (i : Nat) (hc : c < K.1) (hi : i ≤ 64) : Cn E y_C_receiveStored 2 0 0 [.ref (L.1 (5, c, 0)), .ref (L.1 (3, i, 0))] w (fun r w' => r = none ∧ SysC E K L (s_C_receiveStored K t c i) w') := by
  refine Cn.of (by decide) (Nat.le_of_ble_eq_true rfl) (fun A => ?_)
  show G E y_C_receiveStored _ 0 [(0, .ref (L.1 (5, c, 0))), (1, .ref (L.1 (3, i, 0)))] [] w 0 0
  have h4 := hs.nc
  have h64 := hs.pn
  refine g_aload_n (j := 0) d_C_receiveStored_0 rfl ?_
  refine g_callV (c_C_waitsToWrite hs c (by omega)) ok_C_waitsToWrite lk_C_120 in_C_waitsToWrite se_C_waitsToWrite (hs.cli (c := c) (by omega)) rfl d_C_receiveStored_1 rfl rfl (Nat.le_of_ble_eq_true rfl) ⟨(Nat.le_of_ble_eq_true rfl), (Nat.le_of_ble_eq_true rfl)⟩ (Nat.le_of_ble_eq_true rfl) (Nat.le_of_ble_eq_true rfl) (fun r w' hq => ?_)
  obtain ⟨rfl, rfl⟩ := hq
  refine g_if_eq (tgt := 30) d_C_receiveStored_4 (by decide) (fun h1 => ?_) (fun h1 => ?_)
  · skip
    have hz : s_C_receiveStored K t c i = t := by
      unfold s_C_receiveStored
      rw [if_pos h1]
    exact g_return d_C_receiveStored_30 rfl (Nat.le_of_ble_eq_true rfl) (Nat.le_of_ble_eq_true rfl) ⟨rfl, by rw [hz]; exact hs⟩
  · skip
    refine g_aload_n (j := 1) d_C_receiveStored_7 rfl ?_
    refine g_get d_C_receiveStored_8 f_C_105 (hs.msg (i := i) (by omega)) rfl ?_
    refine g_aload_n (j := 0) d_C_receiveStored_11 rfl ?_
    refine g_get d_C_receiveStored_12 f_C_18 (hs.cli (c := c) (by omega)) rfl ?_
    refine g_icmp_ne (tgt := 30) d_C_receiveStored_15 (by decide) (fun h2 => ?_) (fun h2 => ?_)
    · skip
      have hz : s_C_receiveStored K t c i = t := by
        unfold s_C_receiveStored
        rw [if_neg h1, if_neg h2]
      exact g_return d_C_receiveStored_30 rfl (Nat.le_of_ble_eq_true rfl) (Nat.le_of_ble_eq_true rfl) ⟨rfl, by rw [hz]; exact hs⟩
    · skip
      refine g_aload_n (j := 0) d_C_receiveStored_18 rfl ?_
      refine g_aload_n (j := 1) d_C_receiveStored_19 rfl ?_
      refine g_get d_C_receiveStored_20 f_C_106 (hs.msg (i := i) (by omega)) rfl ?_
      refine g_aload_n (j := 1) d_C_receiveStored_23 rfl ?_
      refine g_get d_C_receiveStored_24 f_C_106 (hs.msg (i := i) (by omega)) rfl ?_
      refine g_callV (c_C_finish hs c (t.1 7 i 4) (t.1 7 i 4) (by omega)) ok_C_finish lk_C_68 in_C_finish se_C_finish (hs.cli (c := c) (by omega)) rfl d_C_receiveStored_27 rfl rfl (Nat.le_of_ble_eq_true rfl) ⟨(Nat.le_of_ble_eq_true rfl), (Nat.le_of_ble_eq_true rfl)⟩ (Nat.le_of_ble_eq_true rfl) (Nat.le_of_ble_eq_true rfl) (fun r w' hq => ?_)
      obtain ⟨rfl, hs3⟩ := hq
      have hz : s_C_receiveStored K t c i = s_C_finish K t c (t.1 7 i 4) (t.1 7 i 4) := by
        unfold s_C_receiveStored
        rw [if_neg h1, if_pos h2]
      exact g_return d_C_receiveStored_30 rfl (Nat.le_of_ble_eq_true rfl) (Nat.le_of_ble_eq_true rfl) ⟨rfl, by rw [hz]; exact hs3⟩
