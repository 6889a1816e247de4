/-- how many of the first k are of x -/
def cnL (g : Nat → Int32) (x : Int32) : Nat → Int32
  | 0 => 0
  | k + 1 => if g k = x then cnL g x k + 1 else cnL g x k
theorem foN_ok' {t : tR} {f : Nat} (hw : okW t) (h : 0 ≤ s_R_firstOf t f) : s_R_firstOf t f = nI (foN t f) ∧ foN t f < wN t ∧ wN t ≤ 519 := foN_ok hw (Int32.not_lt.mpr h)

set_option maxHeartbeats 4000000 in
set_option maxRecDepth 100000 in
theorem l_R_file {E : gE} {w : wd} {ad : Nat → Nat} {t : tR} (hs : SysR E ad t w) (f : Nat) (x : Int32) (hw : okW t) {Z : gZ} (hK : G E y_R_file Z 58 [(4, .int (nI (wN t))), (3, .int (cnL (t.2 6) (nI f) (wN t))), (0, .ref (ad 0)), (1, .int (nI f)), (2, .int x)] [] w 0 0) : ∀ (r n : Nat) (b : Int32), cnL (t.2 6) (nI f) n = b → r + n = wN t → G E y_R_file Z 24 [(4, .int (nI n)), (3, .int b), (0, .ref (ad 0)), (1, .int (nI f)), (2, .int x)] [] w 0 0 := by
  have hw2 := hw.2
  intro r
  induction r with
  | zero =>
    intro n b hv hr
    refine g_iload (j := 0) d_R_file_24 rfl ?_
    refine g_aload_n (j := 2) d_R_file_26 rfl ?_
    refine g_get d_R_file_27 f_R_125 hs.obj rfl ?_
    refine g_norm (y := nI (wN t)) hw.1 ?_
    refine g_icmp_ge (tgt := 58) d_R_file_30 (by decide) (fun h1 => ?_) (fun h => absurd ((nI_leI (by omega) (by omega)).mpr (by omega)) h)
    have he : n = wN t := by omega
    subst he
    subst hv
    exact hK
  | succ r ih =>
    intro n b hv hr
    refine g_iload (j := 0) d_R_file_24 rfl ?_
    refine g_aload_n (j := 2) d_R_file_26 rfl ?_
    refine g_get d_R_file_27 f_R_125 hs.obj rfl ?_
    refine g_norm (y := nI (wN t)) hw.1 ?_
    refine g_icmp_ge (tgt := 58) d_R_file_30 (by decide) (fun h => absurd h (fun z => absurd ((nI_leI (by omega) (by omega)).mp z) (by omega))) (fun h1 => ?_)
    refine g_aload_n (j := 2) d_R_file_33 rfl ?_
    refine g_get d_R_file_34 f_R_28 hs.obj rfl ?_
    refine g_iload (j := 0) d_R_file_37 rfl ?_
    refine r_iald (k := 6) (j := n) d_R_file_39 hs (by decide) rfl rfl (show n < 520 by omega) ?_
    refine g_iload_n (j := 3) d_R_file_40 rfl ?_
    refine g_icmp_ne (tgt := 50) d_R_file_41 (by decide) (fun h2 => ?_) (fun h2 => ?_)
    · skip
      refine g_iload_n (j := 1) d_R_file_50 rfl ?_
      refine g_istore_n (lv' := [(3, _), (4, _), (0, _), (1, _), (2, _)]) d_R_file_51 (by decide) rfl ?_
      refine g_iinc (j := 1) (v := nI (n + 1)) (lv' := [(4, _), (3, _), (0, _), (1, _), (2, _)]) d_R_file_52 rfl (nI_1 n) (by decide) rfl ?_
      refine g_goto (tgt := 24) d_R_file_55 (by decide) ?_
      exact ih (n + 1) _ (by rw [cnL, hv, if_neg h2]) (by omega)
    · skip
      refine g_iload_n (j := 1) d_R_file_44 rfl ?_
      refine g_iconst (v := 1) d_R_file_45 (by decide) ?_
      refine g_iadd d_R_file_46 ?_
      refine g_goto (tgt := 51) d_R_file_47 (by decide) ?_
      refine g_istore_n (lv' := [(3, _), (4, _), (0, _), (1, _), (2, _)]) d_R_file_51 (by decide) rfl ?_
      refine g_iinc (j := 1) (v := nI (n + 1)) (lv' := [(4, _), (3, _), (0, _), (1, _), (2, _)]) d_R_file_52 rfl (nI_1 n) (by decide) rfl ?_
      refine g_goto (tgt := 24) d_R_file_55 (by decide) ?_
      exact ih (n + 1) _ (by rw [cnL, hv, if_pos h2]) (by omega)

def s_R_file (t : tR) (f : Nat) (x : Int32) : Int32 :=
  if s_R_isFile t (nI f) = 0 then
    (-1)
  else
    if x < 0 then
      (-1)
    else
      if x ≤ 3 then
        if x = 0 then
          t.2 0 f
        else
          if x = 1 then
            t.2 1 f
          else
            if x = 2 then
              cnL (t.2 6) (nI f) (wN t)
            else
              if 0 ≤ s_R_firstOf t f then
                t.2 5 (foN t f)
              else
                (-1)
      else
        (-1)
set_option maxHeartbeats 4000000 in
set_option maxRecDepth 100000 in
theorem c_R_file {E : gE} {w : wd} {ad : Nat → Nat} {t : tR} (hs : SysR E ad t w) (f : Nat) (x : Int32) (hf : f < 4) (hw : okW t) : Cn E y_R_file 2 0 0 [.ref (ad 0), .int (nI f), .int x] w (fun r w' => r = some (.int (s_R_file t f x)) ∧ w' = w) := by
  refine Cn.of (by decide) (Nat.le_of_ble_eq_true rfl) (fun A => ?_)
  show G E y_R_file _ 0 [(0, .ref (ad 0)), (1, .int (nI f)), (2, .int x)] [] w 0 0
  refine g_aload_n (j := 0) d_R_file_0 rfl ?_
  refine g_iload_n (j := 1) d_R_file_1 rfl ?_
  refine g_callV (c_R_isFile hs (nI f)) ok_R_isFile lk_R_107 in_R_isFile se_R_isFile hs.obj rfl d_R_file_2 rfl rfl (Nat.le_of_ble_eq_true rfl) ⟨(Nat.le_of_ble_eq_true rfl), (Nat.le_of_ble_eq_true rfl)⟩ (Nat.le_of_ble_eq_true rfl) (Nat.le_of_ble_eq_true rfl) (fun r w' hq => ?_)
  obtain ⟨rfl, rfl⟩ := hq
  refine g_if_eq (tgt := 17) d_R_file_5 (by decide) (fun h1 => ?_) (fun h1 => ?_)
  · skip
    refine g_iconst (v := (-1)) d_R_file_17 (by decide) ?_
    have hz : s_R_file t f x = (-1) := by
      unfold s_R_file
      rw [if_pos h1]
    exact g_ireturn d_R_file_18 rfl (Nat.le_of_ble_eq_true rfl) (Nat.le_of_ble_eq_true rfl) ⟨by rw [hz], rfl⟩
  · skip
    refine g_iload_n (j := 2) d_R_file_8 rfl ?_
    refine g_if_lt (tgt := 17) d_R_file_9 (by decide) (fun h2 => ?_) (fun h2 => ?_)
    · skip
      refine g_iconst (v := (-1)) d_R_file_17 (by decide) ?_
      have hz : s_R_file t f x = (-1) := by
        unfold s_R_file
        rw [if_neg h1, if_pos h2]
      exact g_ireturn d_R_file_18 rfl (Nat.le_of_ble_eq_true rfl) (Nat.le_of_ble_eq_true rfl) ⟨by rw [hz], rfl⟩
    · skip
      refine g_iload_n (j := 2) d_R_file_12 rfl ?_
      refine g_iconst (v := 3) d_R_file_13 (by decide) ?_
      refine g_icmp_le (tgt := 19) d_R_file_14 (by decide) (fun h3 => ?_) (fun h3 => ?_)
      · skip
        refine g_iconst (v := 0) d_R_file_19 (by decide) ?_
        refine g_istore_n (lv' := [(3, _), (0, _), (1, _), (2, _)]) d_R_file_20 (by decide) rfl ?_
        refine g_iconst (v := 0) d_R_file_21 (by decide) ?_
        refine g_istore (lv' := [(4, _), (3, _), (0, _), (1, _), (2, _)]) d_R_file_22 (by decide) rfl ?_
        refine l_R_file hs f x hw ?_ (wN t) 0 0 rfl (by omega)
        refine g_aload_n (j := 2) d_R_file_58 rfl ?_
        refine g_iload_n (j := 3) d_R_file_59 rfl ?_
        refine g_callV (c_R_firstOf hs f hw) ok_R_firstOf lk_R_128 in_R_firstOf se_R_firstOf hs.obj rfl d_R_file_60 rfl rfl (Nat.le_of_ble_eq_true rfl) ⟨(Nat.le_of_ble_eq_true rfl), (Nat.le_of_ble_eq_true rfl)⟩ (Nat.le_of_ble_eq_true rfl) (Nat.le_of_ble_eq_true rfl) (fun r w' hq => ?_)
        obtain ⟨rfl, rfl⟩ := hq
        refine g_istore (lv' := [(4, _), (3, _), (0, _), (1, _), (2, _)]) d_R_file_63 (by decide) rfl ?_
        refine g_iload_n (j := 4) d_R_file_65 rfl ?_
        refine g_if_ne (tgt := 78) d_R_file_66 (by decide) (fun h4 => ?_) (fun h4 => ?_)
        · skip
          refine g_iload_n (j := 4) d_R_file_78 rfl ?_
          refine g_iconst (v := 1) d_R_file_79 (by decide) ?_
          refine g_icmp_ne (tgt := 92) d_R_file_80 (by decide) (fun h5 => ?_) (fun h5 => ?_)
          · skip
            refine g_iload_n (j := 4) d_R_file_92 rfl ?_
            refine g_iconst (v := 2) d_R_file_93 (by decide) ?_
            refine g_icmp_ne (tgt := 101) d_R_file_94 (by decide) (fun h6 => ?_) (fun h6 => ?_)
            · skip
              refine g_iload (j := 0) d_R_file_101 rfl ?_
              refine g_if_ge (tgt := 110) d_R_file_103 (by decide) (fun h7 => ?_) (fun h7 => ?_)
              · skip
                obtain ⟨hfo1, hfo2, hfo3⟩ := foN_ok' hw h7
                refine g_aload_n (j := 2) d_R_file_110 rfl ?_
                refine g_get d_R_file_111 f_R_25 hs.obj rfl ?_
                refine g_iload (j := 0) d_R_file_114 rfl ?_
                refine r_iald (k := 5) (j := foN t f) d_R_file_116 hs (by decide) rfl hfo1 (show foN t f < 520 by omega) ?_
                have hz : s_R_file t f x = t.2 5 (foN t f) := by
                  unfold s_R_file
                  rw [if_neg h1, if_neg h2, if_pos h3, if_neg h4, if_neg h5, if_neg h6, if_pos h7]
                exact g_ireturn d_R_file_117 rfl (Nat.le_of_ble_eq_true rfl) (Nat.le_of_ble_eq_true rfl) ⟨by rw [hz], rfl⟩
              · skip
                refine g_iconst (v := (-1)) d_R_file_106 (by decide) ?_
                refine g_goto (tgt := 117) d_R_file_107 (by decide) ?_
                have hz : s_R_file t f x = (-1) := by
                  unfold s_R_file
                  rw [if_neg h1, if_neg h2, if_pos h3, if_neg h4, if_neg h5, if_neg h6, if_neg h7]
                exact g_ireturn d_R_file_117 rfl (Nat.le_of_ble_eq_true rfl) (Nat.le_of_ble_eq_true rfl) ⟨by rw [hz], rfl⟩
            · skip
              refine g_iload_n (j := 1) d_R_file_97 rfl ?_
              refine g_goto (tgt := 117) d_R_file_98 (by decide) ?_
              have hz : s_R_file t f x = cnL (t.2 6) (nI f) (wN t) := by
                unfold s_R_file
                rw [if_neg h1, if_neg h2, if_pos h3, if_neg h4, if_neg h5, if_pos h6]
              exact g_ireturn d_R_file_117 rfl (Nat.le_of_ble_eq_true rfl) (Nat.le_of_ble_eq_true rfl) ⟨by rw [hz], rfl⟩
          · skip
            refine g_aload_n (j := 2) d_R_file_83 rfl ?_
            refine g_get d_R_file_84 f_R_13 hs.obj rfl ?_
            refine g_iload_n (j := 3) d_R_file_87 rfl ?_
            refine r_iald (k := 1) (j := f) d_R_file_88 hs (by decide) rfl rfl (show f < 4 by omega) ?_
            refine g_goto (tgt := 117) d_R_file_89 (by decide) ?_
            have hz : s_R_file t f x = t.2 1 f := by
              unfold s_R_file
              rw [if_neg h1, if_neg h2, if_pos h3, if_neg h4, if_pos h5]
            exact g_ireturn d_R_file_117 rfl (Nat.le_of_ble_eq_true rfl) (Nat.le_of_ble_eq_true rfl) ⟨by rw [hz], rfl⟩
        · skip
          refine g_aload_n (j := 2) d_R_file_69 rfl ?_
          refine g_get d_R_file_70 f_R_7 hs.obj rfl ?_
          refine g_iload_n (j := 3) d_R_file_73 rfl ?_
          refine r_iald (k := 0) (j := f) d_R_file_74 hs (by decide) rfl rfl (show f < 4 by omega) ?_
          refine g_goto (tgt := 117) d_R_file_75 (by decide) ?_
          have hz : s_R_file t f x = t.2 0 f := by
            unfold s_R_file
            rw [if_neg h1, if_neg h2, if_pos h3, if_pos h4]
          exact g_ireturn d_R_file_117 rfl (Nat.le_of_ble_eq_true rfl) (Nat.le_of_ble_eq_true rfl) ⟨by rw [hz], rfl⟩
      · skip
        refine g_iconst (v := (-1)) d_R_file_17 (by decide) ?_
        have hz : s_R_file t f x = (-1) := by
          unfold s_R_file
          rw [if_neg h1, if_neg h2, if_neg h3]
        exact g_ireturn d_R_file_18 rfl (Nat.le_of_ble_eq_true rfl) (Nat.le_of_ble_eq_true rfl) ⟨by rw [hz], rfl⟩

/-- rows moved down by one, from lo up to i -/
def sh1 (g : Nat → Int32) (lo i : Nat) : Nat → Int32 := fun j => if lo ≤ j ∧ j < i then g (j + 1) else g j
theorem sh1_0 (g : Nat → Int32) (lo : Nat) : sh1 g lo lo = g := by
  funext j
  exact if_neg (fun h => by omega)
theorem sh1_s (g : Nat → Int32) {lo i : Nat} (h : lo ≤ i) : upd (sh1 g lo i) i (sh1 g lo i (i + 1)) = sh1 g lo (i + 1) := by
  funext j
  by_cases hj : j = i
  · subst hj
    have e1 : upd (sh1 g lo j) j (sh1 g lo j (j + 1)) j = sh1 g lo j (j + 1) := if_pos rfl
    have e2 : sh1 g lo j (j + 1) = g (j + 1) := if_neg (fun h => by omega)
    have e3 : sh1 g lo (j + 1) j = g (j + 1) := if_pos (by omega)
    rw [e1, e2, e3]
  · have e1 : upd (sh1 g lo i) i (sh1 g lo i (i + 1)) j = sh1 g lo i j := if_neg hj
    rw [e1]
    unfold sh1
    by_cases hc : lo ≤ j ∧ j < i
    · rw [if_pos hc, if_pos (by omega)]
    · rw [if_neg hc, if_neg (by omega)]
/-- the four rows of the waiting writes, moved down -/
def s4R (t : tR) (lo i : Nat) : tR := (t.1, fun k => if k = 5 ∨ k = 6 ∨ k = 7 ∨ k = 8 then sh1 (t.2 k) lo i else t.2 k)
theorem s4R_0 (t : tR) (lo : Nat) : s4R t lo lo = t := by
  refine Prod.ext rfl (funext fun k => ?_)
  show (if k = 5 ∨ k = 6 ∨ k = 7 ∨ k = 8 then sh1 (t.2 k) lo lo else t.2 k) = t.2 k
  split
  · exact sh1_0 _ _
  · rfl
theorem s4R_s (t : tR) {lo i : Nat} (h : lo ≤ i) : stA (stA (stA (stA (s4R t lo i) 5 i (sh1 (t.2 5) lo i (i + 1))) 6 i (sh1 (t.2 6) lo i (i + 1))) 7 i (sh1 (t.2 7) lo i (i + 1))) 8 i (sh1 (t.2 8) lo i (i + 1)) = s4R t lo (i + 1) := by
  refine Prod.ext rfl (funext fun k => ?_)
  by_cases h8 : k = 8
  · subst h8
    show upd (sh1 (t.2 8) lo i) i _ = sh1 (t.2 8) lo (i + 1)
    exact sh1_s _ h
  by_cases h7 : k = 7
  · subst h7
    show upd (sh1 (t.2 7) lo i) i _ = sh1 (t.2 7) lo (i + 1)
    exact sh1_s _ h
  by_cases h6 : k = 6
  · subst h6
    show upd (sh1 (t.2 6) lo i) i _ = sh1 (t.2 6) lo (i + 1)
    exact sh1_s _ h
  by_cases h5 : k = 5
  · subst h5
    show upd (sh1 (t.2 5) lo i) i _ = sh1 (t.2 5) lo (i + 1)
    exact sh1_s _ h
  · have e1 : ∀ j, (s4R t lo j).2 k = t.2 k := fun j => if_neg (by omega)
    show (if k = 8 then _ else if k = 7 then _ else if k = 6 then _ else if k = 5 then _ else (s4R t lo i).2 k) = _
    rw [if_neg h8, if_neg h7, if_neg h6, if_neg h5, e1, e1]
def clN (t : tR) (k : Nat) : Nat := (t.2 5 k).toNatClampNeg
def flN (t : tR) (k : Nat) : Nat := (t.2 6 k).toNatClampNeg
def okE (t : tR) (k : Nat) : Prop := t.2 5 k = nI (clN t k) ∧ clN t k < 4 ∧ t.2 6 k = nI (flN t k) ∧ flN t k < 4

set_option maxHeartbeats 4000000 in
set_option maxRecDepth 100000 in
theorem l_R_store {E : gE} {ad : Nat → Nat} {t : tR} (k f m : Nat) (x2 x4 : Int32) (hm : t.1 8 = nI m) (hm2 : m ≤ 518) {Z : gZ} (hK : ∀ w : wd, SysR E ad (s4R t k m) w → G E y_R_store Z 167 [(5, .int (nI m)), (0, .ref (ad 0)), (1, .int (nI k)), (2, .int x2), (3, .int (nI f)), (4, .int x4)] [] w 0 0) : ∀ (r i : Nat) {w : wd}, SysR E ad (s4R t k i) w → k ≤ i → r + i = m → G E y_R_store Z 88 [(5, .int (nI i)), (0, .ref (ad 0)), (1, .int (nI k)), (2, .int x2), (3, .int (nI f)), (4, .int x4)] [] w 0 0 := by
  intro r
  induction r with
  | zero =>
    intro i w hs hlo hr
    have hz : (s4R t k i).1 8 = nI m := hm
    refine g_iload (j := 0) d_R_store_88 rfl ?_
    refine g_aload_n (j := 1) d_R_store_90 rfl ?_
    refine g_get d_R_store_91 f_R_125 hs.obj rfl ?_
    refine g_norm (y := nI m) hz ?_
    refine g_icmp_ge (tgt := 167) d_R_store_94 (by decide) (fun h1 => ?_) (fun h => absurd ((nI_leI (by omega) (by omega)).mpr (by omega)) h)
    have he : i = m := by omega
    subst he
    exact hK _ hs
  | succ r ih =>
    intro i w hs hlo hr
    have hz : (s4R t k i).1 8 = nI m := hm
    refine g_iload (j := 0) d_R_store_88 rfl ?_
    refine g_aload_n (j := 1) d_R_store_90 rfl ?_
    refine g_get d_R_store_91 f_R_125 hs.obj rfl ?_
    refine g_norm (y := nI m) hz ?_
    refine g_icmp_ge (tgt := 167) d_R_store_94 (by decide) (fun h => absurd h (fun z => absurd ((nI_leI (by omega) (by omega)).mp z) (by omega))) (fun h1 => ?_)
    refine g_aload_n (j := 1) d_R_store_97 rfl ?_
    refine g_get d_R_store_98 f_R_25 hs.obj rfl ?_
    refine g_iload (j := 0) d_R_store_101 rfl ?_
    refine g_aload_n (j := 1) d_R_store_103 rfl ?_
    refine g_get d_R_store_104 f_R_25 hs.obj rfl ?_
    refine g_iload (j := 0) d_R_store_107 rfl ?_
    refine g_iconst (v := 1) d_R_store_109 (by decide) ?_
    refine g_iadd d_R_store_110 ?_
    refine g_norm (y := nI (i + 1)) (nI_add i 1) ?_
    refine r_iald (k := 5) (j := i + 1) d_R_store_111 hs (by decide) rfl rfl (show i + 1 < 520 by omega) ?_
    refine r_iast (k := 5) (j := i) d_R_store_112 hs (by decide) rfl rfl (show i < 520 by omega) (fun w2 hs3 => ?_)
    refine g_aload_n (j := 1) d_R_store_113 rfl ?_
    refine g_get d_R_store_114 f_R_28 hs3.obj rfl ?_
    refine g_iload (j := 0) d_R_store_117 rfl ?_
    refine g_aload_n (j := 1) d_R_store_119 rfl ?_
    refine g_get d_R_store_120 f_R_28 hs3.obj rfl ?_
    refine g_iload (j := 0) d_R_store_123 rfl ?_
    refine g_iconst (v := 1) d_R_store_125 (by decide) ?_
    refine g_iadd d_R_store_126 ?_
    refine g_norm (y := nI (i + 1)) (nI_add i 1) ?_
    refine r_iald (k := 6) (j := i + 1) d_R_store_127 hs3 (by decide) rfl rfl (show i + 1 < 520 by omega) ?_
    refine r_iast (k := 6) (j := i) d_R_store_128 hs3 (by decide) rfl rfl (show i < 520 by omega) (fun w4 hs5 => ?_)
    refine g_aload_n (j := 1) d_R_store_129 rfl ?_
    refine g_get d_R_store_130 f_R_31 hs5.obj rfl ?_
    refine g_iload (j := 0) d_R_store_133 rfl ?_
    refine g_aload_n (j := 1) d_R_store_135 rfl ?_
    refine g_get d_R_store_136 f_R_31 hs5.obj rfl ?_
    refine g_iload (j := 0) d_R_store_139 rfl ?_
    refine g_iconst (v := 1) d_R_store_141 (by decide) ?_
    refine g_iadd d_R_store_142 ?_
    refine g_norm (y := nI (i + 1)) (nI_add i 1) ?_
    refine r_iald (k := 7) (j := i + 1) d_R_store_143 hs5 (by decide) rfl rfl (show i + 1 < 520 by omega) ?_
    refine r_iast (k := 7) (j := i) d_R_store_144 hs5 (by decide) rfl rfl (show i < 520 by omega) (fun w6 hs7 => ?_)
    refine g_aload_n (j := 1) d_R_store_145 rfl ?_
    refine g_get d_R_store_146 f_R_34 hs7.obj rfl ?_
    refine g_iload (j := 0) d_R_store_149 rfl ?_
    refine g_aload_n (j := 1) d_R_store_151 rfl ?_
    refine g_get d_R_store_152 f_R_34 hs7.obj rfl ?_
    refine g_iload (j := 0) d_R_store_155 rfl ?_
    refine g_iconst (v := 1) d_R_store_157 (by decide) ?_
    refine g_iadd d_R_store_158 ?_
    refine g_norm (y := nI (i + 1)) (nI_add i 1) ?_
    refine r_iald (k := 8) (j := i + 1) d_R_store_159 hs7 (by decide) rfl rfl (show i + 1 < 520 by omega) ?_
    refine r_iast (k := 8) (j := i) d_R_store_160 hs7 (by decide) rfl rfl (show i < 520 by omega) (fun w8 hs9 => ?_)
    refine g_iinc (j := 0) (v := nI (i + 1)) (lv' := [(5, _), (0, _), (1, _), (2, _), (3, _), (4, _)]) d_R_store_161 rfl (nI_1 i) (by decide) rfl ?_
    refine g_goto (tgt := 88) d_R_store_164 (by decide) ?_
    have e9 := s4R_s t hlo
    exact ih (i + 1) (show SysR E ad (s4R t k (i + 1)) _ from e9 ▸ hs9) (by omega) (by omega)

def s_R_store (t : tR) (m : Nat) (k : Nat) : tR :=
  if t.2 7 k ≤ (stA (stA t 0 ((flN t k)) (t.2 8 k)) 1 ((flN t k)) (((stA t 0 ((flN t k)) (t.2 8 k)).2 1 ((flN t k))) + 1)).2 3 ((clN t k)) then
    s_R_send (s4R (stF (stA (stA t 0 ((flN t k)) (t.2 8 k)) 1 ((flN t k)) (((stA t 0 ((flN t k)) (t.2 8 k)).2 1 ((flN t k))) + 1)) 8 (nI m)) k m) 3 (nI (clN t k)) (nI (flN t k)) (t.2 7 k) ((s4R (stF (stA (stA t 0 ((flN t k)) (t.2 8 k)) 1 ((flN t k)) (((stA t 0 ((flN t k)) (t.2 8 k)).2 1 ((flN t k))) + 1)) 8 (nI m)) k m).2 1 (flN t k)) 0 0
  else
    s_R_send (s4R (stF (stA (stA (stA (stA t 0 ((flN t k)) (t.2 8 k)) 1 ((flN t k)) (((stA t 0 ((flN t k)) (t.2 8 k)).2 1 ((flN t k))) + 1)) 3 ((clN t k)) (t.2 7 k)) 4 ((clN t k)) ((stA (stA (stA t 0 ((flN t k)) (t.2 8 k)) 1 ((flN t k)) (((stA t 0 ((flN t k)) (t.2 8 k)).2 1 ((flN t k))) + 1)) 3 ((clN t k)) (t.2 7 k)).2 1 ((flN t k)))) 8 (nI m)) k m) 3 (nI (clN t k)) (nI (flN t k)) (t.2 7 k) ((s4R (stF (stA (stA (stA (stA t 0 ((flN t k)) (t.2 8 k)) 1 ((flN t k)) (((stA t 0 ((flN t k)) (t.2 8 k)).2 1 ((flN t k))) + 1)) 3 ((clN t k)) (t.2 7 k)) 4 ((clN t k)) ((stA (stA (stA t 0 ((flN t k)) (t.2 8 k)) 1 ((flN t k)) (((stA t 0 ((flN t k)) (t.2 8 k)).2 1 ((flN t k))) + 1)) 3 ((clN t k)) (t.2 7 k)).2 1 ((flN t k)))) 8 (nI m)) k m).2 1 (flN t k)) 0 0
set_option maxHeartbeats 4000000 in
set_option maxRecDepth 100000 in
theorem c_R_store {E : gE} {w : wd} {ad : Nat → Nat} {t : tR} (hs : SysR E ad t w) (m : Nat) (k : Nat) (hm : t.1 8 = nI (m + 1)) (hm2 : m ≤ 518) (hk : k < m + 1) (hE : okE t k) (hp : okP t) : Cn E y_R_store 2 0 0 [.ref (ad 0), .int (nI k)] w (fun r w' => r = none ∧ SysR E ad (s_R_store t m k) w') := by
  refine Cn.of (by decide) (Nat.le_of_ble_eq_true rfl) (fun A => ?_)
  show G E y_R_store _ 0 [(0, .ref (ad 0)), (1, .int (nI k))] [] w 0 0
  have hE2 := hE.2.1
  have hE4 := hE.2.2.2
  refine g_aload_n (j := 0) d_R_store_0 rfl ?_
  refine g_get d_R_store_1 f_R_25 hs.obj rfl ?_
  refine g_iload_n (j := 1) d_R_store_4 rfl ?_
  refine r_iald (k := 5) (j := k) d_R_store_5 hs (by decide) rfl rfl (show k < 520 by omega) ?_
  refine g_norm (y := nI (clN t k)) hE.1 ?_
  refine g_istore_n (lv' := [(2, _), (0, _), (1, _)]) d_R_store_6 (by decide) rfl ?_
  refine g_aload_n (j := 1) d_R_store_7 rfl ?_
  refine g_get d_R_store_8 f_R_28 hs.obj rfl ?_
  refine g_iload_n (j := 2) d_R_store_11 rfl ?_
  refine r_iald (k := 6) (j := k) d_R_store_12 hs (by decide) rfl rfl (show k < 520 by omega) ?_
  refine g_norm (y := nI (flN t k)) hE.2.2.1 ?_
  refine g_istore_n (lv' := [(3, _), (2, _), (0, _), (1, _)]) d_R_store_13 (by decide) rfl ?_
  refine g_aload_n (j := 2) d_R_store_14 rfl ?_
  refine g_get d_R_store_15 f_R_31 hs.obj rfl ?_
  refine g_iload_n (j := 3) d_R_store_18 rfl ?_
  refine r_iald (k := 7) (j := k) d_R_store_19 hs (by decide) rfl rfl (show k < 520 by omega) ?_
  refine g_istore (lv' := [(4, _), (3, _), (2, _), (0, _), (1, _)]) d_R_store_20 (by decide) rfl ?_
  refine g_aload_n (j := 3) d_R_store_22 rfl ?_
  refine g_get d_R_store_23 f_R_7 hs.obj rfl ?_
  refine g_iload_n (j := 1) d_R_store_26 rfl ?_
  refine g_aload_n (j := 3) d_R_store_27 rfl ?_
  refine g_get d_R_store_28 f_R_34 hs.obj rfl ?_
  refine g_iload_n (j := 4) d_R_store_31 rfl ?_
  refine r_iald (k := 8) (j := k) d_R_store_32 hs (by decide) rfl rfl (show k < 520 by omega) ?_
  refine r_iast (k := 0) (j := (flN t k)) d_R_store_33 hs (by decide) rfl rfl (show (flN t k) < 4 by omega) (fun w1 hs2 => ?_)
  refine g_aload_n (j := 3) d_R_store_34 rfl ?_
  refine g_get d_R_store_35 f_R_13 hs2.obj rfl ?_
  refine g_iload_n (j := 1) d_R_store_38 rfl ?_
  refine g_dup2 d_R_store_39 rfl rfl ?_
  refine r_iald (k := 1) (j := (flN t k)) d_R_store_40 hs2 (by decide) rfl rfl (show (flN t k) < 4 by omega) ?_
  refine g_iconst (v := 1) d_R_store_41 (by decide) ?_
  refine g_iadd d_R_store_42 ?_
  refine r_iast (k := 1) (j := (flN t k)) d_R_store_43 hs2 (by decide) rfl rfl (show (flN t k) < 4 by omega) (fun w3 hs4 => ?_)
  refine g_iload (j := 0) d_R_store_44 rfl ?_
  refine g_aload_n (j := 3) d_R_store_46 rfl ?_
  refine g_get d_R_store_47 f_R_19 hs4.obj rfl ?_
  refine g_iload_n (j := 2) d_R_store_50 rfl ?_
  refine r_iald (k := 3) (j := (clN t k)) d_R_store_51 hs4 (by decide) rfl rfl (show (clN t k) < 4 by omega) ?_
  refine g_icmp_le (tgt := 75) d_R_store_52 (by decide) (fun h5 => ?_) (fun h5 => ?_)
  · skip
    refine g_aload_n (j := 3) d_R_store_75 rfl ?_
    refine g_dup d_R_store_76 rfl ?_
    refine g_get d_R_store_77 f_R_125 hs4.obj rfl ?_
    refine g_norm (y := nI (m + 1)) hm ?_
    refine g_iconst (v := 1) d_R_store_80 (by decide) ?_
    refine g_isub d_R_store_81 ?_
    refine g_norm (y := nI m) (nI_pred m) ?_
    refine g_put d_R_store_82 fw_R_125 (Or.inl rfl) hs4.obj rfl rfl (Nat.le_of_ble_eq_true rfl) ?_
    have hs7 : SysR E ad (stF (stA (stA t 0 ((flN t k)) (t.2 8 k)) 1 ((flN t k)) (((stA t 0 ((flN t k)) (t.2 8 k)).2 1 ((flN t k))) + 1)) 8 (nI m)) _ := hs4.sf (t' := stF (stA (stA t 0 ((flN t k)) (t.2 8 k)) 1 ((flN t k)) (((stA t 0 ((flN t k)) (t.2 8 k)).2 1 ((flN t k))) + 1)) 8 (nI m)) (fs := (ceR ad (stA (stA t 0 ((flN t k)) (t.2 8 k)) 1 ((flN t k)) (((stA t 0 ((flN t k)) (t.2 8 k)).2 1 ((flN t k))) + 1))).set 13 (.int (nI m))) rfl rfl
    generalize wu _ (ad 0) _ = w6 at hs7 ⊢
    refine g_iload_n (j := 4) d_R_store_85 rfl ?_
    refine g_istore (lv' := [(5, _), (4, _), (3, _), (2, _), (0, _), (1, _)]) d_R_store_86 (by decide) rfl ?_
    refine g_lv [0, 4, 5, 3, 2, 1] rfl ?_
    refine l_R_store (t := stF (stA (stA t 0 ((flN t k)) (t.2 8 k)) 1 ((flN t k)) (((stA t 0 ((flN t k)) (t.2 8 k)).2 1 ((flN t k))) + 1)) 8 (nI m)) k (flN t k) m _ _ rfl hm2 (fun w8 hs8 => ?_) (m - k) k (show SysR E ad (s4R (stF (stA (stA t 0 ((flN t k)) (t.2 8 k)) 1 ((flN t k)) (((stA t 0 ((flN t k)) (t.2 8 k)).2 1 ((flN t k))) + 1)) 8 (nI m)) k k) _ from (s4R_0 (stF (stA (stA t 0 ((flN t k)) (t.2 8 k)) 1 ((flN t k)) (((stA t 0 ((flN t k)) (t.2 8 k)).2 1 ((flN t k))) + 1)) 8 (nI m)) k).symm ▸ hs7) (by omega) (by omega)
    refine g_aload_n (j := 1) d_R_store_167 rfl ?_
    refine g_iconst (v := 3) d_R_store_168 (by decide) ?_
    refine g_iload_n (j := 3) d_R_store_169 rfl ?_
    refine g_iload_n (j := 4) d_R_store_170 rfl ?_
    refine g_iload (j := 5) d_R_store_171 rfl ?_
    refine g_aload_n (j := 1) d_R_store_173 rfl ?_
    refine g_get d_R_store_174 f_R_13 hs8.obj rfl ?_
    refine g_iload_n (j := 4) d_R_store_177 rfl ?_
    refine r_iald (k := 1) (j := flN t k) d_R_store_178 hs8 (by decide) rfl rfl (show flN t k < 4 by omega) ?_
    refine g_iconst (v := 0) d_R_store_179 (by decide) ?_
    refine g_iconst (v := 0) d_R_store_180 (by decide) ?_
    refine g_callV (c_R_send hs8 3 (nI (clN t k)) (nI (flN t k)) (t.2 7 k) ((s4R (stF (stA (stA t 0 ((flN t k)) (t.2 8 k)) 1 ((flN t k)) (((stA t 0 ((flN t k)) (t.2 8 k)).2 1 ((flN t k))) + 1)) 8 (nI m)) k m).2 1 (flN t k)) 0 0 hp) ok_R_send lk_R_99 in_R_send se_R_send hs8.obj rfl d_R_store_181 rfl rfl (Nat.le_of_ble_eq_true rfl) ⟨(Nat.le_of_ble_eq_true rfl), (Nat.le_of_ble_eq_true rfl)⟩ (Nat.le_of_ble_eq_true rfl) (Nat.le_of_ble_eq_true rfl) (fun r w' hq => ?_)
    obtain ⟨rfl, hs8⟩ := hq
    have hz : s_R_store t m k = s_R_send (s4R (stF (stA (stA t 0 ((flN t k)) (t.2 8 k)) 1 ((flN t k)) (((stA t 0 ((flN t k)) (t.2 8 k)).2 1 ((flN t k))) + 1)) 8 (nI m)) k m) 3 (nI (clN t k)) (nI (flN t k)) (t.2 7 k) ((s4R (stF (stA (stA t 0 ((flN t k)) (t.2 8 k)) 1 ((flN t k)) (((stA t 0 ((flN t k)) (t.2 8 k)).2 1 ((flN t k))) + 1)) 8 (nI m)) k m).2 1 (flN t k)) 0 0 := by
      unfold s_R_store
      rw [if_pos h5]
    exact g_return d_R_store_184 rfl (Nat.le_of_ble_eq_true rfl) (Nat.le_of_ble_eq_true rfl) ⟨rfl, by rw [hz]; exact hs8⟩
  · skip
    refine g_aload_n (j := 3) d_R_store_55 rfl ?_
    refine g_get d_R_store_56 f_R_19 hs4.obj rfl ?_
    refine g_iload_n (j := 2) d_R_store_59 rfl ?_
    refine g_iload (j := 0) d_R_store_60 rfl ?_
    refine r_iast (k := 3) (j := (clN t k)) d_R_store_62 hs4 (by decide) rfl rfl (show (clN t k) < 4 by omega) (fun w10 hs11 => ?_)
    refine g_aload_n (j := 3) d_R_store_63 rfl ?_
    refine g_get d_R_store_64 f_R_22 hs11.obj rfl ?_
    refine g_iload_n (j := 2) d_R_store_67 rfl ?_
    refine g_aload_n (j := 3) d_R_store_68 rfl ?_
    refine g_get d_R_store_69 f_R_13 hs11.obj rfl ?_
    refine g_iload_n (j := 1) d_R_store_72 rfl ?_
    refine r_iald (k := 1) (j := (flN t k)) d_R_store_73 hs11 (by decide) rfl rfl (show (flN t k) < 4 by omega) ?_
    refine r_iast (k := 4) (j := (clN t k)) d_R_store_74 hs11 (by decide) rfl rfl (show (clN t k) < 4 by omega) (fun w12 hs13 => ?_)
    refine g_aload_n (j := 3) d_R_store_75 rfl ?_
    refine g_dup d_R_store_76 rfl ?_
    refine g_get d_R_store_77 f_R_125 hs13.obj rfl ?_
    refine g_norm (y := nI (m + 1)) hm ?_
    refine g_iconst (v := 1) d_R_store_80 (by decide) ?_
    refine g_isub d_R_store_81 ?_
    refine g_norm (y := nI m) (nI_pred m) ?_
    refine g_put d_R_store_82 fw_R_125 (Or.inl rfl) hs13.obj rfl rfl (Nat.le_of_ble_eq_true rfl) ?_
    have hs15 : SysR E ad (stF (stA (stA (stA (stA t 0 ((flN t k)) (t.2 8 k)) 1 ((flN t k)) (((stA t 0 ((flN t k)) (t.2 8 k)).2 1 ((flN t k))) + 1)) 3 ((clN t k)) (t.2 7 k)) 4 ((clN t k)) ((stA (stA (stA t 0 ((flN t k)) (t.2 8 k)) 1 ((flN t k)) (((stA t 0 ((flN t k)) (t.2 8 k)).2 1 ((flN t k))) + 1)) 3 ((clN t k)) (t.2 7 k)).2 1 ((flN t k)))) 8 (nI m)) _ := hs13.sf (t' := stF (stA (stA (stA (stA t 0 ((flN t k)) (t.2 8 k)) 1 ((flN t k)) (((stA t 0 ((flN t k)) (t.2 8 k)).2 1 ((flN t k))) + 1)) 3 ((clN t k)) (t.2 7 k)) 4 ((clN t k)) ((stA (stA (stA t 0 ((flN t k)) (t.2 8 k)) 1 ((flN t k)) (((stA t 0 ((flN t k)) (t.2 8 k)).2 1 ((flN t k))) + 1)) 3 ((clN t k)) (t.2 7 k)).2 1 ((flN t k)))) 8 (nI m)) (fs := (ceR ad (stA (stA (stA (stA t 0 ((flN t k)) (t.2 8 k)) 1 ((flN t k)) (((stA t 0 ((flN t k)) (t.2 8 k)).2 1 ((flN t k))) + 1)) 3 ((clN t k)) (t.2 7 k)) 4 ((clN t k)) ((stA (stA (stA t 0 ((flN t k)) (t.2 8 k)) 1 ((flN t k)) (((stA t 0 ((flN t k)) (t.2 8 k)).2 1 ((flN t k))) + 1)) 3 ((clN t k)) (t.2 7 k)).2 1 ((flN t k))))).set 13 (.int (nI m))) rfl rfl
    generalize wu _ (ad 0) _ = w14 at hs15 ⊢
    refine g_iload_n (j := 4) d_R_store_85 rfl ?_
    refine g_istore (lv' := [(5, _), (4, _), (3, _), (2, _), (0, _), (1, _)]) d_R_store_86 (by decide) rfl ?_
    refine g_lv [0, 4, 5, 3, 2, 1] rfl ?_
    refine l_R_store (t := stF (stA (stA (stA (stA t 0 ((flN t k)) (t.2 8 k)) 1 ((flN t k)) (((stA t 0 ((flN t k)) (t.2 8 k)).2 1 ((flN t k))) + 1)) 3 ((clN t k)) (t.2 7 k)) 4 ((clN t k)) ((stA (stA (stA t 0 ((flN t k)) (t.2 8 k)) 1 ((flN t k)) (((stA t 0 ((flN t k)) (t.2 8 k)).2 1 ((flN t k))) + 1)) 3 ((clN t k)) (t.2 7 k)).2 1 ((flN t k)))) 8 (nI m)) k (flN t k) m _ _ rfl hm2 (fun w8 hs8 => ?_) (m - k) k (show SysR E ad (s4R (stF (stA (stA (stA (stA t 0 ((flN t k)) (t.2 8 k)) 1 ((flN t k)) (((stA t 0 ((flN t k)) (t.2 8 k)).2 1 ((flN t k))) + 1)) 3 ((clN t k)) (t.2 7 k)) 4 ((clN t k)) ((stA (stA (stA t 0 ((flN t k)) (t.2 8 k)) 1 ((flN t k)) (((stA t 0 ((flN t k)) (t.2 8 k)).2 1 ((flN t k))) + 1)) 3 ((clN t k)) (t.2 7 k)).2 1 ((flN t k)))) 8 (nI m)) k k) _ from (s4R_0 (stF (stA (stA (stA (stA t 0 ((flN t k)) (t.2 8 k)) 1 ((flN t k)) (((stA t 0 ((flN t k)) (t.2 8 k)).2 1 ((flN t k))) + 1)) 3 ((clN t k)) (t.2 7 k)) 4 ((clN t k)) ((stA (stA (stA t 0 ((flN t k)) (t.2 8 k)) 1 ((flN t k)) (((stA t 0 ((flN t k)) (t.2 8 k)).2 1 ((flN t k))) + 1)) 3 ((clN t k)) (t.2 7 k)).2 1 ((flN t k)))) 8 (nI m)) k).symm ▸ hs15) (by omega) (by omega)
    refine g_aload_n (j := 1) d_R_store_167 rfl ?_
    refine g_iconst (v := 3) d_R_store_168 (by decide) ?_
    refine g_iload_n (j := 3) d_R_store_169 rfl ?_
    refine g_iload_n (j := 4) d_R_store_170 rfl ?_
    refine g_iload (j := 5) d_R_store_171 rfl ?_
    refine g_aload_n (j := 1) d_R_store_173 rfl ?_
    refine g_get d_R_store_174 f_R_13 hs8.obj rfl ?_
    refine g_iload_n (j := 4) d_R_store_177 rfl ?_
    refine r_iald (k := 1) (j := flN t k) d_R_store_178 hs8 (by decide) rfl rfl (show flN t k < 4 by omega) ?_
    refine g_iconst (v := 0) d_R_store_179 (by decide) ?_
    refine g_iconst (v := 0) d_R_store_180 (by decide) ?_
    refine g_callV (c_R_send hs8 3 (nI (clN t k)) (nI (flN t k)) (t.2 7 k) ((s4R (stF (stA (stA (stA (stA t 0 ((flN t k)) (t.2 8 k)) 1 ((flN t k)) (((stA t 0 ((flN t k)) (t.2 8 k)).2 1 ((flN t k))) + 1)) 3 ((clN t k)) (t.2 7 k)) 4 ((clN t k)) ((stA (stA (stA t 0 ((flN t k)) (t.2 8 k)) 1 ((flN t k)) (((stA t 0 ((flN t k)) (t.2 8 k)).2 1 ((flN t k))) + 1)) 3 ((clN t k)) (t.2 7 k)).2 1 ((flN t k)))) 8 (nI m)) k m).2 1 (flN t k)) 0 0 hp) ok_R_send lk_R_99 in_R_send se_R_send hs8.obj rfl d_R_store_181 rfl rfl (Nat.le_of_ble_eq_true rfl) ⟨(Nat.le_of_ble_eq_true rfl), (Nat.le_of_ble_eq_true rfl)⟩ (Nat.le_of_ble_eq_true rfl) (Nat.le_of_ble_eq_true rfl) (fun r w' hq => ?_)
    obtain ⟨rfl, hs16⟩ := hq
    have hz : s_R_store t m k = s_R_send (s4R (stF (stA (stA (stA (stA t 0 ((flN t k)) (t.2 8 k)) 1 ((flN t k)) (((stA t 0 ((flN t k)) (t.2 8 k)).2 1 ((flN t k))) + 1)) 3 ((clN t k)) (t.2 7 k)) 4 ((clN t k)) ((stA (stA (stA t 0 ((flN t k)) (t.2 8 k)) 1 ((flN t k)) (((stA t 0 ((flN t k)) (t.2 8 k)).2 1 ((flN t k))) + 1)) 3 ((clN t k)) (t.2 7 k)).2 1 ((flN t k)))) 8 (nI m)) k m) 3 (nI (clN t k)) (nI (flN t k)) (t.2 7 k) ((s4R (stF (stA (stA (stA (stA t 0 ((flN t k)) (t.2 8 k)) 1 ((flN t k)) (((stA t 0 ((flN t k)) (t.2 8 k)).2 1 ((flN t k))) + 1)) 3 ((clN t k)) (t.2 7 k)) 4 ((clN t k)) ((stA (stA (stA t 0 ((flN t k)) (t.2 8 k)) 1 ((flN t k)) (((stA t 0 ((flN t k)) (t.2 8 k)).2 1 ((flN t k))) + 1)) 3 ((clN t k)) (t.2 7 k)).2 1 ((flN t k)))) 8 (nI m)) k m).2 1 (flN t k)) 0 0 := by
      unfold s_R_store
      rw [if_neg h5]
    exact g_return d_R_store_184 rfl (Nat.le_of_ble_eq_true rfl) (Nat.le_of_ble_eq_true rfl) ⟨rfl, by rw [hz]; exact hs16⟩
