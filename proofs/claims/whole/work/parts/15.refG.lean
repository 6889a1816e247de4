/-- clients and files, by their numbers -/
def cN (t : tR) : Nat := (t.1 0).toNatClampNeg
def fN (t : tR) : Nat := (t.1 1).toNatClampNeg
def okC (t : tR) : Prop := t.1 0 = nI (cN t) ∧ cN t ≤ 4
def okF (t : tR) : Prop := t.1 1 = nI (fN t) ∧ fN t ≤ 4
/-- isFree, client by client -/
def frL (t : tR) (f : Nat) : Nat → Int32
  | 0 => if t.1 4 < t.1 7 then 0 else 1
  | c + 1 => if frL t f c = 0 then 0 else if s_R_isLeased t c f = 0 then 1 else 0
def s_R_isFree (t : tR) (f : Nat) : Int32 := frL t f (cN t)
theorem frL_b (t : tR) (f : Nat) : ∀ c, frL t f c = 0 ∨ frL t f c = 1 := by
  intro c
  induction c with
  | zero =>
    unfold frL
    split
    · exact Or.inl rfl
    · exact Or.inr rfl
  | succ c ih =>
    unfold frL
    split
    · exact Or.inl rfl
    · split
      · exact Or.inr rfl
      · exact Or.inl rfl

set_option maxHeartbeats 4000000 in
set_option maxRecDepth 100000 in
theorem l_R_isFree {E : gE} {w : wd} {ad : Nat → Nat} {t : tR} (hs : SysR E ad t w) (f : Nat) (hf : f < 4) (hc : okC t) {A : Nat → Prop} : ∀ (r n : Nat) (b : Int32), frL t f n = b → r + n = cN t → G E y_R_isFree (rmD 2 0 0, A, (fun r w' => r = some (.int (s_R_isFree t f)) ∧ w' = w), fun _ => True) 19 [(3, .int (nI n)), (2, .int b), (0, .ref (ad 0)), (1, .int (nI f))] [] w 0 0 := by
  have hc2 := hc.2
  intro r
  induction r with
  | zero =>
    intro n b hv hr
    refine g_iload_n (j := 0) d_R_isFree_19 rfl ?_
    refine g_aload_n (j := 2) d_R_isFree_20 rfl ?_
    refine g_get d_R_isFree_21 f_R_83 hs.obj rfl ?_
    refine g_norm (y := nI (cN t)) hc.1 ?_
    refine g_icmp_ge (tgt := 52) d_R_isFree_24 (by decide) (fun h1 => ?_) (fun h => absurd ((nI_leI (by omega) (by omega)).mpr (by omega)) h)
    refine g_iload_n (j := 1) d_R_isFree_52 rfl ?_
    have he : n = cN t := by omega
    subst he
    exact g_zreturn d_R_isFree_53 rfl (by rcases frL_b t f (cN t) with z | z <;> rw [← hv, z] <;> rfl) (Nat.le_of_ble_eq_true rfl) (Nat.le_of_ble_eq_true rfl) ⟨by rw [← hv]; rfl, rfl⟩
  | succ r ih =>
    intro n b hv hr
    refine g_iload_n (j := 0) d_R_isFree_19 rfl ?_
    refine g_aload_n (j := 2) d_R_isFree_20 rfl ?_
    refine g_get d_R_isFree_21 f_R_83 hs.obj rfl ?_
    refine g_norm (y := nI (cN t)) hc.1 ?_
    refine g_icmp_ge (tgt := 52) d_R_isFree_24 (by decide) (fun h => absurd h (fun z => absurd ((nI_leI (by omega) (by omega)).mp z) (by omega))) (fun h1 => ?_)
    refine g_iload_n (j := 1) d_R_isFree_27 rfl ?_
    refine g_if_eq (tgt := 44) d_R_isFree_28 (by decide) (fun h2 => ?_) (fun h2 => ?_)
    · skip
      refine g_iconst (v := 0) d_R_isFree_44 (by decide) ?_
      refine g_istore_n (lv' := [(2, _), (3, _), (0, _), (1, _)]) d_R_isFree_45 (by decide) rfl ?_
      refine g_iinc (j := 1) (v := nI (n + 1)) (lv' := [(3, _), (2, _), (0, _), (1, _)]) d_R_isFree_46 rfl (nI_1 n) (by decide) rfl ?_
      refine g_goto (tgt := 19) d_R_isFree_49 (by decide) ?_
      exact ih (n + 1) _ (by rw [frL, hv, if_pos h2]) (by omega)
    · skip
      refine g_aload_n (j := 2) d_R_isFree_31 rfl ?_
      refine g_iload_n (j := 0) d_R_isFree_32 rfl ?_
      refine g_iload_n (j := 3) d_R_isFree_33 rfl ?_
      refine g_callV (c_R_isLeased hs n f (by omega) (by omega)) ok_R_isLeased lk_R_132 in_R_isLeased se_R_isLeased hs.obj rfl d_R_isFree_34 rfl rfl (Nat.le_of_ble_eq_true rfl) ⟨(Nat.le_of_ble_eq_true rfl), (Nat.le_of_ble_eq_true rfl)⟩ (Nat.le_of_ble_eq_true rfl) (Nat.le_of_ble_eq_true rfl) (fun r w' hq => ?_)
      obtain ⟨rfl, rfl⟩ := hq
      refine g_if_ne (tgt := 44) d_R_isFree_37 (by decide) (fun h3 => ?_) (fun h3 => ?_)
      · skip
        refine g_iconst (v := 0) d_R_isFree_44 (by decide) ?_
        refine g_istore_n (lv' := [(2, _), (3, _), (0, _), (1, _)]) d_R_isFree_45 (by decide) rfl ?_
        refine g_iinc (j := 1) (v := nI (n + 1)) (lv' := [(3, _), (2, _), (0, _), (1, _)]) d_R_isFree_46 rfl (nI_1 n) (by decide) rfl ?_
        refine g_goto (tgt := 19) d_R_isFree_49 (by decide) ?_
        exact ih (n + 1) _ (by rw [frL, hv, if_neg h2, if_neg h3]) (by omega)
      · skip
        refine g_iconst (v := 1) d_R_isFree_40 (by decide) ?_
        refine g_goto (tgt := 45) d_R_isFree_41 (by decide) ?_
        refine g_istore_n (lv' := [(2, _), (3, _), (0, _), (1, _)]) d_R_isFree_45 (by decide) rfl ?_
        refine g_iinc (j := 1) (v := nI (n + 1)) (lv' := [(3, _), (2, _), (0, _), (1, _)]) d_R_isFree_46 rfl (nI_1 n) (by decide) rfl ?_
        refine g_goto (tgt := 19) d_R_isFree_49 (by decide) ?_
        exact ih (n + 1) _ (by rw [frL, hv, if_neg h2, if_pos h3]) (by omega)

set_option maxHeartbeats 4000000 in
set_option maxRecDepth 100000 in
theorem c_R_isFree {E : gE} {w : wd} {ad : Nat → Nat} {t : tR} (hs : SysR E ad t w) (f : Nat) (hf : f < 4) (hc : okC t) : Cn E y_R_isFree 2 0 0 [.ref (ad 0), .int (nI f)] w (fun r w' => r = some (.int (s_R_isFree t f)) ∧ w' = w) := by
  refine Cn.of (by decide) (Nat.le_of_ble_eq_true rfl) (fun A => ?_)
  show G E y_R_isFree _ 0 [(0, .ref (ad 0)), (1, .int (nI f))] [] w 0 0
  refine g_aload_n (j := 0) d_R_isFree_0 rfl ?_
  refine g_get d_R_isFree_1 f_R_139 hs.obj rfl ?_
  refine g_aload_n (j := 0) d_R_isFree_4 rfl ?_
  refine g_get d_R_isFree_5 f_R_122 hs.obj rfl ?_
  refine g_icmp_gt (tgt := 15) d_R_isFree_8 (by decide) (fun h1 => ?_) (fun h1 => ?_)
  · skip
    refine g_iconst (v := 0) d_R_isFree_15 (by decide) ?_
    refine g_istore_n (lv' := [(2, _), (0, _), (1, _)]) d_R_isFree_16 (by decide) rfl ?_
    refine g_iconst (v := 0) d_R_isFree_17 (by decide) ?_
    refine g_istore_n (lv' := [(3, _), (2, _), (0, _), (1, _)]) d_R_isFree_18 (by decide) rfl ?_
    exact l_R_isFree hs f hf hc (cN t) 0 _ (by rw [frL, if_pos h1]) (by omega)
  · skip
    refine g_iconst (v := 1) d_R_isFree_11 (by decide) ?_
    refine g_goto (tgt := 16) d_R_isFree_12 (by decide) ?_
    refine g_istore_n (lv' := [(2, _), (0, _), (1, _)]) d_R_isFree_16 (by decide) rfl ?_
    refine g_iconst (v := 0) d_R_isFree_17 (by decide) ?_
    refine g_istore_n (lv' := [(3, _), (2, _), (0, _), (1, _)]) d_R_isFree_18 (by decide) rfl ?_
    exact l_R_isFree hs f hf hc (cN t) 0 _ (by rw [frL, if_neg h1]) (by omega)

/-- crash, file by file: what is dropped, how many there were -/
def crT (t : tR) (c : Nat) : Nat → tR
  | 0 => t
  | f + 1 => stA (crT t c f) 19 (4 * c + f) 0
def crN (t : tR) (c : Nat) : Nat → Int32
  | 0 => 0
  | f + 1 => if (crT t c f).2 19 (4 * c + f) = 0 then crN t c f else crN t c f + 1
theorem crT_1 (t : tR) (c : Nat) : ∀ f, (crT t c f).1 = t.1 := by
  intro f
  induction f with
  | zero => rfl
  | succ f ih => exact ih
def s_R_crash (t : tR) (c : Nat) : tR × Int32 := if s_R_isClient t (nI c) = 0 then (t, -1) else (stA (stA (crT t c (fN t)) 11 c 0) 16 c 0, crN t c (fN t))

set_option maxHeartbeats 4000000 in
set_option maxRecDepth 100000 in
theorem l_R_crash {E : gE} {ad : Nat → Nat} {t : tR} (c : Nat) (hc : c < 4) (hF : okF t) {A : Nat → Prop} : ∀ (r n : Nat) (b : Int32) {w : wd}, crN t c n = b → SysR E ad (crT t c n) w → r + n = fN t → G E y_R_crash (rmD 2 0 0, A, (fun r w' => r = some (.int (crN t c (fN t))) ∧ SysR E ad (stA (stA (crT t c (fN t)) 11 c 0) 16 c 0) w'), fun _ => True) 14 [(3, .int (nI n)), (2, .int b), (0, .ref (ad 0)), (1, .int (nI c))] [] w 0 0 := by
  have hc2 := hF.2
  intro r
  induction r with
  | zero =>
    intro n b w hv hs hr
    have hz : (crT t c n).1 1 = nI (fN t) := (congrFun (crT_1 t c n) 1).trans hF.1
    refine g_iload_n (j := 0) d_R_crash_14 rfl ?_
    refine g_aload_n (j := 2) d_R_crash_15 rfl ?_
    refine g_get d_R_crash_16 f_R_87 hs.obj rfl ?_
    refine g_norm (y := nI (fN t)) hz ?_
    refine g_icmp_ge (tgt := 60) d_R_crash_19 (by decide) (fun h1 => ?_) (fun h => absurd ((nI_leI (by omega) (by omega)).mpr (by omega)) h)
    have he : n = fN t := by omega
    subst he
    subst hv
    refine g_aload_n (j := 2) d_R_crash_60 rfl ?_
    refine g_get d_R_crash_61 f_R_43 hs.obj rfl ?_
    refine g_iload_n (j := 3) d_R_crash_64 rfl ?_
    refine g_iconst (v := 0) d_R_crash_65 (by decide) ?_
    refine r_iast (k := 11) (j := c) d_R_crash_66 hs (by decide) rfl rfl (show c < 4 by omega) (fun w2 hs3 => ?_)
    refine g_aload_n (j := 2) d_R_crash_67 rfl ?_
    refine g_get d_R_crash_68 f_R_59 hs3.obj rfl ?_
    refine g_iload_n (j := 3) d_R_crash_71 rfl ?_
    refine g_iconst (v := 0) d_R_crash_72 (by decide) ?_
    refine r_zast (k := 16) (j := c) d_R_crash_73 hs3 (by decide) rfl rfl (show c < 4 by omega) (by decide) (fun w4 hs5 => ?_)
    refine g_iload_n (j := 1) d_R_crash_74 rfl ?_
    exact g_ireturn d_R_crash_75 rfl (Nat.le_of_ble_eq_true rfl) (Nat.le_of_ble_eq_true rfl) ⟨rfl, hs5⟩
  | succ r ih =>
    intro n b w hv hs hr
    have hz : (crT t c n).1 1 = nI (fN t) := (congrFun (crT_1 t c n) 1).trans hF.1
    refine g_iload_n (j := 0) d_R_crash_14 rfl ?_
    refine g_aload_n (j := 2) d_R_crash_15 rfl ?_
    refine g_get d_R_crash_16 f_R_87 hs.obj rfl ?_
    refine g_norm (y := nI (fN t)) hz ?_
    refine g_icmp_ge (tgt := 60) d_R_crash_19 (by decide) (fun h => absurd h (fun z => absurd ((nI_leI (by omega) (by omega)).mp z) (by omega))) (fun h1 => ?_)
    refine g_aload_n (j := 2) d_R_crash_22 rfl ?_
    refine g_get d_R_crash_23 f_R_68 hs.obj rfl ?_
    refine g_iconst (v := 4) d_R_crash_26 (by decide) ?_
    refine g_iload_n (j := 3) d_R_crash_27 rfl ?_
    refine g_imul d_R_crash_28 ?_
    refine g_norm (y := nI (4 * c)) (pk_mul 4 c) ?_
    refine g_iload_n (j := 0) d_R_crash_29 rfl ?_
    refine g_iadd d_R_crash_30 ?_
    refine g_norm (y := nI ((4 * c) + n)) (nI_add (4 * c) n) ?_
    refine r_zald (k := 19) (j := (4 * c) + n) d_R_crash_31 hs (by decide) rfl rfl (show (4 * c) + n < 16 by omega) ?_
    refine g_if_eq (tgt := 41) d_R_crash_32 (by decide) (fun h2 => ?_) (fun h2 => ?_)
    · skip
      refine g_iload_n (j := 1) d_R_crash_41 rfl ?_
      refine g_istore_n (lv' := [(2, _), (3, _), (0, _), (1, _)]) d_R_crash_42 (by decide) rfl ?_
      refine g_aload_n (j := 2) d_R_crash_43 rfl ?_
      refine g_get d_R_crash_44 f_R_68 hs.obj rfl ?_
      refine g_iconst (v := 4) d_R_crash_47 (by decide) ?_
      refine g_iload_n (j := 3) d_R_crash_48 rfl ?_
      refine g_imul d_R_crash_49 ?_
      refine g_norm (y := nI (4 * c)) (pk_mul 4 c) ?_
      refine g_iload_n (j := 1) d_R_crash_50 rfl ?_
      refine g_iadd d_R_crash_51 ?_
      refine g_norm (y := nI ((4 * c) + n)) (nI_add (4 * c) n) ?_
      refine g_iconst (v := 0) d_R_crash_52 (by decide) ?_
      refine r_zast (k := 19) (j := (4 * c) + n) d_R_crash_53 hs (by decide) rfl rfl (show (4 * c) + n < 16 by omega) (by decide) (fun w3 hs4 => ?_)
      refine g_iinc (j := 1) (v := nI (n + 1)) (lv' := [(3, _), (2, _), (0, _), (1, _)]) d_R_crash_54 rfl (nI_1 n) (by decide) rfl ?_
      refine g_goto (tgt := 14) d_R_crash_57 (by decide) ?_
      exact ih (n + 1) _ (by rw [crN, hv, if_pos h2]) hs4 (by omega)
    · skip
      refine g_iload_n (j := 1) d_R_crash_35 rfl ?_
      refine g_iconst (v := 1) d_R_crash_36 (by decide) ?_
      refine g_iadd d_R_crash_37 ?_
      refine g_goto (tgt := 42) d_R_crash_38 (by decide) ?_
      refine g_istore_n (lv' := [(2, _), (3, _), (0, _), (1, _)]) d_R_crash_42 (by decide) rfl ?_
      refine g_aload_n (j := 2) d_R_crash_43 rfl ?_
      refine g_get d_R_crash_44 f_R_68 hs.obj rfl ?_
      refine g_iconst (v := 4) d_R_crash_47 (by decide) ?_
      refine g_iload_n (j := 3) d_R_crash_48 rfl ?_
      refine g_imul d_R_crash_49 ?_
      refine g_norm (y := nI (4 * c)) (pk_mul 4 c) ?_
      refine g_iload_n (j := 1) d_R_crash_50 rfl ?_
      refine g_iadd d_R_crash_51 ?_
      refine g_norm (y := nI ((4 * c) + n)) (nI_add (4 * c) n) ?_
      refine g_iconst (v := 0) d_R_crash_52 (by decide) ?_
      refine r_zast (k := 19) (j := (4 * c) + n) d_R_crash_53 hs (by decide) rfl rfl (show (4 * c) + n < 16 by omega) (by decide) (fun w5 hs6 => ?_)
      refine g_iinc (j := 1) (v := nI (n + 1)) (lv' := [(3, _), (2, _), (0, _), (1, _)]) d_R_crash_54 rfl (nI_1 n) (by decide) rfl ?_
      refine g_goto (tgt := 14) d_R_crash_57 (by decide) ?_
      exact ih (n + 1) _ (by rw [crN, hv, if_neg h2]) hs6 (by omega)

set_option maxHeartbeats 4000000 in
set_option maxRecDepth 100000 in
theorem c_R_crash {E : gE} {w : wd} {ad : Nat → Nat} {t : tR} (hs : SysR E ad t w) (c : Nat) (hc : c < 4) (hF : okF t) : Cn E y_R_crash 2 0 0 [.ref (ad 0), .int (nI c)] w (fun r w' => r = some (.int (s_R_crash t c).2) ∧ SysR E ad (s_R_crash t c).1 w') := by
  refine Cn.of (by decide) (Nat.le_of_ble_eq_true rfl) (fun A => ?_)
  show G E y_R_crash _ 0 [(0, .ref (ad 0)), (1, .int (nI c))] [] w 0 0
  refine g_aload_n (j := 0) d_R_crash_0 rfl ?_
  refine g_iload_n (j := 1) d_R_crash_1 rfl ?_
  refine g_callV (c_R_isClient hs (nI c)) ok_R_isClient lk_R_103 in_R_isClient se_R_isClient hs.obj rfl d_R_crash_2 rfl rfl (Nat.le_of_ble_eq_true rfl) ⟨(Nat.le_of_ble_eq_true rfl), (Nat.le_of_ble_eq_true rfl)⟩ (Nat.le_of_ble_eq_true rfl) (Nat.le_of_ble_eq_true rfl) (fun r w' hq => ?_)
  obtain ⟨rfl, rfl⟩ := hq
  refine g_if_ne (tgt := 10) d_R_crash_5 (by decide) (fun h1 => ?_) (fun h1 => ?_)
  · skip
    refine g_iconst (v := 0) d_R_crash_10 (by decide) ?_
    refine g_istore_n (lv' := [(2, _), (0, _), (1, _)]) d_R_crash_11 (by decide) rfl ?_
    refine g_iconst (v := 0) d_R_crash_12 (by decide) ?_
    refine g_istore_n (lv' := [(3, _), (2, _), (0, _), (1, _)]) d_R_crash_13 (by decide) rfl ?_
    have e9 : s_R_crash t c = (stA (stA (crT t c (fN t)) 11 c 0) 16 c 0, crN t c (fN t)) := if_neg h1
    rw [e9]
    exact l_R_crash c hc hF (fN t) 0 0 rfl hs (by omega)
  · skip
    refine g_iconst (v := (-1)) d_R_crash_8 (by decide) ?_
    have e9 : s_R_crash t c = (t, -1) := if_pos h1
    rw [e9]
    exact g_ireturn d_R_crash_9 rfl (Nat.le_of_ble_eq_true rfl) (Nat.le_of_ble_eq_true rfl) ⟨rfl, hs⟩

def haT (t : tR) : Nat → tR
  | 0 => t
  | k + 1 => stA (haT t k) 2 k 0
def s_R_halt (t : tR) : tR × Int32 := if t.1 5 = 0 then (haT (stF (stF t 5 1) 8 0) 16, t.1 8) else (t, -1)

set_option maxHeartbeats 4000000 in
set_option maxRecDepth 100000 in
theorem l_R_halt {E : gE} {ad : Nat → Nat} {t : tR} (v : Int32) {A : Nat → Prop} : ∀ (r n : Nat) {w : wd}, SysR E ad (haT t n) w → r + n = 16 → G E y_R_halt (rmD 1 0 0, A, (fun r w' => r = some (.int v) ∧ SysR E ad (haT t 16) w'), fun _ => True) 26 [(2, .int (nI n)), (1, .int v), (0, .ref (ad 0))] [] w 0 0 := by
  intro r
  induction r with
  | zero =>
    intro n w hs hr
    refine g_iload_n (j := 0) d_R_halt_26 rfl ?_
    refine g_bipush (v := 16) d_R_halt_27 (by decide) ?_
    refine g_icmp_ge (tgt := 45) d_R_halt_29 (by decide) (fun h1 => ?_) (fun h => absurd ((nI_leI (a := 16) (by omega) (by omega)).mpr (by omega)) h)
    have he : n = 16 := by omega
    subst he
    refine g_iload_n (j := 1) d_R_halt_45 rfl ?_
    exact g_ireturn d_R_halt_46 rfl (Nat.le_of_ble_eq_true rfl) (Nat.le_of_ble_eq_true rfl) ⟨rfl, hs⟩
  | succ r ih =>
    intro n w hs hr
    refine g_iload_n (j := 0) d_R_halt_26 rfl ?_
    refine g_bipush (v := 16) d_R_halt_27 (by decide) ?_
    refine g_icmp_ge (tgt := 45) d_R_halt_29 (by decide) (fun h => absurd h (fun z => absurd ((nI_leI (a := 16) (by omega) (by omega)).mp z) (by omega))) (fun h1 => ?_)
    refine g_aload_n (j := 2) d_R_halt_32 rfl ?_
    refine g_get d_R_halt_33 f_R_16 hs.obj rfl ?_
    refine g_iload_n (j := 0) d_R_halt_36 rfl ?_
    refine g_iconst (v := 0) d_R_halt_37 (by decide) ?_
    refine r_iast (k := 2) (j := n) d_R_halt_38 hs (by decide) rfl rfl (show n < 16 by omega) (fun w2 hs3 => ?_)
    refine g_iinc (j := 0) (v := nI (n + 1)) (lv' := [(2, _), (1, _), (0, _)]) d_R_halt_39 rfl (nI_1 n) (by decide) rfl ?_
    refine g_goto (tgt := 26) d_R_halt_42 (by decide) ?_
    exact ih (n + 1) hs3 (by omega)

set_option maxHeartbeats 4000000 in
set_option maxRecDepth 100000 in
theorem c_R_halt {E : gE} {w : wd} {ad : Nat → Nat} {t : tR} (hs : SysR E ad t w) : Cn E y_R_halt 1 0 0 [.ref (ad 0)] w (fun r w' => r = some (.int (s_R_halt t).2) ∧ SysR E ad (s_R_halt t).1 w') := by
  refine Cn.of (by decide) (Nat.le_of_ble_eq_true rfl) (fun A => ?_)
  show G E y_R_halt _ 0 [(0, .ref (ad 0))] [] w 0 0
  refine g_aload_n (j := 0) d_R_halt_0 rfl ?_
  refine g_get d_R_halt_1 f_R_165 hs.obj rfl ?_
  refine g_if_eq (tgt := 9) d_R_halt_4 (by decide) (fun h1 => ?_) (fun h1 => ?_)
  · skip
    refine g_aload_n (j := 0) d_R_halt_9 rfl ?_
    refine g_get d_R_halt_10 f_R_125 hs.obj rfl ?_
    refine g_istore_n (lv' := [(1, _), (0, _)]) d_R_halt_13 (by decide) rfl ?_
    refine g_aload_n (j := 1) d_R_halt_14 rfl ?_
    refine g_iconst (v := 1) d_R_halt_15 (by decide) ?_
    refine g_put d_R_halt_16 fw_R_165 (Or.inl rfl) hs.obj rfl rfl (Nat.le_of_ble_eq_true rfl) ?_
    have hs3 : SysR E ad (stF t 5 1) _ := hs.sf (t' := stF t 5 1) (fs := (ceR ad t).set 7 (.int 1)) rfl rfl
    generalize wu _ (ad 0) _ = w2 at hs3 ⊢
    refine g_aload_n (j := 1) d_R_halt_19 rfl ?_
    refine g_iconst (v := 0) d_R_halt_20 (by decide) ?_
    refine g_put d_R_halt_21 fw_R_125 (Or.inl rfl) hs3.obj rfl rfl (Nat.le_of_ble_eq_true rfl) ?_
    have hs5 : SysR E ad (stF (stF t 5 1) 8 0) _ := hs3.sf (t' := stF (stF t 5 1) 8 0) (fs := (ceR ad (stF t 5 1)).set 13 (.int 0)) rfl rfl
    generalize wu _ (ad 0) _ = w4 at hs5 ⊢
    refine g_iconst (v := 0) d_R_halt_24 (by decide) ?_
    refine g_istore_n (lv' := [(2, _), (1, _), (0, _)]) d_R_halt_25 (by decide) rfl ?_
    have e9 : s_R_halt t = (haT (stF (stF t 5 1) 8 0) 16, t.1 8) := if_pos h1
    rw [e9]
    exact l_R_halt _ 16 0 hs5 (by omega)
  · skip
    refine g_iconst (v := (-1)) d_R_halt_7 (by decide) ?_
    have e9 : s_R_halt t = (t, -1) := if_neg h1
    rw [e9]
    exact g_ireturn d_R_halt_8 rfl (Nat.le_of_ble_eq_true rfl) (Nat.le_of_ble_eq_true rfl) ⟨rfl, hs⟩
