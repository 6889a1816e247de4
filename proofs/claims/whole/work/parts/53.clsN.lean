/-- a new write lies in the hand -/
def hdL (L : lyC) (q : Nat) : lyC := (fun x => if x = (16, 4, 0) then q else L.1 x, L.2)
def hdC (t : tC) (e : Int32 × Int32 × Int32) : tC := (t.1, fun g => if g = 4 then [e] else t.2.1 g, t.2.2)
theorem hd0 (L : lyC) (q : Nat) : (hdL L q).1 (16, 4, 0) = q := rfl
theorem hdo (L : lyC) (q : Nat) {x : nmC} (h : x ≠ (16, 4, 0)) : (hdL L q).1 x = L.1 x := if_neg h
theorem SysC.hand {E : gE} {K : kC} {L : lyC} {t : tC} {w : wd} (hs : SysC E K L t w) {q : Nat} (hq : q ∉ w.1) (e : Int32 × Int32 × Int32) : SysC E K (hdL L q) (hdC t e) (wn w q (.inr (8, wL e))) := by
  have hK := hs.nc
  have hL : ∀ x : nmC, x.1 < 16 → (hdL L q).1 x = L.1 x := fun x hx => if_neg (fun z => by rw [z] at hx; exact absurd hx (show ¬ 16 < 16 by decide))
  have hw : ∀ g j, g ≠ 4 → (hdL L q).1 (16, g, j) = L.1 (16, g, j) := fun g j hg => if_neg (fun z => hg (congrArg (fun x : nmC => x.2.1) z))
  have ht : ∀ g, g ≠ 4 → (hdC t e).2.1 g = t.2.1 g := fun g hg => if_neg hg
  have h4 : (hdC t e).2.1 4 = [e] := rfl
  have h0 : 0 < K.2.1 := by omega
  have hown : ∀ x, vaC K L t x → wh (wn w q (.inr (8, wL e))) (L.1 x) (ceC E K L t x) := fun x v => (hs.1 _ v).nn hq
  refine hs.fr (16, 4, 0) hq (fun x hx hne => ?_) (fun x hx => if_neg hx) (hd0 L q) (hs.lists h0 (fun x hx => hL x (by omega)) (fun g _ => ⟨hL _ (show 15 < 16 by decide), rfl, rfl⟩) (fun g j _ h => hw g j h) rfl rfl (fun g _ h => ht g h) (fun b e hb _ _ => hb.nn hq) ?_ ?_ ?_ ?_) hs.pn (fun g hg => ?_)
  · by_cases hk : x.1 < 14
    · exact (ceC_nl E K (t := t) (t' := hdC t e) (fun x hx => hL x (by omega)) rfl rfl x hk).1 hx
    · obtain ⟨a, b, d⟩ := x
      match a, hk, hx with
      | 0, hk, _ => exact absurd (show 0 < 14 by decide) hk
      | 1, hk, _ => exact absurd (show 1 < 14 by decide) hk
      | 2, hk, _ => exact absurd (show 2 < 14 by decide) hk
      | 3, hk, _ => exact absurd (show 3 < 14 by decide) hk
      | 4, hk, _ => exact absurd (show 4 < 14 by decide) hk
      | 5, hk, _ => exact absurd (show 5 < 14 by decide) hk
      | 6, hk, _ => exact absurd (show 6 < 14 by decide) hk
      | 7, hk, _ => exact absurd (show 7 < 14 by decide) hk
      | 8, hk, _ => exact absurd (show 8 < 14 by decide) hk
      | 9, hk, _ => exact absurd (show 9 < 14 by decide) hk
      | 10, hk, _ => exact absurd (show 10 < 14 by decide) hk
      | 11, hk, _ => exact absurd (show 11 < 14 by decide) hk
      | 12, hk, _ => exact absurd (show 12 < 14 by decide) hk
      | 13, hk, _ => exact absurd (show 13 < 14 by decide) hk
      | 14, _, hx => exact hx
      | 15, _, hx => exact hx
      | 16, _, hx =>
        have z : (b < K.2.1 ∨ b = 4) ∧ d < ((hdC t e).2.1 b).length := hx
        by_cases hb : b = 4
        · subst hb
          have hd : d < 1 := z.2
          exact absurd (by rw [show d = 0 by omega]) hne
        · rw [ht b hb] at z
          exact z
      | a + 17, _, hx =>
        have z : b = 0 ∧ d = 0 ∧ a + 17 < 17 := hx
        omega
  · have e9 : ceC E K (hdL L q) (hdC t e) (14, 0, 0) = ceC E K L t (14, 0, 0) := by
      show Sum.inr (9, [Value.ref (elC E (hdL L q) 0), Value.int (nI ((hdC t e).2.1 0).length), Value.int (L.2.1 0)]) = Sum.inr (9, [Value.ref (elC E L 0), Value.int (nI (t.2.1 0).length), Value.int (L.2.1 0)])
      have q1 : elC E (hdL L q) 0 = elC E L 0 := by
        unfold elC
        rw [hL (15, 0, 0) (show 15 < 16 by decide)]
        rfl
      rw [q1, ht 0 (by decide)]
    rw [e9]
    exact hown (14, 0, 0) (show vaC K L t (14, 0, 0) from ⟨h0, rfl⟩)
  · intro hc
    have e9 : ceC E K (hdL L q) (hdC t e) (15, 0, 0) = ceC E K L t (15, 0, 0) := by
      show (Sum.inl (E.2.2.1 6, L.2.2 0, .inr (.inr (.inr (.inr (fun i => if i < ((hdC t e).2.1 0).length then some ((hdL L q).1 (16, 0, i)) else none))))) : va_E) = (Sum.inl (E.2.2.1 6, L.2.2 0, .inr (.inr (.inr (.inr (fun i => if i < (t.2.1 0).length then some (L.1 (16, 0, i)) else none))))) : va_E)
      rw [ht 0 (by decide), funext (fun i => by rw [hw 0 i (by decide)] : ∀ i, (if i < (t.2.1 0).length then some ((hdL L q).1 (16, 0, i)) else none) = if i < (t.2.1 0).length then some (L.1 (16, 0, i)) else none)]
    rw [e9, hL (15, 0, 0) (show 15 < 16 by decide)]
    exact hown (15, 0, 0) (show vaC K L t (15, 0, 0) from ⟨h0, rfl, hc⟩)
  · intro j hj
    rw [ht 0 (by decide)] at hj
    have e9 : ceC E K (hdL L q) (hdC t e) (16, 0, j) = ceC E K L t (16, 0, j) := by
      show Sum.inr (8, wL (((hdC t e).2.1 0).getD j (0, 0, 0))) = Sum.inr (8, wL ((t.2.1 0).getD j (0, 0, 0)))
      rw [ht 0 (by decide)]
    rw [e9, hw 0 j (by decide)]
    exact hown (16, 0, j) (show vaC K L t (16, 0, j) from ⟨Or.inl h0, hj⟩)
  · intro j hj
    have hj1 : j < 1 := hj
    have hj0 : j = 0 := by omega
    subst hj0
    rw [hd0]
    exact wh.ns
  · rw [ht g (by omega)]
    exact hs.2.2.2.2 g hg

set_option maxHeartbeats 4000000 in
set_option maxRecDepth 100000 in
theorem c_W_init {E : gE} {w : wd} {a : Nat} {e : Int32 × Int32 × Int32} (ha : wh w a (.inr (8, wL e))) (x y z : Int32) : Cn E y_W_init 1 0 0 [.ref a, .int x, .int y, .int z] w (fun r w' => r = none ∧ w' = wu w a (.inr (8, wL (x, y, z)))) := by
  refine Cn.of (by decide) (Nat.le_of_ble_eq_true rfl) (fun A => ?_)
  show G E y_W_init _ 0 [(0, .ref a), (1, .int x), (2, .int y), (3, .int z)] [] w 0 0
  refine g_aload_n (j := 0) d_W_init_0 rfl ?_
  refine g_objInit d_W_init_1 lk_W_1 wo_in wo_co ⟨(Nat.le_of_ble_eq_true rfl), (Nat.le_of_ble_eq_true rfl)⟩ (Nat.le_of_ble_eq_true rfl) ?_
  refine g_aload_n (j := 0) d_W_init_4 rfl ?_
  refine g_iload_n (j := 1) d_W_init_5 rfl ?_
  refine g_put d_W_init_6 fw_W_7 (Or.inr rfl) ha rfl rfl (Nat.le_of_ble_eq_true rfl) ?_
  refine g_aload_n (j := 0) d_W_init_9 rfl ?_
  refine g_iload_n (j := 2) d_W_init_10 rfl ?_
  refine g_put d_W_init_11 fw_W_13 (Or.inr rfl) ha.us rfl rfl (Nat.le_of_ble_eq_true rfl) ?_
  refine g_aload_n (j := 0) d_W_init_14 rfl ?_
  refine g_iload_n (j := 3) d_W_init_15 rfl ?_
  refine g_put d_W_init_16 fw_W_16 (Or.inr rfl) ha.us.us rfl rfl (Nat.le_of_ble_eq_true rfl) ?_
  refine g_return d_W_init_19 rfl (Nat.le_of_ble_eq_true rfl) (Nat.le_of_ble_eq_true rfl) ⟨rfl, ?_⟩
  rw [wu_wu, wu_wu]
  rfl
theorem wi_W : Cond.instantiable "LeasedFiles$Write" 3 ∈ WS := ws_at 410 (by decide +kernel) rfl
def s_F_addLast (K : kC) (t : tC) (f : Nat) (x y z : Int32) : tC := if (256 : Int32) ≤ s_A_size K t f then t else adC (hdC t (x, y, z)) f
set_option maxHeartbeats 4000000 in
set_option maxRecDepth 100000 in
theorem c_F_addLast {E : gE} {w : wd} {K : kC} {L : lyC} {t : tC} (hs : SysC E K L t w) (f : Nat) (x y z : Int32) (hf : f < K.2.1) : Cn E y_F_addLast 8 2 403 [.ref (L.1 (10, f, 0)), .int x, .int y, .int z] w (fun r w' => r = none ∧ ∃ L' : lyC, (∀ x : nmC, x.1 < 15 → L'.1 x = L.1 x) ∧ SysC E K L' (s_F_addLast K t f x y z) w') := by
  refine Cn.of (by decide) (Nat.le_of_ble_eq_true rfl) (fun A => ?_)
  show G E y_F_addLast _ 0 [(0, .ref (L.1 (10, f, 0))), (1, .int x), (2, .int y), (3, .int z)] [] w 0 0
  have h4 := hs.nc
  have h5 := hs.2.2.2.2 f hf
  refine g_aload_n (j := 0) d_F_addLast_0 rfl ?_
  refine g_get d_F_addLast_1 f_F_12 (hs.fl hf) rfl ?_
  refine g_callV (c_A_size hs f hf) ok_A_size lk_F_43 in_A_size se_A_size (hs.lst hf) rfl d_F_addLast_4 rfl rfl (Nat.le_of_ble_eq_true rfl) ⟨(Nat.le_of_ble_eq_true rfl), (Nat.le_of_ble_eq_true rfl)⟩ (Nat.le_of_ble_eq_true rfl) (Nat.le_of_ble_eq_true rfl) (fun r w' hq => ?_)
  obtain ⟨rfl, rfl⟩ := hq
  refine g_sipush (v := 256) d_F_addLast_7 (by decide) ?_
  refine g_icmp_ge (tgt := 31) d_F_addLast_10 (by decide) (fun h => ?_) (fun h => ?_)
  · refine g_return d_F_addLast_31 rfl (Nat.le_of_ble_eq_true rfl) (Nat.le_of_ble_eq_true rfl) ⟨rfl, L, fun _ _ => rfl, ?_⟩
    rw [s_F_addLast, if_pos h]
    exact hs
  · have hlen : (t.2.1 f).length < 256 := by
      have h9 : ¬ nI 256 ≤ nI (t.2.1 f).length := h
      rw [nI_leI (by omega) (by omega)] at h9
      omega
    refine g_aload_n (j := 0) d_F_addLast_13 rfl ?_
    refine g_get d_F_addLast_14 f_F_12 (hs.fl hf) rfl ?_
    refine g_new (fs := wL (0, 0, 0)) t_W d_F_addLast_17 (ci := 8) rfl u_W tk_W cl_F_37 wi_W ok_W_init.2.1 (by decide) (Nat.le_of_ble_eq_true rfl) (Nat.le_of_ble_eq_true rfl) (fun q hq => ?_)
    refine g_dup d_F_addLast_20 rfl ?_
    refine g_iload_n (j := 1) d_F_addLast_21 rfl ?_
    refine g_iload_n (j := 2) d_F_addLast_22 rfl ?_
    refine g_iload_n (j := 3) d_F_addLast_23 rfl ?_
    refine g_callI (c_W_init (e := (0, 0, 0)) wh.ns x y z) ok_W_init rfl rfl lk_F_47 in_W_init d_F_addLast_24 rfl rfl (Nat.le_of_ble_eq_true rfl) ⟨(Nat.le_of_ble_eq_true rfl), (Nat.le_of_ble_eq_true rfl)⟩ (Nat.le_of_ble_eq_true rfl) (Nat.le_of_ble_eq_true rfl) (fun r w'' hq2 => ?_)
    obtain ⟨rfl, rfl⟩ := hq2
    rw [wu_wn]
    have hs2 := hs.hand hq (x, y, z)
    generalize wn w' q (.inr (8, wL (x, y, z))) = w2 at hs2 ⊢
    have e4 : ((hdC t (x, y, z)).2.1 4).length = 1 := rfl
    have ef : (hdC t (x, y, z)).2.1 f = t.2.1 f := if_neg (by omega)
    have e1 : (hdL L q).1 (14, f, 0) = L.1 (14, f, 0) := hdo L q (fun z => by cases z)
    have e2 : (hdL L q).1 (16, 4, 0) = q := hd0 L q
    have hc := c_A_add0 hs2 f hf (by rw [ef]; omega) e4
    have hl := hs2.lst hf
    rw [e1, e2] at hc
    rw [e1] at hl
    refine g_callV hc ok_A_add0 lk_F_50 in_A_add0 se_A_add0 hl rfl d_F_addLast_27 rfl rfl (Nat.le_of_ble_eq_true rfl) ⟨(Nat.le_of_ble_eq_true rfl), (Nat.le_of_ble_eq_true rfl)⟩ (Nat.le_of_ble_eq_true rfl) (Nat.le_of_ble_eq_true rfl) (fun r w3 hq3 => ?_)
    obtain ⟨rfl, L', hL, hs3⟩ := hq3
    refine g_pop d_F_addLast_30 rfl ?_
    refine g_return d_F_addLast_31 rfl (Nat.le_of_ble_eq_true rfl) (Nat.le_of_ble_eq_true rfl) ⟨rfl, L', fun x hx => (hL x hx).trans (if_neg (fun z => by rw [z] at hx; exact absurd hx (show ¬ 16 < 15 by decide))), ?_⟩
    rw [s_F_addLast, if_neg h]
    exact hs3
