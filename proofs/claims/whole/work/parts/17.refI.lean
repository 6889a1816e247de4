theorem send_f (t : tR) (k cc ff wo a b d : Int32) {i : Nat} (h : i ≠ 9) : (s_R_send t k cc ff wo a b d).1 i = t.1 i := by
  unfold s_R_send
  split
  · rfl
  · exact if_neg h
theorem send_a (t : tR) (k cc ff wo a b d : Int32) {i : Nat} (h : i ≠ 23) : (s_R_send t k cc ff wo a b d).2 i = t.2 i := by
  unfold s_R_send
  split
  · rfl
  · show (if i = 23 then _ else if i = 23 then _ else if i = 23 then _ else if i = 23 then _ else if i = 23 then _ else if i = 23 then _ else if i = 23 then _ else t.2 i) = t.2 i
    simp only [if_neg h]
theorem send_p {t : tR} (hp : okP t) (k cc ff wo a b d : Int32) : okP (s_R_send t k cc ff wo a b d) := by
  have h2 := hp.2
  unfold s_R_send
  split
  · exact hp
  · rename_i hne
    have h3 : pN t < 64 := by
      have h9 : pN t ≠ 64 := fun z => hne (by rw [z]; rfl)
      omega
    have e : ∀ x : tR, pN (stF x 9 (nI (pN t + 1))) = pN t + 1 := fun x => nI_clamp (by omega)
    unfold okP
    rw [e]
    exact ⟨rfl, by omega⟩
theorem okW.to {t t' : tR} (h : okW t) (e : t'.1 8 = t.1 8) : okW t' := by
  have e2 : wN t' = wN t := by unfold wN; rw [e]
  unfold okW
  rw [e2, e]
  exact h
theorem okC.to {t t' : tR} (h : okC t) (e : t'.1 0 = t.1 0) : okC t' := by
  have e2 : cN t' = cN t := by unfold cN; rw [e]
  unfold okC
  rw [e2, e]
  exact h
theorem okF.to {t t' : tR} (h : okF t) (e : t'.1 1 = t.1 1) : okF t' := by
  have e2 : fN t' = fN t := by unfold fN; rw [e]
  unfold okF
  rw [e2, e]
  exact h
theorem okE.to {t t' : tR} {k k' : Nat} (h : okE t k) (e5 : t'.2 5 k' = t.2 5 k) (e6 : t'.2 6 k' = t.2 6 k) : okE t' k' := by
  have h5 : clN t' k' = clN t k := by unfold clN; rw [e5]
  have h6 : flN t' k' = flN t k := by unfold flN; rw [e6]
  unfold okE
  rw [h5, h6, e5, e6]
  exact h
/-- what the reference's numbers keep -/
def wfR (t : tR) : Prop := okP t ∧ okW t ∧ okC t ∧ okF t ∧ ∀ k, k < wN t → okE t k
theorem wfR_send {t : tR} (h : wfR t) (k cc ff wo a b d : Int32) : wfR (s_R_send t k cc ff wo a b d) := by
  obtain ⟨h1, h2, h3, h4, h5⟩ := h
  have e8 := send_f t k cc ff wo a b d (i := 8) (by decide)
  have ew : wN (s_R_send t k cc ff wo a b d) = wN t := by unfold wN; rw [e8]
  refine ⟨send_p h1 .., h2.to e8, h3.to (send_f t k cc ff wo a b d (by decide)), h4.to (send_f t k cc ff wo a b d (by decide)), fun j hj => ?_⟩
  rw [ew] at hj
  exact (h5 j hj).to (by rw [send_a t k cc ff wo a b d (by decide)]) (by rw [send_a t k cc ff wo a b d (by decide)])
/-- the recalls, client by client -/
def rcL (t : tR) (c f : Nat) (wo : Int32) : Nat → tR
  | 0 => t
  | n + 1 => if s_R_isLeased (rcL t c f wo n) n f = 0 then rcL t c f wo n else s_R_send (rcL t c f wo n) 4 (nI n) (nI f) wo (nI c) ((rcL t c f wo n).1 6) 0
theorem rcL_f (t : tR) (c f : Nat) (wo : Int32) {i : Nat} (hi : i ≠ 9) : ∀ n, (rcL t c f wo n).1 i = t.1 i := by
  intro n
  induction n with
  | zero => rfl
  | succ n ih =>
    unfold rcL
    split
    · exact ih
    · rw [send_f _ _ _ _ _ _ _ _ hi]
      exact ih
theorem rcL_wf {t : tR} (h : wfR t) (c f : Nat) (wo : Int32) : ∀ n, wfR (rcL t c f wo n) := by
  intro n
  induction n with
  | zero => exact h
  | succ n ih =>
    unfold rcL
    split
    · exact ih
    · exact wfR_send ih ..
def s_R_put160 (t : tR) (c f : Nat) (wo : Int32) : tR := if t.2 5 (foN t f) = nI c then (if t.2 7 (foN t f) = wo then rcL t c f wo (cN t) else t) else t

set_option maxHeartbeats 4000000 in
set_option maxRecDepth 100000 in
theorem l_R_rec {E : gE} {ad : Nat → Nat} {t : tR} (c f : Nat) (wo : Int32) (hf : f < 4) (hwf : wfR t) {A : Nat → Prop} : ∀ (r n : Nat) {w : wd}, SysR E ad (rcL t c f wo n) w → r + n = cN t → G E y_R_putCame (rmD 2 0 0, A, (fun r w' => r = none ∧ SysR E ad (rcL t c f wo (cN t)) w'), fun _ => True) 192 [(7, .int (nI n)), (0, .ref (ad 0)), (1, .int (nI c)), (2, .int (nI f)), (3, .int wo)] [] w 0 0 := by
  have hc4 := hwf.2.2.1.2
  intro r
  induction r with
  | zero =>
    intro n w hs hr
    have hz : (rcL t c f wo n).1 0 = nI (cN t) := (rcL_f t c f wo (by decide) n).trans hwf.2.2.1.1
    have hp9 := (rcL_wf hwf c f wo n).1
    refine g_iload (j := 0) d_R_putCame_192 rfl ?_
    refine g_aload_n (j := 1) d_R_putCame_194 rfl ?_
    refine g_get d_R_putCame_195 f_R_83 hs.obj rfl ?_
    refine g_norm (y := nI (cN t)) hz ?_
    refine g_icmp_ge (tgt := 232) d_R_putCame_198 (by decide) (fun h1 => ?_) (fun h => absurd ((nI_leI (by omega) (by omega)).mpr (by omega)) h)
    have he : n = cN t := by omega
    subst he
    exact g_return d_R_putCame_232 rfl (Nat.le_of_ble_eq_true rfl) (Nat.le_of_ble_eq_true rfl) ⟨rfl, hs⟩
  | succ r ih =>
    intro n w hs hr
    have hz : (rcL t c f wo n).1 0 = nI (cN t) := (rcL_f t c f wo (by decide) n).trans hwf.2.2.1.1
    have hp9 := (rcL_wf hwf c f wo n).1
    refine g_iload (j := 0) d_R_putCame_192 rfl ?_
    refine g_aload_n (j := 1) d_R_putCame_194 rfl ?_
    refine g_get d_R_putCame_195 f_R_83 hs.obj rfl ?_
    refine g_norm (y := nI (cN t)) hz ?_
    refine g_icmp_ge (tgt := 232) d_R_putCame_198 (by decide) (fun h => absurd h (fun z => absurd ((nI_leI (by omega) (by omega)).mp z) (by omega))) (fun h1 => ?_)
    refine g_aload_n (j := 1) d_R_putCame_201 rfl ?_
    refine g_iload (j := 0) d_R_putCame_202 rfl ?_
    refine g_iload_n (j := 3) d_R_putCame_204 rfl ?_
    refine g_callV (c_R_isLeased hs n f (by omega) (by omega)) ok_R_isLeased lk_R_132 in_R_isLeased se_R_isLeased hs.obj rfl d_R_putCame_205 rfl rfl (Nat.le_of_ble_eq_true rfl) ⟨(Nat.le_of_ble_eq_true rfl), (Nat.le_of_ble_eq_true rfl)⟩ (Nat.le_of_ble_eq_true rfl) (Nat.le_of_ble_eq_true rfl) (fun r w' hq => ?_)
    obtain ⟨rfl, rfl⟩ := hq
    refine g_if_eq (tgt := 226) d_R_putCame_208 (by decide) (fun h2 => ?_) (fun h2 => ?_)
    · skip
      refine g_iinc (j := 0) (v := nI (n + 1)) (lv' := [(7, _), (0, _), (1, _), (2, _), (3, _)]) d_R_putCame_226 rfl (nI_1 n) (by decide) rfl ?_
      refine g_goto (tgt := 192) d_R_putCame_229 (by decide) ?_
      exact ih (n + 1) (show SysR E ad (rcL t c f wo (n + 1)) _ from (by unfold rcL; rw [if_pos h2]; exact hs)) (by omega)
    · skip
      refine g_aload_n (j := 1) d_R_putCame_211 rfl ?_
      refine g_iconst (v := 4) d_R_putCame_212 (by decide) ?_
      refine g_iload (j := 0) d_R_putCame_213 rfl ?_
      refine g_iload_n (j := 3) d_R_putCame_215 rfl ?_
      refine g_iload_n (j := 4) d_R_putCame_216 rfl ?_
      refine g_iload_n (j := 2) d_R_putCame_217 rfl ?_
      refine g_aload_n (j := 1) d_R_putCame_218 rfl ?_
      refine g_get d_R_putCame_219 f_R_136 hs.obj rfl ?_
      refine g_iconst (v := 0) d_R_putCame_222 (by decide) ?_
      refine g_callV (c_R_send hs 4 (nI n) (nI f) wo (nI c) ((rcL t c f wo n).1 6) 0 hp9) ok_R_send lk_R_99 in_R_send se_R_send hs.obj rfl d_R_putCame_223 rfl rfl (Nat.le_of_ble_eq_true rfl) ⟨(Nat.le_of_ble_eq_true rfl), (Nat.le_of_ble_eq_true rfl)⟩ (Nat.le_of_ble_eq_true rfl) (Nat.le_of_ble_eq_true rfl) (fun r w' hq => ?_)
      obtain ⟨rfl, hs3⟩ := hq
      refine g_iinc (j := 0) (v := nI (n + 1)) (lv' := [(7, _), (0, _), (1, _), (2, _), (3, _)]) d_R_putCame_226 rfl (nI_1 n) (by decide) rfl ?_
      refine g_goto (tgt := 192) d_R_putCame_229 (by decide) ?_
      exact ih (n + 1) (show SysR E ad (rcL t c f wo (n + 1)) _ from (by unfold rcL; rw [if_neg h2]; exact hs3)) (by omega)

set_option maxHeartbeats 4000000 in
set_option maxRecDepth 100000 in
theorem l_R_put160 {E : gE} {w : wd} {ad : Nat → Nat} {t : tR} (hs : SysR E ad t w) (c f : Nat) (wo : Int32) (hc : c < 4) (hf : f < 4) (hwf : wfR t) (hfo : ¬ s_R_firstOf t f < 0) {A : Nat → Prop} : G E y_R_putCame (rmD 2 0 0, A, (fun r w' => r = none ∧ SysR E ad (s_R_put160 t c f wo) w'), fun _ => True) 160 [(0, .ref (ad 0)), (1, .int (nI c)), (2, .int (nI f)), (3, .int wo)] [] w 0 0 := by
  obtain ⟨hfo1, hfo2, hfo3⟩ := foN_ok hwf.2.1 hfo
  have hw := hwf.2.1
  refine g_aload_n (j := 0) d_R_putCame_160 rfl ?_
  refine g_iload_n (j := 2) d_R_putCame_161 rfl ?_
  refine g_callV (c_R_firstOf hs f hw) ok_R_firstOf lk_R_128 in_R_firstOf se_R_firstOf hs.obj rfl d_R_putCame_162 rfl rfl (Nat.le_of_ble_eq_true rfl) ⟨(Nat.le_of_ble_eq_true rfl), (Nat.le_of_ble_eq_true rfl)⟩ (Nat.le_of_ble_eq_true rfl) (Nat.le_of_ble_eq_true rfl) (fun r w' hq => ?_)
  obtain ⟨rfl, rfl⟩ := hq
  refine g_istore (lv' := [(6, _), (0, _), (1, _), (2, _), (3, _)]) d_R_putCame_165 (by decide) rfl ?_
  refine g_aload_n (j := 1) d_R_putCame_167 rfl ?_
  refine g_get d_R_putCame_168 f_R_25 hs.obj rfl ?_
  refine g_iload (j := 0) d_R_putCame_171 rfl ?_
  refine r_iald (k := 5) (j := foN t f) d_R_putCame_173 hs (by decide) rfl hfo1 (show foN t f < 520 by omega) ?_
  refine g_iload_n (j := 2) d_R_putCame_174 rfl ?_
  refine g_icmp_ne (tgt := 232) d_R_putCame_175 (by decide) (fun h1 => ?_) (fun h1 => ?_)
  · skip
    have hz : s_R_put160 t c f wo = t := by
      unfold s_R_put160
      rw [if_neg h1]
    rw [hz]
    exact g_return d_R_putCame_232 rfl (Nat.le_of_ble_eq_true rfl) (Nat.le_of_ble_eq_true rfl) ⟨rfl, hs⟩
  · skip
    refine g_aload_n (j := 1) d_R_putCame_178 rfl ?_
    refine g_get d_R_putCame_179 f_R_31 hs.obj rfl ?_
    refine g_iload (j := 0) d_R_putCame_182 rfl ?_
    refine r_iald (k := 7) (j := foN t f) d_R_putCame_184 hs (by decide) rfl hfo1 (show foN t f < 520 by omega) ?_
    refine g_iload_n (j := 4) d_R_putCame_185 rfl ?_
    refine g_icmp_ne (tgt := 232) d_R_putCame_186 (by decide) (fun h2 => ?_) (fun h2 => ?_)
    · skip
      have hz : s_R_put160 t c f wo = t := by
        unfold s_R_put160
        rw [if_pos h1, if_neg h2]
      rw [hz]
      exact g_return d_R_putCame_232 rfl (Nat.le_of_ble_eq_true rfl) (Nat.le_of_ble_eq_true rfl) ⟨rfl, hs⟩
    · skip
      refine g_iconst (v := 0) d_R_putCame_189 (by decide) ?_
      refine g_istore (lv' := [(7, _), (6, _), (0, _), (1, _), (2, _), (3, _)]) d_R_putCame_190 (by decide) rfl ?_
      refine g_lv [0, 2, 3, 4, 5] rfl ?_
      have hz : s_R_put160 t c f wo = rcL t c f wo (cN t) := by
        unfold s_R_put160
        rw [if_pos h1, if_pos h2]
      rw [hz]
      exact l_R_rec c f wo hf hwf (cN t) 0 hs (by omega)

/-- does such a write wait: among the first k -/
def anL (t : tR) (c f : Nat) (wo : Int32) : Nat → Int32
  | 0 => 0
  | k + 1 => if anL t c f wo k = 0 then (if t.2 5 k = nI c then (if t.2 6 k = nI f then (if t.2 7 k = wo then 1 else 0) else 0) else 0) else 1
theorem anL_has {t : tR} {c f : Nat} {wo : Int32} : ∀ k, ¬ anL t c f wo k = 0 → ∃ j, j < k ∧ t.2 5 j = nI c ∧ t.2 6 j = nI f ∧ t.2 7 j = wo := by
  intro k
  induction k with
  | zero => intro h; exact absurd rfl h
  | succ k ih =>
    intro h
    by_cases h0 : anL t c f wo k = 0
    · rw [anL, if_pos h0] at h
      by_cases h1 : t.2 5 k = nI c
      · by_cases h2 : t.2 6 k = nI f
        · by_cases h3 : t.2 7 k = wo
          · exact ⟨k, by omega, h1, h2, h3⟩
          · rw [if_pos h1, if_pos h2, if_neg h3] at h
            exact absurd rfl h
        · rw [if_pos h1, if_neg h2] at h
          exact absurd rfl h
      · rw [if_neg h1] at h
        exact absurd rfl h
    · obtain ⟨j, hj, hr⟩ := ih h0
      exact ⟨j, by omega, hr⟩

set_option maxHeartbeats 4000000 in
set_option maxRecDepth 100000 in
theorem l_R_put44 {E : gE} {w : wd} {ad : Nat → Nat} {t : tR} (hs : SysR E ad t w) (c f : Nat) (wo v : Int32) (hw : okW t) {Z : gZ} (hK : G E y_R_putCame Z 104 [(6, .int (nI (wN t))), (5, .int (anL t c f wo (wN t))), (0, .ref (ad 0)), (1, .int (nI c)), (2, .int (nI f)), (3, .int wo), (4, .int v)] [] w 0 0) : ∀ (r n : Nat) (b : Int32), anL t c f wo n = b → r + n = wN t → G E y_R_putCame Z 44 [(6, .int (nI n)), (5, .int b), (0, .ref (ad 0)), (1, .int (nI c)), (2, .int (nI f)), (3, .int wo), (4, .int v)] [] w 0 0 := by
  have hw2 := hw.2
  intro r
  induction r with
  | zero =>
    intro n b hv hr
    refine g_iload (j := 0) d_R_putCame_44 rfl ?_
    refine g_aload_n (j := 2) d_R_putCame_46 rfl ?_
    refine g_get d_R_putCame_47 f_R_125 hs.obj rfl ?_
    refine g_norm (y := nI (wN t)) hw.1 ?_
    refine g_icmp_ge (tgt := 104) d_R_putCame_50 (by decide) (fun h1 => ?_) (fun h => absurd ((nI_leI (by omega) (by omega)).mpr (by omega)) h)
    have he : n = wN t := by omega
    subst he
    subst hv
    exact hK
  | succ r ih =>
    intro n b hv hr
    refine g_iload (j := 0) d_R_putCame_44 rfl ?_
    refine g_aload_n (j := 2) d_R_putCame_46 rfl ?_
    refine g_get d_R_putCame_47 f_R_125 hs.obj rfl ?_
    refine g_norm (y := nI (wN t)) hw.1 ?_
    refine g_icmp_ge (tgt := 104) d_R_putCame_50 (by decide) (fun h => absurd h (fun z => absurd ((nI_leI (by omega) (by omega)).mp z) (by omega))) (fun h1 => ?_)
    refine g_iload (j := 1) d_R_putCame_53 rfl ?_
    refine g_if_ne (tgt := 91) d_R_putCame_55 (by decide) (fun h2 => ?_) (fun h2 => ?_)
    · skip
      refine g_iconst (v := 1) d_R_putCame_91 (by decide) ?_
      refine g_goto (tgt := 96) d_R_putCame_92 (by decide) ?_
      refine g_istore (lv' := [(5, _), (6, _), (0, _), (1, _), (2, _), (3, _), (4, _)]) d_R_putCame_96 (by decide) rfl ?_
      refine g_iinc (j := 1) (v := nI (n + 1)) (lv' := [(6, _), (5, _), (0, _), (1, _), (2, _), (3, _), (4, _)]) d_R_putCame_98 rfl (nI_1 n) (by decide) rfl ?_
      refine g_goto (tgt := 44) d_R_putCame_101 (by decide) ?_
      exact ih (n + 1) _ (by rw [anL, hv, if_neg h2]) (by omega)
    · skip
      refine g_aload_n (j := 2) d_R_putCame_58 rfl ?_
      refine g_get d_R_putCame_59 f_R_25 hs.obj rfl ?_
      refine g_iload (j := 0) d_R_putCame_62 rfl ?_
      refine r_iald (k := 5) (j := n) d_R_putCame_64 hs (by decide) rfl rfl (show n < 520 by omega) ?_
      refine g_iload_n (j := 3) d_R_putCame_65 rfl ?_
      refine g_icmp_ne (tgt := 95) d_R_putCame_66 (by decide) (fun h3 => ?_) (fun h3 => ?_)
      · skip
        refine g_iconst (v := 0) d_R_putCame_95 (by decide) ?_
        refine g_istore (lv' := [(5, _), (6, _), (0, _), (1, _), (2, _), (3, _), (4, _)]) d_R_putCame_96 (by decide) rfl ?_
        refine g_iinc (j := 1) (v := nI (n + 1)) (lv' := [(6, _), (5, _), (0, _), (1, _), (2, _), (3, _), (4, _)]) d_R_putCame_98 rfl (nI_1 n) (by decide) rfl ?_
        refine g_goto (tgt := 44) d_R_putCame_101 (by decide) ?_
        exact ih (n + 1) _ (by rw [anL, hv, if_pos h2, if_neg h3]) (by omega)
      · skip
        refine g_aload_n (j := 2) d_R_putCame_69 rfl ?_
        refine g_get d_R_putCame_70 f_R_28 hs.obj rfl ?_
        refine g_iload (j := 0) d_R_putCame_73 rfl ?_
        refine r_iald (k := 6) (j := n) d_R_putCame_75 hs (by decide) rfl rfl (show n < 520 by omega) ?_
        refine g_iload_n (j := 4) d_R_putCame_76 rfl ?_
        refine g_icmp_ne (tgt := 95) d_R_putCame_77 (by decide) (fun h4 => ?_) (fun h4 => ?_)
        · skip
          refine g_iconst (v := 0) d_R_putCame_95 (by decide) ?_
          refine g_istore (lv' := [(5, _), (6, _), (0, _), (1, _), (2, _), (3, _), (4, _)]) d_R_putCame_96 (by decide) rfl ?_
          refine g_iinc (j := 1) (v := nI (n + 1)) (lv' := [(6, _), (5, _), (0, _), (1, _), (2, _), (3, _), (4, _)]) d_R_putCame_98 rfl (nI_1 n) (by decide) rfl ?_
          refine g_goto (tgt := 44) d_R_putCame_101 (by decide) ?_
          exact ih (n + 1) _ (by rw [anL, hv, if_pos h2, if_pos h3, if_neg h4]) (by omega)
        · skip
          refine g_aload_n (j := 2) d_R_putCame_80 rfl ?_
          refine g_get d_R_putCame_81 f_R_31 hs.obj rfl ?_
          refine g_iload (j := 0) d_R_putCame_84 rfl ?_
          refine r_iald (k := 7) (j := n) d_R_putCame_86 hs (by decide) rfl rfl (show n < 520 by omega) ?_
          refine g_iload_n (j := 5) d_R_putCame_87 rfl ?_
          refine g_icmp_ne (tgt := 95) d_R_putCame_88 (by decide) (fun h5 => ?_) (fun h5 => ?_)
          · skip
            refine g_iconst (v := 0) d_R_putCame_95 (by decide) ?_
            refine g_istore (lv' := [(5, _), (6, _), (0, _), (1, _), (2, _), (3, _), (4, _)]) d_R_putCame_96 (by decide) rfl ?_
            refine g_iinc (j := 1) (v := nI (n + 1)) (lv' := [(6, _), (5, _), (0, _), (1, _), (2, _), (3, _), (4, _)]) d_R_putCame_98 rfl (nI_1 n) (by decide) rfl ?_
            refine g_goto (tgt := 44) d_R_putCame_101 (by decide) ?_
            exact ih (n + 1) _ (by rw [anL, hv, if_pos h2, if_pos h3, if_pos h4, if_neg h5]) (by omega)
          · skip
            refine g_iconst (v := 1) d_R_putCame_91 (by decide) ?_
            refine g_goto (tgt := 96) d_R_putCame_92 (by decide) ?_
            refine g_istore (lv' := [(5, _), (6, _), (0, _), (1, _), (2, _), (3, _), (4, _)]) d_R_putCame_96 (by decide) rfl ?_
            refine g_iinc (j := 1) (v := nI (n + 1)) (lv' := [(6, _), (5, _), (0, _), (1, _), (2, _), (3, _), (4, _)]) d_R_putCame_98 rfl (nI_1 n) (by decide) rfl ?_
            refine g_goto (tgt := 44) d_R_putCame_101 (by decide) ?_
            exact ih (n + 1) _ (by rw [anL, hv, if_pos h2, if_pos h3, if_pos h4, if_pos h5]) (by omega)

theorem add_wN (t : tR) (c f : Nat) (wo v : Int32) (hw : wN t ≤ 518) : wN (stF (stA (stA (stA (stA t 5 (wN t) (nI c)) 6 (wN t) (nI f)) 7 (wN t) wo) 8 (wN t) v) 8 (nI (wN t + 1))) = wN t + 1 := nI_clamp (by omega)
theorem wfR_add {t : tR} (h : wfR t) (c f : Nat) (wo v : Int32) (hc : c < 4) (hf : f < 4) (hw : wN t ≤ 518) : wfR (stF (stA (stA (stA (stA t 5 (wN t) (nI c)) 6 (wN t) (nI f)) 7 (wN t) wo) 8 (wN t) v) 8 (nI (wN t + 1))) := by
  obtain ⟨h1, h2, h3, h4, h5⟩ := h
  have e := add_wN t c f wo v hw
  refine ⟨h1, ⟨by rw [e]; rfl, by omega⟩, h3, h4, fun k hk => ?_⟩
  rw [e] at hk
  by_cases hkw : k = wN t
  · subst hkw
    have e5 : (stF (stA (stA (stA (stA t 5 (wN t) (nI c)) 6 (wN t) (nI f)) 7 (wN t) wo) 8 (wN t) v) 8 (nI (wN t + 1))).2 5 (wN t) = nI c := if_pos rfl
    have e6 : (stF (stA (stA (stA (stA t 5 (wN t) (nI c)) 6 (wN t) (nI f)) 7 (wN t) wo) 8 (wN t) v) 8 (nI (wN t + 1))).2 6 (wN t) = nI f := if_pos rfl
    have c5 : clN (stF (stA (stA (stA (stA t 5 (wN t) (nI c)) 6 (wN t) (nI f)) 7 (wN t) wo) 8 (wN t) v) 8 (nI (wN t + 1))) (wN t) = c := by unfold clN; rw [e5]; exact nI_clamp (by omega)
    have c6 : flN (stF (stA (stA (stA (stA t 5 (wN t) (nI c)) 6 (wN t) (nI f)) 7 (wN t) wo) 8 (wN t) v) 8 (nI (wN t + 1))) (wN t) = f := by unfold flN; rw [e6]; exact nI_clamp (by omega)
    unfold okE
    rw [c5, c6]
    exact ⟨e5, hc, e6, hf⟩
  · exact (h5 k (by omega)).to (if_neg hkw) (if_neg hkw)
theorem add_fo {t : tR} (h : wfR t) (c f : Nat) (wo v : Int32) (hw : wN t ≤ 518) : ¬ s_R_firstOf (stF (stA (stA (stA (stA t 5 (wN t) (nI c)) 6 (wN t) (nI f)) 7 (wN t) wo) 8 (wN t) v) 8 (nI (wN t + 1))) f < 0 := by
  have e := add_wN t c f wo v hw
  exact foN_has (j := wN t) (by rw [e]; omega) (if_pos rfl) (by rw [e]; omega)

def s_R_putCame (t : tR) (c : Nat) (f : Nat) (wo : Int32) (v : Int32) : tR :=
  if wo = t.2 3 c then
    s_R_send t 3 (nI c) (nI f) wo (t.2 4 c) 0 0
  else
    if t.2 3 c ≤ wo then
      if anL t c f wo (wN t) = 0 then
        s_R_put160 (stF (stA (stA (stA (stA t 5 (wN t) (nI c)) 6 (wN t) (nI f)) 7 (wN t) wo) 8 (wN t) v) 8 (nI ((wN t) + 1))) c f wo
      else
        s_R_put160 t c f wo
    else
      t
set_option maxHeartbeats 4000000 in
set_option maxRecDepth 100000 in
theorem c_R_putCame {E : gE} {w : wd} {ad : Nat → Nat} {t : tR} (hs : SysR E ad t w) (c : Nat) (f : Nat) (wo : Int32) (v : Int32) (hc : c < 4) (hf : f < 4) (hwf : wfR t) (hw8 : wN t ≤ 518) : Cn E y_R_putCame 2 0 0 [.ref (ad 0), .int (nI c), .int (nI f), .int wo, .int v] w (fun r w' => r = none ∧ SysR E ad (s_R_putCame t c f wo v) w') := by
  refine Cn.of (by decide) (Nat.le_of_ble_eq_true rfl) (fun A => ?_)
  show G E y_R_putCame _ 0 [(0, .ref (ad 0)), (1, .int (nI c)), (2, .int (nI f)), (3, .int wo), (4, .int v)] [] w 0 0
  have hw := hwf.2.1
  have hp := hwf.1
  refine g_iload_n (j := 3) d_R_putCame_0 rfl ?_
  refine g_aload_n (j := 0) d_R_putCame_1 rfl ?_
  refine g_get d_R_putCame_2 f_R_19 hs.obj rfl ?_
  refine g_iload_n (j := 1) d_R_putCame_5 rfl ?_
  refine r_iald (k := 3) (j := c) d_R_putCame_6 hs (by decide) rfl rfl (show c < 4 by omega) ?_
  refine g_icmp_ne (tgt := 27) d_R_putCame_7 (by decide) (fun h1 => ?_) (fun h1 => ?_)
  · skip
    refine g_iload_n (j := 3) d_R_putCame_27 rfl ?_
    refine g_aload_n (j := 0) d_R_putCame_28 rfl ?_
    refine g_get d_R_putCame_29 f_R_19 hs.obj rfl ?_
    refine g_iload_n (j := 1) d_R_putCame_32 rfl ?_
    refine r_iald (k := 3) (j := c) d_R_putCame_33 hs (by decide) rfl rfl (show c < 4 by omega) ?_
    refine g_icmp_ge (tgt := 38) d_R_putCame_34 (by decide) (fun h2 => ?_) (fun h2 => ?_)
    · skip
      refine g_iconst (v := 0) d_R_putCame_38 (by decide) ?_
      refine g_istore (lv' := [(5, _), (0, _), (1, _), (2, _), (3, _), (4, _)]) d_R_putCame_39 (by decide) rfl ?_
      refine g_iconst (v := 0) d_R_putCame_41 (by decide) ?_
      refine g_istore (lv' := [(6, _), (5, _), (0, _), (1, _), (2, _), (3, _), (4, _)]) d_R_putCame_42 (by decide) rfl ?_
      refine l_R_put44 hs c f wo v hw ?_ (wN t) 0 0 rfl (by omega)
      refine g_iload (j := 1) d_R_putCame_104 rfl ?_
      refine g_if_ne (tgt := 160) d_R_putCame_106 (by decide) (fun h3 => ?_) (fun h3 => ?_)
      · skip
        refine g_lv [2, 3, 4, 5] rfl ?_
        have hz : s_R_putCame t c f wo v = s_R_put160 t c f wo := by
          unfold s_R_putCame
          rw [if_neg h1, if_pos h2, if_neg h3]
        rw [hz]
        obtain ⟨j, hj, _, hj6, _⟩ := anL_has _ h3
        exact l_R_put160 hs c f wo hc hf hwf (foN_has hj hj6 hw.2)
      · skip
        refine g_aload_n (j := 2) d_R_putCame_109 rfl ?_
        refine g_get d_R_putCame_110 f_R_25 hs.obj rfl ?_
        refine g_aload_n (j := 2) d_R_putCame_113 rfl ?_
        refine g_get d_R_putCame_114 f_R_125 hs.obj rfl ?_
        refine g_norm (y := nI (wN t)) hw.1 ?_
        refine g_iload_n (j := 3) d_R_putCame_117 rfl ?_
        refine r_iast (k := 5) (j := wN t) d_R_putCame_118 hs (by decide) rfl rfl (show wN t < 520 by omega) (fun w4 hs5 => ?_)
        refine g_aload_n (j := 2) d_R_putCame_119 rfl ?_
        refine g_get d_R_putCame_120 f_R_28 hs5.obj rfl ?_
        refine g_aload_n (j := 2) d_R_putCame_123 rfl ?_
        refine g_get d_R_putCame_124 f_R_125 hs5.obj rfl ?_
        refine g_norm (y := nI (wN t)) hw.1 ?_
        refine g_iload_n (j := 4) d_R_putCame_127 rfl ?_
        refine r_iast (k := 6) (j := wN t) d_R_putCame_128 hs5 (by decide) rfl rfl (show wN t < 520 by omega) (fun w6 hs7 => ?_)
        refine g_aload_n (j := 2) d_R_putCame_129 rfl ?_
        refine g_get d_R_putCame_130 f_R_31 hs7.obj rfl ?_
        refine g_aload_n (j := 2) d_R_putCame_133 rfl ?_
        refine g_get d_R_putCame_134 f_R_125 hs7.obj rfl ?_
        refine g_norm (y := nI (wN t)) hw.1 ?_
        refine g_iload_n (j := 5) d_R_putCame_137 rfl ?_
        refine r_iast (k := 7) (j := wN t) d_R_putCame_138 hs7 (by decide) rfl rfl (show wN t < 520 by omega) (fun w8 hs9 => ?_)
        refine g_aload_n (j := 2) d_R_putCame_139 rfl ?_
        refine g_get d_R_putCame_140 f_R_34 hs9.obj rfl ?_
        refine g_aload_n (j := 2) d_R_putCame_143 rfl ?_
        refine g_get d_R_putCame_144 f_R_125 hs9.obj rfl ?_
        refine g_norm (y := nI (wN t)) hw.1 ?_
        refine g_iload (j := 6) d_R_putCame_147 rfl ?_
        refine r_iast (k := 8) (j := wN t) d_R_putCame_149 hs9 (by decide) rfl rfl (show wN t < 520 by omega) (fun w10 hs11 => ?_)
        refine g_aload_n (j := 2) d_R_putCame_150 rfl ?_
        refine g_dup d_R_putCame_151 rfl ?_
        refine g_get d_R_putCame_152 f_R_125 hs11.obj rfl ?_
        refine g_norm (y := nI (wN t)) hw.1 ?_
        refine g_iconst (v := 1) d_R_putCame_155 (by decide) ?_
        refine g_iadd d_R_putCame_156 ?_
        refine g_norm (y := nI ((wN t) + 1)) (nI_add (wN t) 1) ?_
        refine g_put d_R_putCame_157 fw_R_125 (Or.inl rfl) hs11.obj rfl rfl (Nat.le_of_ble_eq_true rfl) ?_
        have hs13 : SysR E ad (stF (stA (stA (stA (stA t 5 (wN t) (nI c)) 6 (wN t) (nI f)) 7 (wN t) wo) 8 (wN t) v) 8 (nI ((wN t) + 1))) _ := hs11.sf (t' := stF (stA (stA (stA (stA t 5 (wN t) (nI c)) 6 (wN t) (nI f)) 7 (wN t) wo) 8 (wN t) v) 8 (nI ((wN t) + 1))) (fs := (ceR ad (stA (stA (stA (stA t 5 (wN t) (nI c)) 6 (wN t) (nI f)) 7 (wN t) wo) 8 (wN t) v)).set 13 (.int (nI ((wN t) + 1)))) rfl rfl
        generalize wu _ (ad 0) _ = w12 at hs13 ⊢
        refine g_lv [2, 3, 4, 5] rfl ?_
        have hz : s_R_putCame t c f wo v = s_R_put160 (stF (stA (stA (stA (stA t 5 (wN t) (nI c)) 6 (wN t) (nI f)) 7 (wN t) wo) 8 (wN t) v) 8 (nI ((wN t) + 1))) c f wo := by
          unfold s_R_putCame
          rw [if_neg h1, if_pos h2, if_pos h3]
        rw [hz]
        exact l_R_put160 hs13 c f wo hc hf (wfR_add hwf c f wo v hc hf hw8) (add_fo hwf c f wo v hw8)
    · skip
      have hz : s_R_putCame t c f wo v = t := by
        unfold s_R_putCame
        rw [if_neg h1, if_neg h2]
      exact g_return d_R_putCame_37 rfl (Nat.le_of_ble_eq_true rfl) (Nat.le_of_ble_eq_true rfl) ⟨rfl, by rw [hz]; exact hs⟩
  · skip
    refine g_aload_n (j := 0) d_R_putCame_10 rfl ?_
    refine g_iconst (v := 3) d_R_putCame_11 (by decide) ?_
    refine g_iload_n (j := 1) d_R_putCame_12 rfl ?_
    refine g_iload_n (j := 2) d_R_putCame_13 rfl ?_
    refine g_iload_n (j := 3) d_R_putCame_14 rfl ?_
    refine g_aload_n (j := 0) d_R_putCame_15 rfl ?_
    refine g_get d_R_putCame_16 f_R_22 hs.obj rfl ?_
    refine g_iload_n (j := 1) d_R_putCame_19 rfl ?_
    refine r_iald (k := 4) (j := c) d_R_putCame_20 hs (by decide) rfl rfl (show c < 4 by omega) ?_
    refine g_iconst (v := 0) d_R_putCame_21 (by decide) ?_
    refine g_iconst (v := 0) d_R_putCame_22 (by decide) ?_
    refine g_callV (c_R_send hs 3 (nI c) (nI f) wo (t.2 4 c) 0 0 hp) ok_R_send lk_R_99 in_R_send se_R_send hs.obj rfl d_R_putCame_23 rfl rfl (Nat.le_of_ble_eq_true rfl) ⟨(Nat.le_of_ble_eq_true rfl), (Nat.le_of_ble_eq_true rfl)⟩ (Nat.le_of_ble_eq_true rfl) (Nat.le_of_ble_eq_true rfl) (fun r w' hq => ?_)
    obtain ⟨rfl, hs14⟩ := hq
    have hz : s_R_putCame t c f wo v = s_R_send t 3 (nI c) (nI f) wo (t.2 4 c) 0 0 := by
      unfold s_R_putCame
      rw [if_pos h1]
    exact g_return d_R_putCame_26 rfl (Nat.le_of_ble_eq_true rfl) (Nat.le_of_ble_eq_true rfl) ⟨rfl, by rw [hz]; exact hs14⟩
