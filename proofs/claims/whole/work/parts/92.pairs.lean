/-! one call of both, good or refused -/
theorem Cn.mono {E : gE} {Y : mY} {d mc ms : Nat} {av : List Value} {w : wd} {Q Q' : Option Value → wd → Prop} (h : Cn E Y d mc ms av w Q) (hq : ∀ r w', Q r w' → Q' r w') : Cn E Y d mc ms av w Q' := by
  intro n0 p e ha hc hk s m args below hf happ hP hK
  obtain ⟨n, o, h1, h2, h3, ⟨⟨r, w', g1, g2, g3, g4⟩, hF⟩, hL⟩ := h n0 p e ha hc hk s m args below hf happ hP hK
  exact ⟨n, o, h1, h2, h3, ⟨⟨r, w', g1, hq r w' g2, g3, g4⟩, hF⟩, hL⟩
def PR (E : gE) (K : kC) (n : Nat) (L : lyC) (ad : Nat → Nat) (u v : wd) (yL yR : mY) (as : List Value) : Prop :=
  ∃ (z : Int32) (s d : Nat) (r : tR) (t : tC) (dL mc ms dR : Nat), RS K (n + 1) s d r t ∧ s + d ≤ n + 1 ∧ (dL ≤ 11 ∧ mc ≤ 2 ∧ ms ≤ 403 ∧ dR ≤ 11) ∧
    Cn E yL dL mc ms (.ref (L.1 (0, 0, 0)) :: as) u (fun o u' => o = some (.int z) ∧ ∃ L' : lyC, L'.1 (0, 0, 0) = L.1 (0, 0, 0) ∧ SysC E K L' t u') ∧
    Cn E yR dR 0 0 (.ref (ad 0) :: as) v (fun o v' => o = some (.int z) ∧ SysR E ad r v')
section PRS
variable {E : gE} {K : kC} {n s d : Nat} {L : lyC} {ad : Nat → Nat} {r : tR} {t : tC} {u v : wd}
theorem PR.by {yL yR : mY} {as : List Value} {z z' : Int32} {N' s' d' : Nat} {r' : tR} {t' : tC} {dL mc ms dR : Nat} {P Q : wd → Prop} (h : RS K N' s' d' r' t') (hN : N' ≤ n + 1) (hsd : s' + d' ≤ n + 1) (hb : dL ≤ 11 ∧ mc ≤ 2 ∧ ms ≤ 403 ∧ dR ≤ 11)
    (cL : Cn E yL dL mc ms (.ref (L.1 (0, 0, 0)) :: as) u (fun o u' => o = some (.int z) ∧ P u')) (hP : ∀ u', P u' → ∃ L' : lyC, L'.1 (0, 0, 0) = L.1 (0, 0, 0) ∧ SysC E K L' t' u') (e : z = z')
    (cR : Cn E yR dR 0 0 (.ref (ad 0) :: as) v (fun o v' => o = some (.int z') ∧ Q v')) (hQ : ∀ v', Q v' → SysR E ad r' v') : PR E K n L ad u v yL yR as := by
  subst e
  exact ⟨z, s', d', r', t', dL, mc, ms, dR, h.mono hN, hsd, hb, cL.mono (fun _ u' q => ⟨q.1, hP u' q.2⟩), cR.mono (fun _ v' q => ⟨q.1, hQ v' q.2⟩)⟩
theorem pr_read (C : SysC E K L t u) (R : SysR E ad r v) (h : RS K n s d r t) (hsd : s + d ≤ n) (hn : n ≤ 511) (x y : Int32) : PR E K n L ad u v y_L_read y_R_read [.int x, .int y] := by
  have hK := h.1.2.2.2.2.1
  rcases h.cl_or x with ⟨c, hc, rfl⟩ | ⟨b1, b2⟩
  · rcases h.fl_or y with ⟨f, hf, rfl⟩ | ⟨b1, b2⟩
    · obtain ⟨e, h'⟩ := sim_read h hc hf (by omega)
      exact PR.by h' (by omega) (by omega) (by decide) (c_L_read C c f hc hf) (fun u' q => ⟨L, rfl, q⟩) e (c_R_read R c f (by omega) (by omega) h.okP) (fun v' q => q)
    · exact PR.by h (by omega) (by omega) (by decide) (c_L_read_bad C _ _ (Or.inr b1)) (fun u' q => ⟨L, rfl, by rw [q]; exact C⟩) rfl (c_R_read_bad R _ _ (Or.inr b2)) (fun v' q => by rw [q]; exact R)
  · exact PR.by h (by omega) (by omega) (by decide) (c_L_read_bad C _ _ (Or.inl b1)) (fun u' q => ⟨L, rfl, by rw [q]; exact C⟩) rfl (c_R_read_bad R _ _ (Or.inl b2)) (fun v' q => by rw [q]; exact R)
theorem pr_write (C : SysC E K L t u) (R : SysR E ad r v) (h : RS K n s d r t) (hsd : s + d ≤ n) (hn : n ≤ 511) (x y z : Int32) : PR E K n L ad u v y_L_write y_R_write [.int x, .int y, .int z] := by
  have hK := h.1.2.2.2.2.1
  rcases h.cl_or x with ⟨c, hc, rfl⟩ | ⟨b1, b2⟩
  · rcases h.fl_or y with ⟨f, hf, rfl⟩ | ⟨b1, b2⟩
    · obtain ⟨e, h'⟩ := sim_write h z hc hf (by omega)
      exact PR.by h' (by omega) (by omega) (by decide) (c_L_write C c f z hc hf) (fun u' q => ⟨L, rfl, q⟩) e (c_R_write R c f z (by omega) (by omega) h.okP) (fun v' q => q)
    · exact PR.by h (by omega) (by omega) (by decide) (c_L_write_bad C _ _ _ (Or.inr b1)) (fun u' q => ⟨L, rfl, by rw [q]; exact C⟩) rfl (c_R_write_bad R _ _ _ (Or.inr b2)) (fun v' q => by rw [q]; exact R)
  · exact PR.by h (by omega) (by omega) (by decide) (c_L_write_bad C _ _ _ (Or.inl b1)) (fun u' q => ⟨L, rfl, by rw [q]; exact C⟩) rfl (c_R_write_bad R _ _ _ (Or.inl b2)) (fun v' q => by rw [q]; exact R)
theorem pr_retry (C : SysC E K L t u) (R : SysR E ad r v) (h : RS K n s d r t) (hsd : s + d ≤ n) (hn : n ≤ 511) (x : Int32) : PR E K n L ad u v y_L_retry y_R_retry [.int x] := by
  have hK := h.1.2.2.2.2.1
  rcases h.cl_or x with ⟨c, hc, rfl⟩ | ⟨b1, b2⟩
  · obtain ⟨e, h'⟩ := sim_retry h hc
    exact PR.by h' (by omega) (by omega) (by decide) (c_L_retry C c hc) (fun u' q => ⟨L, rfl, q⟩) e (c_R_retry R c (by omega) h.okP) (fun v' q => q)
  · exact PR.by h (by omega) (by omega) (by decide) (c_L_retry_bad C _ b1) (fun u' q => ⟨L, rfl, by rw [q]; exact C⟩) rfl (c_R_retry_bad R _ b2) (fun v' q => by rw [q]; exact R)
theorem pr_status (C : SysC E K L t u) (R : SysR E ad r v) (h : RS K n s d r t) (hsd : s + d ≤ n) (hn : n ≤ 511) (x : Int32) : PR E K n L ad u v y_L_status y_R_status [.int x] := by
  have hK := h.1.2.2.2.2.1
  rcases h.cl_or x with ⟨c, hc, rfl⟩ | ⟨b1, b2⟩
  · exact PR.by h (by omega) (by omega) (by decide) (c_L_status C c hc) (fun u' q => ⟨L, rfl, by rw [q]; exact C⟩) (sim_status h hc) (c_R_status R c (by omega)) (fun v' q => by rw [q]; exact R)
  · exact PR.by h (by omega) (by omega) (by decide) (c_L_status_bad C _ b1) (fun u' q => ⟨L, rfl, by rw [q]; exact C⟩) rfl (c_R_status_bad R _ b2) (fun v' q => by rw [q]; exact R)
theorem pr_result (C : SysC E K L t u) (R : SysR E ad r v) (h : RS K n s d r t) (hsd : s + d ≤ n) (hn : n ≤ 511) (x : Int32) : PR E K n L ad u v y_L_result y_R_result [.int x] := by
  have hK := h.1.2.2.2.2.1
  rcases h.cl_or x with ⟨c, hc, rfl⟩ | ⟨b1, b2⟩
  · exact PR.by h (by omega) (by omega) (by decide) (c_L_result C c hc) (fun u' q => ⟨L, rfl, by rw [q]; exact C⟩) (sim_result h hc) (c_R_result R c (by omega)) (fun v' q => by rw [q]; exact R)
  · exact PR.by h (by omega) (by omega) (by decide) (c_L_result_bad C _ b1) (fun u' q => ⟨L, rfl, by rw [q]; exact C⟩) rfl (c_R_result_bad R _ b2) (fun v' q => by rw [q]; exact R)
theorem pr_version (C : SysC E K L t u) (R : SysR E ad r v) (h : RS K n s d r t) (hsd : s + d ≤ n) (hn : n ≤ 511) (x : Int32) : PR E K n L ad u v y_L_version y_R_version [.int x] := by
  have hK := h.1.2.2.2.2.1
  rcases h.cl_or x with ⟨c, hc, rfl⟩ | ⟨b1, b2⟩
  · exact PR.by h (by omega) (by omega) (by decide) (c_L_version C c hc) (fun u' q => ⟨L, rfl, by rw [q]; exact C⟩) (sim_version h hc) (c_R_version R c (by omega)) (fun v' q => by rw [q]; exact R)
  · exact PR.by h (by omega) (by omega) (by decide) (c_L_version_bad C _ b1) (fun u' q => ⟨L, rfl, by rw [q]; exact C⟩) rfl (c_R_version_bad R _ b2) (fun v' q => by rw [q]; exact R)
theorem pr_deliver (C : SysC E K L t u) (R : SysR E ad r v) (h : RS K n s d r t) (hsd : s + d ≤ n) (hn : n ≤ 511) (x : Int32) : PR E K n L ad u v y_L_deliver y_R_deliver [.int x] := by
  have hK := h.1.2.2.2.2.1
  have h8 := h.2.2.2.2.2.2.2.1.2.1
  rcases h.ms_or x with ⟨k, hk, rfl⟩ | ⟨b1, b2⟩
  · obtain ⟨m1, m2, m3⟩ := h.okM hk
    obtain ⟨e, h'⟩ := sim_deliver h hk (by omega) (by omega)
    exact PR.by h' (by omega) (by omega) (by decide) (c_L_deliver C k hk m2 h.okWC) (fun u' q => q) e (c_R_deliver R k m3 h.wf m1 (by omega)) (fun v' q => q)
  · exact PR.by h (by omega) (by omega) (by decide) (c_L_deliver_bad C _ b1) (fun u' q => ⟨L, rfl, by rw [q]; exact C⟩) rfl (c_R_deliver_bad R _ b2) (fun v' q => by rw [q]; exact R)
theorem pr_lose (C : SysC E K L t u) (R : SysR E ad r v) (h : RS K n s d r t) (hsd : s + d ≤ n) (hn : n ≤ 511) (x : Int32) : PR E K n L ad u v y_L_lose y_R_lose [.int x] := by
  have hK := h.1.2.2.2.2.1
  have h64 := h.2.2.2.2.2.2.1.2.1
  rcases h.ms_or x with ⟨k, hk, rfl⟩ | ⟨b1, b2⟩
  · obtain ⟨e, h'⟩ := sim_lose h hk
    exact PR.by h' (by omega) (by omega) (by decide) (c_L_lose C k hk) (fun u' q => q) e (c_R_lose R k (by omega) h.okP) (fun v' q => q)
  · exact PR.by h (by omega) (by omega) (by decide) (c_L_lose_bad C _ b1) (fun u' q => ⟨L, rfl, by rw [q]; exact C⟩) rfl (c_R_lose_bad R _ b2) (fun v' q => by rw [q]; exact R)
theorem pr_pending (C : SysC E K L t u) (R : SysR E ad r v) (h : RS K n s d r t) (hsd : s + d ≤ n) (hn : n ≤ 511) : PR E K n L ad u v y_L_pending y_R_pending [] := by
  have hK := h.1.2.2.2.2.1
  exact PR.by h (by omega) (by omega) (by decide) (c_L_pending C) (fun u' q => ⟨L, rfl, by rw [q]; exact C⟩) (sim_pending h) (c_R_pending R) (fun v' q => by rw [q]; exact R)
theorem pr_message (C : SysC E K L t u) (R : SysR E ad r v) (h : RS K n s d r t) (hsd : s + d ≤ n) (hn : n ≤ 511) (x y : Int32) : PR E K n L ad u v y_L_message y_R_message [.int x, .int y] := by
  have hK := h.1.2.2.2.2.1
  have h64 := h.2.2.2.2.2.2.1.2.1
  rcases h.ms_or x with ⟨k, hk, rfl⟩ | ⟨b1, b2⟩
  · rcases has_or (n := 7) (by decide) y with ⟨j, hj, rfl⟩ | q
    · exact PR.by h (by omega) (by omega) (by decide) (c_L_message C k _ hk) (fun u' q => ⟨L, rfl, by rw [q]; exact C⟩) (sim_message h hk hj) (c_R_message R k j (by omega) (by omega)) (fun v' q => by rw [q]; exact R)
    · have hy : y < 0 ∨ 6 < y := by
        by_cases h1 : y < 0
        · exact Or.inl h1
        · by_cases h2 : nI 7 ≤ y
          · have e7 : (nI 7).toInt = 7 := by decide
            have e6 : (6 : Int32).toInt = 6 := by decide
            rw [Int32.le_iff_toInt_le, e7] at h2
            exact Or.inr (by rw [Int32.lt_iff_toInt_lt, e6]; omega)
          · rw [if_neg h1, if_neg h2] at q
            exact absurd q (by decide)
      exact PR.by h (by omega) (by omega) (by decide) (c_L_message C k y hk) (fun u' q => ⟨L, rfl, by rw [q]; exact C⟩) (sim_message_out K t k hy) (c_R_message_bad R _ y (Or.inr hy)) (fun v' q => by rw [q]; exact R)
  · exact PR.by h (by omega) (by omega) (by decide) (c_L_message_bad C _ y b1) (fun u' q => ⟨L, rfl, by rw [q]; exact C⟩) rfl (c_R_message_bad R _ y (Or.inl b2)) (fun v' q => by rw [q]; exact R)
theorem pr_tick (C : SysC E K L t u) (R : SysR E ad r v) (h : RS K n s d r t) (hsd : s + d ≤ n) (hn : n ≤ 511) (x : Int32) : PR E K n L ad u v y_L_tick y_R_tick [.int x] := by
  have hK := h.1.2.2.2.2.1
  obtain ⟨e, h'⟩ := sim_tick h x (by omega) (by omega)
  exact PR.by h' (by omega) (by omega) (by decide) (c_L_tick C x h.okWC) (fun u' ⟨L', q1, q2⟩ => ⟨L', q1 (0, 0, 0) (by decide), q2⟩) e (c_R_tick R x h.wf) (fun v' q => q)
theorem pr_pass (C : SysC E K L t u) (R : SysR E ad r v) (h : RS K n s d r t) (hsd : s + d ≤ n) (hn : n ≤ 511) (x y : Int32) : PR E K n L ad u v y_L_pass y_R_pass [.int x, .int y] := by
  have hK := h.1.2.2.2.2.1
  rcases h.cl_or x with ⟨c, hc, rfl⟩ | ⟨b1, b2⟩
  · obtain ⟨e, h'⟩ := sim_pass h y hc (by omega)
    exact PR.by h' (by omega) (by omega) (by decide) (c_L_pass C c y hc) (fun u' q => ⟨L, rfl, q⟩) e (c_R_pass R c y (by omega)) (fun v' q => q)
  · exact PR.by h (by omega) (by omega) (by decide) (c_L_pass_bad C _ _ b1) (fun u' q => ⟨L, rfl, by rw [q]; exact C⟩) rfl (c_R_pass_bad R _ _ b2) (fun v' q => by rw [q]; exact R)
theorem pr_crash (C : SysC E K L t u) (R : SysR E ad r v) (h : RS K n s d r t) (hsd : s + d ≤ n) (hn : n ≤ 511) (x : Int32) : PR E K n L ad u v y_L_crash y_R_crash [.int x] := by
  have hK := h.1.2.2.2.2.1
  rcases h.cl_or x with ⟨c, hc, rfl⟩ | ⟨b1, b2⟩
  · obtain ⟨e, h'⟩ := sim_crash h hc
    exact PR.by h' (by omega) (by omega) (by decide) (c_L_crash C c hc) (fun u' q => ⟨L, rfl, q⟩) e (c_R_crash R c (by omega) h.okF) (fun v' q => q)
  · exact PR.by h (by omega) (by omega) (by decide) (c_L_crash_bad C _ b1) (fun u' q => ⟨L, rfl, by rw [q]; exact C⟩) rfl (c_R_crash_bad R _ b2) (fun v' q => by rw [q]; exact R)
theorem pr_halt (C : SysC E K L t u) (R : SysR E ad r v) (h : RS K n s d r t) (hsd : s + d ≤ n) (hn : n ≤ 511) : PR E K n L ad u v y_L_halt y_R_halt [] := by
  have hK := h.1.2.2.2.2.1
  obtain ⟨e, h'⟩ := sim_halt h
  exact PR.by h' (by omega) (by omega) (by decide) (c_L_halt C) (fun u' ⟨L', q1, q2⟩ => ⟨L', q1 (0, 0, 0) (by decide), q2⟩) e (c_R_halt R) (fun v' q => q)
theorem pr_restart (C : SysC E K L t u) (R : SysR E ad r v) (h : RS K n s d r t) (hsd : s + d ≤ n) (hn : n ≤ 511) : PR E K n L ad u v y_L_restart y_R_restart [] := by
  have hK := h.1.2.2.2.2.1
  obtain ⟨e, h'⟩ := sim_restart h (by omega)
  exact PR.by h' (by omega) (by omega) (by decide) (c_L_restart C) (fun u' q => ⟨L, rfl, q⟩) e (c_R_restart R) (fun v' q => q)
theorem pr_copy (C : SysC E K L t u) (R : SysR E ad r v) (h : RS K n s d r t) (hsd : s + d ≤ n) (hn : n ≤ 511) (x y z : Int32) : PR E K n L ad u v y_L_copy y_R_copy [.int x, .int y, .int z] := by
  have hK := h.1.2.2.2.2.1
  rcases h.cl_or x with ⟨c, hc, rfl⟩ | ⟨b1, b2⟩
  · rcases h.fl_or y with ⟨f, hf, rfl⟩ | ⟨b1, b2⟩
    · exact PR.by h (by omega) (by omega) (by decide) (c_L_copy C c f z hc hf) (fun u' q => ⟨L, rfl, by rw [q]; exact C⟩) (sim_copy h z hc hf (by omega)) (c_R_copy R c f z (by omega) (by omega)) (fun v' q => by rw [q]; exact R)
    · exact PR.by h (by omega) (by omega) (by decide) (c_L_copy_bad C _ _ _ (Or.inr b1)) (fun u' q => ⟨L, rfl, by rw [q]; exact C⟩) rfl (c_R_copy_bad R _ _ _ (Or.inr b2)) (fun v' q => by rw [q]; exact R)
  · exact PR.by h (by omega) (by omega) (by decide) (c_L_copy_bad C _ _ _ (Or.inl b1)) (fun u' q => ⟨L, rfl, by rw [q]; exact C⟩) rfl (c_R_copy_bad R _ _ _ (Or.inl b2)) (fun v' q => by rw [q]; exact R)
theorem pr_lease (C : SysC E K L t u) (R : SysR E ad r v) (h : RS K n s d r t) (hsd : s + d ≤ n) (hn : n ≤ 511) (x y : Int32) : PR E K n L ad u v y_L_lease y_R_lease [.int x, .int y] := by
  have hK := h.1.2.2.2.2.1
  rcases h.cl_or x with ⟨c, hc, rfl⟩ | ⟨b1, b2⟩
  · rcases h.fl_or y with ⟨f, hf, rfl⟩ | ⟨b1, b2⟩
    · exact PR.by h (by omega) (by omega) (by decide) (c_L_lease C c f hc hf) (fun u' q => ⟨L, rfl, by rw [q]; exact C⟩) (sim_lease h hc hf (by omega)) (c_R_lease R c f (by omega) (by omega)) (fun v' q => by rw [q]; exact R)
    · exact PR.by h (by omega) (by omega) (by decide) (c_L_lease_bad C _ _ (Or.inr b1)) (fun u' q => ⟨L, rfl, by rw [q]; exact C⟩) rfl (c_R_lease_bad R _ _ (Or.inr b2)) (fun v' q => by rw [q]; exact R)
  · exact PR.by h (by omega) (by omega) (by decide) (c_L_lease_bad C _ _ (Or.inl b1)) (fun u' q => ⟨L, rfl, by rw [q]; exact C⟩) rfl (c_R_lease_bad R _ _ (Or.inl b2)) (fun v' q => by rw [q]; exact R)
theorem pr_file (C : SysC E K L t u) (R : SysR E ad r v) (h : RS K n s d r t) (hsd : s + d ≤ n) (hn : n ≤ 511) (x y : Int32) : PR E K n L ad u v y_L_file y_R_file [.int x, .int y] := by
  have hK := h.1.2.2.2.2.1
  rcases h.fl_or x with ⟨f, hf, rfl⟩ | ⟨b1, b2⟩
  · exact PR.by h (by omega) (by omega) (by decide) (c_L_file C f y hf) (fun u' q => ⟨L, rfl, by rw [q]; exact C⟩) (sim_file h y hf) (c_R_file R f y (by omega) h.okW) (fun v' q => by rw [q]; exact R)
  · exact PR.by h (by omega) (by omega) (by decide) (c_L_file_bad C _ _ b1) (fun u' q => ⟨L, rfl, by rw [q]; exact C⟩) rfl (c_R_file_bad R _ _ b2) (fun v' q => by rw [q]; exact R)
theorem pr_server (C : SysC E K L t u) (R : SysR E ad r v) (h : RS K n s d r t) (hsd : s + d ≤ n) (hn : n ≤ 511) (x : Int32) : PR E K n L ad u v y_L_server y_R_server [.int x] := by
  have hK := h.1.2.2.2.2.1
  exact PR.by h (by omega) (by omega) (by decide) (c_L_server C x) (fun u' q => ⟨L, rfl, by rw [q]; exact C⟩) (sim_server h x (by omega)) (c_R_server R x) (fun v' q => by rw [q]; exact R)
theorem pr_client (C : SysC E K L t u) (R : SysR E ad r v) (h : RS K n s d r t) (hsd : s + d ≤ n) (hn : n ≤ 511) (x y : Int32) : PR E K n L ad u v y_L_client y_R_client [.int x, .int y] := by
  have hK := h.1.2.2.2.2.1
  rcases h.cl_or x with ⟨c, hc, rfl⟩ | ⟨b1, b2⟩
  · exact PR.by h (by omega) (by omega) (by decide) (c_L_client C c y hc) (fun u' q => ⟨L, rfl, by rw [q]; exact C⟩) (sim_client h y hc) (c_R_client R c y (by omega)) (fun v' q => by rw [q]; exact R)
  · exact PR.by h (by omega) (by omega) (by decide) (c_L_client_bad C _ _ b1) (fun u' q => ⟨L, rfl, by rw [q]; exact C⟩) rfl (c_R_client_bad R _ _ b2) (fun v' q => by rw [q]; exact R)
end PRS
