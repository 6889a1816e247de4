/-- a clamp as the reference writes it -/
def clR (x hi : Int32) : Int32 := if 1 ≤ x then (if x ≤ hi then x else hi) else 1
def fs0R : List Value := [.int 0, .int 0, .int 0, .int 0, .null, .null, .int 0, .int 0, .int 0, .int 0, .null, .null, .null, .int 0, .null, .null, .null, .null, .null, .null, .null, .null, .null, .null, .null, .null, .null, .null, .null, .null, .null, .null, .int 0, .null]
/-- while it is made: these rows are there -/
def SysP (E : gE) (a : Nat) (qs : List Nat) (fs : List Value) (w : wd) : Prop := wh w a (.inr (0, fs)) ∧ (∀ k q, qs[k]? = some q → wh w q (.inl (E.2.2.1 (kdR k), lnR k, .inl (fun _ => 0)))) ∧ a ∉ qs ∧ qs.Nodup
theorem SysP.new {E : gE} {a q j : Nat} {qs : List Nat} {v : Value} {fs : List Value} {w : wd} (h : SysP E a qs fs w) (hq : q ∉ w.1) : SysP E a (qs ++ [q]) (fs.set j v) (wu (wn w q (.inl (E.2.2.1 (kdR qs.length), lnR qs.length, .inl (fun _ => 0)))) a (.inr (0, fs.set j v))) := by
  obtain ⟨h1, h2, h3, h4⟩ := h
  have hqa : q ≠ a := fun z => hq (z ▸ h1.1)
  have hqs : q ∉ qs := fun z => by
    obtain ⟨k, hk⟩ := List.getElem?_of_mem z
    exact hq (h2 k q hk).1
  refine ⟨(h1.nn hq).us, fun k x hk => ?_, ?_, ?_⟩
  · by_cases hl : k < qs.length
    · rw [List.getElem?_append_left hl] at hk
      exact ((h2 k x hk).nn hq).un (fun z => h3 (z ▸ List.mem_of_getElem? hk))
    · rw [List.getElem?_append_right (by omega)] at hk
      have hz : k - qs.length < 1 := (List.getElem?_eq_some_iff.mp hk).1
      have hkl : k = qs.length := by omega
      subst hkl
      rw [Nat.sub_self] at hk
      cases hk
      exact wh.ns.un hqa
  · intro z
    rcases List.mem_append.mp z with z | z
    · exact h3 z
    · exact hqa (List.mem_singleton.mp z).symm
  · rw [List.nodup_append]
    refine ⟨h4, by simp, fun x hx y hy => ?_⟩
    rw [List.mem_singleton.mp hy]
    exact fun z => hqs (z ▸ hx)
theorem SysP.sf {E : gE} {a : Nat} {qs : List Nat} {fs fs' : List Value} {w : wd} (h : SysP E a qs fs w) : SysP E a qs fs' (wu w a (.inr (0, fs'))) := by
  obtain ⟨h1, h2, h3, h4⟩ := h
  exact ⟨h1.us, fun k q hk => (h2 k q hk).un (fun z => h3 (z ▸ List.mem_of_getElem? hk)), h3, h4⟩
section RI
variable {E : gE} {Y : mY} {Z : gZ} {pc : Nat} {lv : List (Nat × Value)} {st : List Value} {w : wd} {ce sl a : Nat} {qs : List Nat}
theorem r_initI {n j idx N : Nat} {v : Int32} {fs : List Value} (hd1 : decode Y.2.1 pc = .ok (.newarray .int, 2)) (hd2 : decode Y.2.1 (pc + 2) = .ok (.putfield idx, 3)) (harr : Cond.arrayClass .int ∈ WS) (hf : fdw Y.1.cls 0 j idx (.array .int) true) (hnm : Y.1.name = "<init>") (hP : SysP E a qs fs w) (hn : qs.length = n) (hkd : kdR n = 0) (hN : lnR n = N) (hv : v = nI N) (hN2 : N ≤ 100000) (hj : j < fs.length) (hce : ce + 1 ≤ Z.1.cells) (hsl : sl + N ≤ Z.1.slots) (kk : ∀ (q : Nat) (w' : wd), SysP E a (qs ++ [q]) (fs.set j (.ref q)) w' → G E Y Z (pc + 2 + 3) lv st w' (ce + 1) (sl + N)) : G E Y Z pc lv (.int v :: .ref a :: st) w ce sl := by
  refine g_newI hd1 harr hv hN2 hce hsl (fun q hq => ?_)
  refine g_put hd2 hf (Or.inr hnm) (hP.1.nn hq) rfl rfl hj (kk q _ ?_)
  have h := hP.new (j := j) (v := .ref q) hq
  rw [hn, hkd, hN] at h
  exact h
theorem r_initZ {n j idx N : Nat} {v : Int32} {fs : List Value} (hd1 : decode Y.2.1 pc = .ok (.newarray .boolean, 2)) (hd2 : decode Y.2.1 (pc + 2) = .ok (.putfield idx, 3)) (harr : Cond.arrayClass .boolean ∈ WS) (hf : fdw Y.1.cls 0 j idx (.array .boolean) true) (hnm : Y.1.name = "<init>") (hP : SysP E a qs fs w) (hn : qs.length = n) (hkd : kdR n = 1) (hN : lnR n = N) (hv : v = nI N) (hN2 : N ≤ 100000) (hj : j < fs.length) (hce : ce + 1 ≤ Z.1.cells) (hsl : sl + N ≤ Z.1.slots) (kk : ∀ (q : Nat) (w' : wd), SysP E a (qs ++ [q]) (fs.set j (.ref q)) w' → G E Y Z (pc + 2 + 3) lv st w' (ce + 1) (sl + N)) : G E Y Z pc lv (.int v :: .ref a :: st) w ce sl := by
  refine g_newZ hd1 harr hv hN2 hce hsl (fun q hq => ?_)
  refine g_put hd2 hf (Or.inr hnm) (hP.1.nn hq) rfl rfl hj (kk q _ ?_)
  have h := hP.new (j := j) (v := .ref q) hq
  rw [hn, hkd, hN] at h
  exact h
theorem r_putP {j idx : Nat} {v : Int32} {fs : List Value} (hd : decode Y.2.1 pc = .ok (.putfield idx, 3)) (hf : fdw Y.1.cls 0 j idx .int true) (hnm : Y.1.name = "<init>") (hP : SysP E a qs fs w) (hj : j < fs.length) (kk : ∀ w' : wd, SysP E a qs (fs.set j (.int v)) w' → G E Y Z (pc + 3) lv st w' ce sl) : G E Y Z pc lv (.int v :: .ref a :: st) w ce sl :=
  g_put hd hf (Or.inr hnm) hP.1 rfl rfl hj (kk _ hP.sf)
end RI
theorem SysP_R {E : gE} {a : Nat} {qs : List Nat} {fs : List Value} {w : wd} {t : tR} (h : SysP E a qs fs w) (hl : qs.length = 24) (ht : t.2 = fun _ _ => 0) (hf : fs = ceR (fun i => (a :: qs).getD i 0) t) : SysR E (fun i => (a :: qs).getD i 0) t w := by
  obtain ⟨h1, h2, h3, h4⟩ := h
  have hget : ∀ k, k < 24 → qs[k]? = some ((a :: qs).getD (k + 1) 0) := by
    intro k hk
    have hkl : k < qs.length := by omega
    rw [List.getElem?_eq_getElem hkl]
    simp [List.getD, List.getElem?_eq_getElem hkl]
  have hnd : (a :: qs).Nodup := List.nodup_cons.mpr ⟨h3, h4⟩
  refine ⟨by rw [← hf]; exact h1, fun k hk => by rw [ht]; exact h2 k _ (hget k hk), fun i j hi hj hij => ?_⟩
  have hi' : i < (a :: qs).length := by rw [List.length_cons]; omega
  have hj' : j < (a :: qs).length := by rw [List.length_cons]; omega
  have e : ∀ k, (hk : k < (a :: qs).length) → (a :: qs).getD k 0 = (a :: qs)[k] := fun k hk => by simp [List.getD, List.getElem?_eq_getElem hk]
  have h9 : (a :: qs).getD i 0 = (a :: qs).getD j 0 := hij
  rw [e i hi', e j hj'] at h9
  exact (List.getElem_inj hnd).mp h9
theorem wa_int : Cond.arrayClass .int ∈ WS := ws_at 143 (by decide +kernel) rfl
theorem wa_bool : Cond.arrayClass .boolean ∈ WS := ws_at 766 (by decide +kernel) rfl
theorem wo_in : Cond.instanceMethod Lib.objectInit ∈ WS := ws_at 25 (by decide +kernel) rfl
set_option maxRecDepth 100000 in
theorem wo_co : Cond.code Lib.objectInit ⟨#[0xb1]⟩ 1 none ∈ WS := ws_at 26 rfl rfl

set_option maxHeartbeats 4000000 in
set_option maxRecDepth 100000 in
theorem l_R_ini0 {E : gE} {Z : gZ} {w : wd} {ce sl a : Nat} (x1 x2 x3 x4 : Int32) (hK : G E y_R_init Z 207 [(0, .ref a), (1, .int x1), (2, .int x2), (3, .int x3), (4, .int x4)] [.int (clR x1 4), .ref a] w ce sl) : G E y_R_init Z 188 [(0, .ref a), (1, .int x1), (2, .int x2), (3, .int x3), (4, .int x4)] [.ref a] w ce sl := by
  refine g_iload_n (j := 1) d_R_init_188 rfl ?_
  refine g_iconst (v := 1) d_R_init_189 (by decide) ?_
  refine g_icmp_ge (tgt := 197) d_R_init_190 (by decide) (fun h1 => ?_) (fun h1 => ?_)
  · skip
    refine g_iload_n (j := 1) d_R_init_197 rfl ?_
    refine g_iconst (v := 4) d_R_init_198 (by decide) ?_
    refine g_icmp_le (tgt := 206) d_R_init_199 (by decide) (fun h2 => ?_) (fun h2 => ?_)
    · skip
      refine g_iload_n (j := 1) d_R_init_206 rfl ?_
      have e9 : clR x1 4 = x1 := by
        unfold clR
        rw [if_pos h1, if_pos h2]
      rw [e9] at hK
      exact hK
    · skip
      refine g_iconst (v := 4) d_R_init_202 (by decide) ?_
      refine g_goto (tgt := 207) d_R_init_203 (by decide) ?_
      have e9 : clR x1 4 = 4 := by
        unfold clR
        rw [if_pos h1, if_neg h2]
      rw [e9] at hK
      exact hK
  · skip
    refine g_iconst (v := 1) d_R_init_193 (by decide) ?_
    refine g_goto (tgt := 207) d_R_init_194 (by decide) ?_
    have e9 : clR x1 4 = 1 := by
      unfold clR
      rw [if_neg h1]
    rw [e9] at hK
    exact hK

set_option maxHeartbeats 4000000 in
set_option maxRecDepth 100000 in
theorem l_R_ini1 {E : gE} {Z : gZ} {w : wd} {ce sl a : Nat} (x1 x2 x3 x4 : Int32) (hK : G E y_R_init Z 230 [(0, .ref a), (1, .int x1), (2, .int x2), (3, .int x3), (4, .int x4)] [.int (clR x2 4), .ref a] w ce sl) : G E y_R_init Z 211 [(0, .ref a), (1, .int x1), (2, .int x2), (3, .int x3), (4, .int x4)] [.ref a] w ce sl := by
  refine g_iload_n (j := 2) d_R_init_211 rfl ?_
  refine g_iconst (v := 1) d_R_init_212 (by decide) ?_
  refine g_icmp_ge (tgt := 220) d_R_init_213 (by decide) (fun h1 => ?_) (fun h1 => ?_)
  · skip
    refine g_iload_n (j := 2) d_R_init_220 rfl ?_
    refine g_iconst (v := 4) d_R_init_221 (by decide) ?_
    refine g_icmp_le (tgt := 229) d_R_init_222 (by decide) (fun h2 => ?_) (fun h2 => ?_)
    · skip
      refine g_iload_n (j := 2) d_R_init_229 rfl ?_
      have e9 : clR x2 4 = x2 := by
        unfold clR
        rw [if_pos h1, if_pos h2]
      rw [e9] at hK
      exact hK
    · skip
      refine g_iconst (v := 4) d_R_init_225 (by decide) ?_
      refine g_goto (tgt := 230) d_R_init_226 (by decide) ?_
      have e9 : clR x2 4 = 4 := by
        unfold clR
        rw [if_pos h1, if_neg h2]
      rw [e9] at hK
      exact hK
  · skip
    refine g_iconst (v := 1) d_R_init_216 (by decide) ?_
    refine g_goto (tgt := 230) d_R_init_217 (by decide) ?_
    have e9 : clR x2 4 = 1 := by
      unfold clR
      rw [if_neg h1]
    rw [e9] at hK
    exact hK

set_option maxHeartbeats 4000000 in
set_option maxRecDepth 100000 in
theorem l_R_ini2 {E : gE} {Z : gZ} {w : wd} {ce sl a : Nat} (x1 x2 x3 x4 : Int32) (hK : G E y_R_init Z 257 [(0, .ref a), (1, .int x1), (2, .int x2), (3, .int x3), (4, .int x4)] [.int (clR x3 1000), .ref a] w ce sl) : G E y_R_init Z 234 [(0, .ref a), (1, .int x1), (2, .int x2), (3, .int x3), (4, .int x4)] [.ref a] w ce sl := by
  refine g_iload_n (j := 3) d_R_init_234 rfl ?_
  refine g_iconst (v := 1) d_R_init_235 (by decide) ?_
  refine g_icmp_ge (tgt := 243) d_R_init_236 (by decide) (fun h1 => ?_) (fun h1 => ?_)
  · skip
    refine g_iload_n (j := 3) d_R_init_243 rfl ?_
    refine g_sipush (v := 1000) d_R_init_244 (by decide) ?_
    refine g_icmp_le (tgt := 256) d_R_init_247 (by decide) (fun h2 => ?_) (fun h2 => ?_)
    · skip
      refine g_iload_n (j := 3) d_R_init_256 rfl ?_
      have e9 : clR x3 1000 = x3 := by
        unfold clR
        rw [if_pos h1, if_pos h2]
      rw [e9] at hK
      exact hK
    · skip
      refine g_sipush (v := 1000) d_R_init_250 (by decide) ?_
      refine g_goto (tgt := 257) d_R_init_253 (by decide) ?_
      have e9 : clR x3 1000 = 1000 := by
        unfold clR
        rw [if_pos h1, if_neg h2]
      rw [e9] at hK
      exact hK
  · skip
    refine g_iconst (v := 1) d_R_init_239 (by decide) ?_
    refine g_goto (tgt := 257) d_R_init_240 (by decide) ?_
    have e9 : clR x3 1000 = 1 := by
      unfold clR
      rw [if_neg h1]
    rw [e9] at hK
    exact hK

set_option maxHeartbeats 4000000 in
set_option maxRecDepth 100000 in
theorem l_R_ini3 {E : gE} {Z : gZ} {w : wd} {ce sl a : Nat} (x1 x2 x3 x4 : Int32) {hv : Int32} {fs : List Value} (ha : wh w a (.inr (0, fs))) (hfs : fs[2]? = some (.int hv)) (hK : G E y_R_init Z 289 [(0, .ref a), (1, .int x1), (2, .int x2), (3, .int x3), (4, .int x4)] [.int (clR x4 hv), .ref a] w ce sl) : G E y_R_init Z 261 [(0, .ref a), (1, .int x1), (2, .int x2), (3, .int x3), (4, .int x4)] [.ref a] w ce sl := by
  refine g_iload (j := 4) d_R_init_261 rfl ?_
  refine g_iconst (v := 1) d_R_init_263 (by decide) ?_
  refine g_icmp_ge (tgt := 271) d_R_init_264 (by decide) (fun h1 => ?_) (fun h1 => ?_)
  · skip
    refine g_iload (j := 4) d_R_init_271 rfl ?_
    refine g_aload_n (j := 0) d_R_init_273 rfl ?_
    refine g_get d_R_init_274 f_R_90 ha hfs ?_
    refine g_icmp_le (tgt := 287) d_R_init_277 (by decide) (fun h2 => ?_) (fun h2 => ?_)
    · skip
      refine g_iload (j := 4) d_R_init_287 rfl ?_
      have e9 : clR x4 hv = x4 := by
        unfold clR
        rw [if_pos h1, if_pos h2]
      rw [e9] at hK
      exact hK
    · skip
      refine g_aload_n (j := 0) d_R_init_280 rfl ?_
      refine g_get d_R_init_281 f_R_90 ha hfs ?_
      refine g_goto (tgt := 289) d_R_init_284 (by decide) ?_
      have e9 : clR x4 hv = hv := by
        unfold clR
        rw [if_pos h1, if_neg h2]
      rw [e9] at hK
      exact hK
  · skip
    refine g_iconst (v := 1) d_R_init_267 (by decide) ?_
    refine g_goto (tgt := 289) d_R_init_268 (by decide) ?_
    have e9 : clR x4 hv = 1 := by
      unfold clR
      rw [if_neg h1]
    rw [e9] at hK
    exact hK

def iniR (x1 x2 x3 x4 : Int32) : tR := (fun i => if i = 0 then clR x1 4 else if i = 1 then clR x2 4 else if i = 2 then clR x3 1000 else if i = 3 then clR x4 (clR x3 1000) else 0, fun _ _ => 0)
set_option maxHeartbeats 4000000 in
set_option maxRecDepth 100000 in
theorem c_R_init {E : gE} {w : wd} {a : Nat} (ha : wh w a (.inr (0, fs0R))) (x1 x2 x3 x4 : Int32) : Cn E y_R_init 1 24 2664 [.ref a, .int x1, .int x2, .int x3, .int x4] w (fun r w' => r = none ∧ ∃ ad : Nat → Nat, ad 0 = a ∧ SysR E ad (iniR x1 x2 x3 x4) w') := by
  refine Cn.of (by decide) (Nat.le_of_ble_eq_true rfl) (fun A => ?_)
  show G E y_R_init _ 0 [(0, .ref a), (1, .int x1), (2, .int x2), (3, .int x3), (4, .int x4)] [] w 0 0
  refine g_aload_n (j := 0) d_R_init_0 rfl ?_
  refine g_objInit d_R_init_1 lk_R_1 wo_in wo_co ⟨(Nat.le_of_ble_eq_true rfl), (Nat.le_of_ble_eq_true rfl)⟩ (Nat.le_of_ble_eq_true rfl) ?_
  have hP : SysP E a [] [.int 0, .int 0, .int 0, .int 0, .null, .null, .int 0, .int 0, .int 0, .int 0, .null, .null, .null, .int 0, .null, .null, .null, .null, .null, .null, .null, .null, .null, .null, .null, .null, .null, .null, .null, .null, .null, .null, .int 0, .null] w := ⟨ha, fun k q hk => (by cases hk), by simp, List.nodup_nil⟩
  refine g_aload_n (j := 0) d_R_init_4 rfl ?_
  refine g_iconst (v := 4) d_R_init_5 (by decide) ?_
  refine r_initI (n := 0) (N := 4) d_R_init_6 d_R_init_8 wa_int fw_R_7 rfl hP rfl rfl rfl (by decide) (by decide) (Nat.le_of_ble_eq_true rfl) (Nat.le_of_ble_eq_true rfl) (Nat.le_of_ble_eq_true rfl) (fun q0 w0 hP => ?_)
  have hP : SysP E a [q0] [.int 0, .int 0, .int 0, .int 0, .ref q0, .null, .int 0, .int 0, .int 0, .int 0, .null, .null, .null, .int 0, .null, .null, .null, .null, .null, .null, .null, .null, .null, .null, .null, .null, .null, .null, .null, .null, .null, .null, .int 0, .null] w0 := hP
  refine g_aload_n (j := 0) d_R_init_11 rfl ?_
  refine g_iconst (v := 4) d_R_init_12 (by decide) ?_
  refine r_initI (n := 1) (N := 4) d_R_init_13 d_R_init_15 wa_int fw_R_13 rfl hP rfl rfl rfl (by decide) (by decide) (Nat.le_of_ble_eq_true rfl) (Nat.le_of_ble_eq_true rfl) (Nat.le_of_ble_eq_true rfl) (fun q1 w1 hP => ?_)
  have hP : SysP E a [q0, q1] [.int 0, .int 0, .int 0, .int 0, .ref q0, .ref q1, .int 0, .int 0, .int 0, .int 0, .null, .null, .null, .int 0, .null, .null, .null, .null, .null, .null, .null, .null, .null, .null, .null, .null, .null, .null, .null, .null, .null, .null, .int 0, .null] w1 := hP
  refine g_aload_n (j := 0) d_R_init_18 rfl ?_
  refine g_bipush (v := 16) d_R_init_19 (by decide) ?_
  refine r_initI (n := 2) (N := 16) d_R_init_21 d_R_init_23 wa_int fw_R_16 rfl hP rfl rfl rfl (by decide) (by decide) (Nat.le_of_ble_eq_true rfl) (Nat.le_of_ble_eq_true rfl) (Nat.le_of_ble_eq_true rfl) (fun q2 w2 hP => ?_)
  have hP : SysP E a [q0, q1, q2] [.int 0, .int 0, .int 0, .int 0, .ref q0, .ref q1, .int 0, .int 0, .int 0, .int 0, .ref q2, .null, .null, .int 0, .null, .null, .null, .null, .null, .null, .null, .null, .null, .null, .null, .null, .null, .null, .null, .null, .null, .null, .int 0, .null] w2 := hP
  refine g_aload_n (j := 0) d_R_init_26 rfl ?_
  refine g_iconst (v := 4) d_R_init_27 (by decide) ?_
  refine r_initI (n := 3) (N := 4) d_R_init_28 d_R_init_30 wa_int fw_R_19 rfl hP rfl rfl rfl (by decide) (by decide) (Nat.le_of_ble_eq_true rfl) (Nat.le_of_ble_eq_true rfl) (Nat.le_of_ble_eq_true rfl) (fun q3 w3 hP => ?_)
  have hP : SysP E a [q0, q1, q2, q3] [.int 0, .int 0, .int 0, .int 0, .ref q0, .ref q1, .int 0, .int 0, .int 0, .int 0, .ref q2, .ref q3, .null, .int 0, .null, .null, .null, .null, .null, .null, .null, .null, .null, .null, .null, .null, .null, .null, .null, .null, .null, .null, .int 0, .null] w3 := hP
  refine g_aload_n (j := 0) d_R_init_33 rfl ?_
  refine g_iconst (v := 4) d_R_init_34 (by decide) ?_
  refine r_initI (n := 4) (N := 4) d_R_init_35 d_R_init_37 wa_int fw_R_22 rfl hP rfl rfl rfl (by decide) (by decide) (Nat.le_of_ble_eq_true rfl) (Nat.le_of_ble_eq_true rfl) (Nat.le_of_ble_eq_true rfl) (fun q4 w4 hP => ?_)
  have hP : SysP E a [q0, q1, q2, q3, q4] [.int 0, .int 0, .int 0, .int 0, .ref q0, .ref q1, .int 0, .int 0, .int 0, .int 0, .ref q2, .ref q3, .ref q4, .int 0, .null, .null, .null, .null, .null, .null, .null, .null, .null, .null, .null, .null, .null, .null, .null, .null, .null, .null, .int 0, .null] w4 := hP
  refine g_aload_n (j := 0) d_R_init_40 rfl ?_
  refine g_sipush (v := 520) d_R_init_41 (by decide) ?_
  refine r_initI (n := 5) (N := 520) d_R_init_44 d_R_init_46 wa_int fw_R_25 rfl hP rfl rfl rfl (by decide) (by decide) (Nat.le_of_ble_eq_true rfl) (Nat.le_of_ble_eq_true rfl) (Nat.le_of_ble_eq_true rfl) (fun q5 w5 hP => ?_)
  have hP : SysP E a [q0, q1, q2, q3, q4, q5] [.int 0, .int 0, .int 0, .int 0, .ref q0, .ref q1, .int 0, .int 0, .int 0, .int 0, .ref q2, .ref q3, .ref q4, .int 0, .ref q5, .null, .null, .null, .null, .null, .null, .null, .null, .null, .null, .null, .null, .null, .null, .null, .null, .null, .int 0, .null] w5 := hP
  refine g_aload_n (j := 0) d_R_init_49 rfl ?_
  refine g_sipush (v := 520) d_R_init_50 (by decide) ?_
  refine r_initI (n := 6) (N := 520) d_R_init_53 d_R_init_55 wa_int fw_R_28 rfl hP rfl rfl rfl (by decide) (by decide) (Nat.le_of_ble_eq_true rfl) (Nat.le_of_ble_eq_true rfl) (Nat.le_of_ble_eq_true rfl) (fun q6 w6 hP => ?_)
  have hP : SysP E a [q0, q1, q2, q3, q4, q5, q6] [.int 0, .int 0, .int 0, .int 0, .ref q0, .ref q1, .int 0, .int 0, .int 0, .int 0, .ref q2, .ref q3, .ref q4, .int 0, .ref q5, .ref q6, .null, .null, .null, .null, .null, .null, .null, .null, .null, .null, .null, .null, .null, .null, .null, .null, .int 0, .null] w6 := hP
  refine g_aload_n (j := 0) d_R_init_58 rfl ?_
  refine g_sipush (v := 520) d_R_init_59 (by decide) ?_
  refine r_initI (n := 7) (N := 520) d_R_init_62 d_R_init_64 wa_int fw_R_31 rfl hP rfl rfl rfl (by decide) (by decide) (Nat.le_of_ble_eq_true rfl) (Nat.le_of_ble_eq_true rfl) (Nat.le_of_ble_eq_true rfl) (fun q7 w7 hP => ?_)
  have hP : SysP E a [q0, q1, q2, q3, q4, q5, q6, q7] [.int 0, .int 0, .int 0, .int 0, .ref q0, .ref q1, .int 0, .int 0, .int 0, .int 0, .ref q2, .ref q3, .ref q4, .int 0, .ref q5, .ref q6, .ref q7, .null, .null, .null, .null, .null, .null, .null, .null, .null, .null, .null, .null, .null, .null, .null, .int 0, .null] w7 := hP
  refine g_aload_n (j := 0) d_R_init_67 rfl ?_
  refine g_sipush (v := 520) d_R_init_68 (by decide) ?_
  refine r_initI (n := 8) (N := 520) d_R_init_71 d_R_init_73 wa_int fw_R_34 rfl hP rfl rfl rfl (by decide) (by decide) (Nat.le_of_ble_eq_true rfl) (Nat.le_of_ble_eq_true rfl) (Nat.le_of_ble_eq_true rfl) (fun q8 w8 hP => ?_)
  have hP : SysP E a [q0, q1, q2, q3, q4, q5, q6, q7, q8] [.int 0, .int 0, .int 0, .int 0, .ref q0, .ref q1, .int 0, .int 0, .int 0, .int 0, .ref q2, .ref q3, .ref q4, .int 0, .ref q5, .ref q6, .ref q7, .ref q8, .null, .null, .null, .null, .null, .null, .null, .null, .null, .null, .null, .null, .null, .null, .int 0, .null] w8 := hP
  refine g_aload_n (j := 0) d_R_init_76 rfl ?_
  refine g_iconst (v := 4) d_R_init_77 (by decide) ?_
  refine r_initI (n := 9) (N := 4) d_R_init_78 d_R_init_80 wa_int fw_R_37 rfl hP rfl rfl rfl (by decide) (by decide) (Nat.le_of_ble_eq_true rfl) (Nat.le_of_ble_eq_true rfl) (Nat.le_of_ble_eq_true rfl) (fun q9 w9 hP => ?_)
  have hP : SysP E a [q0, q1, q2, q3, q4, q5, q6, q7, q8, q9] [.int 0, .int 0, .int 0, .int 0, .ref q0, .ref q1, .int 0, .int 0, .int 0, .int 0, .ref q2, .ref q3, .ref q4, .int 0, .ref q5, .ref q6, .ref q7, .ref q8, .ref q9, .null, .null, .null, .null, .null, .null, .null, .null, .null, .null, .null, .null, .null, .int 0, .null] w9 := hP
  refine g_aload_n (j := 0) d_R_init_83 rfl ?_
  refine g_iconst (v := 4) d_R_init_84 (by decide) ?_
  refine r_initI (n := 10) (N := 4) d_R_init_85 d_R_init_87 wa_int fw_R_40 rfl hP rfl rfl rfl (by decide) (by decide) (Nat.le_of_ble_eq_true rfl) (Nat.le_of_ble_eq_true rfl) (Nat.le_of_ble_eq_true rfl) (fun q10 w10 hP => ?_)
  have hP : SysP E a [q0, q1, q2, q3, q4, q5, q6, q7, q8, q9, q10] [.int 0, .int 0, .int 0, .int 0, .ref q0, .ref q1, .int 0, .int 0, .int 0, .int 0, .ref q2, .ref q3, .ref q4, .int 0, .ref q5, .ref q6, .ref q7, .ref q8, .ref q9, .ref q10, .null, .null, .null, .null, .null, .null, .null, .null, .null, .null, .null, .null, .int 0, .null] w10 := hP
  refine g_aload_n (j := 0) d_R_init_90 rfl ?_
  refine g_iconst (v := 4) d_R_init_91 (by decide) ?_
  refine r_initI (n := 11) (N := 4) d_R_init_92 d_R_init_94 wa_int fw_R_43 rfl hP rfl rfl rfl (by decide) (by decide) (Nat.le_of_ble_eq_true rfl) (Nat.le_of_ble_eq_true rfl) (Nat.le_of_ble_eq_true rfl) (fun q11 w11 hP => ?_)
  have hP : SysP E a [q0, q1, q2, q3, q4, q5, q6, q7, q8, q9, q10, q11] [.int 0, .int 0, .int 0, .int 0, .ref q0, .ref q1, .int 0, .int 0, .int 0, .int 0, .ref q2, .ref q3, .ref q4, .int 0, .ref q5, .ref q6, .ref q7, .ref q8, .ref q9, .ref q10, .ref q11, .null, .null, .null, .null, .null, .null, .null, .null, .null, .null, .null, .int 0, .null] w11 := hP
  refine g_aload_n (j := 0) d_R_init_97 rfl ?_
  refine g_iconst (v := 4) d_R_init_98 (by decide) ?_
  refine r_initZ (n := 12) (N := 4) d_R_init_99 d_R_init_101 wa_bool fw_R_46 rfl hP rfl rfl rfl (by decide) (by decide) (Nat.le_of_ble_eq_true rfl) (Nat.le_of_ble_eq_true rfl) (Nat.le_of_ble_eq_true rfl) (fun q12 w12 hP => ?_)
  have hP : SysP E a [q0, q1, q2, q3, q4, q5, q6, q7, q8, q9, q10, q11, q12] [.int 0, .int 0, .int 0, .int 0, .ref q0, .ref q1, .int 0, .int 0, .int 0, .int 0, .ref q2, .ref q3, .ref q4, .int 0, .ref q5, .ref q6, .ref q7, .ref q8, .ref q9, .ref q10, .ref q11, .ref q12, .null, .null, .null, .null, .null, .null, .null, .null, .null, .null, .int 0, .null] w12 := hP
  refine g_aload_n (j := 0) d_R_init_104 rfl ?_
  refine g_iconst (v := 4) d_R_init_105 (by decide) ?_
  refine r_initI (n := 13) (N := 4) d_R_init_106 d_R_init_108 wa_int fw_R_50 rfl hP rfl rfl rfl (by decide) (by decide) (Nat.le_of_ble_eq_true rfl) (Nat.le_of_ble_eq_true rfl) (Nat.le_of_ble_eq_true rfl) (fun q13 w13 hP => ?_)
  have hP : SysP E a [q0, q1, q2, q3, q4, q5, q6, q7, q8, q9, q10, q11, q12, q13] [.int 0, .int 0, .int 0, .int 0, .ref q0, .ref q1, .int 0, .int 0, .int 0, .int 0, .ref q2, .ref q3, .ref q4, .int 0, .ref q5, .ref q6, .ref q7, .ref q8, .ref q9, .ref q10, .ref q11, .ref q12, .ref q13, .null, .null, .null, .null, .null, .null, .null, .null, .null, .int 0, .null] w13 := hP
  refine g_aload_n (j := 0) d_R_init_111 rfl ?_
  refine g_iconst (v := 4) d_R_init_112 (by decide) ?_
  refine r_initI (n := 14) (N := 4) d_R_init_113 d_R_init_115 wa_int fw_R_53 rfl hP rfl rfl rfl (by decide) (by decide) (Nat.le_of_ble_eq_true rfl) (Nat.le_of_ble_eq_true rfl) (Nat.le_of_ble_eq_true rfl) (fun q14 w14 hP => ?_)
  have hP : SysP E a [q0, q1, q2, q3, q4, q5, q6, q7, q8, q9, q10, q11, q12, q13, q14] [.int 0, .int 0, .int 0, .int 0, .ref q0, .ref q1, .int 0, .int 0, .int 0, .int 0, .ref q2, .ref q3, .ref q4, .int 0, .ref q5, .ref q6, .ref q7, .ref q8, .ref q9, .ref q10, .ref q11, .ref q12, .ref q13, .ref q14, .null, .null, .null, .null, .null, .null, .null, .null, .int 0, .null] w14 := hP
  refine g_aload_n (j := 0) d_R_init_118 rfl ?_
  refine g_iconst (v := 4) d_R_init_119 (by decide) ?_
  refine r_initI (n := 15) (N := 4) d_R_init_120 d_R_init_122 wa_int fw_R_56 rfl hP rfl rfl rfl (by decide) (by decide) (Nat.le_of_ble_eq_true rfl) (Nat.le_of_ble_eq_true rfl) (Nat.le_of_ble_eq_true rfl) (fun q15 w15 hP => ?_)
  have hP : SysP E a [q0, q1, q2, q3, q4, q5, q6, q7, q8, q9, q10, q11, q12, q13, q14, q15] [.int 0, .int 0, .int 0, .int 0, .ref q0, .ref q1, .int 0, .int 0, .int 0, .int 0, .ref q2, .ref q3, .ref q4, .int 0, .ref q5, .ref q6, .ref q7, .ref q8, .ref q9, .ref q10, .ref q11, .ref q12, .ref q13, .ref q14, .ref q15, .null, .null, .null, .null, .null, .null, .null, .int 0, .null] w15 := hP
  refine g_aload_n (j := 0) d_R_init_125 rfl ?_
  refine g_iconst (v := 4) d_R_init_126 (by decide) ?_
  refine r_initZ (n := 16) (N := 4) d_R_init_127 d_R_init_129 wa_bool fw_R_59 rfl hP rfl rfl rfl (by decide) (by decide) (Nat.le_of_ble_eq_true rfl) (Nat.le_of_ble_eq_true rfl) (Nat.le_of_ble_eq_true rfl) (fun q16 w16 hP => ?_)
  have hP : SysP E a [q0, q1, q2, q3, q4, q5, q6, q7, q8, q9, q10, q11, q12, q13, q14, q15, q16] [.int 0, .int 0, .int 0, .int 0, .ref q0, .ref q1, .int 0, .int 0, .int 0, .int 0, .ref q2, .ref q3, .ref q4, .int 0, .ref q5, .ref q6, .ref q7, .ref q8, .ref q9, .ref q10, .ref q11, .ref q12, .ref q13, .ref q14, .ref q15, .ref q16, .null, .null, .null, .null, .null, .null, .int 0, .null] w16 := hP
  refine g_aload_n (j := 0) d_R_init_132 rfl ?_
  refine g_iconst (v := 4) d_R_init_133 (by decide) ?_
  refine r_initI (n := 17) (N := 4) d_R_init_134 d_R_init_136 wa_int fw_R_62 rfl hP rfl rfl rfl (by decide) (by decide) (Nat.le_of_ble_eq_true rfl) (Nat.le_of_ble_eq_true rfl) (Nat.le_of_ble_eq_true rfl) (fun q17 w17 hP => ?_)
  have hP : SysP E a [q0, q1, q2, q3, q4, q5, q6, q7, q8, q9, q10, q11, q12, q13, q14, q15, q16, q17] [.int 0, .int 0, .int 0, .int 0, .ref q0, .ref q1, .int 0, .int 0, .int 0, .int 0, .ref q2, .ref q3, .ref q4, .int 0, .ref q5, .ref q6, .ref q7, .ref q8, .ref q9, .ref q10, .ref q11, .ref q12, .ref q13, .ref q14, .ref q15, .ref q16, .ref q17, .null, .null, .null, .null, .null, .int 0, .null] w17 := hP
  refine g_aload_n (j := 0) d_R_init_139 rfl ?_
  refine g_iconst (v := 4) d_R_init_140 (by decide) ?_
  refine r_initI (n := 18) (N := 4) d_R_init_141 d_R_init_143 wa_int fw_R_65 rfl hP rfl rfl rfl (by decide) (by decide) (Nat.le_of_ble_eq_true rfl) (Nat.le_of_ble_eq_true rfl) (Nat.le_of_ble_eq_true rfl) (fun q18 w18 hP => ?_)
  have hP : SysP E a [q0, q1, q2, q3, q4, q5, q6, q7, q8, q9, q10, q11, q12, q13, q14, q15, q16, q17, q18] [.int 0, .int 0, .int 0, .int 0, .ref q0, .ref q1, .int 0, .int 0, .int 0, .int 0, .ref q2, .ref q3, .ref q4, .int 0, .ref q5, .ref q6, .ref q7, .ref q8, .ref q9, .ref q10, .ref q11, .ref q12, .ref q13, .ref q14, .ref q15, .ref q16, .ref q17, .ref q18, .null, .null, .null, .null, .int 0, .null] w18 := hP
  refine g_aload_n (j := 0) d_R_init_146 rfl ?_
  refine g_bipush (v := 16) d_R_init_147 (by decide) ?_
  refine r_initZ (n := 19) (N := 16) d_R_init_149 d_R_init_151 wa_bool fw_R_68 rfl hP rfl rfl rfl (by decide) (by decide) (Nat.le_of_ble_eq_true rfl) (Nat.le_of_ble_eq_true rfl) (Nat.le_of_ble_eq_true rfl) (fun q19 w19 hP => ?_)
  have hP : SysP E a [q0, q1, q2, q3, q4, q5, q6, q7, q8, q9, q10, q11, q12, q13, q14, q15, q16, q17, q18, q19] [.int 0, .int 0, .int 0, .int 0, .ref q0, .ref q1, .int 0, .int 0, .int 0, .int 0, .ref q2, .ref q3, .ref q4, .int 0, .ref q5, .ref q6, .ref q7, .ref q8, .ref q9, .ref q10, .ref q11, .ref q12, .ref q13, .ref q14, .ref q15, .ref q16, .ref q17, .ref q18, .ref q19, .null, .null, .null, .int 0, .null] w19 := hP
  refine g_aload_n (j := 0) d_R_init_154 rfl ?_
  refine g_bipush (v := 16) d_R_init_155 (by decide) ?_
  refine r_initI (n := 20) (N := 16) d_R_init_157 d_R_init_159 wa_int fw_R_71 rfl hP rfl rfl rfl (by decide) (by decide) (Nat.le_of_ble_eq_true rfl) (Nat.le_of_ble_eq_true rfl) (Nat.le_of_ble_eq_true rfl) (fun q20 w20 hP => ?_)
  have hP : SysP E a [q0, q1, q2, q3, q4, q5, q6, q7, q8, q9, q10, q11, q12, q13, q14, q15, q16, q17, q18, q19, q20] [.int 0, .int 0, .int 0, .int 0, .ref q0, .ref q1, .int 0, .int 0, .int 0, .int 0, .ref q2, .ref q3, .ref q4, .int 0, .ref q5, .ref q6, .ref q7, .ref q8, .ref q9, .ref q10, .ref q11, .ref q12, .ref q13, .ref q14, .ref q15, .ref q16, .ref q17, .ref q18, .ref q19, .ref q20, .null, .null, .int 0, .null] w20 := hP
  refine g_aload_n (j := 0) d_R_init_162 rfl ?_
  refine g_bipush (v := 16) d_R_init_163 (by decide) ?_
  refine r_initI (n := 21) (N := 16) d_R_init_165 d_R_init_167 wa_int fw_R_74 rfl hP rfl rfl rfl (by decide) (by decide) (Nat.le_of_ble_eq_true rfl) (Nat.le_of_ble_eq_true rfl) (Nat.le_of_ble_eq_true rfl) (fun q21 w21 hP => ?_)
  have hP : SysP E a [q0, q1, q2, q3, q4, q5, q6, q7, q8, q9, q10, q11, q12, q13, q14, q15, q16, q17, q18, q19, q20, q21] [.int 0, .int 0, .int 0, .int 0, .ref q0, .ref q1, .int 0, .int 0, .int 0, .int 0, .ref q2, .ref q3, .ref q4, .int 0, .ref q5, .ref q6, .ref q7, .ref q8, .ref q9, .ref q10, .ref q11, .ref q12, .ref q13, .ref q14, .ref q15, .ref q16, .ref q17, .ref q18, .ref q19, .ref q20, .ref q21, .null, .int 0, .null] w21 := hP
  refine g_aload_n (j := 0) d_R_init_170 rfl ?_
  refine g_bipush (v := 16) d_R_init_171 (by decide) ?_
  refine r_initI (n := 22) (N := 16) d_R_init_173 d_R_init_175 wa_int fw_R_77 rfl hP rfl rfl rfl (by decide) (by decide) (Nat.le_of_ble_eq_true rfl) (Nat.le_of_ble_eq_true rfl) (Nat.le_of_ble_eq_true rfl) (fun q22 w22 hP => ?_)
  have hP : SysP E a [q0, q1, q2, q3, q4, q5, q6, q7, q8, q9, q10, q11, q12, q13, q14, q15, q16, q17, q18, q19, q20, q21, q22] [.int 0, .int 0, .int 0, .int 0, .ref q0, .ref q1, .int 0, .int 0, .int 0, .int 0, .ref q2, .ref q3, .ref q4, .int 0, .ref q5, .ref q6, .ref q7, .ref q8, .ref q9, .ref q10, .ref q11, .ref q12, .ref q13, .ref q14, .ref q15, .ref q16, .ref q17, .ref q18, .ref q19, .ref q20, .ref q21, .ref q22, .int 0, .null] w22 := hP
  refine g_aload_n (j := 0) d_R_init_178 rfl ?_
  refine g_sipush (v := 448) d_R_init_179 (by decide) ?_
  refine r_initI (n := 23) (N := 448) d_R_init_182 d_R_init_184 wa_int fw_R_80 rfl hP rfl rfl rfl (by decide) (by decide) (Nat.le_of_ble_eq_true rfl) (Nat.le_of_ble_eq_true rfl) (Nat.le_of_ble_eq_true rfl) (fun q23 w23 hP => ?_)
  have hP : SysP E a [q0, q1, q2, q3, q4, q5, q6, q7, q8, q9, q10, q11, q12, q13, q14, q15, q16, q17, q18, q19, q20, q21, q22, q23] [.int 0, .int 0, .int 0, .int 0, .ref q0, .ref q1, .int 0, .int 0, .int 0, .int 0, .ref q2, .ref q3, .ref q4, .int 0, .ref q5, .ref q6, .ref q7, .ref q8, .ref q9, .ref q10, .ref q11, .ref q12, .ref q13, .ref q14, .ref q15, .ref q16, .ref q17, .ref q18, .ref q19, .ref q20, .ref q21, .ref q22, .int 0, .ref q23] w23 := hP
  refine g_aload_n (j := 0) d_R_init_187 rfl ?_
  have h9 := hP.1
  refine l_R_ini0 x1 x2 x3 x4 ?_
  refine r_putP d_R_init_207 fw_R_83 rfl hP (Nat.le_of_ble_eq_true rfl) (fun v0 hP => ?_)
  have hP : SysP E a [q0, q1, q2, q3, q4, q5, q6, q7, q8, q9, q10, q11, q12, q13, q14, q15, q16, q17, q18, q19, q20, q21, q22, q23] [.int (clR x1 4), .int 0, .int 0, .int 0, .ref q0, .ref q1, .int 0, .int 0, .int 0, .int 0, .ref q2, .ref q3, .ref q4, .int 0, .ref q5, .ref q6, .ref q7, .ref q8, .ref q9, .ref q10, .ref q11, .ref q12, .ref q13, .ref q14, .ref q15, .ref q16, .ref q17, .ref q18, .ref q19, .ref q20, .ref q21, .ref q22, .int 0, .ref q23] v0 := hP
  refine g_aload_n (j := 0) d_R_init_210 rfl ?_
  have h9 := hP.1
  refine l_R_ini1 x1 x2 x3 x4 ?_
  refine r_putP d_R_init_230 fw_R_87 rfl hP (Nat.le_of_ble_eq_true rfl) (fun v1 hP => ?_)
  have hP : SysP E a [q0, q1, q2, q3, q4, q5, q6, q7, q8, q9, q10, q11, q12, q13, q14, q15, q16, q17, q18, q19, q20, q21, q22, q23] [.int (clR x1 4), .int (clR x2 4), .int 0, .int 0, .ref q0, .ref q1, .int 0, .int 0, .int 0, .int 0, .ref q2, .ref q3, .ref q4, .int 0, .ref q5, .ref q6, .ref q7, .ref q8, .ref q9, .ref q10, .ref q11, .ref q12, .ref q13, .ref q14, .ref q15, .ref q16, .ref q17, .ref q18, .ref q19, .ref q20, .ref q21, .ref q22, .int 0, .ref q23] v1 := hP
  refine g_aload_n (j := 0) d_R_init_233 rfl ?_
  have h9 := hP.1
  refine l_R_ini2 x1 x2 x3 x4 ?_
  refine r_putP d_R_init_257 fw_R_90 rfl hP (Nat.le_of_ble_eq_true rfl) (fun v2 hP => ?_)
  have hP : SysP E a [q0, q1, q2, q3, q4, q5, q6, q7, q8, q9, q10, q11, q12, q13, q14, q15, q16, q17, q18, q19, q20, q21, q22, q23] [.int (clR x1 4), .int (clR x2 4), .int (clR x3 1000), .int 0, .ref q0, .ref q1, .int 0, .int 0, .int 0, .int 0, .ref q2, .ref q3, .ref q4, .int 0, .ref q5, .ref q6, .ref q7, .ref q8, .ref q9, .ref q10, .ref q11, .ref q12, .ref q13, .ref q14, .ref q15, .ref q16, .ref q17, .ref q18, .ref q19, .ref q20, .ref q21, .ref q22, .int 0, .ref q23] v2 := hP
  refine g_aload_n (j := 0) d_R_init_260 rfl ?_
  have h9 := hP.1
  refine l_R_ini3 x1 x2 x3 x4 h9 rfl ?_
  refine r_putP d_R_init_289 fw_R_93 rfl hP (Nat.le_of_ble_eq_true rfl) (fun v3 hP => ?_)
  have hP : SysP E a [q0, q1, q2, q3, q4, q5, q6, q7, q8, q9, q10, q11, q12, q13, q14, q15, q16, q17, q18, q19, q20, q21, q22, q23] [.int (clR x1 4), .int (clR x2 4), .int (clR x3 1000), .int (clR x4 (clR x3 1000)), .ref q0, .ref q1, .int 0, .int 0, .int 0, .int 0, .ref q2, .ref q3, .ref q4, .int 0, .ref q5, .ref q6, .ref q7, .ref q8, .ref q9, .ref q10, .ref q11, .ref q12, .ref q13, .ref q14, .ref q15, .ref q16, .ref q17, .ref q18, .ref q19, .ref q20, .ref q21, .ref q22, .int 0, .ref q23] v3 := hP
  refine g_return d_R_init_292 rfl (Nat.le_of_ble_eq_true rfl) (Nat.le_of_ble_eq_true rfl) ⟨rfl, fun i => (a :: [q0, q1, q2, q3, q4, q5, q6, q7, q8, q9, q10, q11, q12, q13, q14, q15, q16, q17, q18, q19, q20, q21, q22, q23]).getD i 0, rfl, ?_⟩
  exact SysP_R hP rfl rfl rfl
