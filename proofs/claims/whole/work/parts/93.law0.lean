/-! the law: one call of both -/
abbrev zL (n0 b Ln : Nat) (xs : Nat → Int32) : gZ := (room_1, (fun q => n0 ≤ q), (fun r _ => r = some (.int 1)), fun U => va_X b Ln xs U U.heap ∧ b < U.heap.size)
/-- what follows a call: the next four numbers -/
def Lk (E : gE) (Z : gZ) (b n : Nat) (K : kC) : Prop := ∀ (s d : Nat) (r : tR) (t : tC) (L : lyC) (ad : Nat → Nat) (u v : wd) (ce sl : Nat), SysC E K L t u → SysR E ad r v → RS K (n + 1) s d r t → s + d ≤ n + 1 → wdj u v → ce ≤ 134 + 2 * (n + 1) → sl ≤ 3424 + 403 * (n + 1) → G E y_Z_law Z 698 [(3, .int (nI (4 * (n + 1)))), (2, .ref (ad 0)), (1, .ref (L.1 (0, 0, 0))), (0, .ref b)] [] (wj u v) ce sl
section LW
variable {E : gE} {n0 b Ln n s d ce sl : Nat} {xs : Nat → Int32} {K : kC} {L : lyC} {t : tC} {ad : Nat → Nat} {r : tR} {u v : wd}
theorem zL_ex : ∀ U, (zL n0 b Ln xs).2.2.2 U → va_X b Ln xs U U.heap ∧ b < U.heap.size := fun _ h => h
theorem zL_no (hb : b < n0) : ¬ (zL n0 b Ln xs).2.1 b := fun h => absurd hb (Nat.not_lt.mpr h)
set_option maxHeartbeats 4000000 in
theorem br_read (hb : b < n0) (hLn : Ln ≤ 2052) (hi : 4 * (n + 1) + 4 ≤ Ln) (C : SysC E K L t u) (R : SysR E ad r v) (h : RS K n s d r t) (hsd : s + d ≤ n) (hj : wdj u v) (hce : ce ≤ 134 + 2 * n) (hsl : sl ≤ 3424 + 403 * n) (hk : Lk E (zL n0 b Ln xs) b n K) : G E y_Z_law (zL n0 b Ln xs) 168 [(3, .int (nI (4 * (n + 1)))), (2, .ref (ad 0)), (1, .ref (L.1 (0, 0, 0))), (0, .ref b)] [] (wj u v) ce sl := by
  refine g_aload_n (j := 2) d_Z_law_168 rfl ?_
  refine g_aload_n (j := 3) d_Z_law_169 rfl ?_
  refine g_iload_n (j := 0) d_Z_law_170 rfl ?_
  refine g_iconst (v := 1) d_Z_law_171 (by decide) ?_
  refine g_iadd d_Z_law_172 ?_
  refine g_sld (j := 4 * (n + 1) + 1) zL_ex (zL_no hb) (nI_add _ 1) (by omega) (by omega) d_Z_law_173 ?_
  refine g_aload_n (j := 3) d_Z_law_174 rfl ?_
  refine g_iload_n (j := 0) d_Z_law_175 rfl ?_
  refine g_iconst (v := 2) d_Z_law_176 (by decide) ?_
  refine g_iadd d_Z_law_177 ?_
  refine g_sld (j := 4 * (n + 1) + 2) zL_ex (zL_no hb) (nI_add _ 2) (by omega) (by omega) d_Z_law_178 ?_
  obtain ⟨z, s', d', r', t', dL, mc, ms, dR, h', hsd', ⟨b1, b2, b3, b4⟩, cL, cR⟩ := pr_read C R h hsd (by omega) (xs (4 * (n + 1) + 1)) (xs (4 * (n + 1) + 2))
  refine g_callVF (rest := []) hj cL ok_L_read lk_Z_21 in_L_read se_L_read C.main rfl d_Z_law_179 rfl rfl (Nat.le_of_ble_eq_true rfl) ⟨by show dL + 1 ≤ 13; omega, by show 37 * dL + 37 ≤ 492; omega⟩ (by show ce + mc ≤ 600000; omega) (by show sl + ms ≤ 7302249; omega) (fun o u' hq hj' => ?_)
  obtain ⟨rfl, L', hL', C'⟩ := hq
  refine g_eq (st' := [.int z]) rfl rfl rfl ?_
  refine g_aload_n (j := 1) d_Z_law_182 rfl ?_
  refine g_aload_n (j := 3) d_Z_law_183 rfl ?_
  refine g_iload_n (j := 0) d_Z_law_184 rfl ?_
  refine g_iconst (v := 1) d_Z_law_185 (by decide) ?_
  refine g_iadd d_Z_law_186 ?_
  refine g_sld (j := 4 * (n + 1) + 1) zL_ex (zL_no hb) (nI_add _ 1) (by omega) (by omega) d_Z_law_187 ?_
  refine g_aload_n (j := 3) d_Z_law_188 rfl ?_
  refine g_iload_n (j := 0) d_Z_law_189 rfl ?_
  refine g_iconst (v := 2) d_Z_law_190 (by decide) ?_
  refine g_iadd d_Z_law_191 ?_
  refine g_sld (j := 4 * (n + 1) + 2) zL_ex (zL_no hb) (nI_add _ 2) (by omega) (by omega) d_Z_law_192 ?_
  refine g_swap hj' (fun hj2 => ?_)
  refine g_callVF (rest := [.int z]) hj2 cR ok_R_read lk_Z_25 in_R_read se_R_read R.obj rfl d_Z_law_193 rfl rfl (Nat.le_of_ble_eq_true rfl) ⟨by show dR + 1 ≤ 13; omega, by show 37 * dR + 37 ≤ 492; omega⟩ (by show ce + mc + 0 ≤ 600000; omega) (by show sl + ms + 0 ≤ 7302249; omega) (fun o v' hq hj3 => ?_)
  obtain ⟨rfl, R'⟩ := hq
  refine g_eq (st' := [.int z, .int z]) rfl rfl rfl ?_
  refine g_swap hj3 (fun hj4 => ?_)
  refine g_icmp_eq (tgt := 698) d_Z_law_196 (by decide) (fun _ => ?_) (fun q => absurd rfl q)
  rw [← hL']
  exact hk s' d' r' t' L' ad u' v' _ _ C' R' h' hsd' hj4 (by omega) (by omega)
set_option maxHeartbeats 4000000 in
theorem br_write (hb : b < n0) (hLn : Ln ≤ 2052) (hi : 4 * (n + 1) + 4 ≤ Ln) (C : SysC E K L t u) (R : SysR E ad r v) (h : RS K n s d r t) (hsd : s + d ≤ n) (hj : wdj u v) (hce : ce ≤ 134 + 2 * n) (hsl : sl ≤ 3424 + 403 * n) (hk : Lk E (zL n0 b Ln xs) b n K) : G E y_Z_law (zL n0 b Ln xs) 201 [(3, .int (nI (4 * (n + 1)))), (2, .ref (ad 0)), (1, .ref (L.1 (0, 0, 0))), (0, .ref b)] [] (wj u v) ce sl := by
  refine g_aload_n (j := 2) d_Z_law_201 rfl ?_
  refine g_aload_n (j := 3) d_Z_law_202 rfl ?_
  refine g_iload_n (j := 0) d_Z_law_203 rfl ?_
  refine g_iconst (v := 1) d_Z_law_204 (by decide) ?_
  refine g_iadd d_Z_law_205 ?_
  refine g_sld (j := 4 * (n + 1) + 1) zL_ex (zL_no hb) (nI_add _ 1) (by omega) (by omega) d_Z_law_206 ?_
  refine g_aload_n (j := 3) d_Z_law_207 rfl ?_
  refine g_iload_n (j := 0) d_Z_law_208 rfl ?_
  refine g_iconst (v := 2) d_Z_law_209 (by decide) ?_
  refine g_iadd d_Z_law_210 ?_
  refine g_sld (j := 4 * (n + 1) + 2) zL_ex (zL_no hb) (nI_add _ 2) (by omega) (by omega) d_Z_law_211 ?_
  refine g_aload_n (j := 3) d_Z_law_212 rfl ?_
  refine g_iload_n (j := 0) d_Z_law_213 rfl ?_
  refine g_iconst (v := 3) d_Z_law_214 (by decide) ?_
  refine g_iadd d_Z_law_215 ?_
  refine g_sld (j := 4 * (n + 1) + 3) zL_ex (zL_no hb) (nI_add _ 3) (by omega) (by omega) d_Z_law_216 ?_
  obtain ⟨z, s', d', r', t', dL, mc, ms, dR, h', hsd', ⟨b1, b2, b3, b4⟩, cL, cR⟩ := pr_write C R h hsd (by omega) (xs (4 * (n + 1) + 1)) (xs (4 * (n + 1) + 2)) (xs (4 * (n + 1) + 3))
  refine g_callVF (rest := []) hj cL ok_L_write lk_Z_26 in_L_write se_L_write C.main rfl d_Z_law_217 rfl rfl (Nat.le_of_ble_eq_true rfl) ⟨by show dL + 1 ≤ 13; omega, by show 37 * dL + 37 ≤ 492; omega⟩ (by show ce + mc ≤ 600000; omega) (by show sl + ms ≤ 7302249; omega) (fun o u' hq hj' => ?_)
  obtain ⟨rfl, L', hL', C'⟩ := hq
  refine g_eq (st' := [.int z]) rfl rfl rfl ?_
  refine g_aload_n (j := 1) d_Z_law_220 rfl ?_
  refine g_aload_n (j := 3) d_Z_law_221 rfl ?_
  refine g_iload_n (j := 0) d_Z_law_222 rfl ?_
  refine g_iconst (v := 1) d_Z_law_223 (by decide) ?_
  refine g_iadd d_Z_law_224 ?_
  refine g_sld (j := 4 * (n + 1) + 1) zL_ex (zL_no hb) (nI_add _ 1) (by omega) (by omega) d_Z_law_225 ?_
  refine g_aload_n (j := 3) d_Z_law_226 rfl ?_
  refine g_iload_n (j := 0) d_Z_law_227 rfl ?_
  refine g_iconst (v := 2) d_Z_law_228 (by decide) ?_
  refine g_iadd d_Z_law_229 ?_
  refine g_sld (j := 4 * (n + 1) + 2) zL_ex (zL_no hb) (nI_add _ 2) (by omega) (by omega) d_Z_law_230 ?_
  refine g_aload_n (j := 3) d_Z_law_231 rfl ?_
  refine g_iload_n (j := 0) d_Z_law_232 rfl ?_
  refine g_iconst (v := 3) d_Z_law_233 (by decide) ?_
  refine g_iadd d_Z_law_234 ?_
  refine g_sld (j := 4 * (n + 1) + 3) zL_ex (zL_no hb) (nI_add _ 3) (by omega) (by omega) d_Z_law_235 ?_
  refine g_swap hj' (fun hj2 => ?_)
  refine g_callVF (rest := [.int z]) hj2 cR ok_R_write lk_Z_30 in_R_write se_R_write R.obj rfl d_Z_law_236 rfl rfl (Nat.le_of_ble_eq_true rfl) ⟨by show dR + 1 ≤ 13; omega, by show 37 * dR + 37 ≤ 492; omega⟩ (by show ce + mc + 0 ≤ 600000; omega) (by show sl + ms + 0 ≤ 7302249; omega) (fun o v' hq hj3 => ?_)
  obtain ⟨rfl, R'⟩ := hq
  refine g_eq (st' := [.int z, .int z]) rfl rfl rfl ?_
  refine g_swap hj3 (fun hj4 => ?_)
  refine g_icmp_eq (tgt := 698) d_Z_law_239 (by decide) (fun _ => ?_) (fun q => absurd rfl q)
  rw [← hL']
  exact hk s' d' r' t' L' ad u' v' _ _ C' R' h' hsd' hj4 (by omega) (by omega)
set_option maxHeartbeats 4000000 in
theorem br_retry (hb : b < n0) (hLn : Ln ≤ 2052) (hi : 4 * (n + 1) + 4 ≤ Ln) (C : SysC E K L t u) (R : SysR E ad r v) (h : RS K n s d r t) (hsd : s + d ≤ n) (hj : wdj u v) (hce : ce ≤ 134 + 2 * n) (hsl : sl ≤ 3424 + 403 * n) (hk : Lk E (zL n0 b Ln xs) b n K) : G E y_Z_law (zL n0 b Ln xs) 244 [(3, .int (nI (4 * (n + 1)))), (2, .ref (ad 0)), (1, .ref (L.1 (0, 0, 0))), (0, .ref b)] [] (wj u v) ce sl := by
  refine g_aload_n (j := 2) d_Z_law_244 rfl ?_
  refine g_aload_n (j := 3) d_Z_law_245 rfl ?_
  refine g_iload_n (j := 0) d_Z_law_246 rfl ?_
  refine g_iconst (v := 1) d_Z_law_247 (by decide) ?_
  refine g_iadd d_Z_law_248 ?_
  refine g_sld (j := 4 * (n + 1) + 1) zL_ex (zL_no hb) (nI_add _ 1) (by omega) (by omega) d_Z_law_249 ?_
  obtain ⟨z, s', d', r', t', dL, mc, ms, dR, h', hsd', ⟨b1, b2, b3, b4⟩, cL, cR⟩ := pr_retry C R h hsd (by omega) (xs (4 * (n + 1) + 1))
  refine g_callVF (rest := []) hj cL ok_L_retry lk_Z_31 in_L_retry se_L_retry C.main rfl d_Z_law_250 rfl rfl (Nat.le_of_ble_eq_true rfl) ⟨by show dL + 1 ≤ 13; omega, by show 37 * dL + 37 ≤ 492; omega⟩ (by show ce + mc ≤ 600000; omega) (by show sl + ms ≤ 7302249; omega) (fun o u' hq hj' => ?_)
  obtain ⟨rfl, L', hL', C'⟩ := hq
  refine g_eq (st' := [.int z]) rfl rfl rfl ?_
  refine g_aload_n (j := 1) d_Z_law_253 rfl ?_
  refine g_aload_n (j := 3) d_Z_law_254 rfl ?_
  refine g_iload_n (j := 0) d_Z_law_255 rfl ?_
  refine g_iconst (v := 1) d_Z_law_256 (by decide) ?_
  refine g_iadd d_Z_law_257 ?_
  refine g_sld (j := 4 * (n + 1) + 1) zL_ex (zL_no hb) (nI_add _ 1) (by omega) (by omega) d_Z_law_258 ?_
  refine g_swap hj' (fun hj2 => ?_)
  refine g_callVF (rest := [.int z]) hj2 cR ok_R_retry lk_Z_35 in_R_retry se_R_retry R.obj rfl d_Z_law_259 rfl rfl (Nat.le_of_ble_eq_true rfl) ⟨by show dR + 1 ≤ 13; omega, by show 37 * dR + 37 ≤ 492; omega⟩ (by show ce + mc + 0 ≤ 600000; omega) (by show sl + ms + 0 ≤ 7302249; omega) (fun o v' hq hj3 => ?_)
  obtain ⟨rfl, R'⟩ := hq
  refine g_eq (st' := [.int z, .int z]) rfl rfl rfl ?_
  refine g_swap hj3 (fun hj4 => ?_)
  refine g_icmp_eq (tgt := 698) d_Z_law_262 (by decide) (fun _ => ?_) (fun q => absurd rfl q)
  rw [← hL']
  exact hk s' d' r' t' L' ad u' v' _ _ C' R' h' hsd' hj4 (by omega) (by omega)
set_option maxHeartbeats 4000000 in
theorem br_status (hb : b < n0) (hLn : Ln ≤ 2052) (hi : 4 * (n + 1) + 4 ≤ Ln) (C : SysC E K L t u) (R : SysR E ad r v) (h : RS K n s d r t) (hsd : s + d ≤ n) (hj : wdj u v) (hce : ce ≤ 134 + 2 * n) (hsl : sl ≤ 3424 + 403 * n) (hk : Lk E (zL n0 b Ln xs) b n K) : G E y_Z_law (zL n0 b Ln xs) 267 [(3, .int (nI (4 * (n + 1)))), (2, .ref (ad 0)), (1, .ref (L.1 (0, 0, 0))), (0, .ref b)] [] (wj u v) ce sl := by
  refine g_aload_n (j := 2) d_Z_law_267 rfl ?_
  refine g_aload_n (j := 3) d_Z_law_268 rfl ?_
  refine g_iload_n (j := 0) d_Z_law_269 rfl ?_
  refine g_iconst (v := 1) d_Z_law_270 (by decide) ?_
  refine g_iadd d_Z_law_271 ?_
  refine g_sld (j := 4 * (n + 1) + 1) zL_ex (zL_no hb) (nI_add _ 1) (by omega) (by omega) d_Z_law_272 ?_
  obtain ⟨z, s', d', r', t', dL, mc, ms, dR, h', hsd', ⟨b1, b2, b3, b4⟩, cL, cR⟩ := pr_status C R h hsd (by omega) (xs (4 * (n + 1) + 1))
  refine g_callVF (rest := []) hj cL ok_L_status lk_Z_36 in_L_status se_L_status C.main rfl d_Z_law_273 rfl rfl (Nat.le_of_ble_eq_true rfl) ⟨by show dL + 1 ≤ 13; omega, by show 37 * dL + 37 ≤ 492; omega⟩ (by show ce + mc ≤ 600000; omega) (by show sl + ms ≤ 7302249; omega) (fun o u' hq hj' => ?_)
  obtain ⟨rfl, L', hL', C'⟩ := hq
  refine g_eq (st' := [.int z]) rfl rfl rfl ?_
  refine g_aload_n (j := 1) d_Z_law_276 rfl ?_
  refine g_aload_n (j := 3) d_Z_law_277 rfl ?_
  refine g_iload_n (j := 0) d_Z_law_278 rfl ?_
  refine g_iconst (v := 1) d_Z_law_279 (by decide) ?_
  refine g_iadd d_Z_law_280 ?_
  refine g_sld (j := 4 * (n + 1) + 1) zL_ex (zL_no hb) (nI_add _ 1) (by omega) (by omega) d_Z_law_281 ?_
  refine g_swap hj' (fun hj2 => ?_)
  refine g_callVF (rest := [.int z]) hj2 cR ok_R_status lk_Z_39 in_R_status se_R_status R.obj rfl d_Z_law_282 rfl rfl (Nat.le_of_ble_eq_true rfl) ⟨by show dR + 1 ≤ 13; omega, by show 37 * dR + 37 ≤ 492; omega⟩ (by show ce + mc + 0 ≤ 600000; omega) (by show sl + ms + 0 ≤ 7302249; omega) (fun o v' hq hj3 => ?_)
  obtain ⟨rfl, R'⟩ := hq
  refine g_eq (st' := [.int z, .int z]) rfl rfl rfl ?_
  refine g_swap hj3 (fun hj4 => ?_)
  refine g_icmp_eq (tgt := 698) d_Z_law_285 (by decide) (fun _ => ?_) (fun q => absurd rfl q)
  rw [← hL']
  exact hk s' d' r' t' L' ad u' v' _ _ C' R' h' hsd' hj4 (by omega) (by omega)
set_option maxHeartbeats 4000000 in
theorem br_result (hb : b < n0) (hLn : Ln ≤ 2052) (hi : 4 * (n + 1) + 4 ≤ Ln) (C : SysC E K L t u) (R : SysR E ad r v) (h : RS K n s d r t) (hsd : s + d ≤ n) (hj : wdj u v) (hce : ce ≤ 134 + 2 * n) (hsl : sl ≤ 3424 + 403 * n) (hk : Lk E (zL n0 b Ln xs) b n K) : G E y_Z_law (zL n0 b Ln xs) 290 [(3, .int (nI (4 * (n + 1)))), (2, .ref (ad 0)), (1, .ref (L.1 (0, 0, 0))), (0, .ref b)] [] (wj u v) ce sl := by
  refine g_aload_n (j := 2) d_Z_law_290 rfl ?_
  refine g_aload_n (j := 3) d_Z_law_291 rfl ?_
  refine g_iload_n (j := 0) d_Z_law_292 rfl ?_
  refine g_iconst (v := 1) d_Z_law_293 (by decide) ?_
  refine g_iadd d_Z_law_294 ?_
  refine g_sld (j := 4 * (n + 1) + 1) zL_ex (zL_no hb) (nI_add _ 1) (by omega) (by omega) d_Z_law_295 ?_
  obtain ⟨z, s', d', r', t', dL, mc, ms, dR, h', hsd', ⟨b1, b2, b3, b4⟩, cL, cR⟩ := pr_result C R h hsd (by omega) (xs (4 * (n + 1) + 1))
  refine g_callVF (rest := []) hj cL ok_L_result lk_Z_40 in_L_result se_L_result C.main rfl d_Z_law_296 rfl rfl (Nat.le_of_ble_eq_true rfl) ⟨by show dL + 1 ≤ 13; omega, by show 37 * dL + 37 ≤ 492; omega⟩ (by show ce + mc ≤ 600000; omega) (by show sl + ms ≤ 7302249; omega) (fun o u' hq hj' => ?_)
  obtain ⟨rfl, L', hL', C'⟩ := hq
  refine g_eq (st' := [.int z]) rfl rfl rfl ?_
  refine g_aload_n (j := 1) d_Z_law_299 rfl ?_
  refine g_aload_n (j := 3) d_Z_law_300 rfl ?_
  refine g_iload_n (j := 0) d_Z_law_301 rfl ?_
  refine g_iconst (v := 1) d_Z_law_302 (by decide) ?_
  refine g_iadd d_Z_law_303 ?_
  refine g_sld (j := 4 * (n + 1) + 1) zL_ex (zL_no hb) (nI_add _ 1) (by omega) (by omega) d_Z_law_304 ?_
  refine g_swap hj' (fun hj2 => ?_)
  refine g_callVF (rest := [.int z]) hj2 cR ok_R_result lk_Z_43 in_R_result se_R_result R.obj rfl d_Z_law_305 rfl rfl (Nat.le_of_ble_eq_true rfl) ⟨by show dR + 1 ≤ 13; omega, by show 37 * dR + 37 ≤ 492; omega⟩ (by show ce + mc + 0 ≤ 600000; omega) (by show sl + ms + 0 ≤ 7302249; omega) (fun o v' hq hj3 => ?_)
  obtain ⟨rfl, R'⟩ := hq
  refine g_eq (st' := [.int z, .int z]) rfl rfl rfl ?_
  refine g_swap hj3 (fun hj4 => ?_)
  refine g_icmp_eq (tgt := 698) d_Z_law_308 (by decide) (fun _ => ?_) (fun q => absurd rfl q)
  rw [← hL']
  exact hk s' d' r' t' L' ad u' v' _ _ C' R' h' hsd' hj4 (by omega) (by omega)
end LW
