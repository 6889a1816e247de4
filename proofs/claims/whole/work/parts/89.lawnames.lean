abbrev y_Z_cell : mY := (⟨"LeasedFilesLaw", "cell", "([II)I"⟩, method_2_code, 2, (some .int))
set_option maxRecDepth 100000 in
theorem ok_Z_cell : okY y_Z_cell 2 := ⟨ws_at 656 rfl rfl, ws_at 0 (by decide +kernel) rfl, ⟨by decide +kernel, by decide +kernel⟩, by decide +kernel, by decide⟩
theorem st_Z_cell : Cond.static y_Z_cell.1 ∈ WS := ws_at 655 (by decide +kernel) rfl
theorem lk_Z_15 : Cond.methodLink "LeasedFilesLaw" 15 y_L_init.1 ∈ WS := ws_at 21 (by decide +kernel) rfl
theorem lk_Z_21 : Cond.methodLink "LeasedFilesLaw" 21 y_L_read.1 ∈ WS := ws_at 278 (by decide +kernel) rfl
theorem lk_Z_26 : Cond.methodLink "LeasedFilesLaw" 26 y_L_write.1 ∈ WS := ws_at 314 (by decide +kernel) rfl
theorem lk_Z_31 : Cond.methodLink "LeasedFilesLaw" 31 y_L_retry.1 ∈ WS := ws_at 322 (by decide +kernel) rfl
theorem lk_Z_36 : Cond.methodLink "LeasedFilesLaw" 36 y_L_status.1 ∈ WS := ws_at 330 (by decide +kernel) rfl
theorem lk_Z_40 : Cond.methodLink "LeasedFilesLaw" 40 y_L_result.1 ∈ WS := ws_at 334 (by decide +kernel) rfl
theorem lk_Z_44 : Cond.methodLink "LeasedFilesLaw" 44 y_L_version.1 ∈ WS := ws_at 342 (by decide +kernel) rfl
theorem lk_Z_48 : Cond.methodLink "LeasedFilesLaw" 48 y_L_deliver.1 ∈ WS := ws_at 346 (by decide +kernel) rfl
theorem lk_Z_52 : Cond.methodLink "LeasedFilesLaw" 52 y_L_lose.1 ∈ WS := ws_at 549 (by decide +kernel) rfl
theorem lk_Z_57 : Cond.methodLink "LeasedFilesLaw" 57 y_L_pending.1 ∈ WS := ws_at 553 (by decide +kernel) rfl
theorem lk_Z_62 : Cond.methodLink "LeasedFilesLaw" 62 y_L_message.1 ∈ WS := ws_at 557 (by decide +kernel) rfl
theorem lk_Z_66 : Cond.methodLink "LeasedFilesLaw" 66 y_L_tick.1 ∈ WS := ws_at 565 (by decide +kernel) rfl
theorem lk_Z_70 : Cond.methodLink "LeasedFilesLaw" 70 y_L_pass.1 ∈ WS := ws_at 576 (by decide +kernel) rfl
theorem lk_Z_74 : Cond.methodLink "LeasedFilesLaw" 74 y_L_crash.1 ∈ WS := ws_at 580 (by decide +kernel) rfl
theorem lk_Z_78 : Cond.methodLink "LeasedFilesLaw" 78 y_L_halt.1 ∈ WS := ws_at 588 (by decide +kernel) rfl
theorem lk_Z_82 : Cond.methodLink "LeasedFilesLaw" 82 y_L_restart.1 ∈ WS := ws_at 605 (by decide +kernel) rfl
theorem lk_Z_86 : Cond.methodLink "LeasedFilesLaw" 86 y_L_copy.1 ∈ WS := ws_at 613 (by decide +kernel) rfl
theorem lk_Z_90 : Cond.methodLink "LeasedFilesLaw" 90 y_L_lease.1 ∈ WS := ws_at 624 (by decide +kernel) rfl
theorem lk_Z_94 : Cond.methodLink "LeasedFilesLaw" 94 y_L_file.1 ∈ WS := ws_at 629 (by decide +kernel) rfl
theorem lk_Z_98 : Cond.methodLink "LeasedFilesLaw" 98 y_L_server.1 ∈ WS := ws_at 637 (by decide +kernel) rfl
theorem lk_Z_102 : Cond.methodLink "LeasedFilesLaw" 102 y_L_client.1 ∈ WS := ws_at 646 (by decide +kernel) rfl
theorem lk_Z_9 : Cond.methodLink "LeasedFilesLaw" 9 y_Z_cell.1 ∈ WS := ws_at 654 (by decide +kernel) rfl
theorem lk_Z_20 : Cond.methodLink "LeasedFilesLaw" 20 y_R_init.1 ∈ WS := ws_at 659 (by decide +kernel) rfl
theorem lk_Z_25 : Cond.methodLink "LeasedFilesLaw" 25 y_R_read.1 ∈ WS := ws_at 767 (by decide +kernel) rfl
theorem lk_Z_30 : Cond.methodLink "LeasedFilesLaw" 30 y_R_write.1 ∈ WS := ws_at 795 (by decide +kernel) rfl
theorem lk_Z_35 : Cond.methodLink "LeasedFilesLaw" 35 y_R_retry.1 ∈ WS := ws_at 799 (by decide +kernel) rfl
theorem lk_Z_39 : Cond.methodLink "LeasedFilesLaw" 39 y_R_status.1 ∈ WS := ws_at 803 (by decide +kernel) rfl
theorem lk_Z_43 : Cond.methodLink "LeasedFilesLaw" 43 y_R_result.1 ∈ WS := ws_at 807 (by decide +kernel) rfl
theorem lk_Z_47 : Cond.methodLink "LeasedFilesLaw" 47 y_R_version.1 ∈ WS := ws_at 811 (by decide +kernel) rfl
theorem lk_Z_51 : Cond.methodLink "LeasedFilesLaw" 51 y_R_deliver.1 ∈ WS := ws_at 815 (by decide +kernel) rfl
theorem lk_Z_56 : Cond.methodLink "LeasedFilesLaw" 56 y_R_lose.1 ∈ WS := ws_at 871 (by decide +kernel) rfl
theorem lk_Z_61 : Cond.methodLink "LeasedFilesLaw" 61 y_R_pending.1 ∈ WS := ws_at 875 (by decide +kernel) rfl
theorem lk_Z_65 : Cond.methodLink "LeasedFilesLaw" 65 y_R_message.1 ∈ WS := ws_at 879 (by decide +kernel) rfl
theorem lk_Z_69 : Cond.methodLink "LeasedFilesLaw" 69 y_R_tick.1 ∈ WS := ws_at 883 (by decide +kernel) rfl
theorem lk_Z_73 : Cond.methodLink "LeasedFilesLaw" 73 y_R_pass.1 ∈ WS := ws_at 887 (by decide +kernel) rfl
theorem lk_Z_77 : Cond.methodLink "LeasedFilesLaw" 77 y_R_crash.1 ∈ WS := ws_at 891 (by decide +kernel) rfl
theorem lk_Z_81 : Cond.methodLink "LeasedFilesLaw" 81 y_R_halt.1 ∈ WS := ws_at 895 (by decide +kernel) rfl
theorem lk_Z_85 : Cond.methodLink "LeasedFilesLaw" 85 y_R_restart.1 ∈ WS := ws_at 899 (by decide +kernel) rfl
theorem lk_Z_89 : Cond.methodLink "LeasedFilesLaw" 89 y_R_copy.1 ∈ WS := ws_at 903 (by decide +kernel) rfl
theorem lk_Z_93 : Cond.methodLink "LeasedFilesLaw" 93 y_R_lease.1 ∈ WS := ws_at 910 (by decide +kernel) rfl
theorem lk_Z_97 : Cond.methodLink "LeasedFilesLaw" 97 y_R_file.1 ∈ WS := ws_at 914 (by decide +kernel) rfl
theorem lk_Z_101 : Cond.methodLink "LeasedFilesLaw" 101 y_R_server.1 ∈ WS := ws_at 918 (by decide +kernel) rfl
theorem lk_Z_105 : Cond.methodLink "LeasedFilesLaw" 105 y_R_client.1 ∈ WS := ws_at 922 (by decide +kernel) rfl
theorem cl_Z_7 : Cond.classLink "LeasedFilesLaw" 7 "LeasedFiles" ∈ WS := ws_at 19 (by decide +kernel) rfl
theorem cl_Z_18 : Cond.classLink "LeasedFilesLaw" 18 "LeasedFilesModel" ∈ WS := ws_at 657 (by decide +kernel) rfl
abbrev y_Z_law : mY := (⟨"LeasedFilesLaw", "law", "([I)Z"⟩, code, 4, (some .boolean))
theorem d_Z_law_0 : decode code 0 = .ok (.new 7, 3) := by decide +kernel
theorem d_Z_law_3 : decode code 3 = .ok (.dup, 1) := by decide +kernel
theorem d_Z_law_4 : decode code 4 = .ok (.aload_n 0, 1) := by decide +kernel
theorem d_Z_law_5 : decode code 5 = .ok (.iconst 0, 1) := by decide +kernel
theorem d_Z_law_6 : decode code 6 = .ok (.invokestatic 9, 3) := by decide +kernel
theorem d_Z_law_9 : decode code 9 = .ok (.aload_n 0, 1) := by decide +kernel
theorem d_Z_law_10 : decode code 10 = .ok (.iconst 1, 1) := by decide +kernel
theorem d_Z_law_11 : decode code 11 = .ok (.invokestatic 9, 3) := by decide +kernel
theorem d_Z_law_14 : decode code 14 = .ok (.aload_n 0, 1) := by decide +kernel
theorem d_Z_law_15 : decode code 15 = .ok (.iconst 2, 1) := by decide +kernel
theorem d_Z_law_16 : decode code 16 = .ok (.invokestatic 9, 3) := by decide +kernel
theorem d_Z_law_19 : decode code 19 = .ok (.aload_n 0, 1) := by decide +kernel
theorem d_Z_law_20 : decode code 20 = .ok (.iconst 3, 1) := by decide +kernel
theorem d_Z_law_21 : decode code 21 = .ok (.invokestatic 9, 3) := by decide +kernel
theorem d_Z_law_24 : decode code 24 = .ok (.invokespecial 15, 3) := by decide +kernel
theorem d_Z_law_27 : decode code 27 = .ok (.astore_n 1, 1) := by decide +kernel
theorem d_Z_law_28 : decode code 28 = .ok (.new 18, 3) := by decide +kernel
theorem d_Z_law_31 : decode code 31 = .ok (.dup, 1) := by decide +kernel
theorem d_Z_law_32 : decode code 32 = .ok (.aload_n 0, 1) := by decide +kernel
theorem d_Z_law_33 : decode code 33 = .ok (.iconst 0, 1) := by decide +kernel
theorem d_Z_law_34 : decode code 34 = .ok (.invokestatic 9, 3) := by decide +kernel
theorem d_Z_law_37 : decode code 37 = .ok (.aload_n 0, 1) := by decide +kernel
theorem d_Z_law_38 : decode code 38 = .ok (.iconst 1, 1) := by decide +kernel
theorem d_Z_law_39 : decode code 39 = .ok (.invokestatic 9, 3) := by decide +kernel
theorem d_Z_law_42 : decode code 42 = .ok (.aload_n 0, 1) := by decide +kernel
theorem d_Z_law_43 : decode code 43 = .ok (.iconst 2, 1) := by decide +kernel
theorem d_Z_law_44 : decode code 44 = .ok (.invokestatic 9, 3) := by decide +kernel
theorem d_Z_law_47 : decode code 47 = .ok (.aload_n 0, 1) := by decide +kernel
theorem d_Z_law_48 : decode code 48 = .ok (.iconst 3, 1) := by decide +kernel
theorem d_Z_law_49 : decode code 49 = .ok (.invokestatic 9, 3) := by decide +kernel
theorem d_Z_law_52 : decode code 52 = .ok (.invokespecial 20, 3) := by decide +kernel
theorem d_Z_law_55 : decode code 55 = .ok (.astore_n 2, 1) := by decide +kernel
theorem d_Z_law_56 : decode code 56 = .ok (.iconst 4, 1) := by decide +kernel
theorem d_Z_law_57 : decode code 57 = .ok (.istore_n 3, 1) := by decide +kernel
theorem d_Z_law_58 : decode code 58 = .ok (.iload_n 3, 1) := by decide +kernel
theorem d_Z_law_59 : decode code 59 = .ok (.aload_n 0, 1) := by decide +kernel
theorem d_Z_law_60 : decode code 60 = .ok (.arraylength, 1) := by decide +kernel
theorem d_Z_law_61 : decode code 61 = .ok (.iconst 4, 1) := by decide +kernel
theorem d_Z_law_62 : decode code 62 = .ok (.isub, 1) := by decide +kernel
theorem d_Z_law_63 : decode code 63 = .ok (.if_icmp .gt 641, 3) := by decide +kernel
theorem d_Z_law_66 : decode code 66 = .ok (.aload_n 0, 1) := by decide +kernel
theorem d_Z_law_67 : decode code 67 = .ok (.iload_n 3, 1) := by decide +kernel
theorem d_Z_law_68 : decode code 68 = .ok (.iaload, 1) := by decide +kernel
theorem d_Z_law_69 : decode code 69 = .ok (.bipush 31, 2) := by decide +kernel
theorem d_Z_law_71 : decode code 71 = .ok (.iand, 1) := by decide +kernel
theorem d_Z_law_72 : decode code 72 = .ok (.tableswitch 626 0 19 #[96, 129, 172, 195, 218, 241, 264, 287, 310, 323, 356, 379, 412, 435, 448, 461, 504, 537, 570, 593], 96) := by decide +kernel
theorem d_Z_law_168 : decode code 168 = .ok (.aload_n 1, 1) := by decide +kernel
theorem d_Z_law_169 : decode code 169 = .ok (.aload_n 0, 1) := by decide +kernel
theorem d_Z_law_170 : decode code 170 = .ok (.iload_n 3, 1) := by decide +kernel
theorem d_Z_law_171 : decode code 171 = .ok (.iconst 1, 1) := by decide +kernel
theorem d_Z_law_172 : decode code 172 = .ok (.iadd, 1) := by decide +kernel
theorem d_Z_law_173 : decode code 173 = .ok (.iaload, 1) := by decide +kernel
theorem d_Z_law_174 : decode code 174 = .ok (.aload_n 0, 1) := by decide +kernel
theorem d_Z_law_175 : decode code 175 = .ok (.iload_n 3, 1) := by decide +kernel
theorem d_Z_law_176 : decode code 176 = .ok (.iconst 2, 1) := by decide +kernel
theorem d_Z_law_177 : decode code 177 = .ok (.iadd, 1) := by decide +kernel
theorem d_Z_law_178 : decode code 178 = .ok (.iaload, 1) := by decide +kernel
theorem d_Z_law_179 : decode code 179 = .ok (.invokevirtual 21, 3) := by decide +kernel
theorem d_Z_law_182 : decode code 182 = .ok (.aload_n 2, 1) := by decide +kernel
theorem d_Z_law_183 : decode code 183 = .ok (.aload_n 0, 1) := by decide +kernel
theorem d_Z_law_184 : decode code 184 = .ok (.iload_n 3, 1) := by decide +kernel
theorem d_Z_law_185 : decode code 185 = .ok (.iconst 1, 1) := by decide +kernel
theorem d_Z_law_186 : decode code 186 = .ok (.iadd, 1) := by decide +kernel
theorem d_Z_law_187 : decode code 187 = .ok (.iaload, 1) := by decide +kernel
theorem d_Z_law_188 : decode code 188 = .ok (.aload_n 0, 1) := by decide +kernel
theorem d_Z_law_189 : decode code 189 = .ok (.iload_n 3, 1) := by decide +kernel
theorem d_Z_law_190 : decode code 190 = .ok (.iconst 2, 1) := by decide +kernel
theorem d_Z_law_191 : decode code 191 = .ok (.iadd, 1) := by decide +kernel
theorem d_Z_law_192 : decode code 192 = .ok (.iaload, 1) := by decide +kernel
theorem d_Z_law_193 : decode code 193 = .ok (.invokevirtual 25, 3) := by decide +kernel
theorem d_Z_law_196 : decode code 196 = .ok (.if_icmp .eq 502, 3) := by decide +kernel
theorem d_Z_law_199 : decode code 199 = .ok (.iconst 0, 1) := by decide +kernel
theorem d_Z_law_200 : decode code 200 = .ok (.ireturn, 1) := by decide +kernel
theorem d_Z_law_201 : decode code 201 = .ok (.aload_n 1, 1) := by decide +kernel
theorem d_Z_law_202 : decode code 202 = .ok (.aload_n 0, 1) := by decide +kernel
theorem d_Z_law_203 : decode code 203 = .ok (.iload_n 3, 1) := by decide +kernel
theorem d_Z_law_204 : decode code 204 = .ok (.iconst 1, 1) := by decide +kernel
theorem d_Z_law_205 : decode code 205 = .ok (.iadd, 1) := by decide +kernel
theorem d_Z_law_206 : decode code 206 = .ok (.iaload, 1) := by decide +kernel
theorem d_Z_law_207 : decode code 207 = .ok (.aload_n 0, 1) := by decide +kernel
theorem d_Z_law_208 : decode code 208 = .ok (.iload_n 3, 1) := by decide +kernel
theorem d_Z_law_209 : decode code 209 = .ok (.iconst 2, 1) := by decide +kernel
theorem d_Z_law_210 : decode code 210 = .ok (.iadd, 1) := by decide +kernel
theorem d_Z_law_211 : decode code 211 = .ok (.iaload, 1) := by decide +kernel
theorem d_Z_law_212 : decode code 212 = .ok (.aload_n 0, 1) := by decide +kernel
theorem d_Z_law_213 : decode code 213 = .ok (.iload_n 3, 1) := by decide +kernel
theorem d_Z_law_214 : decode code 214 = .ok (.iconst 3, 1) := by decide +kernel
theorem d_Z_law_215 : decode code 215 = .ok (.iadd, 1) := by decide +kernel
theorem d_Z_law_216 : decode code 216 = .ok (.iaload, 1) := by decide +kernel
theorem d_Z_law_217 : decode code 217 = .ok (.invokevirtual 26, 3) := by decide +kernel
theorem d_Z_law_220 : decode code 220 = .ok (.aload_n 2, 1) := by decide +kernel
theorem d_Z_law_221 : decode code 221 = .ok (.aload_n 0, 1) := by decide +kernel
theorem d_Z_law_222 : decode code 222 = .ok (.iload_n 3, 1) := by decide +kernel
theorem d_Z_law_223 : decode code 223 = .ok (.iconst 1, 1) := by decide +kernel
theorem d_Z_law_224 : decode code 224 = .ok (.iadd, 1) := by decide +kernel
theorem d_Z_law_225 : decode code 225 = .ok (.iaload, 1) := by decide +kernel
theorem d_Z_law_226 : decode code 226 = .ok (.aload_n 0, 1) := by decide +kernel
theorem d_Z_law_227 : decode code 227 = .ok (.iload_n 3, 1) := by decide +kernel
theorem d_Z_law_228 : decode code 228 = .ok (.iconst 2, 1) := by decide +kernel
theorem d_Z_law_229 : decode code 229 = .ok (.iadd, 1) := by decide +kernel
theorem d_Z_law_230 : decode code 230 = .ok (.iaload, 1) := by decide +kernel
theorem d_Z_law_231 : decode code 231 = .ok (.aload_n 0, 1) := by decide +kernel
theorem d_Z_law_232 : decode code 232 = .ok (.iload_n 3, 1) := by decide +kernel
theorem d_Z_law_233 : decode code 233 = .ok (.iconst 3, 1) := by decide +kernel
theorem d_Z_law_234 : decode code 234 = .ok (.iadd, 1) := by decide +kernel
theorem d_Z_law_235 : decode code 235 = .ok (.iaload, 1) := by decide +kernel
theorem d_Z_law_236 : decode code 236 = .ok (.invokevirtual 30, 3) := by decide +kernel
theorem d_Z_law_239 : decode code 239 = .ok (.if_icmp .eq 459, 3) := by decide +kernel
theorem d_Z_law_242 : decode code 242 = .ok (.iconst 0, 1) := by decide +kernel
theorem d_Z_law_243 : decode code 243 = .ok (.ireturn, 1) := by decide +kernel
theorem d_Z_law_244 : decode code 244 = .ok (.aload_n 1, 1) := by decide +kernel
theorem d_Z_law_245 : decode code 245 = .ok (.aload_n 0, 1) := by decide +kernel
theorem d_Z_law_246 : decode code 246 = .ok (.iload_n 3, 1) := by decide +kernel
theorem d_Z_law_247 : decode code 247 = .ok (.iconst 1, 1) := by decide +kernel
theorem d_Z_law_248 : decode code 248 = .ok (.iadd, 1) := by decide +kernel
theorem d_Z_law_249 : decode code 249 = .ok (.iaload, 1) := by decide +kernel
theorem d_Z_law_250 : decode code 250 = .ok (.invokevirtual 31, 3) := by decide +kernel
theorem d_Z_law_253 : decode code 253 = .ok (.aload_n 2, 1) := by decide +kernel
theorem d_Z_law_254 : decode code 254 = .ok (.aload_n 0, 1) := by decide +kernel
theorem d_Z_law_255 : decode code 255 = .ok (.iload_n 3, 1) := by decide +kernel
theorem d_Z_law_256 : decode code 256 = .ok (.iconst 1, 1) := by decide +kernel
theorem d_Z_law_257 : decode code 257 = .ok (.iadd, 1) := by decide +kernel
theorem d_Z_law_258 : decode code 258 = .ok (.iaload, 1) := by decide +kernel
theorem d_Z_law_259 : decode code 259 = .ok (.invokevirtual 35, 3) := by decide +kernel
theorem d_Z_law_262 : decode code 262 = .ok (.if_icmp .eq 436, 3) := by decide +kernel
theorem d_Z_law_265 : decode code 265 = .ok (.iconst 0, 1) := by decide +kernel
theorem d_Z_law_266 : decode code 266 = .ok (.ireturn, 1) := by decide +kernel
theorem d_Z_law_267 : decode code 267 = .ok (.aload_n 1, 1) := by decide +kernel
theorem d_Z_law_268 : decode code 268 = .ok (.aload_n 0, 1) := by decide +kernel
theorem d_Z_law_269 : decode code 269 = .ok (.iload_n 3, 1) := by decide +kernel
theorem d_Z_law_270 : decode code 270 = .ok (.iconst 1, 1) := by decide +kernel
theorem d_Z_law_271 : decode code 271 = .ok (.iadd, 1) := by decide +kernel
theorem d_Z_law_272 : decode code 272 = .ok (.iaload, 1) := by decide +kernel
theorem d_Z_law_273 : decode code 273 = .ok (.invokevirtual 36, 3) := by decide +kernel
theorem d_Z_law_276 : decode code 276 = .ok (.aload_n 2, 1) := by decide +kernel
theorem d_Z_law_277 : decode code 277 = .ok (.aload_n 0, 1) := by decide +kernel
theorem d_Z_law_278 : decode code 278 = .ok (.iload_n 3, 1) := by decide +kernel
theorem d_Z_law_279 : decode code 279 = .ok (.iconst 1, 1) := by decide +kernel
theorem d_Z_law_280 : decode code 280 = .ok (.iadd, 1) := by decide +kernel
theorem d_Z_law_281 : decode code 281 = .ok (.iaload, 1) := by decide +kernel
theorem d_Z_law_282 : decode code 282 = .ok (.invokevirtual 39, 3) := by decide +kernel
theorem d_Z_law_285 : decode code 285 = .ok (.if_icmp .eq 413, 3) := by decide +kernel
theorem d_Z_law_288 : decode code 288 = .ok (.iconst 0, 1) := by decide +kernel
theorem d_Z_law_289 : decode code 289 = .ok (.ireturn, 1) := by decide +kernel
theorem d_Z_law_290 : decode code 290 = .ok (.aload_n 1, 1) := by decide +kernel
theorem d_Z_law_291 : decode code 291 = .ok (.aload_n 0, 1) := by decide +kernel
theorem d_Z_law_292 : decode code 292 = .ok (.iload_n 3, 1) := by decide +kernel
theorem d_Z_law_293 : decode code 293 = .ok (.iconst 1, 1) := by decide +kernel
theorem d_Z_law_294 : decode code 294 = .ok (.iadd, 1) := by decide +kernel
theorem d_Z_law_295 : decode code 295 = .ok (.iaload, 1) := by decide +kernel
theorem d_Z_law_296 : decode code 296 = .ok (.invokevirtual 40, 3) := by decide +kernel
theorem d_Z_law_299 : decode code 299 = .ok (.aload_n 2, 1) := by decide +kernel
theorem d_Z_law_300 : decode code 300 = .ok (.aload_n 0, 1) := by decide +kernel
theorem d_Z_law_301 : decode code 301 = .ok (.iload_n 3, 1) := by decide +kernel
theorem d_Z_law_302 : decode code 302 = .ok (.iconst 1, 1) := by decide +kernel
theorem d_Z_law_303 : decode code 303 = .ok (.iadd, 1) := by decide +kernel
theorem d_Z_law_304 : decode code 304 = .ok (.iaload, 1) := by decide +kernel
theorem d_Z_law_305 : decode code 305 = .ok (.invokevirtual 43, 3) := by decide +kernel
theorem d_Z_law_308 : decode code 308 = .ok (.if_icmp .eq 390, 3) := by decide +kernel
theorem d_Z_law_311 : decode code 311 = .ok (.iconst 0, 1) := by decide +kernel
theorem d_Z_law_312 : decode code 312 = .ok (.ireturn, 1) := by decide +kernel
theorem d_Z_law_313 : decode code 313 = .ok (.aload_n 1, 1) := by decide +kernel
theorem d_Z_law_314 : decode code 314 = .ok (.aload_n 0, 1) := by decide +kernel
theorem d_Z_law_315 : decode code 315 = .ok (.iload_n 3, 1) := by decide +kernel
theorem d_Z_law_316 : decode code 316 = .ok (.iconst 1, 1) := by decide +kernel
theorem d_Z_law_317 : decode code 317 = .ok (.iadd, 1) := by decide +kernel
theorem d_Z_law_318 : decode code 318 = .ok (.iaload, 1) := by decide +kernel
theorem d_Z_law_319 : decode code 319 = .ok (.invokevirtual 44, 3) := by decide +kernel
theorem d_Z_law_322 : decode code 322 = .ok (.aload_n 2, 1) := by decide +kernel
theorem d_Z_law_323 : decode code 323 = .ok (.aload_n 0, 1) := by decide +kernel
theorem d_Z_law_324 : decode code 324 = .ok (.iload_n 3, 1) := by decide +kernel
theorem d_Z_law_325 : decode code 325 = .ok (.iconst 1, 1) := by decide +kernel
theorem d_Z_law_326 : decode code 326 = .ok (.iadd, 1) := by decide +kernel
theorem d_Z_law_327 : decode code 327 = .ok (.iaload, 1) := by decide +kernel
theorem d_Z_law_328 : decode code 328 = .ok (.invokevirtual 47, 3) := by decide +kernel
theorem d_Z_law_331 : decode code 331 = .ok (.if_icmp .eq 367, 3) := by decide +kernel
theorem d_Z_law_334 : decode code 334 = .ok (.iconst 0, 1) := by decide +kernel
theorem d_Z_law_335 : decode code 335 = .ok (.ireturn, 1) := by decide +kernel
theorem d_Z_law_336 : decode code 336 = .ok (.aload_n 1, 1) := by decide +kernel
theorem d_Z_law_337 : decode code 337 = .ok (.aload_n 0, 1) := by decide +kernel
theorem d_Z_law_338 : decode code 338 = .ok (.iload_n 3, 1) := by decide +kernel
theorem d_Z_law_339 : decode code 339 = .ok (.iconst 1, 1) := by decide +kernel
theorem d_Z_law_340 : decode code 340 = .ok (.iadd, 1) := by decide +kernel
theorem d_Z_law_341 : decode code 341 = .ok (.iaload, 1) := by decide +kernel
theorem d_Z_law_342 : decode code 342 = .ok (.invokevirtual 48, 3) := by decide +kernel
theorem d_Z_law_345 : decode code 345 = .ok (.aload_n 2, 1) := by decide +kernel
theorem d_Z_law_346 : decode code 346 = .ok (.aload_n 0, 1) := by decide +kernel
theorem d_Z_law_347 : decode code 347 = .ok (.iload_n 3, 1) := by decide +kernel
theorem d_Z_law_348 : decode code 348 = .ok (.iconst 1, 1) := by decide +kernel
theorem d_Z_law_349 : decode code 349 = .ok (.iadd, 1) := by decide +kernel
theorem d_Z_law_350 : decode code 350 = .ok (.iaload, 1) := by decide +kernel
theorem d_Z_law_351 : decode code 351 = .ok (.invokevirtual 51, 3) := by decide +kernel
theorem d_Z_law_354 : decode code 354 = .ok (.if_icmp .eq 344, 3) := by decide +kernel
theorem d_Z_law_357 : decode code 357 = .ok (.iconst 0, 1) := by decide +kernel
theorem d_Z_law_358 : decode code 358 = .ok (.ireturn, 1) := by decide +kernel
theorem d_Z_law_359 : decode code 359 = .ok (.aload_n 1, 1) := by decide +kernel
theorem d_Z_law_360 : decode code 360 = .ok (.aload_n 0, 1) := by decide +kernel
theorem d_Z_law_361 : decode code 361 = .ok (.iload_n 3, 1) := by decide +kernel
theorem d_Z_law_362 : decode code 362 = .ok (.iconst 1, 1) := by decide +kernel
theorem d_Z_law_363 : decode code 363 = .ok (.iadd, 1) := by decide +kernel
theorem d_Z_law_364 : decode code 364 = .ok (.iaload, 1) := by decide +kernel
theorem d_Z_law_365 : decode code 365 = .ok (.invokevirtual 52, 3) := by decide +kernel
theorem d_Z_law_368 : decode code 368 = .ok (.aload_n 2, 1) := by decide +kernel
theorem d_Z_law_369 : decode code 369 = .ok (.aload_n 0, 1) := by decide +kernel
theorem d_Z_law_370 : decode code 370 = .ok (.iload_n 3, 1) := by decide +kernel
theorem d_Z_law_371 : decode code 371 = .ok (.iconst 1, 1) := by decide +kernel
theorem d_Z_law_372 : decode code 372 = .ok (.iadd, 1) := by decide +kernel
theorem d_Z_law_373 : decode code 373 = .ok (.iaload, 1) := by decide +kernel
theorem d_Z_law_374 : decode code 374 = .ok (.invokevirtual 56, 3) := by decide +kernel
theorem d_Z_law_377 : decode code 377 = .ok (.if_icmp .eq 321, 3) := by decide +kernel
theorem d_Z_law_380 : decode code 380 = .ok (.iconst 0, 1) := by decide +kernel
theorem d_Z_law_381 : decode code 381 = .ok (.ireturn, 1) := by decide +kernel
theorem d_Z_law_382 : decode code 382 = .ok (.aload_n 1, 1) := by decide +kernel
theorem d_Z_law_383 : decode code 383 = .ok (.invokevirtual 57, 3) := by decide +kernel
theorem d_Z_law_386 : decode code 386 = .ok (.aload_n 2, 1) := by decide +kernel
theorem d_Z_law_387 : decode code 387 = .ok (.invokevirtual 61, 3) := by decide +kernel
theorem d_Z_law_390 : decode code 390 = .ok (.if_icmp .eq 308, 3) := by decide +kernel
theorem d_Z_law_393 : decode code 393 = .ok (.iconst 0, 1) := by decide +kernel
theorem d_Z_law_394 : decode code 394 = .ok (.ireturn, 1) := by decide +kernel
theorem d_Z_law_395 : decode code 395 = .ok (.aload_n 1, 1) := by decide +kernel
theorem d_Z_law_396 : decode code 396 = .ok (.aload_n 0, 1) := by decide +kernel
theorem d_Z_law_397 : decode code 397 = .ok (.iload_n 3, 1) := by decide +kernel
theorem d_Z_law_398 : decode code 398 = .ok (.iconst 1, 1) := by decide +kernel
theorem d_Z_law_399 : decode code 399 = .ok (.iadd, 1) := by decide +kernel
theorem d_Z_law_400 : decode code 400 = .ok (.iaload, 1) := by decide +kernel
theorem d_Z_law_401 : decode code 401 = .ok (.aload_n 0, 1) := by decide +kernel
theorem d_Z_law_402 : decode code 402 = .ok (.iload_n 3, 1) := by decide +kernel
theorem d_Z_law_403 : decode code 403 = .ok (.iconst 2, 1) := by decide +kernel
theorem d_Z_law_404 : decode code 404 = .ok (.iadd, 1) := by decide +kernel
theorem d_Z_law_405 : decode code 405 = .ok (.iaload, 1) := by decide +kernel
theorem d_Z_law_406 : decode code 406 = .ok (.invokevirtual 62, 3) := by decide +kernel
theorem d_Z_law_409 : decode code 409 = .ok (.aload_n 2, 1) := by decide +kernel
theorem d_Z_law_410 : decode code 410 = .ok (.aload_n 0, 1) := by decide +kernel
theorem d_Z_law_411 : decode code 411 = .ok (.iload_n 3, 1) := by decide +kernel
theorem d_Z_law_412 : decode code 412 = .ok (.iconst 1, 1) := by decide +kernel
theorem d_Z_law_413 : decode code 413 = .ok (.iadd, 1) := by decide +kernel
theorem d_Z_law_414 : decode code 414 = .ok (.iaload, 1) := by decide +kernel
theorem d_Z_law_415 : decode code 415 = .ok (.aload_n 0, 1) := by decide +kernel
theorem d_Z_law_416 : decode code 416 = .ok (.iload_n 3, 1) := by decide +kernel
theorem d_Z_law_417 : decode code 417 = .ok (.iconst 2, 1) := by decide +kernel
theorem d_Z_law_418 : decode code 418 = .ok (.iadd, 1) := by decide +kernel
theorem d_Z_law_419 : decode code 419 = .ok (.iaload, 1) := by decide +kernel
theorem d_Z_law_420 : decode code 420 = .ok (.invokevirtual 65, 3) := by decide +kernel
theorem d_Z_law_423 : decode code 423 = .ok (.if_icmp .eq 275, 3) := by decide +kernel
theorem d_Z_law_426 : decode code 426 = .ok (.iconst 0, 1) := by decide +kernel
theorem d_Z_law_427 : decode code 427 = .ok (.ireturn, 1) := by decide +kernel
theorem d_Z_law_428 : decode code 428 = .ok (.aload_n 1, 1) := by decide +kernel
theorem d_Z_law_429 : decode code 429 = .ok (.aload_n 0, 1) := by decide +kernel
theorem d_Z_law_430 : decode code 430 = .ok (.iload_n 3, 1) := by decide +kernel
theorem d_Z_law_431 : decode code 431 = .ok (.iconst 1, 1) := by decide +kernel
theorem d_Z_law_432 : decode code 432 = .ok (.iadd, 1) := by decide +kernel
theorem d_Z_law_433 : decode code 433 = .ok (.iaload, 1) := by decide +kernel
theorem d_Z_law_434 : decode code 434 = .ok (.invokevirtual 66, 3) := by decide +kernel
theorem d_Z_law_437 : decode code 437 = .ok (.aload_n 2, 1) := by decide +kernel
theorem d_Z_law_438 : decode code 438 = .ok (.aload_n 0, 1) := by decide +kernel
theorem d_Z_law_439 : decode code 439 = .ok (.iload_n 3, 1) := by decide +kernel
theorem d_Z_law_440 : decode code 440 = .ok (.iconst 1, 1) := by decide +kernel
theorem d_Z_law_441 : decode code 441 = .ok (.iadd, 1) := by decide +kernel
theorem d_Z_law_442 : decode code 442 = .ok (.iaload, 1) := by decide +kernel
theorem d_Z_law_443 : decode code 443 = .ok (.invokevirtual 69, 3) := by decide +kernel
theorem d_Z_law_446 : decode code 446 = .ok (.if_icmp .eq 252, 3) := by decide +kernel
theorem d_Z_law_449 : decode code 449 = .ok (.iconst 0, 1) := by decide +kernel
theorem d_Z_law_450 : decode code 450 = .ok (.ireturn, 1) := by decide +kernel
theorem d_Z_law_451 : decode code 451 = .ok (.aload_n 1, 1) := by decide +kernel
theorem d_Z_law_452 : decode code 452 = .ok (.aload_n 0, 1) := by decide +kernel
theorem d_Z_law_453 : decode code 453 = .ok (.iload_n 3, 1) := by decide +kernel
theorem d_Z_law_454 : decode code 454 = .ok (.iconst 1, 1) := by decide +kernel
theorem d_Z_law_455 : decode code 455 = .ok (.iadd, 1) := by decide +kernel
theorem d_Z_law_456 : decode code 456 = .ok (.iaload, 1) := by decide +kernel
theorem d_Z_law_457 : decode code 457 = .ok (.aload_n 0, 1) := by decide +kernel
theorem d_Z_law_458 : decode code 458 = .ok (.iload_n 3, 1) := by decide +kernel
theorem d_Z_law_459 : decode code 459 = .ok (.iconst 2, 1) := by decide +kernel
theorem d_Z_law_460 : decode code 460 = .ok (.iadd, 1) := by decide +kernel
theorem d_Z_law_461 : decode code 461 = .ok (.iaload, 1) := by decide +kernel
theorem d_Z_law_462 : decode code 462 = .ok (.invokevirtual 70, 3) := by decide +kernel
theorem d_Z_law_465 : decode code 465 = .ok (.aload_n 2, 1) := by decide +kernel
theorem d_Z_law_466 : decode code 466 = .ok (.aload_n 0, 1) := by decide +kernel
theorem d_Z_law_467 : decode code 467 = .ok (.iload_n 3, 1) := by decide +kernel
theorem d_Z_law_468 : decode code 468 = .ok (.iconst 1, 1) := by decide +kernel
theorem d_Z_law_469 : decode code 469 = .ok (.iadd, 1) := by decide +kernel
theorem d_Z_law_470 : decode code 470 = .ok (.iaload, 1) := by decide +kernel
theorem d_Z_law_471 : decode code 471 = .ok (.aload_n 0, 1) := by decide +kernel
theorem d_Z_law_472 : decode code 472 = .ok (.iload_n 3, 1) := by decide +kernel
theorem d_Z_law_473 : decode code 473 = .ok (.iconst 2, 1) := by decide +kernel
theorem d_Z_law_474 : decode code 474 = .ok (.iadd, 1) := by decide +kernel
theorem d_Z_law_475 : decode code 475 = .ok (.iaload, 1) := by decide +kernel
theorem d_Z_law_476 : decode code 476 = .ok (.invokevirtual 73, 3) := by decide +kernel
theorem d_Z_law_479 : decode code 479 = .ok (.if_icmp .eq 219, 3) := by decide +kernel
theorem d_Z_law_482 : decode code 482 = .ok (.iconst 0, 1) := by decide +kernel
theorem d_Z_law_483 : decode code 483 = .ok (.ireturn, 1) := by decide +kernel
theorem d_Z_law_484 : decode code 484 = .ok (.aload_n 1, 1) := by decide +kernel
theorem d_Z_law_485 : decode code 485 = .ok (.aload_n 0, 1) := by decide +kernel
theorem d_Z_law_486 : decode code 486 = .ok (.iload_n 3, 1) := by decide +kernel
theorem d_Z_law_487 : decode code 487 = .ok (.iconst 1, 1) := by decide +kernel
theorem d_Z_law_488 : decode code 488 = .ok (.iadd, 1) := by decide +kernel
theorem d_Z_law_489 : decode code 489 = .ok (.iaload, 1) := by decide +kernel
theorem d_Z_law_490 : decode code 490 = .ok (.invokevirtual 74, 3) := by decide +kernel
theorem d_Z_law_493 : decode code 493 = .ok (.aload_n 2, 1) := by decide +kernel
theorem d_Z_law_494 : decode code 494 = .ok (.aload_n 0, 1) := by decide +kernel
theorem d_Z_law_495 : decode code 495 = .ok (.iload_n 3, 1) := by decide +kernel
theorem d_Z_law_496 : decode code 496 = .ok (.iconst 1, 1) := by decide +kernel
theorem d_Z_law_497 : decode code 497 = .ok (.iadd, 1) := by decide +kernel
theorem d_Z_law_498 : decode code 498 = .ok (.iaload, 1) := by decide +kernel
theorem d_Z_law_499 : decode code 499 = .ok (.invokevirtual 77, 3) := by decide +kernel
theorem d_Z_law_502 : decode code 502 = .ok (.if_icmp .eq 196, 3) := by decide +kernel
theorem d_Z_law_505 : decode code 505 = .ok (.iconst 0, 1) := by decide +kernel
theorem d_Z_law_506 : decode code 506 = .ok (.ireturn, 1) := by decide +kernel
theorem d_Z_law_507 : decode code 507 = .ok (.aload_n 1, 1) := by decide +kernel
theorem d_Z_law_508 : decode code 508 = .ok (.invokevirtual 78, 3) := by decide +kernel
theorem d_Z_law_511 : decode code 511 = .ok (.aload_n 2, 1) := by decide +kernel
theorem d_Z_law_512 : decode code 512 = .ok (.invokevirtual 81, 3) := by decide +kernel
theorem d_Z_law_515 : decode code 515 = .ok (.if_icmp .eq 183, 3) := by decide +kernel
theorem d_Z_law_518 : decode code 518 = .ok (.iconst 0, 1) := by decide +kernel
theorem d_Z_law_519 : decode code 519 = .ok (.ireturn, 1) := by decide +kernel
theorem d_Z_law_520 : decode code 520 = .ok (.aload_n 1, 1) := by decide +kernel
theorem d_Z_law_521 : decode code 521 = .ok (.invokevirtual 82, 3) := by decide +kernel
theorem d_Z_law_524 : decode code 524 = .ok (.aload_n 2, 1) := by decide +kernel
theorem d_Z_law_525 : decode code 525 = .ok (.invokevirtual 85, 3) := by decide +kernel
theorem d_Z_law_528 : decode code 528 = .ok (.if_icmp .eq 170, 3) := by decide +kernel
theorem d_Z_law_531 : decode code 531 = .ok (.iconst 0, 1) := by decide +kernel
theorem d_Z_law_532 : decode code 532 = .ok (.ireturn, 1) := by decide +kernel
theorem d_Z_law_533 : decode code 533 = .ok (.aload_n 1, 1) := by decide +kernel
theorem d_Z_law_534 : decode code 534 = .ok (.aload_n 0, 1) := by decide +kernel
theorem d_Z_law_535 : decode code 535 = .ok (.iload_n 3, 1) := by decide +kernel
theorem d_Z_law_536 : decode code 536 = .ok (.iconst 1, 1) := by decide +kernel
theorem d_Z_law_537 : decode code 537 = .ok (.iadd, 1) := by decide +kernel
theorem d_Z_law_538 : decode code 538 = .ok (.iaload, 1) := by decide +kernel
theorem d_Z_law_539 : decode code 539 = .ok (.aload_n 0, 1) := by decide +kernel
theorem d_Z_law_540 : decode code 540 = .ok (.iload_n 3, 1) := by decide +kernel
theorem d_Z_law_541 : decode code 541 = .ok (.iconst 2, 1) := by decide +kernel
theorem d_Z_law_542 : decode code 542 = .ok (.iadd, 1) := by decide +kernel
theorem d_Z_law_543 : decode code 543 = .ok (.iaload, 1) := by decide +kernel
theorem d_Z_law_544 : decode code 544 = .ok (.aload_n 0, 1) := by decide +kernel
theorem d_Z_law_545 : decode code 545 = .ok (.iload_n 3, 1) := by decide +kernel
theorem d_Z_law_546 : decode code 546 = .ok (.iconst 3, 1) := by decide +kernel
theorem d_Z_law_547 : decode code 547 = .ok (.iadd, 1) := by decide +kernel
theorem d_Z_law_548 : decode code 548 = .ok (.iaload, 1) := by decide +kernel
theorem d_Z_law_549 : decode code 549 = .ok (.invokevirtual 86, 3) := by decide +kernel
theorem d_Z_law_552 : decode code 552 = .ok (.aload_n 2, 1) := by decide +kernel
theorem d_Z_law_553 : decode code 553 = .ok (.aload_n 0, 1) := by decide +kernel
theorem d_Z_law_554 : decode code 554 = .ok (.iload_n 3, 1) := by decide +kernel
theorem d_Z_law_555 : decode code 555 = .ok (.iconst 1, 1) := by decide +kernel
theorem d_Z_law_556 : decode code 556 = .ok (.iadd, 1) := by decide +kernel
theorem d_Z_law_557 : decode code 557 = .ok (.iaload, 1) := by decide +kernel
theorem d_Z_law_558 : decode code 558 = .ok (.aload_n 0, 1) := by decide +kernel
theorem d_Z_law_559 : decode code 559 = .ok (.iload_n 3, 1) := by decide +kernel
theorem d_Z_law_560 : decode code 560 = .ok (.iconst 2, 1) := by decide +kernel
theorem d_Z_law_561 : decode code 561 = .ok (.iadd, 1) := by decide +kernel
theorem d_Z_law_562 : decode code 562 = .ok (.iaload, 1) := by decide +kernel
theorem d_Z_law_563 : decode code 563 = .ok (.aload_n 0, 1) := by decide +kernel
theorem d_Z_law_564 : decode code 564 = .ok (.iload_n 3, 1) := by decide +kernel
theorem d_Z_law_565 : decode code 565 = .ok (.iconst 3, 1) := by decide +kernel
theorem d_Z_law_566 : decode code 566 = .ok (.iadd, 1) := by decide +kernel
theorem d_Z_law_567 : decode code 567 = .ok (.iaload, 1) := by decide +kernel
theorem d_Z_law_568 : decode code 568 = .ok (.invokevirtual 89, 3) := by decide +kernel
theorem d_Z_law_571 : decode code 571 = .ok (.if_icmp .eq 127, 3) := by decide +kernel
theorem d_Z_law_574 : decode code 574 = .ok (.iconst 0, 1) := by decide +kernel
theorem d_Z_law_575 : decode code 575 = .ok (.ireturn, 1) := by decide +kernel
theorem d_Z_law_576 : decode code 576 = .ok (.aload_n 1, 1) := by decide +kernel
theorem d_Z_law_577 : decode code 577 = .ok (.aload_n 0, 1) := by decide +kernel
theorem d_Z_law_578 : decode code 578 = .ok (.iload_n 3, 1) := by decide +kernel
theorem d_Z_law_579 : decode code 579 = .ok (.iconst 1, 1) := by decide +kernel
theorem d_Z_law_580 : decode code 580 = .ok (.iadd, 1) := by decide +kernel
theorem d_Z_law_581 : decode code 581 = .ok (.iaload, 1) := by decide +kernel
theorem d_Z_law_582 : decode code 582 = .ok (.aload_n 0, 1) := by decide +kernel
theorem d_Z_law_583 : decode code 583 = .ok (.iload_n 3, 1) := by decide +kernel
theorem d_Z_law_584 : decode code 584 = .ok (.iconst 2, 1) := by decide +kernel
theorem d_Z_law_585 : decode code 585 = .ok (.iadd, 1) := by decide +kernel
theorem d_Z_law_586 : decode code 586 = .ok (.iaload, 1) := by decide +kernel
theorem d_Z_law_587 : decode code 587 = .ok (.invokevirtual 90, 3) := by decide +kernel
theorem d_Z_law_590 : decode code 590 = .ok (.aload_n 2, 1) := by decide +kernel
theorem d_Z_law_591 : decode code 591 = .ok (.aload_n 0, 1) := by decide +kernel
theorem d_Z_law_592 : decode code 592 = .ok (.iload_n 3, 1) := by decide +kernel
theorem d_Z_law_593 : decode code 593 = .ok (.iconst 1, 1) := by decide +kernel
theorem d_Z_law_594 : decode code 594 = .ok (.iadd, 1) := by decide +kernel
theorem d_Z_law_595 : decode code 595 = .ok (.iaload, 1) := by decide +kernel
theorem d_Z_law_596 : decode code 596 = .ok (.aload_n 0, 1) := by decide +kernel
theorem d_Z_law_597 : decode code 597 = .ok (.iload_n 3, 1) := by decide +kernel
theorem d_Z_law_598 : decode code 598 = .ok (.iconst 2, 1) := by decide +kernel
theorem d_Z_law_599 : decode code 599 = .ok (.iadd, 1) := by decide +kernel
theorem d_Z_law_600 : decode code 600 = .ok (.iaload, 1) := by decide +kernel
theorem d_Z_law_601 : decode code 601 = .ok (.invokevirtual 93, 3) := by decide +kernel
theorem d_Z_law_604 : decode code 604 = .ok (.if_icmp .eq 94, 3) := by decide +kernel
theorem d_Z_law_607 : decode code 607 = .ok (.iconst 0, 1) := by decide +kernel
theorem d_Z_law_608 : decode code 608 = .ok (.ireturn, 1) := by decide +kernel
theorem d_Z_law_609 : decode code 609 = .ok (.aload_n 1, 1) := by decide +kernel
theorem d_Z_law_610 : decode code 610 = .ok (.aload_n 0, 1) := by decide +kernel
theorem d_Z_law_611 : decode code 611 = .ok (.iload_n 3, 1) := by decide +kernel
theorem d_Z_law_612 : decode code 612 = .ok (.iconst 1, 1) := by decide +kernel
theorem d_Z_law_613 : decode code 613 = .ok (.iadd, 1) := by decide +kernel
theorem d_Z_law_614 : decode code 614 = .ok (.iaload, 1) := by decide +kernel
theorem d_Z_law_615 : decode code 615 = .ok (.aload_n 0, 1) := by decide +kernel
theorem d_Z_law_616 : decode code 616 = .ok (.iload_n 3, 1) := by decide +kernel
theorem d_Z_law_617 : decode code 617 = .ok (.iconst 2, 1) := by decide +kernel
theorem d_Z_law_618 : decode code 618 = .ok (.iadd, 1) := by decide +kernel
theorem d_Z_law_619 : decode code 619 = .ok (.iaload, 1) := by decide +kernel
theorem d_Z_law_620 : decode code 620 = .ok (.invokevirtual 94, 3) := by decide +kernel
theorem d_Z_law_623 : decode code 623 = .ok (.aload_n 2, 1) := by decide +kernel
theorem d_Z_law_624 : decode code 624 = .ok (.aload_n 0, 1) := by decide +kernel
theorem d_Z_law_625 : decode code 625 = .ok (.iload_n 3, 1) := by decide +kernel
theorem d_Z_law_626 : decode code 626 = .ok (.iconst 1, 1) := by decide +kernel
theorem d_Z_law_627 : decode code 627 = .ok (.iadd, 1) := by decide +kernel
theorem d_Z_law_628 : decode code 628 = .ok (.iaload, 1) := by decide +kernel
theorem d_Z_law_629 : decode code 629 = .ok (.aload_n 0, 1) := by decide +kernel
theorem d_Z_law_630 : decode code 630 = .ok (.iload_n 3, 1) := by decide +kernel
theorem d_Z_law_631 : decode code 631 = .ok (.iconst 2, 1) := by decide +kernel
theorem d_Z_law_632 : decode code 632 = .ok (.iadd, 1) := by decide +kernel
theorem d_Z_law_633 : decode code 633 = .ok (.iaload, 1) := by decide +kernel
theorem d_Z_law_634 : decode code 634 = .ok (.invokevirtual 97, 3) := by decide +kernel
theorem d_Z_law_637 : decode code 637 = .ok (.if_icmp .eq 61, 3) := by decide +kernel
theorem d_Z_law_640 : decode code 640 = .ok (.iconst 0, 1) := by decide +kernel
theorem d_Z_law_641 : decode code 641 = .ok (.ireturn, 1) := by decide +kernel
theorem d_Z_law_642 : decode code 642 = .ok (.aload_n 1, 1) := by decide +kernel
theorem d_Z_law_643 : decode code 643 = .ok (.aload_n 0, 1) := by decide +kernel
theorem d_Z_law_644 : decode code 644 = .ok (.iload_n 3, 1) := by decide +kernel
theorem d_Z_law_645 : decode code 645 = .ok (.iconst 1, 1) := by decide +kernel
theorem d_Z_law_646 : decode code 646 = .ok (.iadd, 1) := by decide +kernel
theorem d_Z_law_647 : decode code 647 = .ok (.iaload, 1) := by decide +kernel
theorem d_Z_law_648 : decode code 648 = .ok (.invokevirtual 98, 3) := by decide +kernel
theorem d_Z_law_651 : decode code 651 = .ok (.aload_n 2, 1) := by decide +kernel
theorem d_Z_law_652 : decode code 652 = .ok (.aload_n 0, 1) := by decide +kernel
theorem d_Z_law_653 : decode code 653 = .ok (.iload_n 3, 1) := by decide +kernel
theorem d_Z_law_654 : decode code 654 = .ok (.iconst 1, 1) := by decide +kernel
theorem d_Z_law_655 : decode code 655 = .ok (.iadd, 1) := by decide +kernel
theorem d_Z_law_656 : decode code 656 = .ok (.iaload, 1) := by decide +kernel
theorem d_Z_law_657 : decode code 657 = .ok (.invokevirtual 101, 3) := by decide +kernel
theorem d_Z_law_660 : decode code 660 = .ok (.if_icmp .eq 38, 3) := by decide +kernel
theorem d_Z_law_663 : decode code 663 = .ok (.iconst 0, 1) := by decide +kernel
theorem d_Z_law_664 : decode code 664 = .ok (.ireturn, 1) := by decide +kernel
theorem d_Z_law_665 : decode code 665 = .ok (.aload_n 1, 1) := by decide +kernel
theorem d_Z_law_666 : decode code 666 = .ok (.aload_n 0, 1) := by decide +kernel
theorem d_Z_law_667 : decode code 667 = .ok (.iload_n 3, 1) := by decide +kernel
theorem d_Z_law_668 : decode code 668 = .ok (.iconst 1, 1) := by decide +kernel
theorem d_Z_law_669 : decode code 669 = .ok (.iadd, 1) := by decide +kernel
theorem d_Z_law_670 : decode code 670 = .ok (.iaload, 1) := by decide +kernel
theorem d_Z_law_671 : decode code 671 = .ok (.aload_n 0, 1) := by decide +kernel
theorem d_Z_law_672 : decode code 672 = .ok (.iload_n 3, 1) := by decide +kernel
theorem d_Z_law_673 : decode code 673 = .ok (.iconst 2, 1) := by decide +kernel
theorem d_Z_law_674 : decode code 674 = .ok (.iadd, 1) := by decide +kernel
theorem d_Z_law_675 : decode code 675 = .ok (.iaload, 1) := by decide +kernel
theorem d_Z_law_676 : decode code 676 = .ok (.invokevirtual 102, 3) := by decide +kernel
theorem d_Z_law_679 : decode code 679 = .ok (.aload_n 2, 1) := by decide +kernel
theorem d_Z_law_680 : decode code 680 = .ok (.aload_n 0, 1) := by decide +kernel
theorem d_Z_law_681 : decode code 681 = .ok (.iload_n 3, 1) := by decide +kernel
theorem d_Z_law_682 : decode code 682 = .ok (.iconst 1, 1) := by decide +kernel
theorem d_Z_law_683 : decode code 683 = .ok (.iadd, 1) := by decide +kernel
theorem d_Z_law_684 : decode code 684 = .ok (.iaload, 1) := by decide +kernel
theorem d_Z_law_685 : decode code 685 = .ok (.aload_n 0, 1) := by decide +kernel
theorem d_Z_law_686 : decode code 686 = .ok (.iload_n 3, 1) := by decide +kernel
theorem d_Z_law_687 : decode code 687 = .ok (.iconst 2, 1) := by decide +kernel
theorem d_Z_law_688 : decode code 688 = .ok (.iadd, 1) := by decide +kernel
theorem d_Z_law_689 : decode code 689 = .ok (.iaload, 1) := by decide +kernel
theorem d_Z_law_690 : decode code 690 = .ok (.invokevirtual 105, 3) := by decide +kernel
theorem d_Z_law_693 : decode code 693 = .ok (.if_icmp .eq 5, 3) := by decide +kernel
theorem d_Z_law_696 : decode code 696 = .ok (.iconst 0, 1) := by decide +kernel
theorem d_Z_law_697 : decode code 697 = .ok (.ireturn, 1) := by decide +kernel
theorem d_Z_law_698 : decode code 698 = .ok (.iinc 3 4, 3) := by decide +kernel
theorem d_Z_law_701 : decode code 701 = .ok (.goto (-643), 3) := by decide +kernel
theorem d_Z_law_704 : decode code 704 = .ok (.iconst 1, 1) := by decide +kernel
theorem d_Z_law_705 : decode code 705 = .ok (.ireturn, 1) := by decide +kernel
theorem d_Z_cell_0 : decode method_2_code 0 = .ok (.iload_n 1, 1) := by decide +kernel
theorem d_Z_cell_1 : decode method_2_code 1 = .ok (.aload_n 0, 1) := by decide +kernel
theorem d_Z_cell_2 : decode method_2_code 2 = .ok (.arraylength, 1) := by decide +kernel
theorem d_Z_cell_3 : decode method_2_code 3 = .ok (.if_icmp .ge 9, 3) := by decide +kernel
theorem d_Z_cell_6 : decode method_2_code 6 = .ok (.aload_n 0, 1) := by decide +kernel
theorem d_Z_cell_7 : decode method_2_code 7 = .ok (.iload_n 1, 1) := by decide +kernel
theorem d_Z_cell_8 : decode method_2_code 8 = .ok (.iaload, 1) := by decide +kernel
theorem d_Z_cell_9 : decode method_2_code 9 = .ok (.goto 4, 3) := by decide +kernel
theorem d_Z_cell_12 : decode method_2_code 12 = .ok (.iconst 0, 1) := by decide +kernel
theorem d_Z_cell_13 : decode method_2_code 13 = .ok (.ireturn, 1) := by decide +kernel
