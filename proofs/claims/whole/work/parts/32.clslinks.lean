theorem lk_L_1 : Cond.methodLink "LeasedFiles" 1 Lib.objectInit ∈ WS := ws_at 24 (by decide +kernel) rfl
theorem lk_L_9 : Cond.methodLink "LeasedFiles" 9 y_L_clamp.1 ∈ WS := ws_at 27 (by decide +kernel) rfl
theorem lk_L_155 : Cond.methodLink "LeasedFiles" 155 Lib.Math.min.name ∈ WS := ws_at 30 (by decide +kernel) rfl
theorem lk_L_160 : Cond.methodLink "LeasedFiles" 160 Lib.Math.max.name ∈ WS := ws_at 33 (by decide +kernel) rfl
theorem lk_L_19 : Cond.methodLink "LeasedFiles" 19 y_P_init.1 ∈ WS := ws_at 38 (by decide +kernel) rfl
theorem lk_L_26 : Cond.methodLink "LeasedFiles" 26 y_S_init.1 ∈ WS := ws_at 106 (by decide +kernel) rfl
theorem lk_L_39 : Cond.methodLink "LeasedFiles" 39 y_C_init.1 ∈ WS := ws_at 193 (by decide +kernel) rfl
theorem lk_L_40 : Cond.methodLink "LeasedFiles" 40 y_L_hasClient.1 ∈ WS := ws_at 282 (by decide +kernel) rfl
theorem lk_L_44 : Cond.methodLink "LeasedFiles" 44 y_L_hasFile.1 ∈ WS := ws_at 286 (by decide +kernel) rfl
theorem lk_L_47 : Cond.methodLink "LeasedFiles" 47 y_C_startRead.1 ∈ WS := ws_at 290 (by decide +kernel) rfl
theorem lk_L_51 : Cond.methodLink "LeasedFiles" 51 y_C_startWrite.1 ∈ WS := ws_at 318 (by decide +kernel) rfl
theorem lk_L_55 : Cond.methodLink "LeasedFiles" 55 y_C_sendAgain.1 ∈ WS := ws_at 326 (by decide +kernel) rfl
theorem lk_L_62 : Cond.methodLink "LeasedFiles" 62 y_L_isDone.1 ∈ WS := ws_at 338 (by decide +kernel) rfl
theorem lk_L_71 : Cond.methodLink "LeasedFiles" 71 y_P_holds.1 ∈ WS := ws_at 350 (by decide +kernel) rfl
theorem lk_L_74 : Cond.methodLink "LeasedFiles" 74 y_P_takeOut.1 ∈ WS := ws_at 354 (by decide +kernel) rfl
theorem lk_L_78 : Cond.methodLink "LeasedFiles" 78 y_M_goesToServer.1 ∈ WS := ws_at 358 (by decide +kernel) rfl
theorem lk_L_84 : Cond.methodLink "LeasedFiles" 84 y_S_receive.1 ∈ WS := ws_at 362 (by decide +kernel) rfl
theorem lk_L_94 : Cond.methodLink "LeasedFiles" 94 y_C_receive.1 ∈ WS := ws_at 521 (by decide +kernel) rfl
theorem lk_L_104 : Cond.methodLink "LeasedFiles" 104 y_M_part.1 ∈ WS := ws_at 561 (by decide +kernel) rfl
theorem lk_L_108 : Cond.methodLink "LeasedFiles" 108 y_L_isStep.1 ∈ WS := ws_at 569 (by decide +kernel) rfl
theorem lk_L_111 : Cond.methodLink "LeasedFiles" 111 y_S_letTimeGoBy.1 ∈ WS := ws_at 572 (by decide +kernel) rfl
theorem lk_L_117 : Cond.methodLink "LeasedFiles" 117 y_C_forget.1 ∈ WS := ws_at 584 (by decide +kernel) rfl
theorem lk_L_125 : Cond.methodLink "LeasedFiles" 125 y_S_goDown.1 ∈ WS := ws_at 592 (by decide +kernel) rfl
theorem lk_L_128 : Cond.methodLink "LeasedFiles" 128 y_S_comeUp.1 ∈ WS := ws_at 609 (by decide +kernel) rfl
theorem lk_L_135 : Cond.methodLink "LeasedFiles" 135 y_Y_part.1 ∈ WS := ws_at 617 (by decide +kernel) rfl
theorem lk_L_149 : Cond.methodLink "LeasedFiles" 149 y_L_timeLeft.1 ∈ WS := ws_at 628 (by decide +kernel) rfl
theorem lk_L_152 : Cond.methodLink "LeasedFiles" 152 y_F_part.1 ∈ WS := ws_at 633 (by decide +kernel) rfl
theorem lk_L_153 : Cond.methodLink "LeasedFiles" 153 y_S_part.1 ∈ WS := ws_at 641 (by decide +kernel) rfl
theorem lk_L_154 : Cond.methodLink "LeasedFiles" 154 y_C_part.1 ∈ WS := ws_at 650 (by decide +kernel) rfl
theorem f_L_88 : fdl "LeasedFiles" 4 0 88 := ⟨_, T_M, 7, "LeasedFiles$Message", rfl, u_M, by decide, ws_at 53 (by decide +kernel) rfl, Or.inl rfl⟩
theorem fw_L_88 : fdw "LeasedFiles" 4 0 88 .int false := ⟨_, T_M, 7, "LeasedFiles$Message", t_M, rfl, u_M, by decide, ws_at 53 (by decide +kernel) rfl, Or.inl rfl, tk_M, n_M, by decide +kernel, rfl, fun h => by first | rfl | cases h⟩
theorem f_L_91 : fdl "LeasedFiles" 4 1 91 := ⟨_, T_M, 7, "LeasedFiles$Message", rfl, u_M, by decide, ws_at 57 (by decide +kernel) rfl, Or.inl rfl⟩
theorem fw_L_91 : fdw "LeasedFiles" 4 1 91 .int false := ⟨_, T_M, 7, "LeasedFiles$Message", t_M, rfl, u_M, by decide, ws_at 57 (by decide +kernel) rfl, Or.inl rfl, tk_M, n_M, by decide +kernel, rfl, fun h => by first | rfl | cases h⟩
theorem f_L_100 : fdl "LeasedFiles" 5 0 100 := ⟨_, T_P, 3, "LeasedFiles$Pool", rfl, u_P, by decide, ws_at 93 (by decide +kernel) rfl, Or.inl rfl⟩
theorem f_L_97 : fdl "LeasedFiles" 5 1 97 := ⟨_, T_P, 3, "LeasedFiles$Pool", rfl, u_P, by decide, ws_at 95 (by decide +kernel) rfl, Or.inl rfl⟩
theorem fw_L_97 : fdw "LeasedFiles" 5 1 97 .int false := ⟨_, T_P, 3, "LeasedFiles$Pool", t_P, rfl, u_P, by decide, ws_at 95 (by decide +kernel) rfl, Or.inl rfl, tk_P, n_P, by decide +kernel, rfl, fun h => by first | rfl | cases h⟩
theorem f_L_142 : fdl "LeasedFiles" 6 0 142 := ⟨_, T_F, 4, "LeasedFiles$ServedFile", rfl, u_F, by decide, ws_at 146 (by decide +kernel) rfl, Or.inl rfl⟩
theorem f_L_139 : fdl "LeasedFiles" 7 1 139 := ⟨_, T_S, 8, "LeasedFiles$Server", rfl, u_S, by decide, ws_at 164 (by decide +kernel) rfl, Or.inl rfl⟩
theorem f_L_148 : fdl "LeasedFiles" 7 4 148 := ⟨_, T_S, 8, "LeasedFiles$Server", rfl, u_S, by decide, ws_at 168 (by decide +kernel) rfl, Or.inl rfl⟩
theorem fw_L_148 : fdw "LeasedFiles" 7 4 148 .int false := ⟨_, T_S, 8, "LeasedFiles$Server", t_S, rfl, u_S, by decide, ws_at 168 (by decide +kernel) rfl, Or.inl rfl, tk_S, n_S, by decide +kernel, rfl, fun h => by first | rfl | cases h⟩
theorem f_L_121 : fdl "LeasedFiles" 7 5 121 := ⟨_, T_S, 8, "LeasedFiles$Server", rfl, u_S, by decide, ws_at 170 (by decide +kernel) rfl, Or.inl rfl⟩
theorem fw_L_121 : fdw "LeasedFiles" 7 5 121 .boolean false := ⟨_, T_S, 8, "LeasedFiles$Server", t_S, rfl, u_S, by decide, ws_at 170 (by decide +kernel) rfl, Or.inl rfl, tk_S, n_S, by decide +kernel, rfl, fun h => by first | rfl | cases h⟩
theorem f_L_131 : fdl "LeasedFiles" 2 2 131 := ⟨_, T_C, 13, "LeasedFiles$Client", rfl, u_C, by decide, ws_at 223 (by decide +kernel) rfl, Or.inl rfl⟩
theorem f_L_114 : fdl "LeasedFiles" 2 3 114 := ⟨_, T_C, 13, "LeasedFiles$Client", rfl, u_C, by decide, ws_at 225 (by decide +kernel) rfl, Or.inl rfl⟩
theorem fw_L_114 : fdw "LeasedFiles" 2 3 114 .int false := ⟨_, T_C, 13, "LeasedFiles$Client", t_C, rfl, u_C, by decide, ws_at 225 (by decide +kernel) rfl, Or.inl rfl, tk_C, n_C, by decide +kernel, rfl, fun h => by first | rfl | cases h⟩
theorem f_L_59 : fdl "LeasedFiles" 2 4 59 := ⟨_, T_C, 13, "LeasedFiles$Client", rfl, u_C, by decide, ws_at 227 (by decide +kernel) rfl, Or.inl rfl⟩
theorem fw_L_59 : fdw "LeasedFiles" 2 4 59 .int false := ⟨_, T_C, 13, "LeasedFiles$Client", t_C, rfl, u_C, by decide, ws_at 227 (by decide +kernel) rfl, Or.inl rfl, tk_C, n_C, by decide +kernel, rfl, fun h => by first | rfl | cases h⟩
theorem f_L_65 : fdl "LeasedFiles" 2 11 65 := ⟨_, T_C, 13, "LeasedFiles$Client", rfl, u_C, by decide, ws_at 235 (by decide +kernel) rfl, Or.inl rfl⟩
theorem fw_L_65 : fdw "LeasedFiles" 2 11 65 .int false := ⟨_, T_C, 13, "LeasedFiles$Client", t_C, rfl, u_C, by decide, ws_at 235 (by decide +kernel) rfl, Or.inl rfl, tk_C, n_C, by decide +kernel, rfl, fun h => by first | rfl | cases h⟩
theorem f_L_68 : fdl "LeasedFiles" 2 12 68 := ⟨_, T_C, 13, "LeasedFiles$Client", rfl, u_C, by decide, ws_at 237 (by decide +kernel) rfl, Or.inl rfl⟩
theorem fw_L_68 : fdw "LeasedFiles" 2 12 68 .int false := ⟨_, T_C, 13, "LeasedFiles$Client", t_C, rfl, u_C, by decide, ws_at 237 (by decide +kernel) rfl, Or.inl rfl, tk_C, n_C, by decide +kernel, rfl, fun h => by first | rfl | cases h⟩
theorem f_L_20 : fdl "LeasedFiles" 1 0 20 := ⟨_, T_L, 4, "LeasedFiles", rfl, u_L, by decide, ws_at 265 (by decide +kernel) rfl, Or.inl rfl⟩
theorem fw_L_20 : fdw "LeasedFiles" 1 0 20 (.object "LeasedFiles$Pool") true := ⟨_, T_L, 4, "LeasedFiles", t_L, rfl, u_L, by decide, ws_at 265 (by decide +kernel) rfl, Or.inl rfl, tk_L, n_L, by decide +kernel, rfl, fun h => by first | rfl | cases h⟩
theorem f_L_29 : fdl "LeasedFiles" 1 1 29 := ⟨_, T_L, 4, "LeasedFiles", rfl, u_L, by decide, ws_at 266 (by decide +kernel) rfl, Or.inl rfl⟩
theorem fw_L_29 : fdw "LeasedFiles" 1 1 29 (.object "LeasedFiles$Server") true := ⟨_, T_L, 4, "LeasedFiles", t_L, rfl, u_L, by decide, ws_at 266 (by decide +kernel) rfl, Or.inl rfl, tk_L, n_L, by decide +kernel, rfl, fun h => by first | rfl | cases h⟩
theorem f_L_35 : fdl "LeasedFiles" 1 2 35 := ⟨_, T_L, 4, "LeasedFiles", rfl, u_L, by decide, ws_at 267 (by decide +kernel) rfl, Or.inl rfl⟩
theorem fw_L_35 : fdw "LeasedFiles" 1 2 35 (.array (.object "LeasedFiles$Client")) true := ⟨_, T_L, 4, "LeasedFiles", t_L, rfl, u_L, by decide, ws_at 267 (by decide +kernel) rfl, Or.inl rfl, tk_L, n_L, by decide +kernel, rfl, fun h => by first | rfl | cases h⟩
theorem f_L_13 : fdl "LeasedFiles" 1 3 13 := ⟨_, T_L, 4, "LeasedFiles", rfl, u_L, by decide, ws_at 268 (by decide +kernel) rfl, Or.inl rfl⟩
theorem fw_L_13 : fdw "LeasedFiles" 1 3 13 .int true := ⟨_, T_L, 4, "LeasedFiles", t_L, rfl, u_L, by decide, ws_at 268 (by decide +kernel) rfl, Or.inl rfl, tk_L, n_L, by decide +kernel, rfl, fun h => by first | rfl | cases h⟩
theorem cl_L_17 : Cond.classLink "LeasedFiles" 17 "LeasedFiles$Pool" ∈ WS := ws_at 36 (by decide +kernel) rfl
theorem cl_L_24 : Cond.classLink "LeasedFiles" 24 "LeasedFiles$Server" ∈ WS := ws_at 104 (by decide +kernel) rfl
theorem cl_L_33 : Cond.classLink "LeasedFiles" 33 "LeasedFiles$Client" ∈ WS := ws_at 190 (by decide +kernel) rfl
theorem lk_C_3 : Cond.methodLink "LeasedFiles$Client" 3 Lib.objectInit ∈ WS := ws_at 196 (by decide +kernel) rfl
theorem lk_C_56 : Cond.methodLink "LeasedFiles$Client" 56 y_C_startOperation.1 ∈ WS := ws_at 294 (by decide +kernel) rfl
theorem lk_C_60 : Cond.methodLink "LeasedFiles$Client" 60 y_Y_isGoodAt.1 ∈ WS := ws_at 298 (by decide +kernel) rfl
theorem lk_C_68 : Cond.methodLink "LeasedFiles$Client" 68 y_C_finish.1 ∈ WS := ws_at 302 (by decide +kernel) rfl
theorem lk_C_72 : Cond.methodLink "LeasedFiles$Client" 72 y_C_sendRequest.1 ∈ WS := ws_at 306 (by decide +kernel) rfl
theorem lk_C_99 : Cond.methodLink "LeasedFiles$Client" 99 y_P_send.1 ∈ WS := ws_at 310 (by decide +kernel) rfl
theorem lk_C_84 : Cond.methodLink "LeasedFiles$Client" 84 y_C_receiveGiven.1 ∈ WS := ws_at 525 (by decide +kernel) rfl
theorem lk_C_95 : Cond.methodLink "LeasedFiles$Client" 95 y_C_waitsToRead.1 ∈ WS := ws_at 529 (by decide +kernel) rfl
theorem lk_C_116 : Cond.methodLink "LeasedFiles$Client" 116 y_Y_hold.1 ∈ WS := ws_at 533 (by decide +kernel) rfl
theorem lk_C_88 : Cond.methodLink "LeasedFiles$Client" 88 y_C_receiveStored.1 ∈ WS := ws_at 537 (by decide +kernel) rfl
theorem lk_C_120 : Cond.methodLink "LeasedFiles$Client" 120 y_C_waitsToWrite.1 ∈ WS := ws_at 541 (by decide +kernel) rfl
theorem lk_C_91 : Cond.methodLink "LeasedFiles$Client" 91 y_C_receiveRecall.1 ∈ WS := ws_at 545 (by decide +kernel) rfl
theorem lk_C_55 : Cond.methodLinkNest "LeasedFiles$Client" 55 y_Y_init.1 "LeasedFiles" ∈ lw_tbl := List.mem_append_right _ (List.mem_of_getElem? (i := 200) (by decide +kernel))
theorem f_C_79 : fdl "LeasedFiles$Client" 4 0 79 := ⟨_, T_M, 7, "LeasedFiles$Message", rfl, u_M, by decide, ws_at 52 (by decide +kernel) rfl, Or.inl rfl⟩
theorem fw_C_79 : fdw "LeasedFiles$Client" 4 0 79 .int false := ⟨_, T_M, 7, "LeasedFiles$Message", t_M, rfl, u_M, by decide, ws_at 52 (by decide +kernel) rfl, Or.inl rfl, tk_M, n_M, by decide +kernel, rfl, fun h => by first | rfl | cases h⟩
theorem f_C_115 : fdl "LeasedFiles$Client" 4 2 115 := ⟨_, T_M, 7, "LeasedFiles$Message", rfl, u_M, by decide, ws_at 61 (by decide +kernel) rfl, Or.inl rfl⟩
theorem fw_C_115 : fdw "LeasedFiles$Client" 4 2 115 .int false := ⟨_, T_M, 7, "LeasedFiles$Message", t_M, rfl, u_M, by decide, ws_at 61 (by decide +kernel) rfl, Or.inl rfl, tk_M, n_M, by decide +kernel, rfl, fun h => by first | rfl | cases h⟩
theorem f_C_105 : fdl "LeasedFiles$Client" 4 3 105 := ⟨_, T_M, 7, "LeasedFiles$Message", rfl, u_M, by decide, ws_at 65 (by decide +kernel) rfl, Or.inl rfl⟩
theorem fw_C_105 : fdw "LeasedFiles$Client" 4 3 105 .int false := ⟨_, T_M, 7, "LeasedFiles$Message", t_M, rfl, u_M, by decide, ws_at 65 (by decide +kernel) rfl, Or.inl rfl, tk_M, n_M, by decide +kernel, rfl, fun h => by first | rfl | cases h⟩
theorem f_C_106 : fdl "LeasedFiles$Client" 4 4 106 := ⟨_, T_M, 7, "LeasedFiles$Message", rfl, u_M, by decide, ws_at 69 (by decide +kernel) rfl, Or.inl rfl⟩
theorem fw_C_106 : fdw "LeasedFiles$Client" 4 4 106 .int false := ⟨_, T_M, 7, "LeasedFiles$Message", t_M, rfl, u_M, by decide, ws_at 69 (by decide +kernel) rfl, Or.inl rfl, tk_M, n_M, by decide +kernel, rfl, fun h => by first | rfl | cases h⟩
theorem f_C_109 : fdl "LeasedFiles$Client" 4 5 109 := ⟨_, T_M, 7, "LeasedFiles$Message", rfl, u_M, by decide, ws_at 73 (by decide +kernel) rfl, Or.inl rfl⟩
theorem fw_C_109 : fdw "LeasedFiles$Client" 4 5 109 .int false := ⟨_, T_M, 7, "LeasedFiles$Message", t_M, rfl, u_M, by decide, ws_at 73 (by decide +kernel) rfl, Or.inl rfl, tk_M, n_M, by decide +kernel, rfl, fun h => by first | rfl | cases h⟩
theorem f_C_112 : fdl "LeasedFiles$Client" 4 6 112 := ⟨_, T_M, 7, "LeasedFiles$Message", rfl, u_M, by decide, ws_at 76 (by decide +kernel) rfl, Or.inl rfl⟩
theorem fw_C_112 : fdw "LeasedFiles$Client" 4 6 112 .int false := ⟨_, T_M, 7, "LeasedFiles$Message", t_M, rfl, u_M, by decide, ws_at 76 (by decide +kernel) rfl, Or.inl rfl, tk_M, n_M, by decide +kernel, rfl, fun h => by first | rfl | cases h⟩
theorem f_C_76 : fdl "LeasedFiles$Client" 3 0 76 := ⟨_, T_Y, 4, "LeasedFiles$Copy", rfl, u_Y, by decide, ws_at 205 (by decide +kernel) rfl, Or.inl rfl⟩
theorem fw_C_76 : fdw "LeasedFiles$Client" 3 0 76 .boolean false := ⟨_, T_Y, 4, "LeasedFiles$Copy", t_Y, rfl, u_Y, by decide, ws_at 205 (by decide +kernel) rfl, Or.inl rfl, tk_Y, n_Y, by decide +kernel, rfl, fun h => by first | rfl | cases h⟩
theorem f_C_64 : fdl "LeasedFiles$Client" 3 1 64 := ⟨_, T_Y, 4, "LeasedFiles$Copy", rfl, u_Y, by decide, ws_at 207 (by decide +kernel) rfl, Or.inl rfl⟩
theorem fw_C_64 : fdw "LeasedFiles$Client" 3 1 64 .int false := ⟨_, T_Y, 4, "LeasedFiles$Copy", t_Y, rfl, u_Y, by decide, ws_at 207 (by decide +kernel) rfl, Or.inl rfl, tk_Y, n_Y, by decide +kernel, rfl, fun h => by first | rfl | cases h⟩
theorem f_C_65 : fdl "LeasedFiles$Client" 3 2 65 := ⟨_, T_Y, 4, "LeasedFiles$Copy", rfl, u_Y, by decide, ws_at 209 (by decide +kernel) rfl, Or.inl rfl⟩
theorem fw_C_65 : fdw "LeasedFiles$Client" 3 2 65 .int false := ⟨_, T_Y, 4, "LeasedFiles$Copy", t_Y, rfl, u_Y, by decide, ws_at 209 (by decide +kernel) rfl, Or.inl rfl, tk_Y, n_Y, by decide +kernel, rfl, fun h => by first | rfl | cases h⟩
theorem f_C_43 : fdl "LeasedFiles$Client" 2 0 43 := ⟨_, T_C, 13, "LeasedFiles$Client", rfl, u_C, by decide, ws_at 220 (by decide +kernel) rfl, Or.inl rfl⟩
theorem fw_C_43 : fdw "LeasedFiles$Client" 2 0 43 .int true := ⟨_, T_C, 13, "LeasedFiles$Client", t_C, rfl, u_C, by decide, ws_at 220 (by decide +kernel) rfl, Or.inl rfl, tk_C, n_C, by decide +kernel, rfl, fun h => by first | rfl | cases h⟩
theorem f_C_46 : fdl "LeasedFiles$Client" 2 1 46 := ⟨_, T_C, 13, "LeasedFiles$Client", rfl, u_C, by decide, ws_at 221 (by decide +kernel) rfl, Or.inl rfl⟩
theorem fw_C_46 : fdw "LeasedFiles$Client" 2 1 46 .int true := ⟨_, T_C, 13, "LeasedFiles$Client", t_C, rfl, u_C, by decide, ws_at 221 (by decide +kernel) rfl, Or.inl rfl, tk_C, n_C, by decide +kernel, rfl, fun h => by first | rfl | cases h⟩
theorem f_C_51 : fdl "LeasedFiles$Client" 2 2 51 := ⟨_, T_C, 13, "LeasedFiles$Client", rfl, u_C, by decide, ws_at 222 (by decide +kernel) rfl, Or.inl rfl⟩
theorem fw_C_51 : fdw "LeasedFiles$Client" 2 2 51 (.array (.object "LeasedFiles$Copy")) true := ⟨_, T_C, 13, "LeasedFiles$Client", t_C, rfl, u_C, by decide, ws_at 222 (by decide +kernel) rfl, Or.inl rfl, tk_C, n_C, by decide +kernel, rfl, fun h => by first | rfl | cases h⟩
theorem f_C_9 : fdl "LeasedFiles$Client" 2 3 9 := ⟨_, T_C, 13, "LeasedFiles$Client", rfl, u_C, by decide, ws_at 224 (by decide +kernel) rfl, Or.inl rfl⟩
theorem fw_C_9 : fdw "LeasedFiles$Client" 2 3 9 .int false := ⟨_, T_C, 13, "LeasedFiles$Client", t_C, rfl, u_C, by decide, ws_at 224 (by decide +kernel) rfl, Or.inl rfl, tk_C, n_C, by decide +kernel, rfl, fun h => by first | rfl | cases h⟩
theorem f_C_15 : fdl "LeasedFiles$Client" 2 4 15 := ⟨_, T_C, 13, "LeasedFiles$Client", rfl, u_C, by decide, ws_at 226 (by decide +kernel) rfl, Or.inl rfl⟩
theorem fw_C_15 : fdw "LeasedFiles$Client" 2 4 15 .int false := ⟨_, T_C, 13, "LeasedFiles$Client", t_C, rfl, u_C, by decide, ws_at 226 (by decide +kernel) rfl, Or.inl rfl, tk_C, n_C, by decide +kernel, rfl, fun h => by first | rfl | cases h⟩
theorem f_C_18 : fdl "LeasedFiles$Client" 2 5 18 := ⟨_, T_C, 13, "LeasedFiles$Client", rfl, u_C, by decide, ws_at 228 (by decide +kernel) rfl, Or.inl rfl⟩
theorem fw_C_18 : fdw "LeasedFiles$Client" 2 5 18 .int false := ⟨_, T_C, 13, "LeasedFiles$Client", t_C, rfl, u_C, by decide, ws_at 228 (by decide +kernel) rfl, Or.inl rfl, tk_C, n_C, by decide +kernel, rfl, fun h => by first | rfl | cases h⟩
theorem f_C_21 : fdl "LeasedFiles$Client" 2 6 21 := ⟨_, T_C, 13, "LeasedFiles$Client", rfl, u_C, by decide, ws_at 229 (by decide +kernel) rfl, Or.inl rfl⟩
theorem fw_C_21 : fdw "LeasedFiles$Client" 2 6 21 .boolean false := ⟨_, T_C, 13, "LeasedFiles$Client", t_C, rfl, u_C, by decide, ws_at 229 (by decide +kernel) rfl, Or.inl rfl, tk_C, n_C, by decide +kernel, rfl, fun h => by first | rfl | cases h⟩
theorem f_C_25 : fdl "LeasedFiles$Client" 2 7 25 := ⟨_, T_C, 13, "LeasedFiles$Client", rfl, u_C, by decide, ws_at 230 (by decide +kernel) rfl, Or.inl rfl⟩
theorem fw_C_25 : fdw "LeasedFiles$Client" 2 7 25 .int false := ⟨_, T_C, 13, "LeasedFiles$Client", t_C, rfl, u_C, by decide, ws_at 230 (by decide +kernel) rfl, Or.inl rfl, tk_C, n_C, by decide +kernel, rfl, fun h => by first | rfl | cases h⟩
theorem f_C_28 : fdl "LeasedFiles$Client" 2 8 28 := ⟨_, T_C, 13, "LeasedFiles$Client", rfl, u_C, by decide, ws_at 231 (by decide +kernel) rfl, Or.inl rfl⟩
theorem fw_C_28 : fdw "LeasedFiles$Client" 2 8 28 .int false := ⟨_, T_C, 13, "LeasedFiles$Client", t_C, rfl, u_C, by decide, ws_at 231 (by decide +kernel) rfl, Or.inl rfl, tk_C, n_C, by decide +kernel, rfl, fun h => by first | rfl | cases h⟩
theorem f_C_31 : fdl "LeasedFiles$Client" 2 9 31 := ⟨_, T_C, 13, "LeasedFiles$Client", rfl, u_C, by decide, ws_at 232 (by decide +kernel) rfl, Or.inl rfl⟩
theorem fw_C_31 : fdw "LeasedFiles$Client" 2 9 31 .int false := ⟨_, T_C, 13, "LeasedFiles$Client", t_C, rfl, u_C, by decide, ws_at 232 (by decide +kernel) rfl, Or.inl rfl, tk_C, n_C, by decide +kernel, rfl, fun h => by first | rfl | cases h⟩
theorem f_C_34 : fdl "LeasedFiles$Client" 2 10 34 := ⟨_, T_C, 13, "LeasedFiles$Client", rfl, u_C, by decide, ws_at 233 (by decide +kernel) rfl, Or.inl rfl⟩
theorem fw_C_34 : fdw "LeasedFiles$Client" 2 10 34 .boolean false := ⟨_, T_C, 13, "LeasedFiles$Client", t_C, rfl, u_C, by decide, ws_at 233 (by decide +kernel) rfl, Or.inl rfl, tk_C, n_C, by decide +kernel, rfl, fun h => by first | rfl | cases h⟩
theorem f_C_37 : fdl "LeasedFiles$Client" 2 11 37 := ⟨_, T_C, 13, "LeasedFiles$Client", rfl, u_C, by decide, ws_at 234 (by decide +kernel) rfl, Or.inl rfl⟩
theorem fw_C_37 : fdw "LeasedFiles$Client" 2 11 37 .int false := ⟨_, T_C, 13, "LeasedFiles$Client", t_C, rfl, u_C, by decide, ws_at 234 (by decide +kernel) rfl, Or.inl rfl, tk_C, n_C, by decide +kernel, rfl, fun h => by first | rfl | cases h⟩
theorem f_C_40 : fdl "LeasedFiles$Client" 2 12 40 := ⟨_, T_C, 13, "LeasedFiles$Client", rfl, u_C, by decide, ws_at 236 (by decide +kernel) rfl, Or.inl rfl⟩
theorem fw_C_40 : fdw "LeasedFiles$Client" 2 12 40 .int false := ⟨_, T_C, 13, "LeasedFiles$Client", t_C, rfl, u_C, by decide, ws_at 236 (by decide +kernel) rfl, Or.inl rfl, tk_C, n_C, by decide +kernel, rfl, fun h => by first | rfl | cases h⟩
theorem cl_C_49 : Cond.classLink "LeasedFiles$Client" 49 "LeasedFiles$Copy" ∈ WS := ws_at 197 (by decide +kernel) rfl
theorem lk_Y_3 : Cond.methodLink "LeasedFiles$Copy" 3 Lib.objectInit ∈ WS := ws_at 203 (by decide +kernel) rfl
theorem lk_Y_25 : Cond.methodLinkNest "LeasedFiles$Copy" 25 y_L_timeLeft.1 "LeasedFiles" ∈ lw_tbl := List.mem_append_right _ (List.mem_of_getElem? (i := 621) (by decide +kernel))
theorem f_Y_9 : fdl "LeasedFiles$Copy" 3 0 9 := ⟨_, T_Y, 4, "LeasedFiles$Copy", rfl, u_Y, by decide, ws_at 204 (by decide +kernel) rfl, Or.inl rfl⟩
theorem fw_Y_9 : fdw "LeasedFiles$Copy" 3 0 9 .boolean false := ⟨_, T_Y, 4, "LeasedFiles$Copy", t_Y, rfl, u_Y, by decide, ws_at 204 (by decide +kernel) rfl, Or.inl rfl, tk_Y, n_Y, by decide +kernel, rfl, fun h => by first | rfl | cases h⟩
theorem f_Y_15 : fdl "LeasedFiles$Copy" 3 1 15 := ⟨_, T_Y, 4, "LeasedFiles$Copy", rfl, u_Y, by decide, ws_at 206 (by decide +kernel) rfl, Or.inl rfl⟩
theorem fw_Y_15 : fdw "LeasedFiles$Copy" 3 1 15 .int false := ⟨_, T_Y, 4, "LeasedFiles$Copy", t_Y, rfl, u_Y, by decide, ws_at 206 (by decide +kernel) rfl, Or.inl rfl, tk_Y, n_Y, by decide +kernel, rfl, fun h => by first | rfl | cases h⟩
theorem f_Y_19 : fdl "LeasedFiles$Copy" 3 2 19 := ⟨_, T_Y, 4, "LeasedFiles$Copy", rfl, u_Y, by decide, ws_at 208 (by decide +kernel) rfl, Or.inl rfl⟩
theorem fw_Y_19 : fdw "LeasedFiles$Copy" 3 2 19 .int false := ⟨_, T_Y, 4, "LeasedFiles$Copy", t_Y, rfl, u_Y, by decide, ws_at 208 (by decide +kernel) rfl, Or.inl rfl, tk_Y, n_Y, by decide +kernel, rfl, fun h => by first | rfl | cases h⟩
theorem f_Y_22 : fdl "LeasedFiles$Copy" 3 3 22 := ⟨_, T_Y, 4, "LeasedFiles$Copy", rfl, u_Y, by decide, ws_at 210 (by decide +kernel) rfl, Or.inl rfl⟩
theorem fw_Y_22 : fdw "LeasedFiles$Copy" 3 3 22 .int false := ⟨_, T_Y, 4, "LeasedFiles$Copy", t_Y, rfl, u_Y, by decide, ws_at 210 (by decide +kernel) rfl, Or.inl rfl, tk_Y, n_Y, by decide +kernel, rfl, fun h => by first | rfl | cases h⟩
theorem lk_M_3 : Cond.methodLink "LeasedFiles$Message" 3 Lib.objectInit ∈ WS := ws_at 48 (by decide +kernel) rfl
theorem f_M_9 : fdl "LeasedFiles$Message" 4 0 9 := ⟨_, T_M, 7, "LeasedFiles$Message", rfl, u_M, by decide, ws_at 49 (by decide +kernel) rfl, Or.inl rfl⟩
theorem fw_M_9 : fdw "LeasedFiles$Message" 4 0 9 .int false := ⟨_, T_M, 7, "LeasedFiles$Message", t_M, rfl, u_M, by decide, ws_at 49 (by decide +kernel) rfl, Or.inl rfl, tk_M, n_M, by decide +kernel, rfl, fun h => by first | rfl | cases h⟩
theorem f_M_15 : fdl "LeasedFiles$Message" 4 1 15 := ⟨_, T_M, 7, "LeasedFiles$Message", rfl, u_M, by decide, ws_at 55 (by decide +kernel) rfl, Or.inl rfl⟩
theorem fw_M_15 : fdw "LeasedFiles$Message" 4 1 15 .int false := ⟨_, T_M, 7, "LeasedFiles$Message", t_M, rfl, u_M, by decide, ws_at 55 (by decide +kernel) rfl, Or.inl rfl, tk_M, n_M, by decide +kernel, rfl, fun h => by first | rfl | cases h⟩
theorem f_M_18 : fdl "LeasedFiles$Message" 4 2 18 := ⟨_, T_M, 7, "LeasedFiles$Message", rfl, u_M, by decide, ws_at 59 (by decide +kernel) rfl, Or.inl rfl⟩
theorem fw_M_18 : fdw "LeasedFiles$Message" 4 2 18 .int false := ⟨_, T_M, 7, "LeasedFiles$Message", t_M, rfl, u_M, by decide, ws_at 59 (by decide +kernel) rfl, Or.inl rfl, tk_M, n_M, by decide +kernel, rfl, fun h => by first | rfl | cases h⟩
theorem f_M_21 : fdl "LeasedFiles$Message" 4 3 21 := ⟨_, T_M, 7, "LeasedFiles$Message", rfl, u_M, by decide, ws_at 63 (by decide +kernel) rfl, Or.inl rfl⟩
theorem fw_M_21 : fdw "LeasedFiles$Message" 4 3 21 .int false := ⟨_, T_M, 7, "LeasedFiles$Message", t_M, rfl, u_M, by decide, ws_at 63 (by decide +kernel) rfl, Or.inl rfl, tk_M, n_M, by decide +kernel, rfl, fun h => by first | rfl | cases h⟩
theorem f_M_24 : fdl "LeasedFiles$Message" 4 4 24 := ⟨_, T_M, 7, "LeasedFiles$Message", rfl, u_M, by decide, ws_at 67 (by decide +kernel) rfl, Or.inl rfl⟩
theorem fw_M_24 : fdw "LeasedFiles$Message" 4 4 24 .int false := ⟨_, T_M, 7, "LeasedFiles$Message", t_M, rfl, u_M, by decide, ws_at 67 (by decide +kernel) rfl, Or.inl rfl, tk_M, n_M, by decide +kernel, rfl, fun h => by first | rfl | cases h⟩
theorem f_M_27 : fdl "LeasedFiles$Message" 4 5 27 := ⟨_, T_M, 7, "LeasedFiles$Message", rfl, u_M, by decide, ws_at 71 (by decide +kernel) rfl, Or.inl rfl⟩
theorem fw_M_27 : fdw "LeasedFiles$Message" 4 5 27 .int false := ⟨_, T_M, 7, "LeasedFiles$Message", t_M, rfl, u_M, by decide, ws_at 71 (by decide +kernel) rfl, Or.inl rfl, tk_M, n_M, by decide +kernel, rfl, fun h => by first | rfl | cases h⟩
theorem f_M_30 : fdl "LeasedFiles$Message" 4 6 30 := ⟨_, T_M, 7, "LeasedFiles$Message", rfl, u_M, by decide, ws_at 75 (by decide +kernel) rfl, Or.inl rfl⟩
theorem fw_M_30 : fdw "LeasedFiles$Message" 4 6 30 .int false := ⟨_, T_M, 7, "LeasedFiles$Message", t_M, rfl, u_M, by decide, ws_at 75 (by decide +kernel) rfl, Or.inl rfl, tk_M, n_M, by decide +kernel, rfl, fun h => by first | rfl | cases h⟩
theorem lk_P_3 : Cond.methodLink "LeasedFiles$Pool" 3 Lib.objectInit ∈ WS := ws_at 41 (by decide +kernel) rfl
theorem lk_P_21 : Cond.methodLinkNest "LeasedFiles$Pool" 21 y_M_init.1 "LeasedFiles" ∈ lw_tbl := List.mem_append_right _ (List.mem_of_getElem? (i := 45) (by decide +kernel))
theorem f_P_26 : fdl "LeasedFiles$Pool" 4 0 26 := ⟨_, T_M, 7, "LeasedFiles$Message", rfl, u_M, by decide, ws_at 51 (by decide +kernel) rfl, Or.inl rfl⟩
theorem fw_P_26 : fdw "LeasedFiles$Pool" 4 0 26 .int false := ⟨_, T_M, 7, "LeasedFiles$Message", t_M, rfl, u_M, by decide, ws_at 51 (by decide +kernel) rfl, Or.inl rfl, tk_M, n_M, by decide +kernel, rfl, fun h => by first | rfl | cases h⟩
theorem f_P_29 : fdl "LeasedFiles$Pool" 4 1 29 := ⟨_, T_M, 7, "LeasedFiles$Message", rfl, u_M, by decide, ws_at 54 (by decide +kernel) rfl, Or.inl rfl⟩
theorem fw_P_29 : fdw "LeasedFiles$Pool" 4 1 29 .int false := ⟨_, T_M, 7, "LeasedFiles$Message", t_M, rfl, u_M, by decide, ws_at 54 (by decide +kernel) rfl, Or.inl rfl, tk_M, n_M, by decide +kernel, rfl, fun h => by first | rfl | cases h⟩
theorem f_P_32 : fdl "LeasedFiles$Pool" 4 2 32 := ⟨_, T_M, 7, "LeasedFiles$Message", rfl, u_M, by decide, ws_at 58 (by decide +kernel) rfl, Or.inl rfl⟩
theorem fw_P_32 : fdw "LeasedFiles$Pool" 4 2 32 .int false := ⟨_, T_M, 7, "LeasedFiles$Message", t_M, rfl, u_M, by decide, ws_at 58 (by decide +kernel) rfl, Or.inl rfl, tk_M, n_M, by decide +kernel, rfl, fun h => by first | rfl | cases h⟩
theorem f_P_35 : fdl "LeasedFiles$Pool" 4 3 35 := ⟨_, T_M, 7, "LeasedFiles$Message", rfl, u_M, by decide, ws_at 62 (by decide +kernel) rfl, Or.inl rfl⟩
theorem fw_P_35 : fdw "LeasedFiles$Pool" 4 3 35 .int false := ⟨_, T_M, 7, "LeasedFiles$Message", t_M, rfl, u_M, by decide, ws_at 62 (by decide +kernel) rfl, Or.inl rfl, tk_M, n_M, by decide +kernel, rfl, fun h => by first | rfl | cases h⟩
theorem f_P_38 : fdl "LeasedFiles$Pool" 4 4 38 := ⟨_, T_M, 7, "LeasedFiles$Message", rfl, u_M, by decide, ws_at 66 (by decide +kernel) rfl, Or.inl rfl⟩
theorem fw_P_38 : fdw "LeasedFiles$Pool" 4 4 38 .int false := ⟨_, T_M, 7, "LeasedFiles$Message", t_M, rfl, u_M, by decide, ws_at 66 (by decide +kernel) rfl, Or.inl rfl, tk_M, n_M, by decide +kernel, rfl, fun h => by first | rfl | cases h⟩
theorem f_P_41 : fdl "LeasedFiles$Pool" 4 5 41 := ⟨_, T_M, 7, "LeasedFiles$Message", rfl, u_M, by decide, ws_at 70 (by decide +kernel) rfl, Or.inl rfl⟩
theorem fw_P_41 : fdw "LeasedFiles$Pool" 4 5 41 .int false := ⟨_, T_M, 7, "LeasedFiles$Message", t_M, rfl, u_M, by decide, ws_at 70 (by decide +kernel) rfl, Or.inl rfl, tk_M, n_M, by decide +kernel, rfl, fun h => by first | rfl | cases h⟩
theorem f_P_44 : fdl "LeasedFiles$Pool" 4 6 44 := ⟨_, T_M, 7, "LeasedFiles$Message", rfl, u_M, by decide, ws_at 74 (by decide +kernel) rfl, Or.inl rfl⟩
theorem fw_P_44 : fdw "LeasedFiles$Pool" 4 6 44 .int false := ⟨_, T_M, 7, "LeasedFiles$Message", t_M, rfl, u_M, by decide, ws_at 74 (by decide +kernel) rfl, Or.inl rfl, tk_M, n_M, by decide +kernel, rfl, fun h => by first | rfl | cases h⟩
theorem f_P_11 : fdl "LeasedFiles$Pool" 5 0 11 := ⟨_, T_P, 3, "LeasedFiles$Pool", rfl, u_P, by decide, ws_at 92 (by decide +kernel) rfl, Or.inl rfl⟩
theorem fw_P_11 : fdw "LeasedFiles$Pool" 5 0 11 (.array (.object "LeasedFiles$Message")) true := ⟨_, T_P, 3, "LeasedFiles$Pool", t_P, rfl, u_P, by decide, ws_at 92 (by decide +kernel) rfl, Or.inl rfl, tk_P, n_P, by decide +kernel, rfl, fun h => by first | rfl | cases h⟩
theorem f_P_17 : fdl "LeasedFiles$Pool" 5 1 17 := ⟨_, T_P, 3, "LeasedFiles$Pool", rfl, u_P, by decide, ws_at 94 (by decide +kernel) rfl, Or.inl rfl⟩
theorem fw_P_17 : fdw "LeasedFiles$Pool" 5 1 17 .int false := ⟨_, T_P, 3, "LeasedFiles$Pool", t_P, rfl, u_P, by decide, ws_at 94 (by decide +kernel) rfl, Or.inl rfl, tk_P, n_P, by decide +kernel, rfl, fun h => by first | rfl | cases h⟩
theorem f_P_22 : fdl "LeasedFiles$Pool" 5 2 22 := ⟨_, T_P, 3, "LeasedFiles$Pool", rfl, u_P, by decide, ws_at 96 (by decide +kernel) rfl, Or.inl rfl⟩
theorem fw_P_22 : fdw "LeasedFiles$Pool" 5 2 22 (.object "LeasedFiles$Message") false := ⟨_, T_P, 3, "LeasedFiles$Pool", t_P, rfl, u_P, by decide, ws_at 96 (by decide +kernel) rfl, Or.inl rfl, tk_P, n_P, by decide +kernel, rfl, fun h => by first | rfl | cases h⟩
theorem cl_P_9 : Cond.classLink "LeasedFiles$Pool" 9 "LeasedFiles$Message" ∈ WS := ws_at 42 (by decide +kernel) rfl
theorem lk_F_3 : Cond.methodLink "LeasedFiles$ServedFile" 3 Lib.objectInit ∈ WS := ws_at 116 (by decide +kernel) rfl
theorem lk_F_11 : Cond.methodLink "LeasedFiles$ServedFile" 11 y_A_init.1 ∈ WS := ws_at 119 (by decide +kernel) rfl
theorem lk_F_43 : Cond.methodLink "LeasedFiles$ServedFile" 43 y_A_size.1 ∈ WS := ws_at 383 (by decide +kernel) rfl
theorem lk_F_33 : Cond.methodLink "LeasedFiles$ServedFile" 33 y_A_get.1 ∈ WS := ws_at 387 (by decide +kernel) rfl
theorem lk_F_39 : Cond.methodLink "LeasedFiles$ServedFile" 39 y_W_isOf.1 ∈ WS := ws_at 402 (by decide +kernel) rfl
theorem lk_F_47 : Cond.methodLink "LeasedFiles$ServedFile" 47 y_W_init.1 ∈ WS := ws_at 411 (by decide +kernel) rfl
theorem lk_F_50 : Cond.methodLink "LeasedFiles$ServedFile" 50 y_A_add0.1 ∈ WS := ws_at 429 (by decide +kernel) rfl
theorem lk_F_29 : Cond.methodLink "LeasedFiles$ServedFile" 29 y_A_isEmpty.1 ∈ WS := ws_at 486 (by decide +kernel) rfl
theorem f_F_25 : fdl "LeasedFiles$ServedFile" 6 0 25 := ⟨_, T_F, 4, "LeasedFiles$ServedFile", rfl, u_F, by decide, ws_at 144 (by decide +kernel) rfl, Or.inl rfl⟩
theorem fw_F_25 : fdw "LeasedFiles$ServedFile" 6 0 25 (.array .int) true := ⟨_, T_F, 4, "LeasedFiles$ServedFile", t_F, rfl, u_F, by decide, ws_at 144 (by decide +kernel) rfl, Or.inl rfl, tk_F, n_F, by decide +kernel, rfl, fun h => by first | rfl | cases h⟩
theorem f_F_12 : fdl "LeasedFiles$ServedFile" 6 1 12 := ⟨_, T_F, 4, "LeasedFiles$ServedFile", rfl, u_F, by decide, ws_at 147 (by decide +kernel) rfl, Or.inl rfl⟩
theorem fw_F_12 : fdw "LeasedFiles$ServedFile" 6 1 12 (.object "java/util/ArrayList") true := ⟨_, T_F, 4, "LeasedFiles$ServedFile", t_F, rfl, u_F, by decide, ws_at 147 (by decide +kernel) rfl, Or.inl rfl, tk_F, n_F, by decide +kernel, rfl, fun h => by first | rfl | cases h⟩
theorem f_F_18 : fdl "LeasedFiles$ServedFile" 6 2 18 := ⟨_, T_F, 4, "LeasedFiles$ServedFile", rfl, u_F, by decide, ws_at 149 (by decide +kernel) rfl, Or.inl rfl⟩
theorem fw_F_18 : fdw "LeasedFiles$ServedFile" 6 2 18 .int false := ⟨_, T_F, 4, "LeasedFiles$ServedFile", t_F, rfl, u_F, by decide, ws_at 149 (by decide +kernel) rfl, Or.inl rfl, tk_F, n_F, by decide +kernel, rfl, fun h => by first | rfl | cases h⟩
theorem f_F_22 : fdl "LeasedFiles$ServedFile" 6 3 22 := ⟨_, T_F, 4, "LeasedFiles$ServedFile", rfl, u_F, by decide, ws_at 151 (by decide +kernel) rfl, Or.inl rfl⟩
theorem fw_F_22 : fdw "LeasedFiles$ServedFile" 6 3 22 .int false := ⟨_, T_F, 4, "LeasedFiles$ServedFile", t_F, rfl, u_F, by decide, ws_at 151 (by decide +kernel) rfl, Or.inl rfl, tk_F, n_F, by decide +kernel, rfl, fun h => by first | rfl | cases h⟩
theorem f_F_54 : fdl "LeasedFiles$ServedFile" 8 0 54 := ⟨_, T_W, 3, "LeasedFiles$Write", rfl, u_W, by decide, ws_at 416 (by decide +kernel) rfl, Or.inl rfl⟩
theorem cl_F_9 : Cond.classLink "LeasedFiles$ServedFile" 9 "java/util/ArrayList" ∈ WS := ws_at 117 (by decide +kernel) rfl
theorem cl_F_37 : Cond.classLink "LeasedFiles$ServedFile" 37 "LeasedFiles$Write" ∈ WS := ws_at 401 (by decide +kernel) rfl
theorem lk_S_3 : Cond.methodLink "LeasedFiles$Server" 3 Lib.objectInit ∈ WS := ws_at 109 (by decide +kernel) rfl
theorem lk_S_41 : Cond.methodLink "LeasedFiles$Server" 41 y_F_init.1 ∈ WS := ws_at 113 (by decide +kernel) rfl
theorem lk_S_49 : Cond.methodLink "LeasedFiles$Server" 49 y_S_receiveAsk.1 ∈ WS := ws_at 366 (by decide +kernel) rfl
theorem lk_S_87 : Cond.methodLink "LeasedFiles$Server" 87 y_A_isEmpty.1 ∈ WS := ws_at 370 (by decide +kernel) rfl
theorem lk_S_106 : Cond.methodLink "LeasedFiles$Server" 106 y_P_send.1 ∈ WS := ws_at 374 (by decide +kernel) rfl
theorem lk_S_53 : Cond.methodLink "LeasedFiles$Server" 53 y_S_receivePut.1 ∈ WS := ws_at 375 (by decide +kernel) rfl
theorem lk_S_112 : Cond.methodLink "LeasedFiles$Server" 112 y_F_isWaiting.1 ∈ WS := ws_at 379 (by decide +kernel) rfl
theorem lk_S_119 : Cond.methodLink "LeasedFiles$Server" 119 y_F_addLast.1 ∈ WS := ws_at 406 (by decide +kernel) rfl
theorem lk_S_123 : Cond.methodLink "LeasedFiles$Server" 123 y_F_isFirst.1 ∈ WS := ws_at 482 (by decide +kernel) rfl
theorem lk_S_126 : Cond.methodLink "LeasedFiles$Server" 126 y_S_recall.1 ∈ WS := ws_at 487 (by decide +kernel) rfl
theorem lk_S_56 : Cond.methodLink "LeasedFiles$Server" 56 y_S_receiveFree.1 ∈ WS := ws_at 491 (by decide +kernel) rfl
theorem lk_S_60 : Cond.methodLink "LeasedFiles$Server" 60 y_S_storeWhatMay.1 ∈ WS := ws_at 495 (by decide +kernel) rfl
theorem lk_S_132 : Cond.methodLink "LeasedFiles$Server" 132 y_S_mayStore.1 ∈ WS := ws_at 499 (by decide +kernel) rfl
theorem lk_S_140 : Cond.methodLink "LeasedFiles$Server" 140 y_F_isLeasedAt.1 ∈ WS := ws_at 503 (by decide +kernel) rfl
theorem lk_S_136 : Cond.methodLink "LeasedFiles$Server" 136 y_S_storeFirst.1 ∈ WS := ws_at 507 (by decide +kernel) rfl
theorem lk_S_144 : Cond.methodLink "LeasedFiles$Server" 144 y_A_remove.1 ∈ WS := ws_at 511 (by decide +kernel) rfl
theorem lk_S_68 : Cond.methodLink "LeasedFiles$Server" 68 y_A_size.1 ∈ WS := ws_at 596 (by decide +kernel) rfl
theorem lk_S_74 : Cond.methodLink "LeasedFiles$Server" 74 y_A_clear.1 ∈ WS := ws_at 597 (by decide +kernel) rfl
theorem lk_S_77 : Cond.methodLink "LeasedFiles$Server" 77 y_F_endLeases.1 ∈ WS := ws_at 601 (by decide +kernel) rfl
theorem lk_S_80 : Cond.methodLinkNest "LeasedFiles$Server" 80 y_L_timeLeft.1 "LeasedFiles" ∈ lw_tbl := List.mem_append_right _ (List.mem_of_getElem? (i := 645) (by decide +kernel))
theorem f_S_44 : fdl "LeasedFiles$Server" 4 0 44 := ⟨_, T_M, 7, "LeasedFiles$Message", rfl, u_M, by decide, ws_at 50 (by decide +kernel) rfl, Or.inl rfl⟩
theorem fw_S_44 : fdw "LeasedFiles$Server" 4 0 44 .int false := ⟨_, T_M, 7, "LeasedFiles$Message", t_M, rfl, u_M, by decide, ws_at 50 (by decide +kernel) rfl, Or.inl rfl, tk_M, n_M, by decide +kernel, rfl, fun h => by first | rfl | cases h⟩
theorem f_S_94 : fdl "LeasedFiles$Server" 4 1 94 := ⟨_, T_M, 7, "LeasedFiles$Message", rfl, u_M, by decide, ws_at 56 (by decide +kernel) rfl, Or.inl rfl⟩
theorem fw_S_94 : fdw "LeasedFiles$Server" 4 1 94 .int false := ⟨_, T_M, 7, "LeasedFiles$Message", t_M, rfl, u_M, by decide, ws_at 56 (by decide +kernel) rfl, Or.inl rfl, tk_M, n_M, by decide +kernel, rfl, fun h => by first | rfl | cases h⟩
theorem f_S_84 : fdl "LeasedFiles$Server" 4 2 84 := ⟨_, T_M, 7, "LeasedFiles$Message", rfl, u_M, by decide, ws_at 60 (by decide +kernel) rfl, Or.inl rfl⟩
theorem fw_S_84 : fdw "LeasedFiles$Server" 4 2 84 .int false := ⟨_, T_M, 7, "LeasedFiles$Message", t_M, rfl, u_M, by decide, ws_at 60 (by decide +kernel) rfl, Or.inl rfl, tk_M, n_M, by decide +kernel, rfl, fun h => by first | rfl | cases h⟩
theorem f_S_97 : fdl "LeasedFiles$Server" 4 3 97 := ⟨_, T_M, 7, "LeasedFiles$Message", rfl, u_M, by decide, ws_at 64 (by decide +kernel) rfl, Or.inl rfl⟩
theorem fw_S_97 : fdw "LeasedFiles$Server" 4 3 97 .int false := ⟨_, T_M, 7, "LeasedFiles$Message", t_M, rfl, u_M, by decide, ws_at 64 (by decide +kernel) rfl, Or.inl rfl, tk_M, n_M, by decide +kernel, rfl, fun h => by first | rfl | cases h⟩
theorem f_S_116 : fdl "LeasedFiles$Server" 4 4 116 := ⟨_, T_M, 7, "LeasedFiles$Message", rfl, u_M, by decide, ws_at 68 (by decide +kernel) rfl, Or.inl rfl⟩
theorem fw_S_116 : fdw "LeasedFiles$Server" 4 4 116 .int false := ⟨_, T_M, 7, "LeasedFiles$Message", t_M, rfl, u_M, by decide, ws_at 68 (by decide +kernel) rfl, Or.inl rfl, tk_M, n_M, by decide +kernel, rfl, fun h => by first | rfl | cases h⟩
theorem f_S_129 : fdl "LeasedFiles$Server" 4 5 129 := ⟨_, T_M, 7, "LeasedFiles$Message", rfl, u_M, by decide, ws_at 72 (by decide +kernel) rfl, Or.inl rfl⟩
theorem fw_S_129 : fdw "LeasedFiles$Server" 4 5 129 .int false := ⟨_, T_M, 7, "LeasedFiles$Message", t_M, rfl, u_M, by decide, ws_at 72 (by decide +kernel) rfl, Or.inl rfl, tk_M, n_M, by decide +kernel, rfl, fun h => by first | rfl | cases h⟩
theorem f_S_91 : fdl "LeasedFiles$Server" 6 0 91 := ⟨_, T_F, 4, "LeasedFiles$ServedFile", rfl, u_F, by decide, ws_at 145 (by decide +kernel) rfl, Or.inl rfl⟩
theorem f_S_64 : fdl "LeasedFiles$Server" 6 1 64 := ⟨_, T_F, 4, "LeasedFiles$ServedFile", rfl, u_F, by decide, ws_at 148 (by decide +kernel) rfl, Or.inl rfl⟩
theorem f_S_100 : fdl "LeasedFiles$Server" 6 2 100 := ⟨_, T_F, 4, "LeasedFiles$ServedFile", rfl, u_F, by decide, ws_at 150 (by decide +kernel) rfl, Or.inl rfl⟩
theorem fw_S_100 : fdw "LeasedFiles$Server" 6 2 100 .int false := ⟨_, T_F, 4, "LeasedFiles$ServedFile", t_F, rfl, u_F, by decide, ws_at 150 (by decide +kernel) rfl, Or.inl rfl, tk_F, n_F, by decide +kernel, rfl, fun h => by first | rfl | cases h⟩
theorem f_S_103 : fdl "LeasedFiles$Server" 6 3 103 := ⟨_, T_F, 4, "LeasedFiles$ServedFile", rfl, u_F, by decide, ws_at 152 (by decide +kernel) rfl, Or.inl rfl⟩
theorem fw_S_103 : fdw "LeasedFiles$Server" 6 3 103 .int false := ⟨_, T_F, 4, "LeasedFiles$ServedFile", t_F, rfl, u_F, by decide, ws_at 152 (by decide +kernel) rfl, Or.inl rfl, tk_F, n_F, by decide +kernel, rfl, fun h => by first | rfl | cases h⟩
theorem f_S_25 : fdl "LeasedFiles$Server" 7 0 25 := ⟨_, T_S, 8, "LeasedFiles$Server", rfl, u_S, by decide, ws_at 162 (by decide +kernel) rfl, Or.inl rfl⟩
theorem fw_S_25 : fdw "LeasedFiles$Server" 7 0 25 .int true := ⟨_, T_S, 8, "LeasedFiles$Server", t_S, rfl, u_S, by decide, ws_at 162 (by decide +kernel) rfl, Or.inl rfl, tk_S, n_S, by decide +kernel, rfl, fun h => by first | rfl | cases h⟩
theorem f_S_37 : fdl "LeasedFiles$Server" 7 1 37 := ⟨_, T_S, 8, "LeasedFiles$Server", rfl, u_S, by decide, ws_at 163 (by decide +kernel) rfl, Or.inl rfl⟩
theorem fw_S_37 : fdw "LeasedFiles$Server" 7 1 37 (.array (.object "LeasedFiles$ServedFile")) true := ⟨_, T_S, 8, "LeasedFiles$Server", t_S, rfl, u_S, by decide, ws_at 163 (by decide +kernel) rfl, Or.inl rfl, tk_S, n_S, by decide +kernel, rfl, fun h => by first | rfl | cases h⟩
theorem f_S_28 : fdl "LeasedFiles$Server" 7 2 28 := ⟨_, T_S, 8, "LeasedFiles$Server", rfl, u_S, by decide, ws_at 165 (by decide +kernel) rfl, Or.inl rfl⟩
theorem fw_S_28 : fdw "LeasedFiles$Server" 7 2 28 (.array .int) true := ⟨_, T_S, 8, "LeasedFiles$Server", t_S, rfl, u_S, by decide, ws_at 165 (by decide +kernel) rfl, Or.inl rfl, tk_S, n_S, by decide +kernel, rfl, fun h => by first | rfl | cases h⟩
theorem f_S_32 : fdl "LeasedFiles$Server" 7 3 32 := ⟨_, T_S, 8, "LeasedFiles$Server", rfl, u_S, by decide, ws_at 166 (by decide +kernel) rfl, Or.inl rfl⟩
theorem fw_S_32 : fdw "LeasedFiles$Server" 7 3 32 (.array .int) true := ⟨_, T_S, 8, "LeasedFiles$Server", t_S, rfl, u_S, by decide, ws_at 166 (by decide +kernel) rfl, Or.inl rfl, tk_S, n_S, by decide +kernel, rfl, fun h => by first | rfl | cases h⟩
theorem f_S_9 : fdl "LeasedFiles$Server" 7 4 9 := ⟨_, T_S, 8, "LeasedFiles$Server", rfl, u_S, by decide, ws_at 167 (by decide +kernel) rfl, Or.inl rfl⟩
theorem fw_S_9 : fdw "LeasedFiles$Server" 7 4 9 .int false := ⟨_, T_S, 8, "LeasedFiles$Server", t_S, rfl, u_S, by decide, ws_at 167 (by decide +kernel) rfl, Or.inl rfl, tk_S, n_S, by decide +kernel, rfl, fun h => by first | rfl | cases h⟩
theorem f_S_15 : fdl "LeasedFiles$Server" 7 5 15 := ⟨_, T_S, 8, "LeasedFiles$Server", rfl, u_S, by decide, ws_at 169 (by decide +kernel) rfl, Or.inl rfl⟩
theorem fw_S_15 : fdw "LeasedFiles$Server" 7 5 15 .boolean false := ⟨_, T_S, 8, "LeasedFiles$Server", t_S, rfl, u_S, by decide, ws_at 169 (by decide +kernel) rfl, Or.inl rfl, tk_S, n_S, by decide +kernel, rfl, fun h => by first | rfl | cases h⟩
theorem f_S_19 : fdl "LeasedFiles$Server" 7 6 19 := ⟨_, T_S, 8, "LeasedFiles$Server", rfl, u_S, by decide, ws_at 171 (by decide +kernel) rfl, Or.inl rfl⟩
theorem fw_S_19 : fdw "LeasedFiles$Server" 7 6 19 .int false := ⟨_, T_S, 8, "LeasedFiles$Server", t_S, rfl, u_S, by decide, ws_at 171 (by decide +kernel) rfl, Or.inl rfl, tk_S, n_S, by decide +kernel, rfl, fun h => by first | rfl | cases h⟩
theorem f_S_22 : fdl "LeasedFiles$Server" 7 7 22 := ⟨_, T_S, 8, "LeasedFiles$Server", rfl, u_S, by decide, ws_at 172 (by decide +kernel) rfl, Or.inl rfl⟩
theorem fw_S_22 : fdw "LeasedFiles$Server" 7 7 22 .int false := ⟨_, T_S, 8, "LeasedFiles$Server", t_S, rfl, u_S, by decide, ws_at 172 (by decide +kernel) rfl, Or.inl rfl, tk_S, n_S, by decide +kernel, rfl, fun h => by first | rfl | cases h⟩
theorem f_S_152 : fdl "LeasedFiles$Server" 8 0 152 := ⟨_, T_W, 3, "LeasedFiles$Write", rfl, u_W, by decide, ws_at 417 (by decide +kernel) rfl, Or.inl rfl⟩
theorem f_S_151 : fdl "LeasedFiles$Server" 8 1 151 := ⟨_, T_W, 3, "LeasedFiles$Write", rfl, u_W, by decide, ws_at 419 (by decide +kernel) rfl, Or.inl rfl⟩
theorem f_S_150 : fdl "LeasedFiles$Server" 8 2 150 := ⟨_, T_W, 3, "LeasedFiles$Write", rfl, u_W, by decide, ws_at 421 (by decide +kernel) rfl, Or.inl rfl⟩
theorem cl_S_35 : Cond.classLink "LeasedFiles$Server" 35 "LeasedFiles$ServedFile" ∈ WS := ws_at 110 (by decide +kernel) rfl
theorem cl_S_148 : Cond.classLink "LeasedFiles$Server" 148 "LeasedFiles$Write" ∈ WS := ws_at 520 (by decide +kernel) rfl
theorem lk_W_1 : Cond.methodLink "LeasedFiles$Write" 1 Lib.objectInit ∈ WS := ws_at 414 (by decide +kernel) rfl
theorem f_W_7 : fdl "LeasedFiles$Write" 8 0 7 := ⟨_, T_W, 3, "LeasedFiles$Write", rfl, u_W, by decide, ws_at 415 (by decide +kernel) rfl, Or.inl rfl⟩
theorem fw_W_7 : fdw "LeasedFiles$Write" 8 0 7 .int true := ⟨_, T_W, 3, "LeasedFiles$Write", t_W, rfl, u_W, by decide, ws_at 415 (by decide +kernel) rfl, Or.inl rfl, tk_W, n_W, by decide +kernel, rfl, fun h => by first | rfl | cases h⟩
theorem f_W_13 : fdl "LeasedFiles$Write" 8 1 13 := ⟨_, T_W, 3, "LeasedFiles$Write", rfl, u_W, by decide, ws_at 418 (by decide +kernel) rfl, Or.inl rfl⟩
theorem fw_W_13 : fdw "LeasedFiles$Write" 8 1 13 .int true := ⟨_, T_W, 3, "LeasedFiles$Write", t_W, rfl, u_W, by decide, ws_at 418 (by decide +kernel) rfl, Or.inl rfl, tk_W, n_W, by decide +kernel, rfl, fun h => by first | rfl | cases h⟩
theorem f_W_16 : fdl "LeasedFiles$Write" 8 2 16 := ⟨_, T_W, 3, "LeasedFiles$Write", rfl, u_W, by decide, ws_at 420 (by decide +kernel) rfl, Or.inl rfl⟩
theorem fw_W_16 : fdw "LeasedFiles$Write" 8 2 16 .int true := ⟨_, T_W, 3, "LeasedFiles$Write", t_W, rfl, u_W, by decide, ws_at 420 (by decide +kernel) rfl, Or.inl rfl, tk_W, n_W, by decide +kernel, rfl, fun h => by first | rfl | cases h⟩
theorem lk_A_1 : Cond.methodLink "java/util/ArrayList" 1 y_B_init.1 ∈ WS := ws_at 122 (by decide +kernel) rfl
theorem lk_A_118 : Cond.methodLink "java/util/ArrayList" 118 y_O_checkIndex.1 ∈ WS := ws_at 391 (by decide +kernel) rfl
theorem lk_A_123 : Cond.methodLink "java/util/ArrayList" 123 y_A_elementData.1 ∈ WS := ws_at 397 (by decide +kernel) rfl
theorem lk_A_131 : Cond.methodLink "java/util/ArrayList" 131 y_A_add1.1 ∈ WS := ws_at 433 (by decide +kernel) rfl
theorem lk_A_129 : Cond.methodLink "java/util/ArrayList" 129 y_A_grow0.1 ∈ WS := ws_at 437 (by decide +kernel) rfl
theorem lk_A_69 : Cond.methodLink "java/util/ArrayList" 69 y_A_grow1.1 ∈ WS := ws_at 441 (by decide +kernel) rfl
theorem lk_A_73 : Cond.methodLink "java/util/ArrayList" 73 y_U_newLength.1 ∈ WS := ws_at 445 (by decide +kernel) rfl
theorem lk_A_66 : Cond.methodLink "java/util/ArrayList" 66 y_V_copyOf0.1 ∈ WS := ws_at 453 (by decide +kernel) rfl
theorem lk_A_79 : Cond.methodLink "java/util/ArrayList" 79 Lib.Math.max.name ∈ WS := ws_at 480 (by decide +kernel) rfl
theorem lk_A_144 : Cond.methodLink "java/util/ArrayList" 144 y_A_fastRemove.1 ∈ WS := ws_at 515 (by decide +kernel) rfl
theorem lk_A_112 : Cond.methodLink "java/util/ArrayList" 112 ⟨"java/lang/System", "arraycopy", "(Ljava/lang/Object;ILjava/lang/Object;II)V"⟩ ∈ WS := ws_at 519 (by decide +kernel) rfl
theorem f_A_9 : fdl "java/util/ArrayList" 9 0 9 := ⟨_, T_A, 3, "java/util/ArrayList", rfl, u_A, by decide, ws_at 131 (by decide +kernel) rfl, Or.inl rfl⟩
theorem fw_A_9 : fdw "java/util/ArrayList" 9 0 9 (.array (.object "java/lang/Object")) false := ⟨_, T_A, 3, "java/util/ArrayList", t_A, rfl, u_A, by decide, ws_at 131 (by decide +kernel) rfl, Or.inl rfl, tk_A, n_A, by decide +kernel, rfl, fun h => by first | rfl | cases h⟩
theorem f_A_48 : fdl "java/util/ArrayList" 9 1 48 := ⟨_, T_A, 3, "java/util/ArrayList", rfl, u_A, by decide, ws_at 132 (by decide +kernel) rfl, Or.inl rfl⟩
theorem fw_A_48 : fdw "java/util/ArrayList" 9 1 48 .int false := ⟨_, T_A, 3, "java/util/ArrayList", t_A, rfl, u_A, by decide, ws_at 132 (by decide +kernel) rfl, Or.inl rfl, tk_A, n_A, by decide +kernel, rfl, fun h => by first | rfl | cases h⟩
theorem f_A_63 : fdl "java/util/ArrayList" 9 2 63 := ⟨_, T_A, 3, "java/util/ArrayList", rfl, u_A, by decide, ws_at 134 (by decide +kernel) rfl, Or.inr (ws_at 135 (by decide +kernel) rfl)⟩
theorem fw_A_63 : fdw "java/util/ArrayList" 9 2 63 .int false := ⟨_, T_A, 3, "java/util/ArrayList", t_A, rfl, u_A, by decide, ws_at 134 (by decide +kernel) rfl, Or.inr (ws_at 135 (by decide +kernel) rfl), tk_A, n_A, by decide +kernel, rfl, fun h => by first | rfl | cases h⟩
theorem cl_A_7 : Cond.classLink "java/util/ArrayList" 7 "java/lang/Object" ∈ WS := ws_at 481 (by decide +kernel) rfl
theorem lk_B_1 : Cond.methodLink "java/util/AbstractList" 1 y_D_init.1 ∈ WS := ws_at 125 (by decide +kernel) rfl
theorem lk_D_1 : Cond.methodLink "java/util/AbstractCollection" 1 Lib.objectInit ∈ WS := ws_at 128 (by decide +kernel) rfl
theorem lk_O_105 : Cond.methodLink "java/util/Objects" 105 y_Q_checkIndex.1 ∈ WS := ws_at 394 (by decide +kernel) rfl
theorem lk_U_194 : Cond.methodLink "jdk/internal/util/ArraysSupport" 194 Lib.Math.max.name ∈ WS := ws_at 448 (by decide +kernel) rfl
theorem lk_U_201 : Cond.methodLink "jdk/internal/util/ArraysSupport" 201 y_U_hugeLength.1 ∈ WS := ws_at 450 (by decide +kernel) rfl
theorem lk_V_86 : Cond.methodLink "java/util/Arrays" 86 ⟨"java/lang/Object", "getClass", "()Ljava/lang/Class;"⟩ ∈ WS := ws_at 456 (by decide +kernel) rfl
theorem lk_V_300 : Cond.methodLink "java/util/Arrays" 300 y_V_copyOf1.1 ∈ WS := ws_at 470 (by decide +kernel) rfl
theorem lk_V_304 : Cond.methodLink "java/util/Arrays" 304 Lib.Math.min.name ∈ WS := ws_at 476 (by decide +kernel) rfl
theorem lk_V_150 : Cond.methodLink "java/util/Arrays" 150 ⟨"java/lang/System", "arraycopy", "(Ljava/lang/Object;ILjava/lang/Object;II)V"⟩ ∈ WS := ws_at 477 (by decide +kernel) rfl
theorem cl_V_110 : Cond.classLink "java/util/Arrays" 110 "[Ljava/lang/Object;" ∈ WS := ws_at 473 (by decide +kernel) rfl
theorem cl_V_2 : Cond.classLink "java/util/Arrays" 2 "java/lang/Object" ∈ WS := ws_at 475 (by decide +kernel) rfl
