abbrev y_L_init : mY := (⟨"LeasedFiles", "<init>", "(IIII)V"⟩, prog_1_method_1_code, 9, none)
set_option maxRecDepth 100000 in
theorem ok_L_init : okY y_L_init 4 := ⟨ws_at 23 rfl rfl, ws_at 1 (by decide +kernel) rfl, ⟨by decide +kernel, by decide +kernel⟩, by decide +kernel, by decide⟩
theorem in_L_init : Cond.instanceMethod y_L_init.1 ∈ WS := ws_at 22 (by decide +kernel) rfl
abbrev y_L_clamp : mY := (⟨"LeasedFiles", "clamp", "(II)I"⟩, prog_1_method_26_code, 2, (some .int))
set_option maxRecDepth 100000 in
theorem ok_L_clamp : okY y_L_clamp 2 := ⟨ws_at 29 rfl rfl, ws_at 1 (by decide +kernel) rfl, ⟨by decide +kernel, by decide +kernel⟩, by decide +kernel, by decide⟩
theorem st_L_clamp : Cond.static y_L_clamp.1 ∈ WS := ws_at 28 (by decide +kernel) rfl
abbrev y_L_read : mY := (⟨"LeasedFiles", "read", "(II)I"⟩, prog_1_method_2_code, 3, (some .int))
set_option maxRecDepth 100000 in
theorem ok_L_read : okY y_L_read 2 := ⟨ws_at 281 rfl rfl, ws_at 1 (by decide +kernel) rfl, ⟨by decide +kernel, by decide +kernel⟩, by decide +kernel, by decide⟩
theorem in_L_read : Cond.instanceMethod y_L_read.1 ∈ WS := ws_at 279 (by decide +kernel) rfl
theorem se_L_read : Cond.selects "LeasedFiles" y_L_read.1 y_L_read.1 ∈ WS := ws_at 280 (by decide +kernel) rfl
abbrev y_L_hasClient : mY := (⟨"LeasedFiles", "hasClient", "(I)Z"⟩, prog_1_method_22_code, 2, (some .boolean))
set_option maxRecDepth 100000 in
theorem ok_L_hasClient : okY y_L_hasClient 1 := ⟨ws_at 285 rfl rfl, ws_at 1 (by decide +kernel) rfl, ⟨by decide +kernel, by decide +kernel⟩, by decide +kernel, by decide⟩
theorem in_L_hasClient : Cond.instanceMethod y_L_hasClient.1 ∈ WS := ws_at 284 (by decide +kernel) rfl
theorem se_L_hasClient : Cond.selects "LeasedFiles" y_L_hasClient.1 y_L_hasClient.1 ∈ WS := ws_sel 0 (q := (y_L_hasClient.1, 4)) (by decide +kernel)
abbrev y_L_hasFile : mY := (⟨"LeasedFiles", "hasFile", "(I)Z"⟩, prog_1_method_23_code, 2, (some .boolean))
set_option maxRecDepth 100000 in
theorem ok_L_hasFile : okY y_L_hasFile 1 := ⟨ws_at 289 rfl rfl, ws_at 1 (by decide +kernel) rfl, ⟨by decide +kernel, by decide +kernel⟩, by decide +kernel, by decide⟩
theorem in_L_hasFile : Cond.instanceMethod y_L_hasFile.1 ∈ WS := ws_at 288 (by decide +kernel) rfl
theorem se_L_hasFile : Cond.selects "LeasedFiles" y_L_hasFile.1 y_L_hasFile.1 ∈ WS := ws_sel 1 (q := (y_L_hasFile.1, 4)) (by decide +kernel)
abbrev y_L_write : mY := (⟨"LeasedFiles", "write", "(III)I"⟩, prog_1_method_3_code, 4, (some .int))
set_option maxRecDepth 100000 in
theorem ok_L_write : okY y_L_write 3 := ⟨ws_at 317 rfl rfl, ws_at 1 (by decide +kernel) rfl, ⟨by decide +kernel, by decide +kernel⟩, by decide +kernel, by decide⟩
theorem in_L_write : Cond.instanceMethod y_L_write.1 ∈ WS := ws_at 315 (by decide +kernel) rfl
theorem se_L_write : Cond.selects "LeasedFiles" y_L_write.1 y_L_write.1 ∈ WS := ws_at 316 (by decide +kernel) rfl
abbrev y_L_retry : mY := (⟨"LeasedFiles", "retry", "(I)I"⟩, prog_1_method_4_code, 2, (some .int))
set_option maxRecDepth 100000 in
theorem ok_L_retry : okY y_L_retry 1 := ⟨ws_at 325 rfl rfl, ws_at 1 (by decide +kernel) rfl, ⟨by decide +kernel, by decide +kernel⟩, by decide +kernel, by decide⟩
theorem in_L_retry : Cond.instanceMethod y_L_retry.1 ∈ WS := ws_at 323 (by decide +kernel) rfl
theorem se_L_retry : Cond.selects "LeasedFiles" y_L_retry.1 y_L_retry.1 ∈ WS := ws_at 324 (by decide +kernel) rfl
abbrev y_L_status : mY := (⟨"LeasedFiles", "status", "(I)I"⟩, prog_1_method_5_code, 2, (some .int))
set_option maxRecDepth 100000 in
theorem ok_L_status : okY y_L_status 1 := ⟨ws_at 333 rfl rfl, ws_at 1 (by decide +kernel) rfl, ⟨by decide +kernel, by decide +kernel⟩, by decide +kernel, by decide⟩
theorem in_L_status : Cond.instanceMethod y_L_status.1 ∈ WS := ws_at 331 (by decide +kernel) rfl
theorem se_L_status : Cond.selects "LeasedFiles" y_L_status.1 y_L_status.1 ∈ WS := ws_at 332 (by decide +kernel) rfl
abbrev y_L_result : mY := (⟨"LeasedFiles", "result", "(I)I"⟩, prog_1_method_6_code, 2, (some .int))
set_option maxRecDepth 100000 in
theorem ok_L_result : okY y_L_result 1 := ⟨ws_at 337 rfl rfl, ws_at 1 (by decide +kernel) rfl, ⟨by decide +kernel, by decide +kernel⟩, by decide +kernel, by decide⟩
theorem in_L_result : Cond.instanceMethod y_L_result.1 ∈ WS := ws_at 335 (by decide +kernel) rfl
theorem se_L_result : Cond.selects "LeasedFiles" y_L_result.1 y_L_result.1 ∈ WS := ws_at 336 (by decide +kernel) rfl
abbrev y_L_isDone : mY := (⟨"LeasedFiles", "isDone", "(I)Z"⟩, prog_1_method_24_code, 2, (some .boolean))
set_option maxRecDepth 100000 in
theorem ok_L_isDone : okY y_L_isDone 1 := ⟨ws_at 341 rfl rfl, ws_at 1 (by decide +kernel) rfl, ⟨by decide +kernel, by decide +kernel⟩, by decide +kernel, by decide⟩
theorem in_L_isDone : Cond.instanceMethod y_L_isDone.1 ∈ WS := ws_at 340 (by decide +kernel) rfl
theorem se_L_isDone : Cond.selects "LeasedFiles" y_L_isDone.1 y_L_isDone.1 ∈ WS := ws_sel 5 (q := (y_L_isDone.1, 4)) (by decide +kernel)
abbrev y_L_version : mY := (⟨"LeasedFiles", "version", "(I)I"⟩, prog_1_method_7_code, 2, (some .int))
set_option maxRecDepth 100000 in
theorem ok_L_version : okY y_L_version 1 := ⟨ws_at 345 rfl rfl, ws_at 1 (by decide +kernel) rfl, ⟨by decide +kernel, by decide +kernel⟩, by decide +kernel, by decide⟩
theorem in_L_version : Cond.instanceMethod y_L_version.1 ∈ WS := ws_at 343 (by decide +kernel) rfl
theorem se_L_version : Cond.selects "LeasedFiles" y_L_version.1 y_L_version.1 ∈ WS := ws_at 344 (by decide +kernel) rfl
abbrev y_L_deliver : mY := (⟨"LeasedFiles", "deliver", "(I)I"⟩, prog_1_method_8_code, 3, (some .int))
set_option maxRecDepth 100000 in
theorem ok_L_deliver : okY y_L_deliver 1 := ⟨ws_at 349 rfl rfl, ws_at 1 (by decide +kernel) rfl, ⟨by decide +kernel, by decide +kernel⟩, by decide +kernel, by decide⟩
theorem in_L_deliver : Cond.instanceMethod y_L_deliver.1 ∈ WS := ws_at 347 (by decide +kernel) rfl
theorem se_L_deliver : Cond.selects "LeasedFiles" y_L_deliver.1 y_L_deliver.1 ∈ WS := ws_at 348 (by decide +kernel) rfl
abbrev y_L_lose : mY := (⟨"LeasedFiles", "lose", "(I)Z"⟩, prog_1_method_9_code, 2, (some .boolean))
set_option maxRecDepth 100000 in
theorem ok_L_lose : okY y_L_lose 1 := ⟨ws_at 552 rfl rfl, ws_at 1 (by decide +kernel) rfl, ⟨by decide +kernel, by decide +kernel⟩, by decide +kernel, by decide⟩
theorem in_L_lose : Cond.instanceMethod y_L_lose.1 ∈ WS := ws_at 550 (by decide +kernel) rfl
theorem se_L_lose : Cond.selects "LeasedFiles" y_L_lose.1 y_L_lose.1 ∈ WS := ws_at 551 (by decide +kernel) rfl
abbrev y_L_pending : mY := (⟨"LeasedFiles", "pending", "()I"⟩, prog_1_method_10_code, 1, (some .int))
set_option maxRecDepth 100000 in
theorem ok_L_pending : okY y_L_pending 0 := ⟨ws_at 556 rfl rfl, ws_at 1 (by decide +kernel) rfl, ⟨by decide +kernel, by decide +kernel⟩, by decide +kernel, by decide⟩
theorem in_L_pending : Cond.instanceMethod y_L_pending.1 ∈ WS := ws_at 554 (by decide +kernel) rfl
theorem se_L_pending : Cond.selects "LeasedFiles" y_L_pending.1 y_L_pending.1 ∈ WS := ws_at 555 (by decide +kernel) rfl
abbrev y_L_message : mY := (⟨"LeasedFiles", "message", "(II)I"⟩, prog_1_method_11_code, 3, (some .int))
set_option maxRecDepth 100000 in
theorem ok_L_message : okY y_L_message 2 := ⟨ws_at 560 rfl rfl, ws_at 1 (by decide +kernel) rfl, ⟨by decide +kernel, by decide +kernel⟩, by decide +kernel, by decide⟩
theorem in_L_message : Cond.instanceMethod y_L_message.1 ∈ WS := ws_at 558 (by decide +kernel) rfl
theorem se_L_message : Cond.selects "LeasedFiles" y_L_message.1 y_L_message.1 ∈ WS := ws_at 559 (by decide +kernel) rfl
abbrev y_L_tick : mY := (⟨"LeasedFiles", "tick", "(I)I"⟩, prog_1_method_12_code, 2, (some .int))
set_option maxRecDepth 100000 in
theorem ok_L_tick : okY y_L_tick 1 := ⟨ws_at 568 rfl rfl, ws_at 1 (by decide +kernel) rfl, ⟨by decide +kernel, by decide +kernel⟩, by decide +kernel, by decide⟩
theorem in_L_tick : Cond.instanceMethod y_L_tick.1 ∈ WS := ws_at 566 (by decide +kernel) rfl
theorem se_L_tick : Cond.selects "LeasedFiles" y_L_tick.1 y_L_tick.1 ∈ WS := ws_at 567 (by decide +kernel) rfl
abbrev y_L_isStep : mY := (⟨"LeasedFiles", "isStep", "(I)Z"⟩, prog_1_method_25_code, 1, (some .boolean))
set_option maxRecDepth 100000 in
theorem ok_L_isStep : okY y_L_isStep 1 := ⟨ws_at 571 rfl rfl, ws_at 1 (by decide +kernel) rfl, ⟨by decide +kernel, by decide +kernel⟩, by decide +kernel, by decide⟩
theorem st_L_isStep : Cond.static y_L_isStep.1 ∈ WS := ws_at 570 (by decide +kernel) rfl
abbrev y_L_pass : mY := (⟨"LeasedFiles", "pass", "(II)I"⟩, prog_1_method_13_code, 3, (some .int))
set_option maxRecDepth 100000 in
theorem ok_L_pass : okY y_L_pass 2 := ⟨ws_at 579 rfl rfl, ws_at 1 (by decide +kernel) rfl, ⟨by decide +kernel, by decide +kernel⟩, by decide +kernel, by decide⟩
theorem in_L_pass : Cond.instanceMethod y_L_pass.1 ∈ WS := ws_at 577 (by decide +kernel) rfl
theorem se_L_pass : Cond.selects "LeasedFiles" y_L_pass.1 y_L_pass.1 ∈ WS := ws_at 578 (by decide +kernel) rfl
abbrev y_L_crash : mY := (⟨"LeasedFiles", "crash", "(I)I"⟩, prog_1_method_14_code, 2, (some .int))
set_option maxRecDepth 100000 in
theorem ok_L_crash : okY y_L_crash 1 := ⟨ws_at 583 rfl rfl, ws_at 1 (by decide +kernel) rfl, ⟨by decide +kernel, by decide +kernel⟩, by decide +kernel, by decide⟩
theorem in_L_crash : Cond.instanceMethod y_L_crash.1 ∈ WS := ws_at 581 (by decide +kernel) rfl
theorem se_L_crash : Cond.selects "LeasedFiles" y_L_crash.1 y_L_crash.1 ∈ WS := ws_at 582 (by decide +kernel) rfl
abbrev y_L_halt : mY := (⟨"LeasedFiles", "halt", "()I"⟩, prog_1_method_15_code, 1, (some .int))
set_option maxRecDepth 100000 in
theorem ok_L_halt : okY y_L_halt 0 := ⟨ws_at 591 rfl rfl, ws_at 1 (by decide +kernel) rfl, ⟨by decide +kernel, by decide +kernel⟩, by decide +kernel, by decide⟩
theorem in_L_halt : Cond.instanceMethod y_L_halt.1 ∈ WS := ws_at 589 (by decide +kernel) rfl
theorem se_L_halt : Cond.selects "LeasedFiles" y_L_halt.1 y_L_halt.1 ∈ WS := ws_at 590 (by decide +kernel) rfl
abbrev y_L_restart : mY := (⟨"LeasedFiles", "restart", "()I"⟩, prog_1_method_16_code, 1, (some .int))
set_option maxRecDepth 100000 in
theorem ok_L_restart : okY y_L_restart 0 := ⟨ws_at 608 rfl rfl, ws_at 1 (by decide +kernel) rfl, ⟨by decide +kernel, by decide +kernel⟩, by decide +kernel, by decide⟩
theorem in_L_restart : Cond.instanceMethod y_L_restart.1 ∈ WS := ws_at 606 (by decide +kernel) rfl
theorem se_L_restart : Cond.selects "LeasedFiles" y_L_restart.1 y_L_restart.1 ∈ WS := ws_at 607 (by decide +kernel) rfl
abbrev y_L_copy : mY := (⟨"LeasedFiles", "copy", "(III)I"⟩, prog_1_method_17_code, 4, (some .int))
set_option maxRecDepth 100000 in
theorem ok_L_copy : okY y_L_copy 3 := ⟨ws_at 616 rfl rfl, ws_at 1 (by decide +kernel) rfl, ⟨by decide +kernel, by decide +kernel⟩, by decide +kernel, by decide⟩
theorem in_L_copy : Cond.instanceMethod y_L_copy.1 ∈ WS := ws_at 614 (by decide +kernel) rfl
theorem se_L_copy : Cond.selects "LeasedFiles" y_L_copy.1 y_L_copy.1 ∈ WS := ws_at 615 (by decide +kernel) rfl
abbrev y_L_timeLeft : mY := (⟨"LeasedFiles", "timeLeft", "(II)I"⟩, prog_1_method_27_code, 2, (some .int))
set_option maxRecDepth 100000 in
theorem ok_L_timeLeft : okY y_L_timeLeft 2 := ⟨ws_at 623 rfl rfl, ws_at 1 (by decide +kernel) rfl, ⟨by decide +kernel, by decide +kernel⟩, by decide +kernel, by decide⟩
theorem st_L_timeLeft : Cond.static y_L_timeLeft.1 ∈ WS := ws_at 622 (by decide +kernel) rfl
abbrev y_L_lease : mY := (⟨"LeasedFiles", "lease", "(II)I"⟩, prog_1_method_18_code, 3, (some .int))
set_option maxRecDepth 100000 in
theorem ok_L_lease : okY y_L_lease 2 := ⟨ws_at 627 rfl rfl, ws_at 1 (by decide +kernel) rfl, ⟨by decide +kernel, by decide +kernel⟩, by decide +kernel, by decide⟩
theorem in_L_lease : Cond.instanceMethod y_L_lease.1 ∈ WS := ws_at 625 (by decide +kernel) rfl
theorem se_L_lease : Cond.selects "LeasedFiles" y_L_lease.1 y_L_lease.1 ∈ WS := ws_at 626 (by decide +kernel) rfl
abbrev y_L_file : mY := (⟨"LeasedFiles", "file", "(II)I"⟩, prog_1_method_19_code, 3, (some .int))
set_option maxRecDepth 100000 in
theorem ok_L_file : okY y_L_file 2 := ⟨ws_at 632 rfl rfl, ws_at 1 (by decide +kernel) rfl, ⟨by decide +kernel, by decide +kernel⟩, by decide +kernel, by decide⟩
theorem in_L_file : Cond.instanceMethod y_L_file.1 ∈ WS := ws_at 630 (by decide +kernel) rfl
theorem se_L_file : Cond.selects "LeasedFiles" y_L_file.1 y_L_file.1 ∈ WS := ws_at 631 (by decide +kernel) rfl
abbrev y_L_server : mY := (⟨"LeasedFiles", "server", "(I)I"⟩, prog_1_method_20_code, 2, (some .int))
set_option maxRecDepth 100000 in
theorem ok_L_server : okY y_L_server 1 := ⟨ws_at 640 rfl rfl, ws_at 1 (by decide +kernel) rfl, ⟨by decide +kernel, by decide +kernel⟩, by decide +kernel, by decide⟩
theorem in_L_server : Cond.instanceMethod y_L_server.1 ∈ WS := ws_at 638 (by decide +kernel) rfl
theorem se_L_server : Cond.selects "LeasedFiles" y_L_server.1 y_L_server.1 ∈ WS := ws_at 639 (by decide +kernel) rfl
abbrev y_L_client : mY := (⟨"LeasedFiles", "client", "(II)I"⟩, prog_1_method_21_code, 3, (some .int))
set_option maxRecDepth 100000 in
theorem ok_L_client : okY y_L_client 2 := ⟨ws_at 649 rfl rfl, ws_at 1 (by decide +kernel) rfl, ⟨by decide +kernel, by decide +kernel⟩, by decide +kernel, by decide⟩
theorem in_L_client : Cond.instanceMethod y_L_client.1 ∈ WS := ws_at 647 (by decide +kernel) rfl
theorem se_L_client : Cond.selects "LeasedFiles" y_L_client.1 y_L_client.1 ∈ WS := ws_at 648 (by decide +kernel) rfl
abbrev y_C_init : mY := (⟨"LeasedFiles$Client", "<init>", "(III)V"⟩, prog_2_method_1_code, 5, none)
set_option maxRecDepth 100000 in
theorem ok_C_init : okY y_C_init 3 := ⟨ws_at 195 rfl rfl, ws_at 10 (by decide +kernel) rfl, ⟨by decide +kernel, by decide +kernel⟩, by decide +kernel, by decide⟩
theorem in_C_init : Cond.instanceMethod y_C_init.1 ∈ WS := ws_at 194 (by decide +kernel) rfl
abbrev y_C_startRead : mY := (⟨"LeasedFiles$Client", "startRead", "(ILLeasedFiles$Pool;)I"⟩, prog_2_method_2_code, 4, (some .int))
set_option maxRecDepth 100000 in
theorem ok_C_startRead : okY y_C_startRead 2 := ⟨ws_at 293 rfl rfl, ws_at 10 (by decide +kernel) rfl, ⟨by decide +kernel, by decide +kernel⟩, by decide +kernel, by decide⟩
theorem in_C_startRead : Cond.instanceMethod y_C_startRead.1 ∈ WS := ws_at 291 (by decide +kernel) rfl
theorem se_C_startRead : Cond.selects "LeasedFiles$Client" y_C_startRead.1 y_C_startRead.1 ∈ WS := ws_at 292 (by decide +kernel) rfl
abbrev y_C_startOperation : mY := (⟨"LeasedFiles$Client", "startOperation", "(IZ)V"⟩, prog_2_method_8_code, 3, none)
set_option maxRecDepth 100000 in
theorem ok_C_startOperation : okY y_C_startOperation 2 := ⟨ws_at 297 rfl rfl, ws_at 10 (by decide +kernel) rfl, ⟨by decide +kernel, by decide +kernel⟩, by decide +kernel, by decide⟩
theorem in_C_startOperation : Cond.instanceMethod y_C_startOperation.1 ∈ WS := ws_at 296 (by decide +kernel) rfl
theorem se_C_startOperation : Cond.selects "LeasedFiles$Client" y_C_startOperation.1 y_C_startOperation.1 ∈ WS := ws_sel 2 (q := (y_C_startOperation.1, 13)) (by decide +kernel)
abbrev y_C_finish : mY := (⟨"LeasedFiles$Client", "finish", "(II)V"⟩, prog_2_method_15_code, 3, none)
set_option maxRecDepth 100000 in
theorem ok_C_finish : okY y_C_finish 2 := ⟨ws_at 305 rfl rfl, ws_at 10 (by decide +kernel) rfl, ⟨by decide +kernel, by decide +kernel⟩, by decide +kernel, by decide⟩
theorem in_C_finish : Cond.instanceMethod y_C_finish.1 ∈ WS := ws_at 304 (by decide +kernel) rfl
theorem se_C_finish : Cond.selects "LeasedFiles$Client" y_C_finish.1 y_C_finish.1 ∈ WS := ws_sel 3 (q := (y_C_finish.1, 13)) (by decide +kernel)
abbrev y_C_sendRequest : mY := (⟨"LeasedFiles$Client", "sendRequest", "(LLeasedFiles$Pool;)V"⟩, prog_2_method_9_code, 2, none)
set_option maxRecDepth 100000 in
theorem ok_C_sendRequest : okY y_C_sendRequest 1 := ⟨ws_at 309 rfl rfl, ws_at 10 (by decide +kernel) rfl, ⟨by decide +kernel, by decide +kernel⟩, by decide +kernel, by decide⟩
theorem in_C_sendRequest : Cond.instanceMethod y_C_sendRequest.1 ∈ WS := ws_at 308 (by decide +kernel) rfl
theorem se_C_sendRequest : Cond.selects "LeasedFiles$Client" y_C_sendRequest.1 y_C_sendRequest.1 ∈ WS := ws_sel 4 (q := (y_C_sendRequest.1, 13)) (by decide +kernel)
abbrev y_C_startWrite : mY := (⟨"LeasedFiles$Client", "startWrite", "(IILLeasedFiles$Pool;)I"⟩, prog_2_method_3_code, 4, (some .int))
set_option maxRecDepth 100000 in
theorem ok_C_startWrite : okY y_C_startWrite 3 := ⟨ws_at 321 rfl rfl, ws_at 10 (by decide +kernel) rfl, ⟨by decide +kernel, by decide +kernel⟩, by decide +kernel, by decide⟩
theorem in_C_startWrite : Cond.instanceMethod y_C_startWrite.1 ∈ WS := ws_at 319 (by decide +kernel) rfl
theorem se_C_startWrite : Cond.selects "LeasedFiles$Client" y_C_startWrite.1 y_C_startWrite.1 ∈ WS := ws_at 320 (by decide +kernel) rfl
abbrev y_C_sendAgain : mY := (⟨"LeasedFiles$Client", "sendAgain", "(LLeasedFiles$Pool;)I"⟩, prog_2_method_4_code, 2, (some .int))
set_option maxRecDepth 100000 in
theorem ok_C_sendAgain : okY y_C_sendAgain 1 := ⟨ws_at 329 rfl rfl, ws_at 10 (by decide +kernel) rfl, ⟨by decide +kernel, by decide +kernel⟩, by decide +kernel, by decide⟩
theorem in_C_sendAgain : Cond.instanceMethod y_C_sendAgain.1 ∈ WS := ws_at 327 (by decide +kernel) rfl
theorem se_C_sendAgain : Cond.selects "LeasedFiles$Client" y_C_sendAgain.1 y_C_sendAgain.1 ∈ WS := ws_at 328 (by decide +kernel) rfl
abbrev y_C_receive : mY := (⟨"LeasedFiles$Client", "receive", "(LLeasedFiles$Message;LLeasedFiles$Pool;)V"⟩, prog_2_method_6_code, 3, none)
set_option maxRecDepth 100000 in
theorem ok_C_receive : okY y_C_receive 2 := ⟨ws_at 524 rfl rfl, ws_at 10 (by decide +kernel) rfl, ⟨by decide +kernel, by decide +kernel⟩, by decide +kernel, by decide⟩
theorem in_C_receive : Cond.instanceMethod y_C_receive.1 ∈ WS := ws_at 522 (by decide +kernel) rfl
theorem se_C_receive : Cond.selects "LeasedFiles$Client" y_C_receive.1 y_C_receive.1 ∈ WS := ws_at 523 (by decide +kernel) rfl
abbrev y_C_receiveGiven : mY := (⟨"LeasedFiles$Client", "receiveGiven", "(LLeasedFiles$Message;)V"⟩, prog_2_method_10_code, 2, none)
set_option maxRecDepth 100000 in
theorem ok_C_receiveGiven : okY y_C_receiveGiven 1 := ⟨ws_at 528 rfl rfl, ws_at 10 (by decide +kernel) rfl, ⟨by decide +kernel, by decide +kernel⟩, by decide +kernel, by decide⟩
theorem in_C_receiveGiven : Cond.instanceMethod y_C_receiveGiven.1 ∈ WS := ws_at 527 (by decide +kernel) rfl
theorem se_C_receiveGiven : Cond.selects "LeasedFiles$Client" y_C_receiveGiven.1 y_C_receiveGiven.1 ∈ WS := ws_sel 17 (q := (y_C_receiveGiven.1, 13)) (by decide +kernel)
abbrev y_C_waitsToRead : mY := (⟨"LeasedFiles$Client", "waitsToRead", "()Z"⟩, prog_2_method_13_code, 1, (some .boolean))
set_option maxRecDepth 100000 in
theorem ok_C_waitsToRead : okY y_C_waitsToRead 0 := ⟨ws_at 532 rfl rfl, ws_at 10 (by decide +kernel) rfl, ⟨by decide +kernel, by decide +kernel⟩, by decide +kernel, by decide⟩
theorem in_C_waitsToRead : Cond.instanceMethod y_C_waitsToRead.1 ∈ WS := ws_at 531 (by decide +kernel) rfl
theorem se_C_waitsToRead : Cond.selects "LeasedFiles$Client" y_C_waitsToRead.1 y_C_waitsToRead.1 ∈ WS := ws_sel 18 (q := (y_C_waitsToRead.1, 13)) (by decide +kernel)
abbrev y_C_receiveStored : mY := (⟨"LeasedFiles$Client", "receiveStored", "(LLeasedFiles$Message;)V"⟩, prog_2_method_11_code, 2, none)
set_option maxRecDepth 100000 in
theorem ok_C_receiveStored : okY y_C_receiveStored 1 := ⟨ws_at 540 rfl rfl, ws_at 10 (by decide +kernel) rfl, ⟨by decide +kernel, by decide +kernel⟩, by decide +kernel, by decide⟩
theorem in_C_receiveStored : Cond.instanceMethod y_C_receiveStored.1 ∈ WS := ws_at 539 (by decide +kernel) rfl
theorem se_C_receiveStored : Cond.selects "LeasedFiles$Client" y_C_receiveStored.1 y_C_receiveStored.1 ∈ WS := ws_sel 19 (q := (y_C_receiveStored.1, 13)) (by decide +kernel)
abbrev y_C_waitsToWrite : mY := (⟨"LeasedFiles$Client", "waitsToWrite", "()Z"⟩, prog_2_method_14_code, 1, (some .boolean))
set_option maxRecDepth 100000 in
theorem ok_C_waitsToWrite : okY y_C_waitsToWrite 0 := ⟨ws_at 544 rfl rfl, ws_at 10 (by decide +kernel) rfl, ⟨by decide +kernel, by decide +kernel⟩, by decide +kernel, by decide⟩
theorem in_C_waitsToWrite : Cond.instanceMethod y_C_waitsToWrite.1 ∈ WS := ws_at 543 (by decide +kernel) rfl
theorem se_C_waitsToWrite : Cond.selects "LeasedFiles$Client" y_C_waitsToWrite.1 y_C_waitsToWrite.1 ∈ WS := ws_sel 20 (q := (y_C_waitsToWrite.1, 13)) (by decide +kernel)
abbrev y_C_receiveRecall : mY := (⟨"LeasedFiles$Client", "receiveRecall", "(LLeasedFiles$Message;LLeasedFiles$Pool;)V"⟩, prog_2_method_12_code, 3, none)
set_option maxRecDepth 100000 in
theorem ok_C_receiveRecall : okY y_C_receiveRecall 2 := ⟨ws_at 548 rfl rfl, ws_at 10 (by decide +kernel) rfl, ⟨by decide +kernel, by decide +kernel⟩, by decide +kernel, by decide⟩
theorem in_C_receiveRecall : Cond.instanceMethod y_C_receiveRecall.1 ∈ WS := ws_at 547 (by decide +kernel) rfl
theorem se_C_receiveRecall : Cond.selects "LeasedFiles$Client" y_C_receiveRecall.1 y_C_receiveRecall.1 ∈ WS := ws_sel 21 (q := (y_C_receiveRecall.1, 13)) (by decide +kernel)
abbrev y_C_forget : mY := (⟨"LeasedFiles$Client", "forget", "()I"⟩, prog_2_method_5_code, 3, (some .int))
set_option maxRecDepth 100000 in
theorem ok_C_forget : okY y_C_forget 0 := ⟨ws_at 587 rfl rfl, ws_at 10 (by decide +kernel) rfl, ⟨by decide +kernel, by decide +kernel⟩, by decide +kernel, by decide⟩
theorem in_C_forget : Cond.instanceMethod y_C_forget.1 ∈ WS := ws_at 585 (by decide +kernel) rfl
theorem se_C_forget : Cond.selects "LeasedFiles$Client" y_C_forget.1 y_C_forget.1 ∈ WS := ws_at 586 (by decide +kernel) rfl
abbrev y_C_part : mY := (⟨"LeasedFiles$Client", "part", "(I)I"⟩, prog_2_method_7_code, 2, (some .int))
set_option maxRecDepth 100000 in
theorem ok_C_part : okY y_C_part 1 := ⟨ws_at 653 rfl rfl, ws_at 10 (by decide +kernel) rfl, ⟨by decide +kernel, by decide +kernel⟩, by decide +kernel, by decide⟩
theorem in_C_part : Cond.instanceMethod y_C_part.1 ∈ WS := ws_at 651 (by decide +kernel) rfl
theorem se_C_part : Cond.selects "LeasedFiles$Client" y_C_part.1 y_C_part.1 ∈ WS := ws_at 652 (by decide +kernel) rfl
abbrev y_Y_init : mY := (⟨"LeasedFiles$Copy", "<init>", "()V"⟩, prog_3_method_1_code, 1, none)
set_option maxRecDepth 100000 in
theorem ok_Y_init : okY y_Y_init 0 := ⟨ws_at 202 rfl rfl, ws_at 11 (by decide +kernel) rfl, ⟨by decide +kernel, by decide +kernel⟩, by decide +kernel, by decide⟩
theorem in_Y_init : Cond.instanceMethod y_Y_init.1 ∈ WS := ws_at 201 (by decide +kernel) rfl
abbrev y_Y_isGoodAt : mY := (⟨"LeasedFiles$Copy", "isGoodAt", "(I)Z"⟩, prog_3_method_2_code, 2, (some .boolean))
set_option maxRecDepth 100000 in
theorem ok_Y_isGoodAt : okY y_Y_isGoodAt 1 := ⟨ws_at 301 rfl rfl, ws_at 11 (by decide +kernel) rfl, ⟨by decide +kernel, by decide +kernel⟩, by decide +kernel, by decide⟩
theorem in_Y_isGoodAt : Cond.instanceMethod y_Y_isGoodAt.1 ∈ WS := ws_at 299 (by decide +kernel) rfl
theorem se_Y_isGoodAt : Cond.selects "LeasedFiles$Copy" y_Y_isGoodAt.1 y_Y_isGoodAt.1 ∈ WS := ws_at 300 (by decide +kernel) rfl
abbrev y_Y_hold : mY := (⟨"LeasedFiles$Copy", "hold", "(III)V"⟩, prog_3_method_3_code, 4, none)
set_option maxRecDepth 100000 in
theorem ok_Y_hold : okY y_Y_hold 3 := ⟨ws_at 536 rfl rfl, ws_at 11 (by decide +kernel) rfl, ⟨by decide +kernel, by decide +kernel⟩, by decide +kernel, by decide⟩
theorem in_Y_hold : Cond.instanceMethod y_Y_hold.1 ∈ WS := ws_at 534 (by decide +kernel) rfl
theorem se_Y_hold : Cond.selects "LeasedFiles$Copy" y_Y_hold.1 y_Y_hold.1 ∈ WS := ws_at 535 (by decide +kernel) rfl
abbrev y_Y_part : mY := (⟨"LeasedFiles$Copy", "part", "(II)I"⟩, prog_3_method_4_code, 3, (some .int))
set_option maxRecDepth 100000 in
theorem ok_Y_part : okY y_Y_part 2 := ⟨ws_at 620 rfl rfl, ws_at 11 (by decide +kernel) rfl, ⟨by decide +kernel, by decide +kernel⟩, by decide +kernel, by decide⟩
theorem in_Y_part : Cond.instanceMethod y_Y_part.1 ∈ WS := ws_at 618 (by decide +kernel) rfl
theorem se_Y_part : Cond.selects "LeasedFiles$Copy" y_Y_part.1 y_Y_part.1 ∈ WS := ws_at 619 (by decide +kernel) rfl
abbrev y_M_init : mY := (⟨"LeasedFiles$Message", "<init>", "()V"⟩, prog_4_method_1_code, 1, none)
set_option maxRecDepth 100000 in
theorem ok_M_init : okY y_M_init 0 := ⟨ws_at 47 rfl rfl, ws_at 4 (by decide +kernel) rfl, ⟨by decide +kernel, by decide +kernel⟩, by decide +kernel, by decide⟩
theorem in_M_init : Cond.instanceMethod y_M_init.1 ∈ WS := ws_at 46 (by decide +kernel) rfl
abbrev y_M_goesToServer : mY := (⟨"LeasedFiles$Message", "goesToServer", "()Z"⟩, prog_4_method_2_code, 1, (some .boolean))
set_option maxRecDepth 100000 in
theorem ok_M_goesToServer : okY y_M_goesToServer 0 := ⟨ws_at 361 rfl rfl, ws_at 4 (by decide +kernel) rfl, ⟨by decide +kernel, by decide +kernel⟩, by decide +kernel, by decide⟩
theorem in_M_goesToServer : Cond.instanceMethod y_M_goesToServer.1 ∈ WS := ws_at 359 (by decide +kernel) rfl
theorem se_M_goesToServer : Cond.selects "LeasedFiles$Message" y_M_goesToServer.1 y_M_goesToServer.1 ∈ WS := ws_at 360 (by decide +kernel) rfl
abbrev y_M_part : mY := (⟨"LeasedFiles$Message", "part", "(I)I"⟩, prog_4_method_3_code, 2, (some .int))
set_option maxRecDepth 100000 in
theorem ok_M_part : okY y_M_part 1 := ⟨ws_at 564 rfl rfl, ws_at 4 (by decide +kernel) rfl, ⟨by decide +kernel, by decide +kernel⟩, by decide +kernel, by decide⟩
theorem in_M_part : Cond.instanceMethod y_M_part.1 ∈ WS := ws_at 562 (by decide +kernel) rfl
theorem se_M_part : Cond.selects "LeasedFiles$Message" y_M_part.1 y_M_part.1 ∈ WS := ws_at 563 (by decide +kernel) rfl
abbrev y_P_init : mY := (⟨"LeasedFiles$Pool", "<init>", "()V"⟩, prog_5_method_1_code, 2, none)
set_option maxRecDepth 100000 in
theorem ok_P_init : okY y_P_init 0 := ⟨ws_at 40 rfl rfl, ws_at 3 (by decide +kernel) rfl, ⟨by decide +kernel, by decide +kernel⟩, by decide +kernel, by decide⟩
theorem in_P_init : Cond.instanceMethod y_P_init.1 ∈ WS := ws_at 39 (by decide +kernel) rfl
abbrev y_P_send : mY := (⟨"LeasedFiles$Pool", "send", "(IIIIIII)V"⟩, prog_5_method_3_code, 9, none)
set_option maxRecDepth 100000 in
theorem ok_P_send : okY y_P_send 7 := ⟨ws_at 313 rfl rfl, ws_at 3 (by decide +kernel) rfl, ⟨by decide +kernel, by decide +kernel⟩, by decide +kernel, by decide⟩
theorem in_P_send : Cond.instanceMethod y_P_send.1 ∈ WS := ws_at 311 (by decide +kernel) rfl
theorem se_P_send : Cond.selects "LeasedFiles$Pool" y_P_send.1 y_P_send.1 ∈ WS := ws_at 312 (by decide +kernel) rfl
abbrev y_P_holds : mY := (⟨"LeasedFiles$Pool", "holds", "(I)Z"⟩, prog_5_method_2_code, 2, (some .boolean))
set_option maxRecDepth 100000 in
theorem ok_P_holds : okY y_P_holds 1 := ⟨ws_at 353 rfl rfl, ws_at 3 (by decide +kernel) rfl, ⟨by decide +kernel, by decide +kernel⟩, by decide +kernel, by decide⟩
theorem in_P_holds : Cond.instanceMethod y_P_holds.1 ∈ WS := ws_at 351 (by decide +kernel) rfl
theorem se_P_holds : Cond.selects "LeasedFiles$Pool" y_P_holds.1 y_P_holds.1 ∈ WS := ws_at 352 (by decide +kernel) rfl
abbrev y_P_takeOut : mY := (⟨"LeasedFiles$Pool", "takeOut", "(I)LLeasedFiles$Message;"⟩, prog_5_method_4_code, 4, (some (.object "LeasedFiles$Message")))
set_option maxRecDepth 100000 in
theorem ok_P_takeOut : okY y_P_takeOut 1 := ⟨ws_at 357 rfl rfl, ws_at 3 (by decide +kernel) rfl, ⟨by decide +kernel, by decide +kernel⟩, by decide +kernel, by decide⟩
theorem in_P_takeOut : Cond.instanceMethod y_P_takeOut.1 ∈ WS := ws_at 355 (by decide +kernel) rfl
theorem se_P_takeOut : Cond.selects "LeasedFiles$Pool" y_P_takeOut.1 y_P_takeOut.1 ∈ WS := ws_at 356 (by decide +kernel) rfl
abbrev y_F_init : mY := (⟨"LeasedFiles$ServedFile", "<init>", "(I)V"⟩, prog_6_method_1_code, 2, none)
set_option maxRecDepth 100000 in
theorem ok_F_init : okY y_F_init 1 := ⟨ws_at 115 rfl rfl, ws_at 6 (by decide +kernel) rfl, ⟨by decide +kernel, by decide +kernel⟩, by decide +kernel, by decide⟩
theorem in_F_init : Cond.instanceMethod y_F_init.1 ∈ WS := ws_at 114 (by decide +kernel) rfl
abbrev y_F_isWaiting : mY := (⟨"LeasedFiles$ServedFile", "isWaiting", "(II)Z"⟩, prog_6_method_5_code, 4, (some .boolean))
set_option maxRecDepth 100000 in
theorem ok_F_isWaiting : okY y_F_isWaiting 2 := ⟨ws_at 382 rfl rfl, ws_at 6 (by decide +kernel) rfl, ⟨by decide +kernel, by decide +kernel⟩, by decide +kernel, by decide⟩
theorem in_F_isWaiting : Cond.instanceMethod y_F_isWaiting.1 ∈ WS := ws_at 380 (by decide +kernel) rfl
theorem se_F_isWaiting : Cond.selects "LeasedFiles$ServedFile" y_F_isWaiting.1 y_F_isWaiting.1 ∈ WS := ws_at 381 (by decide +kernel) rfl
abbrev y_F_addLast : mY := (⟨"LeasedFiles$ServedFile", "addLast", "(III)V"⟩, prog_6_method_6_code, 4, none)
set_option maxRecDepth 100000 in
theorem ok_F_addLast : okY y_F_addLast 3 := ⟨ws_at 409 rfl rfl, ws_at 6 (by decide +kernel) rfl, ⟨by decide +kernel, by decide +kernel⟩, by decide +kernel, by decide⟩
theorem in_F_addLast : Cond.instanceMethod y_F_addLast.1 ∈ WS := ws_at 407 (by decide +kernel) rfl
theorem se_F_addLast : Cond.selects "LeasedFiles$ServedFile" y_F_addLast.1 y_F_addLast.1 ∈ WS := ws_at 408 (by decide +kernel) rfl
abbrev y_F_isFirst : mY := (⟨"LeasedFiles$ServedFile", "isFirst", "(II)Z"⟩, prog_6_method_4_code, 3, (some .boolean))
set_option maxRecDepth 100000 in
theorem ok_F_isFirst : okY y_F_isFirst 2 := ⟨ws_at 485 rfl rfl, ws_at 6 (by decide +kernel) rfl, ⟨by decide +kernel, by decide +kernel⟩, by decide +kernel, by decide⟩
theorem in_F_isFirst : Cond.instanceMethod y_F_isFirst.1 ∈ WS := ws_at 483 (by decide +kernel) rfl
theorem se_F_isFirst : Cond.selects "LeasedFiles$ServedFile" y_F_isFirst.1 y_F_isFirst.1 ∈ WS := ws_at 484 (by decide +kernel) rfl
abbrev y_F_isLeasedAt : mY := (⟨"LeasedFiles$ServedFile", "isLeasedAt", "(I)Z"⟩, prog_6_method_2_code, 3, (some .boolean))
set_option maxRecDepth 100000 in
theorem ok_F_isLeasedAt : okY y_F_isLeasedAt 1 := ⟨ws_at 506 rfl rfl, ws_at 6 (by decide +kernel) rfl, ⟨by decide +kernel, by decide +kernel⟩, by decide +kernel, by decide⟩
theorem in_F_isLeasedAt : Cond.instanceMethod y_F_isLeasedAt.1 ∈ WS := ws_at 504 (by decide +kernel) rfl
theorem se_F_isLeasedAt : Cond.selects "LeasedFiles$ServedFile" y_F_isLeasedAt.1 y_F_isLeasedAt.1 ∈ WS := ws_at 505 (by decide +kernel) rfl
abbrev y_F_endLeases : mY := (⟨"LeasedFiles$ServedFile", "endLeases", "(I)V"⟩, prog_6_method_3_code, 3, none)
set_option maxRecDepth 100000 in
theorem ok_F_endLeases : okY y_F_endLeases 1 := ⟨ws_at 604 rfl rfl, ws_at 6 (by decide +kernel) rfl, ⟨by decide +kernel, by decide +kernel⟩, by decide +kernel, by decide⟩
theorem in_F_endLeases : Cond.instanceMethod y_F_endLeases.1 ∈ WS := ws_at 602 (by decide +kernel) rfl
theorem se_F_endLeases : Cond.selects "LeasedFiles$ServedFile" y_F_endLeases.1 y_F_endLeases.1 ∈ WS := ws_at 603 (by decide +kernel) rfl
abbrev y_F_part : mY := (⟨"LeasedFiles$ServedFile", "part", "(I)I"⟩, prog_6_method_7_code, 2, (some .int))
set_option maxRecDepth 100000 in
theorem ok_F_part : okY y_F_part 1 := ⟨ws_at 636 rfl rfl, ws_at 6 (by decide +kernel) rfl, ⟨by decide +kernel, by decide +kernel⟩, by decide +kernel, by decide⟩
theorem in_F_part : Cond.instanceMethod y_F_part.1 ∈ WS := ws_at 634 (by decide +kernel) rfl
theorem se_F_part : Cond.selects "LeasedFiles$ServedFile" y_F_part.1 y_F_part.1 ∈ WS := ws_at 635 (by decide +kernel) rfl
abbrev y_S_init : mY := (⟨"LeasedFiles$Server", "<init>", "(III)V"⟩, prog_7_method_1_code, 5, none)
set_option maxRecDepth 100000 in
theorem ok_S_init : okY y_S_init 3 := ⟨ws_at 108 rfl rfl, ws_at 5 (by decide +kernel) rfl, ⟨by decide +kernel, by decide +kernel⟩, by decide +kernel, by decide⟩
theorem in_S_init : Cond.instanceMethod y_S_init.1 ∈ WS := ws_at 107 (by decide +kernel) rfl
abbrev y_S_receive : mY := (⟨"LeasedFiles$Server", "receive", "(LLeasedFiles$Message;LLeasedFiles$Pool;)Z"⟩, prog_7_method_2_code, 3, (some .boolean))
set_option maxRecDepth 100000 in
theorem ok_S_receive : okY y_S_receive 2 := ⟨ws_at 365 rfl rfl, ws_at 5 (by decide +kernel) rfl, ⟨by decide +kernel, by decide +kernel⟩, by decide +kernel, by decide⟩
theorem in_S_receive : Cond.instanceMethod y_S_receive.1 ∈ WS := ws_at 363 (by decide +kernel) rfl
theorem se_S_receive : Cond.selects "LeasedFiles$Server" y_S_receive.1 y_S_receive.1 ∈ WS := ws_at 364 (by decide +kernel) rfl
abbrev y_S_receiveAsk : mY := (⟨"LeasedFiles$Server", "receiveAsk", "(LLeasedFiles$Message;LLeasedFiles$Pool;)V"⟩, prog_7_method_7_code, 5, none)
set_option maxRecDepth 100000 in
theorem ok_S_receiveAsk : okY y_S_receiveAsk 2 := ⟨ws_at 369 rfl rfl, ws_at 5 (by decide +kernel) rfl, ⟨by decide +kernel, by decide +kernel⟩, by decide +kernel, by decide⟩
theorem in_S_receiveAsk : Cond.instanceMethod y_S_receiveAsk.1 ∈ WS := ws_at 368 (by decide +kernel) rfl
theorem se_S_receiveAsk : Cond.selects "LeasedFiles$Server" y_S_receiveAsk.1 y_S_receiveAsk.1 ∈ WS := ws_sel 6 (q := (y_S_receiveAsk.1, 8)) (by decide +kernel)
abbrev y_S_receivePut : mY := (⟨"LeasedFiles$Server", "receivePut", "(LLeasedFiles$Message;LLeasedFiles$Pool;)V"⟩, prog_7_method_8_code, 5, none)
set_option maxRecDepth 100000 in
theorem ok_S_receivePut : okY y_S_receivePut 2 := ⟨ws_at 378 rfl rfl, ws_at 5 (by decide +kernel) rfl, ⟨by decide +kernel, by decide +kernel⟩, by decide +kernel, by decide⟩
theorem in_S_receivePut : Cond.instanceMethod y_S_receivePut.1 ∈ WS := ws_at 377 (by decide +kernel) rfl
theorem se_S_receivePut : Cond.selects "LeasedFiles$Server" y_S_receivePut.1 y_S_receivePut.1 ∈ WS := ws_sel 7 (q := (y_S_receivePut.1, 8)) (by decide +kernel)
abbrev y_S_recall : mY := (⟨"LeasedFiles$Server", "recall", "(LLeasedFiles$Message;LLeasedFiles$Pool;)V"⟩, prog_7_method_9_code, 5, none)
set_option maxRecDepth 100000 in
theorem ok_S_recall : okY y_S_recall 2 := ⟨ws_at 490 rfl rfl, ws_at 5 (by decide +kernel) rfl, ⟨by decide +kernel, by decide +kernel⟩, by decide +kernel, by decide⟩
theorem in_S_recall : Cond.instanceMethod y_S_recall.1 ∈ WS := ws_at 489 (by decide +kernel) rfl
theorem se_S_recall : Cond.selects "LeasedFiles$Server" y_S_recall.1 y_S_recall.1 ∈ WS := ws_sel 11 (q := (y_S_recall.1, 8)) (by decide +kernel)
abbrev y_S_receiveFree : mY := (⟨"LeasedFiles$Server", "receiveFree", "(LLeasedFiles$Message;)V"⟩, prog_7_method_10_code, 3, none)
set_option maxRecDepth 100000 in
theorem ok_S_receiveFree : okY y_S_receiveFree 1 := ⟨ws_at 494 rfl rfl, ws_at 5 (by decide +kernel) rfl, ⟨by decide +kernel, by decide +kernel⟩, by decide +kernel, by decide⟩
theorem in_S_receiveFree : Cond.instanceMethod y_S_receiveFree.1 ∈ WS := ws_at 493 (by decide +kernel) rfl
theorem se_S_receiveFree : Cond.selects "LeasedFiles$Server" y_S_receiveFree.1 y_S_receiveFree.1 ∈ WS := ws_sel 12 (q := (y_S_receiveFree.1, 8)) (by decide +kernel)
abbrev y_S_storeWhatMay : mY := (⟨"LeasedFiles$Server", "storeWhatMay", "(LLeasedFiles$Pool;)I"⟩, prog_7_method_11_code, 5, (some .int))
set_option maxRecDepth 100000 in
theorem ok_S_storeWhatMay : okY y_S_storeWhatMay 1 := ⟨ws_at 498 rfl rfl, ws_at 5 (by decide +kernel) rfl, ⟨by decide +kernel, by decide +kernel⟩, by decide +kernel, by decide⟩
theorem in_S_storeWhatMay : Cond.instanceMethod y_S_storeWhatMay.1 ∈ WS := ws_at 497 (by decide +kernel) rfl
theorem se_S_storeWhatMay : Cond.selects "LeasedFiles$Server" y_S_storeWhatMay.1 y_S_storeWhatMay.1 ∈ WS := ws_sel 13 (q := (y_S_storeWhatMay.1, 8)) (by decide +kernel)
abbrev y_S_mayStore : mY := (⟨"LeasedFiles$Server", "mayStore", "(LLeasedFiles$ServedFile;)Z"⟩, prog_7_method_12_code, 2, (some .boolean))
set_option maxRecDepth 100000 in
theorem ok_S_mayStore : okY y_S_mayStore 1 := ⟨ws_at 502 rfl rfl, ws_at 5 (by decide +kernel) rfl, ⟨by decide +kernel, by decide +kernel⟩, by decide +kernel, by decide⟩
theorem in_S_mayStore : Cond.instanceMethod y_S_mayStore.1 ∈ WS := ws_at 501 (by decide +kernel) rfl
theorem se_S_mayStore : Cond.selects "LeasedFiles$Server" y_S_mayStore.1 y_S_mayStore.1 ∈ WS := ws_sel 14 (q := (y_S_mayStore.1, 8)) (by decide +kernel)
abbrev y_S_storeFirst : mY := (⟨"LeasedFiles$Server", "storeFirst", "(ILLeasedFiles$Pool;)V"⟩, prog_7_method_13_code, 5, none)
set_option maxRecDepth 100000 in
theorem ok_S_storeFirst : okY y_S_storeFirst 2 := ⟨ws_at 510 rfl rfl, ws_at 5 (by decide +kernel) rfl, ⟨by decide +kernel, by decide +kernel⟩, by decide +kernel, by decide⟩
theorem in_S_storeFirst : Cond.instanceMethod y_S_storeFirst.1 ∈ WS := ws_at 509 (by decide +kernel) rfl
theorem se_S_storeFirst : Cond.selects "LeasedFiles$Server" y_S_storeFirst.1 y_S_storeFirst.1 ∈ WS := ws_sel 15 (q := (y_S_storeFirst.1, 8)) (by decide +kernel)
abbrev y_S_letTimeGoBy : mY := (⟨"LeasedFiles$Server", "letTimeGoBy", "(ILLeasedFiles$Pool;)I"⟩, prog_7_method_3_code, 3, (some .int))
set_option maxRecDepth 100000 in
theorem ok_S_letTimeGoBy : okY y_S_letTimeGoBy 2 := ⟨ws_at 575 rfl rfl, ws_at 5 (by decide +kernel) rfl, ⟨by decide +kernel, by decide +kernel⟩, by decide +kernel, by decide⟩
theorem in_S_letTimeGoBy : Cond.instanceMethod y_S_letTimeGoBy.1 ∈ WS := ws_at 573 (by decide +kernel) rfl
theorem se_S_letTimeGoBy : Cond.selects "LeasedFiles$Server" y_S_letTimeGoBy.1 y_S_letTimeGoBy.1 ∈ WS := ws_at 574 (by decide +kernel) rfl
abbrev y_S_goDown : mY := (⟨"LeasedFiles$Server", "goDown", "()I"⟩, prog_7_method_4_code, 3, (some .int))
set_option maxRecDepth 100000 in
theorem ok_S_goDown : okY y_S_goDown 0 := ⟨ws_at 595 rfl rfl, ws_at 5 (by decide +kernel) rfl, ⟨by decide +kernel, by decide +kernel⟩, by decide +kernel, by decide⟩
theorem in_S_goDown : Cond.instanceMethod y_S_goDown.1 ∈ WS := ws_at 593 (by decide +kernel) rfl
theorem se_S_goDown : Cond.selects "LeasedFiles$Server" y_S_goDown.1 y_S_goDown.1 ∈ WS := ws_at 594 (by decide +kernel) rfl
abbrev y_S_comeUp : mY := (⟨"LeasedFiles$Server", "comeUp", "()I"⟩, prog_7_method_5_code, 1, (some .int))
set_option maxRecDepth 100000 in
theorem ok_S_comeUp : okY y_S_comeUp 0 := ⟨ws_at 612 rfl rfl, ws_at 5 (by decide +kernel) rfl, ⟨by decide +kernel, by decide +kernel⟩, by decide +kernel, by decide⟩
theorem in_S_comeUp : Cond.instanceMethod y_S_comeUp.1 ∈ WS := ws_at 610 (by decide +kernel) rfl
theorem se_S_comeUp : Cond.selects "LeasedFiles$Server" y_S_comeUp.1 y_S_comeUp.1 ∈ WS := ws_at 611 (by decide +kernel) rfl
abbrev y_S_part : mY := (⟨"LeasedFiles$Server", "part", "(I)I"⟩, prog_7_method_6_code, 2, (some .int))
set_option maxRecDepth 100000 in
theorem ok_S_part : okY y_S_part 1 := ⟨ws_at 644 rfl rfl, ws_at 5 (by decide +kernel) rfl, ⟨by decide +kernel, by decide +kernel⟩, by decide +kernel, by decide⟩
theorem in_S_part : Cond.instanceMethod y_S_part.1 ∈ WS := ws_at 642 (by decide +kernel) rfl
theorem se_S_part : Cond.selects "LeasedFiles$Server" y_S_part.1 y_S_part.1 ∈ WS := ws_at 643 (by decide +kernel) rfl
abbrev y_W_isOf : mY := (⟨"LeasedFiles$Write", "isOf", "(II)Z"⟩, prog_8_method_2_code, 3, (some .boolean))
set_option maxRecDepth 100000 in
theorem ok_W_isOf : okY y_W_isOf 2 := ⟨ws_at 405 rfl rfl, ws_at 15 (by decide +kernel) rfl, ⟨by decide +kernel, by decide +kernel⟩, by decide +kernel, by decide⟩
theorem in_W_isOf : Cond.instanceMethod y_W_isOf.1 ∈ WS := ws_at 403 (by decide +kernel) rfl
theorem se_W_isOf : Cond.selects "LeasedFiles$Write" y_W_isOf.1 y_W_isOf.1 ∈ WS := ws_at 404 (by decide +kernel) rfl
abbrev y_W_init : mY := (⟨"LeasedFiles$Write", "<init>", "(III)V"⟩, prog_8_method_1_code, 4, none)
set_option maxRecDepth 100000 in
theorem ok_W_init : okY y_W_init 3 := ⟨ws_at 413 rfl rfl, ws_at 15 (by decide +kernel) rfl, ⟨by decide +kernel, by decide +kernel⟩, by decide +kernel, by decide⟩
theorem in_W_init : Cond.instanceMethod y_W_init.1 ∈ WS := ws_at 412 (by decide +kernel) rfl
abbrev y_A_init : mY := (⟨"java/util/ArrayList", "<init>", "()V"⟩, prog_18_method_2_code, 1, none)
set_option maxRecDepth 100000 in
theorem ok_A_init : okY y_A_init 0 := ⟨ws_at 121 rfl rfl, ws_at 9 (by decide +kernel) rfl, ⟨by decide +kernel, by decide +kernel⟩, by decide +kernel, by decide⟩
theorem in_A_init : Cond.instanceMethod y_A_init.1 ∈ WS := ws_at 120 (by decide +kernel) rfl
abbrev y_A_isEmpty : mY := (⟨"java/util/ArrayList", "isEmpty", "()Z"⟩, prog_18_method_9_code, 1, (some .boolean))
set_option maxRecDepth 100000 in
theorem ok_A_isEmpty : okY y_A_isEmpty 0 := ⟨ws_at 373 rfl rfl, ws_at 9 (by decide +kernel) rfl, ⟨by decide +kernel, by decide +kernel⟩, by decide +kernel, by decide⟩
theorem in_A_isEmpty : Cond.instanceMethod y_A_isEmpty.1 ∈ WS := ws_at 371 (by decide +kernel) rfl
theorem se_A_isEmpty : Cond.selects "java/util/ArrayList" y_A_isEmpty.1 y_A_isEmpty.1 ∈ WS := ws_at 372 (by decide +kernel) rfl
abbrev y_A_size : mY := (⟨"java/util/ArrayList", "size", "()I"⟩, prog_18_method_8_code, 1, (some .int))
set_option maxRecDepth 100000 in
theorem ok_A_size : okY y_A_size 0 := ⟨ws_at 386 rfl rfl, ws_at 9 (by decide +kernel) rfl, ⟨by decide +kernel, by decide +kernel⟩, by decide +kernel, by decide⟩
theorem in_A_size : Cond.instanceMethod y_A_size.1 ∈ WS := ws_at 384 (by decide +kernel) rfl
theorem se_A_size : Cond.selects "java/util/ArrayList" y_A_size.1 y_A_size.1 ∈ WS := ws_at 385 (by decide +kernel) rfl
abbrev y_A_get : mY := (⟨"java/util/ArrayList", "get", "(I)Ljava/lang/Object;"⟩, prog_18_method_20_code, 2, (some (.object "java/lang/Object")))
set_option maxRecDepth 100000 in
theorem ok_A_get : okY y_A_get 1 := ⟨ws_at 390 rfl rfl, ws_at 9 (by decide +kernel) rfl, ⟨by decide +kernel, by decide +kernel⟩, by decide +kernel, by decide⟩
theorem in_A_get : Cond.instanceMethod y_A_get.1 ∈ WS := ws_at 388 (by decide +kernel) rfl
theorem se_A_get : Cond.selects "java/util/ArrayList" y_A_get.1 y_A_get.1 ∈ WS := ws_at 389 (by decide +kernel) rfl
abbrev y_A_elementData : mY := (⟨"java/util/ArrayList", "elementData", "(I)Ljava/lang/Object;"⟩, prog_18_method_18_code, 2, (some (.object "java/lang/Object")))
set_option maxRecDepth 100000 in
theorem ok_A_elementData : okY y_A_elementData 1 := ⟨ws_at 400 rfl rfl, ws_at 9 (by decide +kernel) rfl, ⟨by decide +kernel, by decide +kernel⟩, by decide +kernel, by decide⟩
theorem in_A_elementData : Cond.instanceMethod y_A_elementData.1 ∈ WS := ws_at 398 (by decide +kernel) rfl
theorem se_A_elementData : Cond.selects "java/util/ArrayList" y_A_elementData.1 y_A_elementData.1 ∈ WS := ws_at 399 (by decide +kernel) rfl
abbrev y_A_add0 : mY := (⟨"java/util/ArrayList", "add", "(Ljava/lang/Object;)Z"⟩, prog_18_method_25_code, 2, (some .boolean))
set_option maxRecDepth 100000 in
theorem ok_A_add0 : okY y_A_add0 1 := ⟨ws_at 432 rfl rfl, ws_at 9 (by decide +kernel) rfl, ⟨by decide +kernel, by decide +kernel⟩, by decide +kernel, by decide⟩
theorem in_A_add0 : Cond.instanceMethod y_A_add0.1 ∈ WS := ws_at 430 (by decide +kernel) rfl
theorem se_A_add0 : Cond.selects "java/util/ArrayList" y_A_add0.1 y_A_add0.1 ∈ WS := ws_at 431 (by decide +kernel) rfl
abbrev y_A_add1 : mY := (⟨"java/util/ArrayList", "add", "(Ljava/lang/Object;[Ljava/lang/Object;I)V"⟩, prog_18_method_24_code, 4, none)
set_option maxRecDepth 100000 in
theorem ok_A_add1 : okY y_A_add1 3 := ⟨ws_at 436 rfl rfl, ws_at 9 (by decide +kernel) rfl, ⟨by decide +kernel, by decide +kernel⟩, by decide +kernel, by decide⟩
theorem in_A_add1 : Cond.instanceMethod y_A_add1.1 ∈ WS := ws_at 435 (by decide +kernel) rfl
theorem se_A_add1 : Cond.selects "java/util/ArrayList" y_A_add1.1 y_A_add1.1 ∈ WS := ws_sel 8 (q := (y_A_add1.1, 3)) (by decide +kernel)
abbrev y_A_grow0 : mY := (⟨"java/util/ArrayList", "grow", "()[Ljava/lang/Object;"⟩, prog_18_method_7_code, 1, (some (.array (.object "java/lang/Object"))))
set_option maxRecDepth 100000 in
theorem ok_A_grow0 : okY y_A_grow0 0 := ⟨ws_at 440 rfl rfl, ws_at 9 (by decide +kernel) rfl, ⟨by decide +kernel, by decide +kernel⟩, by decide +kernel, by decide⟩
theorem in_A_grow0 : Cond.instanceMethod y_A_grow0.1 ∈ WS := ws_at 439 (by decide +kernel) rfl
theorem se_A_grow0 : Cond.selects "java/util/ArrayList" y_A_grow0.1 y_A_grow0.1 ∈ WS := ws_sel 9 (q := (y_A_grow0.1, 3)) (by decide +kernel)
abbrev y_A_grow1 : mY := (⟨"java/util/ArrayList", "grow", "(I)[Ljava/lang/Object;"⟩, prog_18_method_6_code, 4, (some (.array (.object "java/lang/Object"))))
set_option maxRecDepth 100000 in
theorem ok_A_grow1 : okY y_A_grow1 1 := ⟨ws_at 444 rfl rfl, ws_at 9 (by decide +kernel) rfl, ⟨by decide +kernel, by decide +kernel⟩, by decide +kernel, by decide⟩
theorem in_A_grow1 : Cond.instanceMethod y_A_grow1.1 ∈ WS := ws_at 443 (by decide +kernel) rfl
theorem se_A_grow1 : Cond.selects "java/util/ArrayList" y_A_grow1.1 y_A_grow1.1 ∈ WS := ws_sel 10 (q := (y_A_grow1.1, 3)) (by decide +kernel)
abbrev y_A_remove : mY := (⟨"java/util/ArrayList", "remove", "(I)Ljava/lang/Object;"⟩, prog_18_method_29_code, 4, (some (.object "java/lang/Object")))
set_option maxRecDepth 100000 in
theorem ok_A_remove : okY y_A_remove 1 := ⟨ws_at 514 rfl rfl, ws_at 9 (by decide +kernel) rfl, ⟨by decide +kernel, by decide +kernel⟩, by decide +kernel, by decide⟩
theorem in_A_remove : Cond.instanceMethod y_A_remove.1 ∈ WS := ws_at 512 (by decide +kernel) rfl
theorem se_A_remove : Cond.selects "java/util/ArrayList" y_A_remove.1 y_A_remove.1 ∈ WS := ws_at 513 (by decide +kernel) rfl
abbrev y_A_fastRemove : mY := (⟨"java/util/ArrayList", "fastRemove", "([Ljava/lang/Object;I)V"⟩, prog_18_method_39_code, 4, none)
set_option maxRecDepth 100000 in
theorem ok_A_fastRemove : okY y_A_fastRemove 2 := ⟨ws_at 518 rfl rfl, ws_at 9 (by decide +kernel) rfl, ⟨by decide +kernel, by decide +kernel⟩, by decide +kernel, by decide⟩
theorem in_A_fastRemove : Cond.instanceMethod y_A_fastRemove.1 ∈ WS := ws_at 517 (by decide +kernel) rfl
theorem se_A_fastRemove : Cond.selects "java/util/ArrayList" y_A_fastRemove.1 y_A_fastRemove.1 ∈ WS := ws_sel 16 (q := (y_A_fastRemove.1, 3)) (by decide +kernel)
abbrev y_A_clear : mY := (⟨"java/util/ArrayList", "clear", "()V"⟩, prog_18_method_40_code, 4, none)
set_option maxRecDepth 100000 in
theorem ok_A_clear : okY y_A_clear 0 := ⟨ws_at 600 rfl rfl, ws_at 9 (by decide +kernel) rfl, ⟨by decide +kernel, by decide +kernel⟩, by decide +kernel, by decide⟩
theorem in_A_clear : Cond.instanceMethod y_A_clear.1 ∈ WS := ws_at 598 (by decide +kernel) rfl
theorem se_A_clear : Cond.selects "java/util/ArrayList" y_A_clear.1 y_A_clear.1 ∈ WS := ws_at 599 (by decide +kernel) rfl
abbrev y_B_init : mY := (⟨"java/util/AbstractList", "<init>", "()V"⟩, prog_17_method_1_code, 1, none)
set_option maxRecDepth 100000 in
theorem ok_B_init : okY y_B_init 0 := ⟨ws_at 124 rfl rfl, ws_at 8 (by decide +kernel) rfl, ⟨by decide +kernel, by decide +kernel⟩, by decide +kernel, by decide⟩
theorem in_B_init : Cond.instanceMethod y_B_init.1 ∈ WS := ws_at 123 (by decide +kernel) rfl
abbrev y_D_init : mY := (⟨"java/util/AbstractCollection", "<init>", "()V"⟩, prog_16_method_1_code, 1, none)
set_option maxRecDepth 100000 in
theorem ok_D_init : okY y_D_init 0 := ⟨ws_at 127 rfl rfl, ws_at 7 (by decide +kernel) rfl, ⟨by decide +kernel, by decide +kernel⟩, by decide +kernel, by decide⟩
theorem in_D_init : Cond.instanceMethod y_D_init.1 ∈ WS := ws_at 126 (by decide +kernel) rfl
abbrev y_O_checkIndex : mY := (⟨"java/util/Objects", "checkIndex", "(II)I"⟩, prog_22_method_17_code, 2, (some .int))
set_option maxRecDepth 100000 in
theorem ok_O_checkIndex : okY y_O_checkIndex 2 := ⟨ws_at 393 rfl rfl, ws_at 13 (by decide +kernel) rfl, ⟨by decide +kernel, by decide +kernel⟩, by decide +kernel, by decide⟩
theorem st_O_checkIndex : Cond.static y_O_checkIndex.1 ∈ WS := ws_at 392 (by decide +kernel) rfl
abbrev y_Q_checkIndex : mY := (⟨"jdk/internal/util/Preconditions", "checkIndex", "(IILjava/util/function/BiFunction;)I"⟩, prog_26_method_11_code, 3, (some .int))
set_option maxRecDepth 100000 in
theorem ok_Q_checkIndex : okY y_Q_checkIndex 3 := ⟨ws_at 396 rfl rfl, ws_at 14 (by decide +kernel) rfl, ⟨by decide +kernel, by decide +kernel⟩, by decide +kernel, by decide⟩
theorem st_Q_checkIndex : Cond.static y_Q_checkIndex.1 ∈ WS := ws_at 395 (by decide +kernel) rfl
abbrev y_U_newLength : mY := (⟨"jdk/internal/util/ArraysSupport", "newLength", "(III)I"⟩, prog_25_method_27_code, 4, (some .int))
set_option maxRecDepth 100000 in
theorem ok_U_newLength : okY y_U_newLength 3 := ⟨ws_at 447 rfl rfl, ws_at 16 (by decide +kernel) rfl, ⟨by decide +kernel, by decide +kernel⟩, by decide +kernel, by decide⟩
theorem st_U_newLength : Cond.static y_U_newLength.1 ∈ WS := ws_at 446 (by decide +kernel) rfl
abbrev y_U_hugeLength : mY := (⟨"jdk/internal/util/ArraysSupport", "hugeLength", "(II)I"⟩, prog_25_method_28_code, 3, (some .int))
set_option maxRecDepth 100000 in
theorem ok_U_hugeLength : okY y_U_hugeLength 2 := ⟨ws_at 452 rfl rfl, ws_at 16 (by decide +kernel) rfl, ⟨by decide +kernel, by decide +kernel⟩, by decide +kernel, by decide⟩
theorem st_U_hugeLength : Cond.static y_U_hugeLength.1 ∈ WS := ws_at 451 (by decide +kernel) rfl
abbrev y_V_copyOf0 : mY := (⟨"java/util/Arrays", "copyOf", "([Ljava/lang/Object;I)[Ljava/lang/Object;"⟩, prog_19_method_119_code, 2, (some (.array (.object "java/lang/Object"))))
set_option maxRecDepth 100000 in
theorem ok_V_copyOf0 : okY y_V_copyOf0 2 := ⟨ws_at 455 rfl rfl, ws_at 17 (by decide +kernel) rfl, ⟨by decide +kernel, by decide +kernel⟩, by decide +kernel, by decide⟩
theorem st_V_copyOf0 : Cond.static y_V_copyOf0.1 ∈ WS := ws_at 454 (by decide +kernel) rfl
abbrev y_V_copyOf1 : mY := (⟨"java/util/Arrays", "copyOf", "([Ljava/lang/Object;ILjava/lang/Class;)[Ljava/lang/Object;"⟩, prog_19_method_120_code, 4, (some (.array (.object "java/lang/Object"))))
set_option maxRecDepth 100000 in
theorem ok_V_copyOf1 : okY y_V_copyOf1 3 := ⟨ws_at 472 rfl rfl, ws_at 17 (by decide +kernel) rfl, ⟨by decide +kernel, by decide +kernel⟩, by decide +kernel, by decide⟩
theorem st_V_copyOf1 : Cond.static y_V_copyOf1.1 ∈ WS := ws_at 471 (by decide +kernel) rfl
