abbrev y_R_init : mY := (⟨"LeasedFilesModel", "<init>", "(IIII)V"⟩, prog_10_method_1_code, 5, none)
set_option maxRecDepth 100000 in
theorem ok_R_init : okY y_R_init 4 := ⟨ws_at 661 rfl rfl, ws_at 12 (by decide +kernel) rfl, ⟨by decide +kernel, by decide +kernel⟩, by decide +kernel, by decide⟩
theorem in_R_init : Cond.instanceMethod y_R_init.1 ∈ WS := ws_at 660 (by decide +kernel) rfl
abbrev y_R_read : mY := (⟨"LeasedFilesModel", "read", "(II)I"⟩, prog_10_method_10_code, 4, (some .int))
set_option maxRecDepth 100000 in
theorem ok_R_read : okY y_R_read 2 := ⟨ws_at 770 rfl rfl, ws_at 12 (by decide +kernel) rfl, ⟨by decide +kernel, by decide +kernel⟩, by decide +kernel, by decide⟩
theorem in_R_read : Cond.instanceMethod y_R_read.1 ∈ WS := ws_at 768 (by decide +kernel) rfl
theorem se_R_read : Cond.selects "LeasedFilesModel" y_R_read.1 y_R_read.1 ∈ WS := ws_at 769 (by decide +kernel) rfl
abbrev y_R_isClient : mY := (⟨"LeasedFilesModel", "isClient", "(I)Z"⟩, prog_10_method_2_code, 2, (some .boolean))
set_option maxRecDepth 100000 in
theorem ok_R_isClient : okY y_R_isClient 1 := ⟨ws_at 774 rfl rfl, ws_at 12 (by decide +kernel) rfl, ⟨by decide +kernel, by decide +kernel⟩, by decide +kernel, by decide⟩
theorem in_R_isClient : Cond.instanceMethod y_R_isClient.1 ∈ WS := ws_at 773 (by decide +kernel) rfl
theorem se_R_isClient : Cond.selects "LeasedFilesModel" y_R_isClient.1 y_R_isClient.1 ∈ WS := ws_sel 22 (q := (y_R_isClient.1, 34)) (by decide +kernel)
abbrev y_R_isFile : mY := (⟨"LeasedFilesModel", "isFile", "(I)Z"⟩, prog_10_method_3_code, 2, (some .boolean))
set_option maxRecDepth 100000 in
theorem ok_R_isFile : okY y_R_isFile 1 := ⟨ws_at 778 rfl rfl, ws_at 12 (by decide +kernel) rfl, ⟨by decide +kernel, by decide +kernel⟩, by decide +kernel, by decide⟩
theorem in_R_isFile : Cond.instanceMethod y_R_isFile.1 ∈ WS := ws_at 777 (by decide +kernel) rfl
theorem se_R_isFile : Cond.selects "LeasedFilesModel" y_R_isFile.1 y_R_isFile.1 ∈ WS := ws_sel 23 (q := (y_R_isFile.1, 34)) (by decide +kernel)
abbrev y_R_begin : mY := (⟨"LeasedFilesModel", "begin", "(IIZI)V"⟩, prog_10_method_8_code, 5, none)
set_option maxRecDepth 100000 in
theorem ok_R_begin : okY y_R_begin 4 := ⟨ws_at 782 rfl rfl, ws_at 12 (by decide +kernel) rfl, ⟨by decide +kernel, by decide +kernel⟩, by decide +kernel, by decide⟩
theorem in_R_begin : Cond.instanceMethod y_R_begin.1 ∈ WS := ws_at 781 (by decide +kernel) rfl
theorem se_R_begin : Cond.selects "LeasedFilesModel" y_R_begin.1 y_R_begin.1 ∈ WS := ws_sel 24 (q := (y_R_begin.1, 34)) (by decide +kernel)
abbrev y_R_finish : mY := (⟨"LeasedFilesModel", "finish", "(III)V"⟩, prog_10_method_9_code, 4, none)
set_option maxRecDepth 100000 in
theorem ok_R_finish : okY y_R_finish 3 := ⟨ws_at 786 rfl rfl, ws_at 12 (by decide +kernel) rfl, ⟨by decide +kernel, by decide +kernel⟩, by decide +kernel, by decide⟩
theorem in_R_finish : Cond.instanceMethod y_R_finish.1 ∈ WS := ws_at 785 (by decide +kernel) rfl
theorem se_R_finish : Cond.selects "LeasedFilesModel" y_R_finish.1 y_R_finish.1 ∈ WS := ws_sel 25 (q := (y_R_finish.1, 34)) (by decide +kernel)
abbrev y_R_sendOperation : mY := (⟨"LeasedFilesModel", "sendOperation", "(I)V"⟩, prog_10_method_7_code, 2, none)
set_option maxRecDepth 100000 in
theorem ok_R_sendOperation : okY y_R_sendOperation 1 := ⟨ws_at 790 rfl rfl, ws_at 12 (by decide +kernel) rfl, ⟨by decide +kernel, by decide +kernel⟩, by decide +kernel, by decide⟩
theorem in_R_sendOperation : Cond.instanceMethod y_R_sendOperation.1 ∈ WS := ws_at 789 (by decide +kernel) rfl
theorem se_R_sendOperation : Cond.selects "LeasedFilesModel" y_R_sendOperation.1 y_R_sendOperation.1 ∈ WS := ws_sel 26 (q := (y_R_sendOperation.1, 34)) (by decide +kernel)
abbrev y_R_send : mY := (⟨"LeasedFilesModel", "send", "(IIIIIII)V"⟩, prog_10_method_4_code, 9, none)
set_option maxRecDepth 100000 in
theorem ok_R_send : okY y_R_send 7 := ⟨ws_at 794 rfl rfl, ws_at 12 (by decide +kernel) rfl, ⟨by decide +kernel, by decide +kernel⟩, by decide +kernel, by decide⟩
theorem in_R_send : Cond.instanceMethod y_R_send.1 ∈ WS := ws_at 793 (by decide +kernel) rfl
theorem se_R_send : Cond.selects "LeasedFilesModel" y_R_send.1 y_R_send.1 ∈ WS := ws_sel 27 (q := (y_R_send.1, 34)) (by decide +kernel)
abbrev y_R_write : mY := (⟨"LeasedFilesModel", "write", "(III)I"⟩, prog_10_method_11_code, 4, (some .int))
set_option maxRecDepth 100000 in
theorem ok_R_write : okY y_R_write 3 := ⟨ws_at 798 rfl rfl, ws_at 12 (by decide +kernel) rfl, ⟨by decide +kernel, by decide +kernel⟩, by decide +kernel, by decide⟩
theorem in_R_write : Cond.instanceMethod y_R_write.1 ∈ WS := ws_at 796 (by decide +kernel) rfl
theorem se_R_write : Cond.selects "LeasedFilesModel" y_R_write.1 y_R_write.1 ∈ WS := ws_at 797 (by decide +kernel) rfl
abbrev y_R_retry : mY := (⟨"LeasedFilesModel", "retry", "(I)I"⟩, prog_10_method_12_code, 2, (some .int))
set_option maxRecDepth 100000 in
theorem ok_R_retry : okY y_R_retry 1 := ⟨ws_at 802 rfl rfl, ws_at 12 (by decide +kernel) rfl, ⟨by decide +kernel, by decide +kernel⟩, by decide +kernel, by decide⟩
theorem in_R_retry : Cond.instanceMethod y_R_retry.1 ∈ WS := ws_at 800 (by decide +kernel) rfl
theorem se_R_retry : Cond.selects "LeasedFilesModel" y_R_retry.1 y_R_retry.1 ∈ WS := ws_at 801 (by decide +kernel) rfl
abbrev y_R_status : mY := (⟨"LeasedFilesModel", "status", "(I)I"⟩, prog_10_method_13_code, 2, (some .int))
set_option maxRecDepth 100000 in
theorem ok_R_status : okY y_R_status 1 := ⟨ws_at 806 rfl rfl, ws_at 12 (by decide +kernel) rfl, ⟨by decide +kernel, by decide +kernel⟩, by decide +kernel, by decide⟩
theorem in_R_status : Cond.instanceMethod y_R_status.1 ∈ WS := ws_at 804 (by decide +kernel) rfl
theorem se_R_status : Cond.selects "LeasedFilesModel" y_R_status.1 y_R_status.1 ∈ WS := ws_at 805 (by decide +kernel) rfl
abbrev y_R_result : mY := (⟨"LeasedFilesModel", "result", "(I)I"⟩, prog_10_method_14_code, 2, (some .int))
set_option maxRecDepth 100000 in
theorem ok_R_result : okY y_R_result 1 := ⟨ws_at 810 rfl rfl, ws_at 12 (by decide +kernel) rfl, ⟨by decide +kernel, by decide +kernel⟩, by decide +kernel, by decide⟩
theorem in_R_result : Cond.instanceMethod y_R_result.1 ∈ WS := ws_at 808 (by decide +kernel) rfl
theorem se_R_result : Cond.selects "LeasedFilesModel" y_R_result.1 y_R_result.1 ∈ WS := ws_at 809 (by decide +kernel) rfl
abbrev y_R_version : mY := (⟨"LeasedFilesModel", "version", "(I)I"⟩, prog_10_method_15_code, 2, (some .int))
set_option maxRecDepth 100000 in
theorem ok_R_version : okY y_R_version 1 := ⟨ws_at 814 rfl rfl, ws_at 12 (by decide +kernel) rfl, ⟨by decide +kernel, by decide +kernel⟩, by decide +kernel, by decide⟩
theorem in_R_version : Cond.instanceMethod y_R_version.1 ∈ WS := ws_at 812 (by decide +kernel) rfl
theorem se_R_version : Cond.selects "LeasedFilesModel" y_R_version.1 y_R_version.1 ∈ WS := ws_at 813 (by decide +kernel) rfl
abbrev y_R_deliver : mY := (⟨"LeasedFilesModel", "deliver", "(I)I"⟩, prog_10_method_27_code, 11, (some .int))
set_option maxRecDepth 100000 in
theorem ok_R_deliver : okY y_R_deliver 1 := ⟨ws_at 818 rfl rfl, ws_at 12 (by decide +kernel) rfl, ⟨by decide +kernel, by decide +kernel⟩, by decide +kernel, by decide⟩
theorem in_R_deliver : Cond.instanceMethod y_R_deliver.1 ∈ WS := ws_at 816 (by decide +kernel) rfl
theorem se_R_deliver : Cond.selects "LeasedFilesModel" y_R_deliver.1 y_R_deliver.1 ∈ WS := ws_at 817 (by decide +kernel) rfl
abbrev y_R_isMessage : mY := (⟨"LeasedFilesModel", "isMessage", "(I)Z"⟩, prog_10_method_6_code, 2, (some .boolean))
set_option maxRecDepth 100000 in
theorem ok_R_isMessage : okY y_R_isMessage 1 := ⟨ws_at 822 rfl rfl, ws_at 12 (by decide +kernel) rfl, ⟨by decide +kernel, by decide +kernel⟩, by decide +kernel, by decide⟩
theorem in_R_isMessage : Cond.instanceMethod y_R_isMessage.1 ∈ WS := ws_at 821 (by decide +kernel) rfl
theorem se_R_isMessage : Cond.selects "LeasedFilesModel" y_R_isMessage.1 y_R_isMessage.1 ∈ WS := ws_sel 28 (q := (y_R_isMessage.1, 34)) (by decide +kernel)
abbrev y_R_takeOut : mY := (⟨"LeasedFilesModel", "takeOut", "(I)V"⟩, prog_10_method_5_code, 3, none)
set_option maxRecDepth 100000 in
theorem ok_R_takeOut : okY y_R_takeOut 1 := ⟨ws_at 826 rfl rfl, ws_at 12 (by decide +kernel) rfl, ⟨by decide +kernel, by decide +kernel⟩, by decide +kernel, by decide⟩
theorem in_R_takeOut : Cond.instanceMethod y_R_takeOut.1 ∈ WS := ws_at 825 (by decide +kernel) rfl
theorem se_R_takeOut : Cond.selects "LeasedFilesModel" y_R_takeOut.1 y_R_takeOut.1 ∈ WS := ws_sel 29 (q := (y_R_takeOut.1, 34)) (by decide +kernel)
abbrev y_R_given : mY := (⟨"LeasedFilesModel", "given", "(IIIIII)V"⟩, prog_10_method_16_code, 8, none)
set_option maxRecDepth 100000 in
theorem ok_R_given : okY y_R_given 6 := ⟨ws_at 830 rfl rfl, ws_at 12 (by decide +kernel) rfl, ⟨by decide +kernel, by decide +kernel⟩, by decide +kernel, by decide⟩
theorem in_R_given : Cond.instanceMethod y_R_given.1 ∈ WS := ws_at 829 (by decide +kernel) rfl
theorem se_R_given : Cond.selects "LeasedFilesModel" y_R_given.1 y_R_given.1 ∈ WS := ws_sel 30 (q := (y_R_given.1, 34)) (by decide +kernel)
abbrev y_R_stored : mY := (⟨"LeasedFilesModel", "stored", "(III)V"⟩, prog_10_method_17_code, 4, none)
set_option maxRecDepth 100000 in
theorem ok_R_stored : okY y_R_stored 3 := ⟨ws_at 834 rfl rfl, ws_at 12 (by decide +kernel) rfl, ⟨by decide +kernel, by decide +kernel⟩, by decide +kernel, by decide⟩
theorem in_R_stored : Cond.instanceMethod y_R_stored.1 ∈ WS := ws_at 833 (by decide +kernel) rfl
theorem se_R_stored : Cond.selects "LeasedFilesModel" y_R_stored.1 y_R_stored.1 ∈ WS := ws_sel 31 (q := (y_R_stored.1, 34)) (by decide +kernel)
abbrev y_R_recalled : mY := (⟨"LeasedFilesModel", "recalled", "(IIIII)V"⟩, prog_10_method_18_code, 6, none)
set_option maxRecDepth 100000 in
theorem ok_R_recalled : okY y_R_recalled 5 := ⟨ws_at 838 rfl rfl, ws_at 12 (by decide +kernel) rfl, ⟨by decide +kernel, by decide +kernel⟩, by decide +kernel, by decide⟩
theorem in_R_recalled : Cond.instanceMethod y_R_recalled.1 ∈ WS := ws_at 837 (by decide +kernel) rfl
theorem se_R_recalled : Cond.selects "LeasedFilesModel" y_R_recalled.1 y_R_recalled.1 ∈ WS := ws_sel 32 (q := (y_R_recalled.1, 34)) (by decide +kernel)
abbrev y_R_asked : mY := (⟨"LeasedFilesModel", "asked", "(III)V"⟩, prog_10_method_21_code, 5, none)
set_option maxRecDepth 100000 in
theorem ok_R_asked : okY y_R_asked 3 := ⟨ws_at 842 rfl rfl, ws_at 12 (by decide +kernel) rfl, ⟨by decide +kernel, by decide +kernel⟩, by decide +kernel, by decide⟩
theorem in_R_asked : Cond.instanceMethod y_R_asked.1 ∈ WS := ws_at 841 (by decide +kernel) rfl
theorem se_R_asked : Cond.selects "LeasedFilesModel" y_R_asked.1 y_R_asked.1 ∈ WS := ws_sel 33 (q := (y_R_asked.1, 34)) (by decide +kernel)
abbrev y_R_firstOf : mY := (⟨"LeasedFilesModel", "firstOf", "(I)I"⟩, prog_10_method_20_code, 4, (some .int))
set_option maxRecDepth 100000 in
theorem ok_R_firstOf : okY y_R_firstOf 1 := ⟨ws_at 846 rfl rfl, ws_at 12 (by decide +kernel) rfl, ⟨by decide +kernel, by decide +kernel⟩, by decide +kernel, by decide⟩
theorem in_R_firstOf : Cond.instanceMethod y_R_firstOf.1 ∈ WS := ws_at 845 (by decide +kernel) rfl
theorem se_R_firstOf : Cond.selects "LeasedFilesModel" y_R_firstOf.1 y_R_firstOf.1 ∈ WS := ws_sel 34 (q := (y_R_firstOf.1, 34)) (by decide +kernel)
abbrev y_R_putCame : mY := (⟨"LeasedFilesModel", "putCame", "(IIII)V"⟩, prog_10_method_22_code, 8, none)
set_option maxRecDepth 100000 in
theorem ok_R_putCame : okY y_R_putCame 4 := ⟨ws_at 850 rfl rfl, ws_at 12 (by decide +kernel) rfl, ⟨by decide +kernel, by decide +kernel⟩, by decide +kernel, by decide⟩
theorem in_R_putCame : Cond.instanceMethod y_R_putCame.1 ∈ WS := ws_at 849 (by decide +kernel) rfl
theorem se_R_putCame : Cond.selects "LeasedFilesModel" y_R_putCame.1 y_R_putCame.1 ∈ WS := ws_sel 35 (q := (y_R_putCame.1, 34)) (by decide +kernel)
abbrev y_R_isLeased : mY := (⟨"LeasedFilesModel", "isLeased", "(II)Z"⟩, prog_10_method_19_code, 3, (some .boolean))
set_option maxRecDepth 100000 in
theorem ok_R_isLeased : okY y_R_isLeased 2 := ⟨ws_at 854 rfl rfl, ws_at 12 (by decide +kernel) rfl, ⟨by decide +kernel, by decide +kernel⟩, by decide +kernel, by decide⟩
theorem in_R_isLeased : Cond.instanceMethod y_R_isLeased.1 ∈ WS := ws_at 853 (by decide +kernel) rfl
theorem se_R_isLeased : Cond.selects "LeasedFilesModel" y_R_isLeased.1 y_R_isLeased.1 ∈ WS := ws_sel 36 (q := (y_R_isLeased.1, 34)) (by decide +kernel)
abbrev y_R_freed : mY := (⟨"LeasedFilesModel", "freed", "(IIIII)V"⟩, prog_10_method_23_code, 7, none)
set_option maxRecDepth 100000 in
theorem ok_R_freed : okY y_R_freed 5 := ⟨ws_at 858 rfl rfl, ws_at 12 (by decide +kernel) rfl, ⟨by decide +kernel, by decide +kernel⟩, by decide +kernel, by decide⟩
theorem in_R_freed : Cond.instanceMethod y_R_freed.1 ∈ WS := ws_at 857 (by decide +kernel) rfl
theorem se_R_freed : Cond.selects "LeasedFilesModel" y_R_freed.1 y_R_freed.1 ∈ WS := ws_sel 37 (q := (y_R_freed.1, 34)) (by decide +kernel)
abbrev y_R_storeAll : mY := (⟨"LeasedFilesModel", "storeAll", "()I"⟩, prog_10_method_26_code, 4, (some .int))
set_option maxRecDepth 100000 in
theorem ok_R_storeAll : okY y_R_storeAll 0 := ⟨ws_at 862 rfl rfl, ws_at 12 (by decide +kernel) rfl, ⟨by decide +kernel, by decide +kernel⟩, by decide +kernel, by decide⟩
theorem in_R_storeAll : Cond.instanceMethod y_R_storeAll.1 ∈ WS := ws_at 861 (by decide +kernel) rfl
theorem se_R_storeAll : Cond.selects "LeasedFilesModel" y_R_storeAll.1 y_R_storeAll.1 ∈ WS := ws_sel 38 (q := (y_R_storeAll.1, 34)) (by decide +kernel)
abbrev y_R_isFree : mY := (⟨"LeasedFilesModel", "isFree", "(I)Z"⟩, prog_10_method_24_code, 4, (some .boolean))
set_option maxRecDepth 100000 in
theorem ok_R_isFree : okY y_R_isFree 1 := ⟨ws_at 866 rfl rfl, ws_at 12 (by decide +kernel) rfl, ⟨by decide +kernel, by decide +kernel⟩, by decide +kernel, by decide⟩
theorem in_R_isFree : Cond.instanceMethod y_R_isFree.1 ∈ WS := ws_at 865 (by decide +kernel) rfl
theorem se_R_isFree : Cond.selects "LeasedFilesModel" y_R_isFree.1 y_R_isFree.1 ∈ WS := ws_sel 39 (q := (y_R_isFree.1, 34)) (by decide +kernel)
abbrev y_R_store : mY := (⟨"LeasedFilesModel", "store", "(I)V"⟩, prog_10_method_25_code, 6, none)
set_option maxRecDepth 100000 in
theorem ok_R_store : okY y_R_store 1 := ⟨ws_at 870 rfl rfl, ws_at 12 (by decide +kernel) rfl, ⟨by decide +kernel, by decide +kernel⟩, by decide +kernel, by decide⟩
theorem in_R_store : Cond.instanceMethod y_R_store.1 ∈ WS := ws_at 869 (by decide +kernel) rfl
theorem se_R_store : Cond.selects "LeasedFilesModel" y_R_store.1 y_R_store.1 ∈ WS := ws_sel 40 (q := (y_R_store.1, 34)) (by decide +kernel)
abbrev y_R_lose : mY := (⟨"LeasedFilesModel", "lose", "(I)Z"⟩, prog_10_method_28_code, 2, (some .boolean))
set_option maxRecDepth 100000 in
theorem ok_R_lose : okY y_R_lose 1 := ⟨ws_at 874 rfl rfl, ws_at 12 (by decide +kernel) rfl, ⟨by decide +kernel, by decide +kernel⟩, by decide +kernel, by decide⟩
theorem in_R_lose : Cond.instanceMethod y_R_lose.1 ∈ WS := ws_at 872 (by decide +kernel) rfl
theorem se_R_lose : Cond.selects "LeasedFilesModel" y_R_lose.1 y_R_lose.1 ∈ WS := ws_at 873 (by decide +kernel) rfl
abbrev y_R_pending : mY := (⟨"LeasedFilesModel", "pending", "()I"⟩, prog_10_method_29_code, 1, (some .int))
set_option maxRecDepth 100000 in
theorem ok_R_pending : okY y_R_pending 0 := ⟨ws_at 878 rfl rfl, ws_at 12 (by decide +kernel) rfl, ⟨by decide +kernel, by decide +kernel⟩, by decide +kernel, by decide⟩
theorem in_R_pending : Cond.instanceMethod y_R_pending.1 ∈ WS := ws_at 876 (by decide +kernel) rfl
theorem se_R_pending : Cond.selects "LeasedFilesModel" y_R_pending.1 y_R_pending.1 ∈ WS := ws_at 877 (by decide +kernel) rfl
abbrev y_R_message : mY := (⟨"LeasedFilesModel", "message", "(II)I"⟩, prog_10_method_30_code, 3, (some .int))
set_option maxRecDepth 100000 in
theorem ok_R_message : okY y_R_message 2 := ⟨ws_at 882 rfl rfl, ws_at 12 (by decide +kernel) rfl, ⟨by decide +kernel, by decide +kernel⟩, by decide +kernel, by decide⟩
theorem in_R_message : Cond.instanceMethod y_R_message.1 ∈ WS := ws_at 880 (by decide +kernel) rfl
theorem se_R_message : Cond.selects "LeasedFilesModel" y_R_message.1 y_R_message.1 ∈ WS := ws_at 881 (by decide +kernel) rfl
abbrev y_R_tick : mY := (⟨"LeasedFilesModel", "tick", "(I)I"⟩, prog_10_method_31_code, 2, (some .int))
set_option maxRecDepth 100000 in
theorem ok_R_tick : okY y_R_tick 1 := ⟨ws_at 886 rfl rfl, ws_at 12 (by decide +kernel) rfl, ⟨by decide +kernel, by decide +kernel⟩, by decide +kernel, by decide⟩
theorem in_R_tick : Cond.instanceMethod y_R_tick.1 ∈ WS := ws_at 884 (by decide +kernel) rfl
theorem se_R_tick : Cond.selects "LeasedFilesModel" y_R_tick.1 y_R_tick.1 ∈ WS := ws_at 885 (by decide +kernel) rfl
abbrev y_R_pass : mY := (⟨"LeasedFilesModel", "pass", "(II)I"⟩, prog_10_method_32_code, 3, (some .int))
set_option maxRecDepth 100000 in
theorem ok_R_pass : okY y_R_pass 2 := ⟨ws_at 890 rfl rfl, ws_at 12 (by decide +kernel) rfl, ⟨by decide +kernel, by decide +kernel⟩, by decide +kernel, by decide⟩
theorem in_R_pass : Cond.instanceMethod y_R_pass.1 ∈ WS := ws_at 888 (by decide +kernel) rfl
theorem se_R_pass : Cond.selects "LeasedFilesModel" y_R_pass.1 y_R_pass.1 ∈ WS := ws_at 889 (by decide +kernel) rfl
abbrev y_R_crash : mY := (⟨"LeasedFilesModel", "crash", "(I)I"⟩, prog_10_method_33_code, 4, (some .int))
set_option maxRecDepth 100000 in
theorem ok_R_crash : okY y_R_crash 1 := ⟨ws_at 894 rfl rfl, ws_at 12 (by decide +kernel) rfl, ⟨by decide +kernel, by decide +kernel⟩, by decide +kernel, by decide⟩
theorem in_R_crash : Cond.instanceMethod y_R_crash.1 ∈ WS := ws_at 892 (by decide +kernel) rfl
theorem se_R_crash : Cond.selects "LeasedFilesModel" y_R_crash.1 y_R_crash.1 ∈ WS := ws_at 893 (by decide +kernel) rfl
abbrev y_R_halt : mY := (⟨"LeasedFilesModel", "halt", "()I"⟩, prog_10_method_34_code, 3, (some .int))
set_option maxRecDepth 100000 in
theorem ok_R_halt : okY y_R_halt 0 := ⟨ws_at 898 rfl rfl, ws_at 12 (by decide +kernel) rfl, ⟨by decide +kernel, by decide +kernel⟩, by decide +kernel, by decide⟩
theorem in_R_halt : Cond.instanceMethod y_R_halt.1 ∈ WS := ws_at 896 (by decide +kernel) rfl
theorem se_R_halt : Cond.selects "LeasedFilesModel" y_R_halt.1 y_R_halt.1 ∈ WS := ws_at 897 (by decide +kernel) rfl
abbrev y_R_restart : mY := (⟨"LeasedFilesModel", "restart", "()I"⟩, prog_10_method_35_code, 1, (some .int))
set_option maxRecDepth 100000 in
theorem ok_R_restart : okY y_R_restart 0 := ⟨ws_at 902 rfl rfl, ws_at 12 (by decide +kernel) rfl, ⟨by decide +kernel, by decide +kernel⟩, by decide +kernel, by decide⟩
theorem in_R_restart : Cond.instanceMethod y_R_restart.1 ∈ WS := ws_at 900 (by decide +kernel) rfl
theorem se_R_restart : Cond.selects "LeasedFilesModel" y_R_restart.1 y_R_restart.1 ∈ WS := ws_at 901 (by decide +kernel) rfl
abbrev y_R_copy : mY := (⟨"LeasedFilesModel", "copy", "(III)I"⟩, prog_10_method_37_code, 5, (some .int))
set_option maxRecDepth 100000 in
theorem ok_R_copy : okY y_R_copy 3 := ⟨ws_at 906 rfl rfl, ws_at 12 (by decide +kernel) rfl, ⟨by decide +kernel, by decide +kernel⟩, by decide +kernel, by decide⟩
theorem in_R_copy : Cond.instanceMethod y_R_copy.1 ∈ WS := ws_at 904 (by decide +kernel) rfl
theorem se_R_copy : Cond.selects "LeasedFilesModel" y_R_copy.1 y_R_copy.1 ∈ WS := ws_at 905 (by decide +kernel) rfl
abbrev y_R_rest : mY := (⟨"LeasedFilesModel", "rest", "(II)I"⟩, prog_10_method_36_code, 2, (some .int))
set_option maxRecDepth 100000 in
theorem ok_R_rest : okY y_R_rest 2 := ⟨ws_at 909 rfl rfl, ws_at 12 (by decide +kernel) rfl, ⟨by decide +kernel, by decide +kernel⟩, by decide +kernel, by decide⟩
theorem st_R_rest : Cond.static y_R_rest.1 ∈ WS := ws_at 908 (by decide +kernel) rfl
abbrev y_R_lease : mY := (⟨"LeasedFilesModel", "lease", "(II)I"⟩, prog_10_method_38_code, 3, (some .int))
set_option maxRecDepth 100000 in
theorem ok_R_lease : okY y_R_lease 2 := ⟨ws_at 913 rfl rfl, ws_at 12 (by decide +kernel) rfl, ⟨by decide +kernel, by decide +kernel⟩, by decide +kernel, by decide⟩
theorem in_R_lease : Cond.instanceMethod y_R_lease.1 ∈ WS := ws_at 911 (by decide +kernel) rfl
theorem se_R_lease : Cond.selects "LeasedFilesModel" y_R_lease.1 y_R_lease.1 ∈ WS := ws_at 912 (by decide +kernel) rfl
abbrev y_R_file : mY := (⟨"LeasedFilesModel", "file", "(II)I"⟩, prog_10_method_39_code, 5, (some .int))
set_option maxRecDepth 100000 in
theorem ok_R_file : okY y_R_file 2 := ⟨ws_at 917 rfl rfl, ws_at 12 (by decide +kernel) rfl, ⟨by decide +kernel, by decide +kernel⟩, by decide +kernel, by decide⟩
theorem in_R_file : Cond.instanceMethod y_R_file.1 ∈ WS := ws_at 915 (by decide +kernel) rfl
theorem se_R_file : Cond.selects "LeasedFilesModel" y_R_file.1 y_R_file.1 ∈ WS := ws_at 916 (by decide +kernel) rfl
abbrev y_R_server : mY := (⟨"LeasedFilesModel", "server", "(I)I"⟩, prog_10_method_40_code, 2, (some .int))
set_option maxRecDepth 100000 in
theorem ok_R_server : okY y_R_server 1 := ⟨ws_at 921 rfl rfl, ws_at 12 (by decide +kernel) rfl, ⟨by decide +kernel, by decide +kernel⟩, by decide +kernel, by decide⟩
theorem in_R_server : Cond.instanceMethod y_R_server.1 ∈ WS := ws_at 919 (by decide +kernel) rfl
theorem se_R_server : Cond.selects "LeasedFilesModel" y_R_server.1 y_R_server.1 ∈ WS := ws_at 920 (by decide +kernel) rfl
abbrev y_R_client : mY := (⟨"LeasedFilesModel", "client", "(II)I"⟩, prog_10_method_41_code, 4, (some .int))
set_option maxRecDepth 100000 in
theorem ok_R_client : okY y_R_client 2 := ⟨ws_at 925 rfl rfl, ws_at 12 (by decide +kernel) rfl, ⟨by decide +kernel, by decide +kernel⟩, by decide +kernel, by decide⟩
theorem in_R_client : Cond.instanceMethod y_R_client.1 ∈ WS := ws_at 923 (by decide +kernel) rfl
theorem se_R_client : Cond.selects "LeasedFilesModel" y_R_client.1 y_R_client.1 ∈ WS := ws_at 924 (by decide +kernel) rfl
theorem lk_R_1 : Cond.methodLink "LeasedFilesModel" 1 Lib.objectInit ∈ WS := ws_at 662 (by decide +kernel) rfl
theorem lk_R_103 : Cond.methodLink "LeasedFilesModel" 103 y_R_isClient.1 ∈ WS := ws_at 771 (by decide +kernel) rfl
theorem lk_R_107 : Cond.methodLink "LeasedFilesModel" 107 y_R_isFile.1 ∈ WS := ws_at 775 (by decide +kernel) rfl
theorem lk_R_110 : Cond.methodLink "LeasedFilesModel" 110 y_R_begin.1 ∈ WS := ws_at 779 (by decide +kernel) rfl
theorem lk_R_114 : Cond.methodLink "LeasedFilesModel" 114 y_R_finish.1 ∈ WS := ws_at 783 (by decide +kernel) rfl
theorem lk_R_118 : Cond.methodLink "LeasedFilesModel" 118 y_R_sendOperation.1 ∈ WS := ws_at 787 (by decide +kernel) rfl
theorem lk_R_99 : Cond.methodLink "LeasedFilesModel" 99 y_R_send.1 ∈ WS := ws_at 791 (by decide +kernel) rfl
theorem lk_R_148 : Cond.methodLink "LeasedFilesModel" 148 y_R_isMessage.1 ∈ WS := ws_at 819 (by decide +kernel) rfl
theorem lk_R_151 : Cond.methodLink "LeasedFilesModel" 151 y_R_takeOut.1 ∈ WS := ws_at 823 (by decide +kernel) rfl
theorem lk_R_154 : Cond.methodLink "LeasedFilesModel" 154 y_R_given.1 ∈ WS := ws_at 827 (by decide +kernel) rfl
theorem lk_R_158 : Cond.methodLink "LeasedFilesModel" 158 y_R_stored.1 ∈ WS := ws_at 831 (by decide +kernel) rfl
theorem lk_R_161 : Cond.methodLink "LeasedFilesModel" 161 y_R_recalled.1 ∈ WS := ws_at 835 (by decide +kernel) rfl
theorem lk_R_169 : Cond.methodLink "LeasedFilesModel" 169 y_R_asked.1 ∈ WS := ws_at 839 (by decide +kernel) rfl
theorem lk_R_128 : Cond.methodLink "LeasedFilesModel" 128 y_R_firstOf.1 ∈ WS := ws_at 843 (by decide +kernel) rfl
theorem lk_R_172 : Cond.methodLink "LeasedFilesModel" 172 y_R_putCame.1 ∈ WS := ws_at 847 (by decide +kernel) rfl
theorem lk_R_132 : Cond.methodLink "LeasedFilesModel" 132 y_R_isLeased.1 ∈ WS := ws_at 851 (by decide +kernel) rfl
theorem lk_R_176 : Cond.methodLink "LeasedFilesModel" 176 y_R_freed.1 ∈ WS := ws_at 855 (by decide +kernel) rfl
theorem lk_R_179 : Cond.methodLink "LeasedFilesModel" 179 y_R_storeAll.1 ∈ WS := ws_at 859 (by decide +kernel) rfl
theorem lk_R_142 : Cond.methodLink "LeasedFilesModel" 142 y_R_isFree.1 ∈ WS := ws_at 863 (by decide +kernel) rfl
theorem lk_R_145 : Cond.methodLink "LeasedFilesModel" 145 y_R_store.1 ∈ WS := ws_at 867 (by decide +kernel) rfl
theorem lk_R_183 : Cond.methodLink "LeasedFilesModel" 183 y_R_rest.1 ∈ WS := ws_at 907 (by decide +kernel) rfl
theorem f_R_83 : fdl "LeasedFilesModel" 0 0 83 := ⟨_, T_R, 34, "LeasedFilesModel", rfl, u_R, by decide, ws_at 663 (by decide +kernel) rfl, Or.inl rfl⟩
theorem fw_R_83 : fdw "LeasedFilesModel" 0 0 83 .int true := ⟨_, T_R, 34, "LeasedFilesModel", t_R, rfl, u_R, by decide, ws_at 663 (by decide +kernel) rfl, Or.inl rfl, tk_R, n_R, by decide +kernel, rfl, fun h => by first | rfl | cases h⟩
theorem f_R_87 : fdl "LeasedFilesModel" 0 1 87 := ⟨_, T_R, 34, "LeasedFilesModel", rfl, u_R, by decide, ws_at 664 (by decide +kernel) rfl, Or.inl rfl⟩
theorem fw_R_87 : fdw "LeasedFilesModel" 0 1 87 .int true := ⟨_, T_R, 34, "LeasedFilesModel", t_R, rfl, u_R, by decide, ws_at 664 (by decide +kernel) rfl, Or.inl rfl, tk_R, n_R, by decide +kernel, rfl, fun h => by first | rfl | cases h⟩
theorem f_R_90 : fdl "LeasedFilesModel" 0 2 90 := ⟨_, T_R, 34, "LeasedFilesModel", rfl, u_R, by decide, ws_at 665 (by decide +kernel) rfl, Or.inl rfl⟩
theorem fw_R_90 : fdw "LeasedFilesModel" 0 2 90 .int true := ⟨_, T_R, 34, "LeasedFilesModel", t_R, rfl, u_R, by decide, ws_at 665 (by decide +kernel) rfl, Or.inl rfl, tk_R, n_R, by decide +kernel, rfl, fun h => by first | rfl | cases h⟩
theorem f_R_93 : fdl "LeasedFilesModel" 0 3 93 := ⟨_, T_R, 34, "LeasedFilesModel", rfl, u_R, by decide, ws_at 666 (by decide +kernel) rfl, Or.inl rfl⟩
theorem fw_R_93 : fdw "LeasedFilesModel" 0 3 93 .int true := ⟨_, T_R, 34, "LeasedFilesModel", t_R, rfl, u_R, by decide, ws_at 666 (by decide +kernel) rfl, Or.inl rfl, tk_R, n_R, by decide +kernel, rfl, fun h => by first | rfl | cases h⟩
theorem f_R_7 : fdl "LeasedFilesModel" 0 4 7 := ⟨_, T_R, 34, "LeasedFilesModel", rfl, u_R, by decide, ws_at 667 (by decide +kernel) rfl, Or.inl rfl⟩
theorem fw_R_7 : fdw "LeasedFilesModel" 0 4 7 (.array .int) true := ⟨_, T_R, 34, "LeasedFilesModel", t_R, rfl, u_R, by decide, ws_at 667 (by decide +kernel) rfl, Or.inl rfl, tk_R, n_R, by decide +kernel, rfl, fun h => by first | rfl | cases h⟩
theorem f_R_13 : fdl "LeasedFilesModel" 0 5 13 := ⟨_, T_R, 34, "LeasedFilesModel", rfl, u_R, by decide, ws_at 668 (by decide +kernel) rfl, Or.inl rfl⟩
theorem fw_R_13 : fdw "LeasedFilesModel" 0 5 13 (.array .int) true := ⟨_, T_R, 34, "LeasedFilesModel", t_R, rfl, u_R, by decide, ws_at 668 (by decide +kernel) rfl, Or.inl rfl, tk_R, n_R, by decide +kernel, rfl, fun h => by first | rfl | cases h⟩
theorem f_R_122 : fdl "LeasedFilesModel" 0 6 122 := ⟨_, T_R, 34, "LeasedFilesModel", rfl, u_R, by decide, ws_at 669 (by decide +kernel) rfl, Or.inl rfl⟩
theorem fw_R_122 : fdw "LeasedFilesModel" 0 6 122 .int false := ⟨_, T_R, 34, "LeasedFilesModel", t_R, rfl, u_R, by decide, ws_at 669 (by decide +kernel) rfl, Or.inl rfl, tk_R, n_R, by decide +kernel, rfl, fun h => by first | rfl | cases h⟩
theorem f_R_165 : fdl "LeasedFilesModel" 0 7 165 := ⟨_, T_R, 34, "LeasedFilesModel", rfl, u_R, by decide, ws_at 670 (by decide +kernel) rfl, Or.inl rfl⟩
theorem fw_R_165 : fdw "LeasedFilesModel" 0 7 165 .boolean false := ⟨_, T_R, 34, "LeasedFilesModel", t_R, rfl, u_R, by decide, ws_at 670 (by decide +kernel) rfl, Or.inl rfl, tk_R, n_R, by decide +kernel, rfl, fun h => by first | rfl | cases h⟩
theorem f_R_136 : fdl "LeasedFilesModel" 0 8 136 := ⟨_, T_R, 34, "LeasedFilesModel", rfl, u_R, by decide, ws_at 671 (by decide +kernel) rfl, Or.inl rfl⟩
theorem fw_R_136 : fdw "LeasedFilesModel" 0 8 136 .int false := ⟨_, T_R, 34, "LeasedFilesModel", t_R, rfl, u_R, by decide, ws_at 671 (by decide +kernel) rfl, Or.inl rfl, tk_R, n_R, by decide +kernel, rfl, fun h => by first | rfl | cases h⟩
theorem f_R_139 : fdl "LeasedFilesModel" 0 9 139 := ⟨_, T_R, 34, "LeasedFilesModel", rfl, u_R, by decide, ws_at 672 (by decide +kernel) rfl, Or.inl rfl⟩
theorem fw_R_139 : fdw "LeasedFilesModel" 0 9 139 .int false := ⟨_, T_R, 34, "LeasedFilesModel", t_R, rfl, u_R, by decide, ws_at 672 (by decide +kernel) rfl, Or.inl rfl, tk_R, n_R, by decide +kernel, rfl, fun h => by first | rfl | cases h⟩
theorem f_R_16 : fdl "LeasedFilesModel" 0 10 16 := ⟨_, T_R, 34, "LeasedFilesModel", rfl, u_R, by decide, ws_at 673 (by decide +kernel) rfl, Or.inl rfl⟩
theorem fw_R_16 : fdw "LeasedFilesModel" 0 10 16 (.array .int) true := ⟨_, T_R, 34, "LeasedFilesModel", t_R, rfl, u_R, by decide, ws_at 673 (by decide +kernel) rfl, Or.inl rfl, tk_R, n_R, by decide +kernel, rfl, fun h => by first | rfl | cases h⟩
theorem f_R_19 : fdl "LeasedFilesModel" 0 11 19 := ⟨_, T_R, 34, "LeasedFilesModel", rfl, u_R, by decide, ws_at 674 (by decide +kernel) rfl, Or.inl rfl⟩
theorem fw_R_19 : fdw "LeasedFilesModel" 0 11 19 (.array .int) true := ⟨_, T_R, 34, "LeasedFilesModel", t_R, rfl, u_R, by decide, ws_at 674 (by decide +kernel) rfl, Or.inl rfl, tk_R, n_R, by decide +kernel, rfl, fun h => by first | rfl | cases h⟩
theorem f_R_22 : fdl "LeasedFilesModel" 0 12 22 := ⟨_, T_R, 34, "LeasedFilesModel", rfl, u_R, by decide, ws_at 675 (by decide +kernel) rfl, Or.inl rfl⟩
theorem fw_R_22 : fdw "LeasedFilesModel" 0 12 22 (.array .int) true := ⟨_, T_R, 34, "LeasedFilesModel", t_R, rfl, u_R, by decide, ws_at 675 (by decide +kernel) rfl, Or.inl rfl, tk_R, n_R, by decide +kernel, rfl, fun h => by first | rfl | cases h⟩
theorem f_R_125 : fdl "LeasedFilesModel" 0 13 125 := ⟨_, T_R, 34, "LeasedFilesModel", rfl, u_R, by decide, ws_at 676 (by decide +kernel) rfl, Or.inl rfl⟩
theorem fw_R_125 : fdw "LeasedFilesModel" 0 13 125 .int false := ⟨_, T_R, 34, "LeasedFilesModel", t_R, rfl, u_R, by decide, ws_at 676 (by decide +kernel) rfl, Or.inl rfl, tk_R, n_R, by decide +kernel, rfl, fun h => by first | rfl | cases h⟩
theorem f_R_25 : fdl "LeasedFilesModel" 0 14 25 := ⟨_, T_R, 34, "LeasedFilesModel", rfl, u_R, by decide, ws_at 677 (by decide +kernel) rfl, Or.inl rfl⟩
theorem fw_R_25 : fdw "LeasedFilesModel" 0 14 25 (.array .int) true := ⟨_, T_R, 34, "LeasedFilesModel", t_R, rfl, u_R, by decide, ws_at 677 (by decide +kernel) rfl, Or.inl rfl, tk_R, n_R, by decide +kernel, rfl, fun h => by first | rfl | cases h⟩
theorem f_R_28 : fdl "LeasedFilesModel" 0 15 28 := ⟨_, T_R, 34, "LeasedFilesModel", rfl, u_R, by decide, ws_at 678 (by decide +kernel) rfl, Or.inl rfl⟩
theorem fw_R_28 : fdw "LeasedFilesModel" 0 15 28 (.array .int) true := ⟨_, T_R, 34, "LeasedFilesModel", t_R, rfl, u_R, by decide, ws_at 678 (by decide +kernel) rfl, Or.inl rfl, tk_R, n_R, by decide +kernel, rfl, fun h => by first | rfl | cases h⟩
theorem f_R_31 : fdl "LeasedFilesModel" 0 16 31 := ⟨_, T_R, 34, "LeasedFilesModel", rfl, u_R, by decide, ws_at 679 (by decide +kernel) rfl, Or.inl rfl⟩
theorem fw_R_31 : fdw "LeasedFilesModel" 0 16 31 (.array .int) true := ⟨_, T_R, 34, "LeasedFilesModel", t_R, rfl, u_R, by decide, ws_at 679 (by decide +kernel) rfl, Or.inl rfl, tk_R, n_R, by decide +kernel, rfl, fun h => by first | rfl | cases h⟩
theorem f_R_34 : fdl "LeasedFilesModel" 0 17 34 := ⟨_, T_R, 34, "LeasedFilesModel", rfl, u_R, by decide, ws_at 680 (by decide +kernel) rfl, Or.inl rfl⟩
theorem fw_R_34 : fdw "LeasedFilesModel" 0 17 34 (.array .int) true := ⟨_, T_R, 34, "LeasedFilesModel", t_R, rfl, u_R, by decide, ws_at 680 (by decide +kernel) rfl, Or.inl rfl, tk_R, n_R, by decide +kernel, rfl, fun h => by first | rfl | cases h⟩
theorem f_R_37 : fdl "LeasedFilesModel" 0 18 37 := ⟨_, T_R, 34, "LeasedFilesModel", rfl, u_R, by decide, ws_at 681 (by decide +kernel) rfl, Or.inl rfl⟩
theorem fw_R_37 : fdw "LeasedFilesModel" 0 18 37 (.array .int) true := ⟨_, T_R, 34, "LeasedFilesModel", t_R, rfl, u_R, by decide, ws_at 681 (by decide +kernel) rfl, Or.inl rfl, tk_R, n_R, by decide +kernel, rfl, fun h => by first | rfl | cases h⟩
theorem f_R_40 : fdl "LeasedFilesModel" 0 19 40 := ⟨_, T_R, 34, "LeasedFilesModel", rfl, u_R, by decide, ws_at 682 (by decide +kernel) rfl, Or.inl rfl⟩
theorem fw_R_40 : fdw "LeasedFilesModel" 0 19 40 (.array .int) true := ⟨_, T_R, 34, "LeasedFilesModel", t_R, rfl, u_R, by decide, ws_at 682 (by decide +kernel) rfl, Or.inl rfl, tk_R, n_R, by decide +kernel, rfl, fun h => by first | rfl | cases h⟩
theorem f_R_43 : fdl "LeasedFilesModel" 0 20 43 := ⟨_, T_R, 34, "LeasedFilesModel", rfl, u_R, by decide, ws_at 683 (by decide +kernel) rfl, Or.inl rfl⟩
theorem fw_R_43 : fdw "LeasedFilesModel" 0 20 43 (.array .int) true := ⟨_, T_R, 34, "LeasedFilesModel", t_R, rfl, u_R, by decide, ws_at 683 (by decide +kernel) rfl, Or.inl rfl, tk_R, n_R, by decide +kernel, rfl, fun h => by first | rfl | cases h⟩
theorem f_R_46 : fdl "LeasedFilesModel" 0 21 46 := ⟨_, T_R, 34, "LeasedFilesModel", rfl, u_R, by decide, ws_at 684 (by decide +kernel) rfl, Or.inl rfl⟩
theorem fw_R_46 : fdw "LeasedFilesModel" 0 21 46 (.array .boolean) true := ⟨_, T_R, 34, "LeasedFilesModel", t_R, rfl, u_R, by decide, ws_at 684 (by decide +kernel) rfl, Or.inl rfl, tk_R, n_R, by decide +kernel, rfl, fun h => by first | rfl | cases h⟩
theorem f_R_50 : fdl "LeasedFilesModel" 0 22 50 := ⟨_, T_R, 34, "LeasedFilesModel", rfl, u_R, by decide, ws_at 685 (by decide +kernel) rfl, Or.inl rfl⟩
theorem fw_R_50 : fdw "LeasedFilesModel" 0 22 50 (.array .int) true := ⟨_, T_R, 34, "LeasedFilesModel", t_R, rfl, u_R, by decide, ws_at 685 (by decide +kernel) rfl, Or.inl rfl, tk_R, n_R, by decide +kernel, rfl, fun h => by first | rfl | cases h⟩
theorem f_R_53 : fdl "LeasedFilesModel" 0 23 53 := ⟨_, T_R, 34, "LeasedFilesModel", rfl, u_R, by decide, ws_at 686 (by decide +kernel) rfl, Or.inl rfl⟩
theorem fw_R_53 : fdw "LeasedFilesModel" 0 23 53 (.array .int) true := ⟨_, T_R, 34, "LeasedFilesModel", t_R, rfl, u_R, by decide, ws_at 686 (by decide +kernel) rfl, Or.inl rfl, tk_R, n_R, by decide +kernel, rfl, fun h => by first | rfl | cases h⟩
theorem f_R_56 : fdl "LeasedFilesModel" 0 24 56 := ⟨_, T_R, 34, "LeasedFilesModel", rfl, u_R, by decide, ws_at 687 (by decide +kernel) rfl, Or.inl rfl⟩
theorem fw_R_56 : fdw "LeasedFilesModel" 0 24 56 (.array .int) true := ⟨_, T_R, 34, "LeasedFilesModel", t_R, rfl, u_R, by decide, ws_at 687 (by decide +kernel) rfl, Or.inl rfl, tk_R, n_R, by decide +kernel, rfl, fun h => by first | rfl | cases h⟩
theorem f_R_59 : fdl "LeasedFilesModel" 0 25 59 := ⟨_, T_R, 34, "LeasedFilesModel", rfl, u_R, by decide, ws_at 688 (by decide +kernel) rfl, Or.inl rfl⟩
theorem fw_R_59 : fdw "LeasedFilesModel" 0 25 59 (.array .boolean) true := ⟨_, T_R, 34, "LeasedFilesModel", t_R, rfl, u_R, by decide, ws_at 688 (by decide +kernel) rfl, Or.inl rfl, tk_R, n_R, by decide +kernel, rfl, fun h => by first | rfl | cases h⟩
theorem f_R_62 : fdl "LeasedFilesModel" 0 26 62 := ⟨_, T_R, 34, "LeasedFilesModel", rfl, u_R, by decide, ws_at 689 (by decide +kernel) rfl, Or.inl rfl⟩
theorem fw_R_62 : fdw "LeasedFilesModel" 0 26 62 (.array .int) true := ⟨_, T_R, 34, "LeasedFilesModel", t_R, rfl, u_R, by decide, ws_at 689 (by decide +kernel) rfl, Or.inl rfl, tk_R, n_R, by decide +kernel, rfl, fun h => by first | rfl | cases h⟩
theorem f_R_65 : fdl "LeasedFilesModel" 0 27 65 := ⟨_, T_R, 34, "LeasedFilesModel", rfl, u_R, by decide, ws_at 690 (by decide +kernel) rfl, Or.inl rfl⟩
theorem fw_R_65 : fdw "LeasedFilesModel" 0 27 65 (.array .int) true := ⟨_, T_R, 34, "LeasedFilesModel", t_R, rfl, u_R, by decide, ws_at 690 (by decide +kernel) rfl, Or.inl rfl, tk_R, n_R, by decide +kernel, rfl, fun h => by first | rfl | cases h⟩
theorem f_R_68 : fdl "LeasedFilesModel" 0 28 68 := ⟨_, T_R, 34, "LeasedFilesModel", rfl, u_R, by decide, ws_at 691 (by decide +kernel) rfl, Or.inl rfl⟩
theorem fw_R_68 : fdw "LeasedFilesModel" 0 28 68 (.array .boolean) true := ⟨_, T_R, 34, "LeasedFilesModel", t_R, rfl, u_R, by decide, ws_at 691 (by decide +kernel) rfl, Or.inl rfl, tk_R, n_R, by decide +kernel, rfl, fun h => by first | rfl | cases h⟩
theorem f_R_71 : fdl "LeasedFilesModel" 0 29 71 := ⟨_, T_R, 34, "LeasedFilesModel", rfl, u_R, by decide, ws_at 692 (by decide +kernel) rfl, Or.inl rfl⟩
theorem fw_R_71 : fdw "LeasedFilesModel" 0 29 71 (.array .int) true := ⟨_, T_R, 34, "LeasedFilesModel", t_R, rfl, u_R, by decide, ws_at 692 (by decide +kernel) rfl, Or.inl rfl, tk_R, n_R, by decide +kernel, rfl, fun h => by first | rfl | cases h⟩
theorem f_R_74 : fdl "LeasedFilesModel" 0 30 74 := ⟨_, T_R, 34, "LeasedFilesModel", rfl, u_R, by decide, ws_at 693 (by decide +kernel) rfl, Or.inl rfl⟩
theorem fw_R_74 : fdw "LeasedFilesModel" 0 30 74 (.array .int) true := ⟨_, T_R, 34, "LeasedFilesModel", t_R, rfl, u_R, by decide, ws_at 693 (by decide +kernel) rfl, Or.inl rfl, tk_R, n_R, by decide +kernel, rfl, fun h => by first | rfl | cases h⟩
theorem f_R_77 : fdl "LeasedFilesModel" 0 31 77 := ⟨_, T_R, 34, "LeasedFilesModel", rfl, u_R, by decide, ws_at 694 (by decide +kernel) rfl, Or.inl rfl⟩
theorem fw_R_77 : fdw "LeasedFilesModel" 0 31 77 (.array .int) true := ⟨_, T_R, 34, "LeasedFilesModel", t_R, rfl, u_R, by decide, ws_at 694 (by decide +kernel) rfl, Or.inl rfl, tk_R, n_R, by decide +kernel, rfl, fun h => by first | rfl | cases h⟩
theorem f_R_96 : fdl "LeasedFilesModel" 0 32 96 := ⟨_, T_R, 34, "LeasedFilesModel", rfl, u_R, by decide, ws_at 695 (by decide +kernel) rfl, Or.inl rfl⟩
theorem fw_R_96 : fdw "LeasedFilesModel" 0 32 96 .int false := ⟨_, T_R, 34, "LeasedFilesModel", t_R, rfl, u_R, by decide, ws_at 695 (by decide +kernel) rfl, Or.inl rfl, tk_R, n_R, by decide +kernel, rfl, fun h => by first | rfl | cases h⟩
theorem f_R_80 : fdl "LeasedFilesModel" 0 33 80 := ⟨_, T_R, 34, "LeasedFilesModel", rfl, u_R, by decide, ws_at 696 (by decide +kernel) rfl, Or.inl rfl⟩
theorem fw_R_80 : fdw "LeasedFilesModel" 0 33 80 (.array .int) true := ⟨_, T_R, 34, "LeasedFilesModel", t_R, rfl, u_R, by decide, ws_at 696 (by decide +kernel) rfl, Or.inl rfl, tk_R, n_R, by decide +kernel, rfl, fun h => by first | rfl | cases h⟩
