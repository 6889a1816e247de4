section
-- ===== PART A: goes FIRST, ahead of the names: the tables' words, and 'selects' of the private methods out of them =====
/-- a private method of a class that the tables say can be made, by its rows of tables_1 -/
def lw_okq (q : MethodName × Nat) : Prop := (q.1.cls ≠ "java/lang/invoke/MethodHandle" ∧ q.1.cls ≠ "java/lang/invoke/VarHandle") ∧ Cond.instantiable q.1.cls q.2 ∈ tables_1 ∧ Cond.privateMethod q.1 ∈ tables_1 ∧ Cond.instanceMethod q.1 ∈ tables_1
theorem lw_p0 : lw_okq (⟨"LeasedFiles", "hasClient", "(I)Z"⟩, 4) := ⟨⟨by decide +kernel, by decide +kernel⟩, List.mem_of_getElem? (i := 20) (by decide +kernel), List.mem_of_getElem? (i := 283) (by decide +kernel), List.mem_of_getElem? (i := 284) (by decide +kernel)⟩
theorem lw_p1 : lw_okq (⟨"LeasedFiles", "hasFile", "(I)Z"⟩, 4) := ⟨⟨by decide +kernel, by decide +kernel⟩, List.mem_of_getElem? (i := 20) (by decide +kernel), List.mem_of_getElem? (i := 287) (by decide +kernel), List.mem_of_getElem? (i := 288) (by decide +kernel)⟩
theorem lw_p2 : lw_okq (⟨"LeasedFiles$Client", "startOperation", "(IZ)V"⟩, 13) := ⟨⟨by decide +kernel, by decide +kernel⟩, List.mem_of_getElem? (i := 192) (by decide +kernel), List.mem_of_getElem? (i := 295) (by decide +kernel), List.mem_of_getElem? (i := 296) (by decide +kernel)⟩
theorem lw_p3 : lw_okq (⟨"LeasedFiles$Client", "finish", "(II)V"⟩, 13) := ⟨⟨by decide +kernel, by decide +kernel⟩, List.mem_of_getElem? (i := 192) (by decide +kernel), List.mem_of_getElem? (i := 303) (by decide +kernel), List.mem_of_getElem? (i := 304) (by decide +kernel)⟩
theorem lw_p4 : lw_okq (⟨"LeasedFiles$Client", "sendRequest", "(LLeasedFiles$Pool;)V"⟩, 13) := ⟨⟨by decide +kernel, by decide +kernel⟩, List.mem_of_getElem? (i := 192) (by decide +kernel), List.mem_of_getElem? (i := 307) (by decide +kernel), List.mem_of_getElem? (i := 308) (by decide +kernel)⟩
theorem lw_p5 : lw_okq (⟨"LeasedFiles", "isDone", "(I)Z"⟩, 4) := ⟨⟨by decide +kernel, by decide +kernel⟩, List.mem_of_getElem? (i := 20) (by decide +kernel), List.mem_of_getElem? (i := 339) (by decide +kernel), List.mem_of_getElem? (i := 340) (by decide +kernel)⟩
theorem lw_p6 : lw_okq (⟨"LeasedFiles$Server", "receiveAsk", "(LLeasedFiles$Message;LLeasedFiles$Pool;)V"⟩, 8) := ⟨⟨by decide +kernel, by decide +kernel⟩, List.mem_of_getElem? (i := 105) (by decide +kernel), List.mem_of_getElem? (i := 367) (by decide +kernel), List.mem_of_getElem? (i := 368) (by decide +kernel)⟩
theorem lw_p7 : lw_okq (⟨"LeasedFiles$Server", "receivePut", "(LLeasedFiles$Message;LLeasedFiles$Pool;)V"⟩, 8) := ⟨⟨by decide +kernel, by decide +kernel⟩, List.mem_of_getElem? (i := 105) (by decide +kernel), List.mem_of_getElem? (i := 376) (by decide +kernel), List.mem_of_getElem? (i := 377) (by decide +kernel)⟩
theorem lw_p8 : lw_okq (⟨"java/util/ArrayList", "add", "(Ljava/lang/Object;[Ljava/lang/Object;I)V"⟩, 3) := ⟨⟨by decide +kernel, by decide +kernel⟩, List.mem_of_getElem? (i := 118) (by decide +kernel), List.mem_of_getElem? (i := 434) (by decide +kernel), List.mem_of_getElem? (i := 435) (by decide +kernel)⟩
theorem lw_p9 : lw_okq (⟨"java/util/ArrayList", "grow", "()[Ljava/lang/Object;"⟩, 3) := ⟨⟨by decide +kernel, by decide +kernel⟩, List.mem_of_getElem? (i := 118) (by decide +kernel), List.mem_of_getElem? (i := 438) (by decide +kernel), List.mem_of_getElem? (i := 439) (by decide +kernel)⟩
theorem lw_p10 : lw_okq (⟨"java/util/ArrayList", "grow", "(I)[Ljava/lang/Object;"⟩, 3) := ⟨⟨by decide +kernel, by decide +kernel⟩, List.mem_of_getElem? (i := 118) (by decide +kernel), List.mem_of_getElem? (i := 442) (by decide +kernel), List.mem_of_getElem? (i := 443) (by decide +kernel)⟩
theorem lw_p11 : lw_okq (⟨"LeasedFiles$Server", "recall", "(LLeasedFiles$Message;LLeasedFiles$Pool;)V"⟩, 8) := ⟨⟨by decide +kernel, by decide +kernel⟩, List.mem_of_getElem? (i := 105) (by decide +kernel), List.mem_of_getElem? (i := 488) (by decide +kernel), List.mem_of_getElem? (i := 489) (by decide +kernel)⟩
theorem lw_p12 : lw_okq (⟨"LeasedFiles$Server", "receiveFree", "(LLeasedFiles$Message;)V"⟩, 8) := ⟨⟨by decide +kernel, by decide +kernel⟩, List.mem_of_getElem? (i := 105) (by decide +kernel), List.mem_of_getElem? (i := 492) (by decide +kernel), List.mem_of_getElem? (i := 493) (by decide +kernel)⟩
theorem lw_p13 : lw_okq (⟨"LeasedFiles$Server", "storeWhatMay", "(LLeasedFiles$Pool;)I"⟩, 8) := ⟨⟨by decide +kernel, by decide +kernel⟩, List.mem_of_getElem? (i := 105) (by decide +kernel), List.mem_of_getElem? (i := 496) (by decide +kernel), List.mem_of_getElem? (i := 497) (by decide +kernel)⟩
theorem lw_p14 : lw_okq (⟨"LeasedFiles$Server", "mayStore", "(LLeasedFiles$ServedFile;)Z"⟩, 8) := ⟨⟨by decide +kernel, by decide +kernel⟩, List.mem_of_getElem? (i := 105) (by decide +kernel), List.mem_of_getElem? (i := 500) (by decide +kernel), List.mem_of_getElem? (i := 501) (by decide +kernel)⟩
theorem lw_p15 : lw_okq (⟨"LeasedFiles$Server", "storeFirst", "(ILLeasedFiles$Pool;)V"⟩, 8) := ⟨⟨by decide +kernel, by decide +kernel⟩, List.mem_of_getElem? (i := 105) (by decide +kernel), List.mem_of_getElem? (i := 508) (by decide +kernel), List.mem_of_getElem? (i := 509) (by decide +kernel)⟩
def lw_privs_1 : List (MethodName × Nat) := [(⟨"LeasedFiles", "hasClient", "(I)Z"⟩, 4), (⟨"LeasedFiles", "hasFile", "(I)Z"⟩, 4), (⟨"LeasedFiles$Client", "startOperation", "(IZ)V"⟩, 13), (⟨"LeasedFiles$Client", "finish", "(II)V"⟩, 13), (⟨"LeasedFiles$Client", "sendRequest", "(LLeasedFiles$Pool;)V"⟩, 13), (⟨"LeasedFiles", "isDone", "(I)Z"⟩, 4), (⟨"LeasedFiles$Server", "receiveAsk", "(LLeasedFiles$Message;LLeasedFiles$Pool;)V"⟩, 8), (⟨"LeasedFiles$Server", "receivePut", "(LLeasedFiles$Message;LLeasedFiles$Pool;)V"⟩, 8), (⟨"java/util/ArrayList", "add", "(Ljava/lang/Object;[Ljava/lang/Object;I)V"⟩, 3), (⟨"java/util/ArrayList", "grow", "()[Ljava/lang/Object;"⟩, 3), (⟨"java/util/ArrayList", "grow", "(I)[Ljava/lang/Object;"⟩, 3), (⟨"LeasedFiles$Server", "recall", "(LLeasedFiles$Message;LLeasedFiles$Pool;)V"⟩, 8), (⟨"LeasedFiles$Server", "receiveFree", "(LLeasedFiles$Message;)V"⟩, 8), (⟨"LeasedFiles$Server", "storeWhatMay", "(LLeasedFiles$Pool;)I"⟩, 8), (⟨"LeasedFiles$Server", "mayStore", "(LLeasedFiles$ServedFile;)Z"⟩, 8), (⟨"LeasedFiles$Server", "storeFirst", "(ILLeasedFiles$Pool;)V"⟩, 8)]
theorem lw_r1 : ∀ q ∈ lw_privs_1, lw_okq q := List.forall_mem_cons.mpr ⟨lw_p0, List.forall_mem_cons.mpr ⟨lw_p1, List.forall_mem_cons.mpr ⟨lw_p2, List.forall_mem_cons.mpr ⟨lw_p3, List.forall_mem_cons.mpr ⟨lw_p4, List.forall_mem_cons.mpr ⟨lw_p5, List.forall_mem_cons.mpr ⟨lw_p6, List.forall_mem_cons.mpr ⟨lw_p7, List.forall_mem_cons.mpr ⟨lw_p8, List.forall_mem_cons.mpr ⟨lw_p9, List.forall_mem_cons.mpr ⟨lw_p10, List.forall_mem_cons.mpr ⟨lw_p11, List.forall_mem_cons.mpr ⟨lw_p12, List.forall_mem_cons.mpr ⟨lw_p13, List.forall_mem_cons.mpr ⟨lw_p14, List.forall_mem_cons.mpr ⟨lw_p15, fun _ h => absurd h List.not_mem_nil⟩⟩⟩⟩⟩⟩⟩⟩⟩⟩⟩⟩⟩⟩⟩⟩
theorem lw_p16 : lw_okq (⟨"java/util/ArrayList", "fastRemove", "([Ljava/lang/Object;I)V"⟩, 3) := ⟨⟨by decide +kernel, by decide +kernel⟩, List.mem_of_getElem? (i := 118) (by decide +kernel), List.mem_of_getElem? (i := 516) (by decide +kernel), List.mem_of_getElem? (i := 517) (by decide +kernel)⟩
theorem lw_p17 : lw_okq (⟨"LeasedFiles$Client", "receiveGiven", "(LLeasedFiles$Message;)V"⟩, 13) := ⟨⟨by decide +kernel, by decide +kernel⟩, List.mem_of_getElem? (i := 192) (by decide +kernel), List.mem_of_getElem? (i := 526) (by decide +kernel), List.mem_of_getElem? (i := 527) (by decide +kernel)⟩
theorem lw_p18 : lw_okq (⟨"LeasedFiles$Client", "waitsToRead", "()Z"⟩, 13) := ⟨⟨by decide +kernel, by decide +kernel⟩, List.mem_of_getElem? (i := 192) (by decide +kernel), List.mem_of_getElem? (i := 530) (by decide +kernel), List.mem_of_getElem? (i := 531) (by decide +kernel)⟩
theorem lw_p19 : lw_okq (⟨"LeasedFiles$Client", "receiveStored", "(LLeasedFiles$Message;)V"⟩, 13) := ⟨⟨by decide +kernel, by decide +kernel⟩, List.mem_of_getElem? (i := 192) (by decide +kernel), List.mem_of_getElem? (i := 538) (by decide +kernel), List.mem_of_getElem? (i := 539) (by decide +kernel)⟩
theorem lw_p20 : lw_okq (⟨"LeasedFiles$Client", "waitsToWrite", "()Z"⟩, 13) := ⟨⟨by decide +kernel, by decide +kernel⟩, List.mem_of_getElem? (i := 192) (by decide +kernel), List.mem_of_getElem? (i := 542) (by decide +kernel), List.mem_of_getElem? (i := 543) (by decide +kernel)⟩
theorem lw_p21 : lw_okq (⟨"LeasedFiles$Client", "receiveRecall", "(LLeasedFiles$Message;LLeasedFiles$Pool;)V"⟩, 13) := ⟨⟨by decide +kernel, by decide +kernel⟩, List.mem_of_getElem? (i := 192) (by decide +kernel), List.mem_of_getElem? (i := 546) (by decide +kernel), List.mem_of_getElem? (i := 547) (by decide +kernel)⟩
theorem lw_p22 : lw_okq (⟨"LeasedFilesModel", "isClient", "(I)Z"⟩, 34) := ⟨⟨by decide +kernel, by decide +kernel⟩, List.mem_of_getElem? (i := 658) (by decide +kernel), List.mem_of_getElem? (i := 772) (by decide +kernel), List.mem_of_getElem? (i := 773) (by decide +kernel)⟩
theorem lw_p23 : lw_okq (⟨"LeasedFilesModel", "isFile", "(I)Z"⟩, 34) := ⟨⟨by decide +kernel, by decide +kernel⟩, List.mem_of_getElem? (i := 658) (by decide +kernel), List.mem_of_getElem? (i := 776) (by decide +kernel), List.mem_of_getElem? (i := 777) (by decide +kernel)⟩
theorem lw_p24 : lw_okq (⟨"LeasedFilesModel", "begin", "(IIZI)V"⟩, 34) := ⟨⟨by decide +kernel, by decide +kernel⟩, List.mem_of_getElem? (i := 658) (by decide +kernel), List.mem_of_getElem? (i := 780) (by decide +kernel), List.mem_of_getElem? (i := 781) (by decide +kernel)⟩
theorem lw_p25 : lw_okq (⟨"LeasedFilesModel", "finish", "(III)V"⟩, 34) := ⟨⟨by decide +kernel, by decide +kernel⟩, List.mem_of_getElem? (i := 658) (by decide +kernel), List.mem_of_getElem? (i := 784) (by decide +kernel), List.mem_of_getElem? (i := 785) (by decide +kernel)⟩
theorem lw_p26 : lw_okq (⟨"LeasedFilesModel", "sendOperation", "(I)V"⟩, 34) := ⟨⟨by decide +kernel, by decide +kernel⟩, List.mem_of_getElem? (i := 658) (by decide +kernel), List.mem_of_getElem? (i := 788) (by decide +kernel), List.mem_of_getElem? (i := 789) (by decide +kernel)⟩
theorem lw_p27 : lw_okq (⟨"LeasedFilesModel", "send", "(IIIIIII)V"⟩, 34) := ⟨⟨by decide +kernel, by decide +kernel⟩, List.mem_of_getElem? (i := 658) (by decide +kernel), List.mem_of_getElem? (i := 792) (by decide +kernel), List.mem_of_getElem? (i := 793) (by decide +kernel)⟩
theorem lw_p28 : lw_okq (⟨"LeasedFilesModel", "isMessage", "(I)Z"⟩, 34) := ⟨⟨by decide +kernel, by decide +kernel⟩, List.mem_of_getElem? (i := 658) (by decide +kernel), List.mem_of_getElem? (i := 820) (by decide +kernel), List.mem_of_getElem? (i := 821) (by decide +kernel)⟩
theorem lw_p29 : lw_okq (⟨"LeasedFilesModel", "takeOut", "(I)V"⟩, 34) := ⟨⟨by decide +kernel, by decide +kernel⟩, List.mem_of_getElem? (i := 658) (by decide +kernel), List.mem_of_getElem? (i := 824) (by decide +kernel), List.mem_of_getElem? (i := 825) (by decide +kernel)⟩
theorem lw_p30 : lw_okq (⟨"LeasedFilesModel", "given", "(IIIIII)V"⟩, 34) := ⟨⟨by decide +kernel, by decide +kernel⟩, List.mem_of_getElem? (i := 658) (by decide +kernel), List.mem_of_getElem? (i := 828) (by decide +kernel), List.mem_of_getElem? (i := 829) (by decide +kernel)⟩
theorem lw_p31 : lw_okq (⟨"LeasedFilesModel", "stored", "(III)V"⟩, 34) := ⟨⟨by decide +kernel, by decide +kernel⟩, List.mem_of_getElem? (i := 658) (by decide +kernel), List.mem_of_getElem? (i := 832) (by decide +kernel), List.mem_of_getElem? (i := 833) (by decide +kernel)⟩
def lw_privs_2 : List (MethodName × Nat) := [(⟨"java/util/ArrayList", "fastRemove", "([Ljava/lang/Object;I)V"⟩, 3), (⟨"LeasedFiles$Client", "receiveGiven", "(LLeasedFiles$Message;)V"⟩, 13), (⟨"LeasedFiles$Client", "waitsToRead", "()Z"⟩, 13), (⟨"LeasedFiles$Client", "receiveStored", "(LLeasedFiles$Message;)V"⟩, 13), (⟨"LeasedFiles$Client", "waitsToWrite", "()Z"⟩, 13), (⟨"LeasedFiles$Client", "receiveRecall", "(LLeasedFiles$Message;LLeasedFiles$Pool;)V"⟩, 13), (⟨"LeasedFilesModel", "isClient", "(I)Z"⟩, 34), (⟨"LeasedFilesModel", "isFile", "(I)Z"⟩, 34), (⟨"LeasedFilesModel", "begin", "(IIZI)V"⟩, 34), (⟨"LeasedFilesModel", "finish", "(III)V"⟩, 34), (⟨"LeasedFilesModel", "sendOperation", "(I)V"⟩, 34), (⟨"LeasedFilesModel", "send", "(IIIIIII)V"⟩, 34), (⟨"LeasedFilesModel", "isMessage", "(I)Z"⟩, 34), (⟨"LeasedFilesModel", "takeOut", "(I)V"⟩, 34), (⟨"LeasedFilesModel", "given", "(IIIIII)V"⟩, 34), (⟨"LeasedFilesModel", "stored", "(III)V"⟩, 34)]
theorem lw_r2 : ∀ q ∈ lw_privs_2, lw_okq q := List.forall_mem_cons.mpr ⟨lw_p16, List.forall_mem_cons.mpr ⟨lw_p17, List.forall_mem_cons.mpr ⟨lw_p18, List.forall_mem_cons.mpr ⟨lw_p19, List.forall_mem_cons.mpr ⟨lw_p20, List.forall_mem_cons.mpr ⟨lw_p21, List.forall_mem_cons.mpr ⟨lw_p22, List.forall_mem_cons.mpr ⟨lw_p23, List.forall_mem_cons.mpr ⟨lw_p24, List.forall_mem_cons.mpr ⟨lw_p25, List.forall_mem_cons.mpr ⟨lw_p26, List.forall_mem_cons.mpr ⟨lw_p27, List.forall_mem_cons.mpr ⟨lw_p28, List.forall_mem_cons.mpr ⟨lw_p29, List.forall_mem_cons.mpr ⟨lw_p30, List.forall_mem_cons.mpr ⟨lw_p31, fun _ h => absurd h List.not_mem_nil⟩⟩⟩⟩⟩⟩⟩⟩⟩⟩⟩⟩⟩⟩⟩⟩
theorem lw_p32 : lw_okq (⟨"LeasedFilesModel", "recalled", "(IIIII)V"⟩, 34) := ⟨⟨by decide +kernel, by decide +kernel⟩, List.mem_of_getElem? (i := 658) (by decide +kernel), List.mem_of_getElem? (i := 836) (by decide +kernel), List.mem_of_getElem? (i := 837) (by decide +kernel)⟩
theorem lw_p33 : lw_okq (⟨"LeasedFilesModel", "asked", "(III)V"⟩, 34) := ⟨⟨by decide +kernel, by decide +kernel⟩, List.mem_of_getElem? (i := 658) (by decide +kernel), List.mem_of_getElem? (i := 840) (by decide +kernel), List.mem_of_getElem? (i := 841) (by decide +kernel)⟩
theorem lw_p34 : lw_okq (⟨"LeasedFilesModel", "firstOf", "(I)I"⟩, 34) := ⟨⟨by decide +kernel, by decide +kernel⟩, List.mem_of_getElem? (i := 658) (by decide +kernel), List.mem_of_getElem? (i := 844) (by decide +kernel), List.mem_of_getElem? (i := 845) (by decide +kernel)⟩
theorem lw_p35 : lw_okq (⟨"LeasedFilesModel", "putCame", "(IIII)V"⟩, 34) := ⟨⟨by decide +kernel, by decide +kernel⟩, List.mem_of_getElem? (i := 658) (by decide +kernel), List.mem_of_getElem? (i := 848) (by decide +kernel), List.mem_of_getElem? (i := 849) (by decide +kernel)⟩
theorem lw_p36 : lw_okq (⟨"LeasedFilesModel", "isLeased", "(II)Z"⟩, 34) := ⟨⟨by decide +kernel, by decide +kernel⟩, List.mem_of_getElem? (i := 658) (by decide +kernel), List.mem_of_getElem? (i := 852) (by decide +kernel), List.mem_of_getElem? (i := 853) (by decide +kernel)⟩
theorem lw_p37 : lw_okq (⟨"LeasedFilesModel", "freed", "(IIIII)V"⟩, 34) := ⟨⟨by decide +kernel, by decide +kernel⟩, List.mem_of_getElem? (i := 658) (by decide +kernel), List.mem_of_getElem? (i := 856) (by decide +kernel), List.mem_of_getElem? (i := 857) (by decide +kernel)⟩
theorem lw_p38 : lw_okq (⟨"LeasedFilesModel", "storeAll", "()I"⟩, 34) := ⟨⟨by decide +kernel, by decide +kernel⟩, List.mem_of_getElem? (i := 658) (by decide +kernel), List.mem_of_getElem? (i := 860) (by decide +kernel), List.mem_of_getElem? (i := 861) (by decide +kernel)⟩
theorem lw_p39 : lw_okq (⟨"LeasedFilesModel", "isFree", "(I)Z"⟩, 34) := ⟨⟨by decide +kernel, by decide +kernel⟩, List.mem_of_getElem? (i := 658) (by decide +kernel), List.mem_of_getElem? (i := 864) (by decide +kernel), List.mem_of_getElem? (i := 865) (by decide +kernel)⟩
theorem lw_p40 : lw_okq (⟨"LeasedFilesModel", "store", "(I)V"⟩, 34) := ⟨⟨by decide +kernel, by decide +kernel⟩, List.mem_of_getElem? (i := 658) (by decide +kernel), List.mem_of_getElem? (i := 868) (by decide +kernel), List.mem_of_getElem? (i := 869) (by decide +kernel)⟩
def lw_privs_3 : List (MethodName × Nat) := [(⟨"LeasedFilesModel", "recalled", "(IIIII)V"⟩, 34), (⟨"LeasedFilesModel", "asked", "(III)V"⟩, 34), (⟨"LeasedFilesModel", "firstOf", "(I)I"⟩, 34), (⟨"LeasedFilesModel", "putCame", "(IIII)V"⟩, 34), (⟨"LeasedFilesModel", "isLeased", "(II)Z"⟩, 34), (⟨"LeasedFilesModel", "freed", "(IIIII)V"⟩, 34), (⟨"LeasedFilesModel", "storeAll", "()I"⟩, 34), (⟨"LeasedFilesModel", "isFree", "(I)Z"⟩, 34), (⟨"LeasedFilesModel", "store", "(I)V"⟩, 34)]
theorem lw_r3 : ∀ q ∈ lw_privs_3, lw_okq q := List.forall_mem_cons.mpr ⟨lw_p32, List.forall_mem_cons.mpr ⟨lw_p33, List.forall_mem_cons.mpr ⟨lw_p34, List.forall_mem_cons.mpr ⟨lw_p35, List.forall_mem_cons.mpr ⟨lw_p36, List.forall_mem_cons.mpr ⟨lw_p37, List.forall_mem_cons.mpr ⟨lw_p38, List.forall_mem_cons.mpr ⟨lw_p39, List.forall_mem_cons.mpr ⟨lw_p40, fun _ h => absurd h List.not_mem_nil⟩⟩⟩⟩⟩⟩⟩⟩⟩
def lw_privs : List (MethodName × Nat) := lw_privs_1 ++ (lw_privs_2 ++ (lw_privs_3))
def lw_tbl : List Cond := k2_sels lw_privs ++ tables_1
theorem lw_privs_ok : ∀ q ∈ lw_privs, lw_okq q := by
  show ∀ q ∈ lw_privs_1 ++ (lw_privs_2 ++ (lw_privs_3)), lw_okq q
  exact List.forall_mem_append.mpr ⟨lw_r1, List.forall_mem_append.mpr ⟨lw_r2, lw_r3⟩⟩
end
section
def T_R : u_T := fun k => match k with
  | 0 => ("LeasedFilesModel", "clients", "I", true)
  | 1 => ("LeasedFilesModel", "files", "I", true)
  | 2 => ("LeasedFilesModel", "term", "I", true)
  | 3 => ("LeasedFilesModel", "shorter", "I", true)
  | 4 => ("LeasedFilesModel", "values", "[I", true)
  | 5 => ("LeasedFilesModel", "versions", "[I", true)
  | 6 => ("LeasedFilesModel", "clock", "I", false)
  | 7 => ("LeasedFilesModel", "down", "Z", false)
  | 8 => ("LeasedFilesModel", "epoch", "I", false)
  | 9 => ("LeasedFilesModel", "grace", "I", false)
  | 10 => ("LeasedFilesModel", "leases", "[I", true)
  | 11 => ("LeasedFilesModel", "lastWords", "[I", true)
  | 12 => ("LeasedFilesModel", "lastVersions", "[I", true)
  | 13 => ("LeasedFilesModel", "waiting", "I", false)
  | 14 => ("LeasedFilesModel", "waitClients", "[I", true)
  | 15 => ("LeasedFilesModel", "waitFiles", "[I", true)
  | 16 => ("LeasedFilesModel", "waitWords", "[I", true)
  | 17 => ("LeasedFilesModel", "waitValues", "[I", true)
  | 18 => ("LeasedFilesModel", "clocks", "[I", true)
  | 19 => ("LeasedFilesModel", "words", "[I", true)
  | 20 => ("LeasedFilesModel", "states", "[I", true)
  | 21 => ("LeasedFilesModel", "writing", "[Z", true)
  | 22 => ("LeasedFilesModel", "onFiles", "[I", true)
  | 23 => ("LeasedFilesModel", "toWrite", "[I", true)
  | 24 => ("LeasedFilesModel", "begun", "[I", true)
  | 25 => ("LeasedFilesModel", "spoiled", "[Z", true)
  | 26 => ("LeasedFilesModel", "results", "[I", true)
  | 27 => ("LeasedFilesModel", "resultVersions", "[I", true)
  | 28 => ("LeasedFilesModel", "copies", "[Z", true)
  | 29 => ("LeasedFilesModel", "copyEnds", "[I", true)
  | 30 => ("LeasedFilesModel", "copyValues", "[I", true)
  | 31 => ("LeasedFilesModel", "copyVersions", "[I", true)
  | 32 => ("LeasedFilesModel", "pool", "I", false)
  | _ => ("LeasedFilesModel", "numbers", "[I", true)
def t_R : Nat → FieldType := fun k => match k with
  | 0 => .int
  | 1 => .int
  | 2 => .int
  | 3 => .int
  | 4 => .array .int
  | 5 => .array .int
  | 6 => .int
  | 7 => .boolean
  | 8 => .int
  | 9 => .int
  | 10 => .array .int
  | 11 => .array .int
  | 12 => .array .int
  | 13 => .int
  | 14 => .array .int
  | 15 => .array .int
  | 16 => .array .int
  | 17 => .array .int
  | 18 => .array .int
  | 19 => .array .int
  | 20 => .array .int
  | 21 => .array .boolean
  | 22 => .array .int
  | 23 => .array .int
  | 24 => .array .int
  | 25 => .array .boolean
  | 26 => .array .int
  | 27 => .array .int
  | 28 => .array .boolean
  | 29 => .array .int
  | 30 => .array .int
  | 31 => .array .int
  | 32 => .int
  | _ => .array .int
def T_L : u_T := fun k => match k with
  | 0 => ("LeasedFiles", "pool", "LLeasedFiles$Pool;", true)
  | 1 => ("LeasedFiles", "server", "LLeasedFiles$Server;", true)
  | 2 => ("LeasedFiles", "clients", "[LLeasedFiles$Client;", true)
  | _ => ("LeasedFiles", "files", "I", true)
def t_L : Nat → FieldType := fun k => match k with
  | 0 => .object "LeasedFiles$Pool"
  | 1 => .object "LeasedFiles$Server"
  | 2 => .array (.object "LeasedFiles$Client")
  | _ => .int
def T_C : u_T := fun k => match k with
  | 0 => ("LeasedFiles$Client", "number", "I", true)
  | 1 => ("LeasedFiles$Client", "term", "I", true)
  | 2 => ("LeasedFiles$Client", "copies", "[LLeasedFiles$Copy;", true)
  | 3 => ("LeasedFiles$Client", "clock", "I", false)
  | 4 => ("LeasedFiles$Client", "state", "I", false)
  | 5 => ("LeasedFiles$Client", "word", "I", false)
  | 6 => ("LeasedFiles$Client", "reads", "Z", false)
  | 7 => ("LeasedFiles$Client", "file", "I", false)
  | 8 => ("LeasedFiles$Client", "value", "I", false)
  | 9 => ("LeasedFiles$Client", "startedAt", "I", false)
  | 10 => ("LeasedFiles$Client", "spoiled", "Z", false)
  | 11 => ("LeasedFiles$Client", "doneResult", "I", false)
  | _ => ("LeasedFiles$Client", "doneVersion", "I", false)
def t_C : Nat → FieldType := fun k => match k with
  | 0 => .int
  | 1 => .int
  | 2 => .array (.object "LeasedFiles$Copy")
  | 3 => .int
  | 4 => .int
  | 5 => .int
  | 6 => .boolean
  | 7 => .int
  | 8 => .int
  | 9 => .int
  | 10 => .boolean
  | 11 => .int
  | _ => .int
def T_Y : u_T := fun k => match k with
  | 0 => ("LeasedFiles$Copy", "held", "Z", false)
  | 1 => ("LeasedFiles$Copy", "value", "I", false)
  | 2 => ("LeasedFiles$Copy", "version", "I", false)
  | _ => ("LeasedFiles$Copy", "leaseEnd", "I", false)
def t_Y : Nat → FieldType := fun k => match k with
  | 0 => .boolean
  | 1 => .int
  | 2 => .int
  | _ => .int
def T_M : u_T := fun k => match k with
  | 0 => ("LeasedFiles$Message", "kind", "I", false)
  | 1 => ("LeasedFiles$Message", "client", "I", false)
  | 2 => ("LeasedFiles$Message", "file", "I", false)
  | 3 => ("LeasedFiles$Message", "word", "I", false)
  | 4 => ("LeasedFiles$Message", "a", "I", false)
  | 5 => ("LeasedFiles$Message", "b", "I", false)
  | _ => ("LeasedFiles$Message", "c", "I", false)
def t_M : Nat → FieldType := fun k => match k with
  | 0 => .int
  | 1 => .int
  | 2 => .int
  | 3 => .int
  | 4 => .int
  | 5 => .int
  | _ => .int
def T_P : u_T := fun k => match k with
  | 0 => ("LeasedFiles$Pool", "messages", "[LLeasedFiles$Message;", true)
  | 1 => ("LeasedFiles$Pool", "count", "I", false)
  | _ => ("LeasedFiles$Pool", "takenOut", "LLeasedFiles$Message;", false)
def t_P : Nat → FieldType := fun k => match k with
  | 0 => .array (.object "LeasedFiles$Message")
  | 1 => .int
  | _ => .object "LeasedFiles$Message"
def T_F : u_T := fun k => match k with
  | 0 => ("LeasedFiles$ServedFile", "leaseEnds", "[I", true)
  | 1 => ("LeasedFiles$ServedFile", "waiting", "Ljava/util/ArrayList;", true)
  | 2 => ("LeasedFiles$ServedFile", "value", "I", false)
  | _ => ("LeasedFiles$ServedFile", "version", "I", false)
def t_F : Nat → FieldType := fun k => match k with
  | 0 => .array .int
  | 1 => .object "java/util/ArrayList"
  | 2 => .int
  | _ => .int
def T_S : u_T := fun k => match k with
  | 0 => ("LeasedFiles$Server", "term", "I", true)
  | 1 => ("LeasedFiles$Server", "files", "[LLeasedFiles$ServedFile;", true)
  | 2 => ("LeasedFiles$Server", "lastWords", "[I", true)
  | 3 => ("LeasedFiles$Server", "lastVersions", "[I", true)
  | 4 => ("LeasedFiles$Server", "clock", "I", false)
  | 5 => ("LeasedFiles$Server", "up", "Z", false)
  | 6 => ("LeasedFiles$Server", "epoch", "I", false)
  | _ => ("LeasedFiles$Server", "graceEnd", "I", false)
def t_S : Nat → FieldType := fun k => match k with
  | 0 => .int
  | 1 => .array (.object "LeasedFiles$ServedFile")
  | 2 => .array .int
  | 3 => .array .int
  | 4 => .int
  | 5 => .boolean
  | 6 => .int
  | _ => .int
def T_W : u_T := fun k => match k with
  | 0 => ("LeasedFiles$Write", "client", "I", true)
  | 1 => ("LeasedFiles$Write", "word", "I", true)
  | _ => ("LeasedFiles$Write", "value", "I", true)
def t_W : Nat → FieldType := fun k => match k with
  | 0 => .int
  | 1 => .int
  | _ => .int
def T_A : u_T := fun k => match k with
  | 0 => ("java/util/ArrayList", "elementData", "[Ljava/lang/Object;", false)
  | 1 => ("java/util/ArrayList", "size", "I", false)
  | _ => ("java/util/AbstractList", "modCount", "I", false)
def t_A : Nat → FieldType := fun k => match k with
  | 0 => .array (.object "java/lang/Object")
  | 1 => .int
  | _ => .int
abbrev vwCl : List vw_C := [("LeasedFilesModel", T_R, 34), ("LeasedFiles", T_L, 4), ("LeasedFiles$Client", T_C, 13), ("LeasedFiles$Copy", T_Y, 4), ("LeasedFiles$Message", T_M, 7), ("LeasedFiles$Pool", T_P, 3), ("LeasedFiles$ServedFile", T_F, 4), ("LeasedFiles$Server", T_S, 8), ("LeasedFiles$Write", T_W, 3), ("java/util/ArrayList", T_A, 3)]
def WS : List Cond := lw_tbl.filter goodWord
theorem ws_in {w : Cond} (h : w ∈ lw_tbl) (hg : goodWord w = true) : w ∈ WS := List.mem_filter.mpr ⟨h, hg⟩
theorem ws_at {w : Cond} (i : Nat) (h : tables_1[i]? = some w) (hg : goodWord w = true) : w ∈ WS := ws_in (List.mem_append_right _ (List.mem_of_getElem? h)) hg
theorem ws_sel (i : Nat) {q : MethodName × Nat} (h : lw_privs[i]? = some q) : Cond.selects q.1.cls q.1 q.1 ∈ WS := ws_in (List.mem_append_left _ (List.mem_map.mpr ⟨q, List.mem_of_getElem? h, rfl⟩)) rfl
theorem ws_pl {ws : List Cond} (ps : List Nat) (h : ws = ps.filterMap (fun i => tables_1[i]?)) (hg : ws.all goodWord = true) : ∀ w ∈ ws, w ∈ WS := by
  intro w hw
  have h1 := List.all_eq_true.mp hg w hw
  rw [h] at hw
  obtain ⟨i, -, hi⟩ := List.mem_filterMap.mp hw
  exact ws_at i hi h1
theorem n_R : ∀ a, a < 34 → ∀ b, b < 34 → a ≠ b → (T_R a).2.1 ≠ (T_R b).2.1 := by decide +kernel
theorem tk_R : ∀ k, k < 34 → parseFieldDescriptor (T_R k).2.2.1 = some (t_R k) := by decide +kernel
theorem u_R : ∀ w ∈ u_ws "LeasedFilesModel" T_R 34, w ∈ WS := ws_pl [697, 699, 701, 703, 705, 707, 709, 711, 713, 715, 717, 719, 721, 723, 725, 727, 729, 731, 733, 735, 737, 739, 741, 743, 745, 747, 749, 751, 753, 755, 757, 759, 761, 763] (by decide +kernel) (by decide +kernel)
theorem n_L : ∀ a, a < 4 → ∀ b, b < 4 → a ≠ b → (T_L a).2.1 ≠ (T_L b).2.1 := by decide +kernel
theorem tk_L : ∀ k, k < 4 → parseFieldDescriptor (T_L k).2.2.1 = some (t_L k) := by decide +kernel
theorem u_L : ∀ w ∈ u_ws "LeasedFiles" T_L 4, w ∈ WS := ws_pl [269, 271, 273, 275] (by decide +kernel) (by decide +kernel)
theorem n_C : ∀ a, a < 13 → ∀ b, b < 13 → a ≠ b → (T_C a).2.1 ≠ (T_C b).2.1 := by decide +kernel
theorem tk_C : ∀ k, k < 13 → parseFieldDescriptor (T_C k).2.2.1 = some (t_C k) := by decide +kernel
theorem u_C : ∀ w ∈ u_ws "LeasedFiles$Client" T_C 13, w ∈ WS := ws_pl [238, 240, 242, 244, 246, 248, 250, 252, 254, 256, 258, 260, 262] (by decide +kernel) (by decide +kernel)
theorem n_Y : ∀ a, a < 4 → ∀ b, b < 4 → a ≠ b → (T_Y a).2.1 ≠ (T_Y b).2.1 := by decide +kernel
theorem tk_Y : ∀ k, k < 4 → parseFieldDescriptor (T_Y k).2.2.1 = some (t_Y k) := by decide +kernel
theorem u_Y : ∀ w ∈ u_ws "LeasedFiles$Copy" T_Y 4, w ∈ WS := ws_pl [211, 213, 215, 217] (by decide +kernel) (by decide +kernel)
theorem n_M : ∀ a, a < 7 → ∀ b, b < 7 → a ≠ b → (T_M a).2.1 ≠ (T_M b).2.1 := by decide +kernel
theorem tk_M : ∀ k, k < 7 → parseFieldDescriptor (T_M k).2.2.1 = some (t_M k) := by decide +kernel
theorem u_M : ∀ w ∈ u_ws "LeasedFiles$Message" T_M 7, w ∈ WS := ws_pl [77, 79, 81, 83, 85, 87, 89] (by decide +kernel) (by decide +kernel)
theorem n_P : ∀ a, a < 3 → ∀ b, b < 3 → a ≠ b → (T_P a).2.1 ≠ (T_P b).2.1 := by decide +kernel
theorem tk_P : ∀ k, k < 3 → parseFieldDescriptor (T_P k).2.2.1 = some (t_P k) := by decide +kernel
theorem u_P : ∀ w ∈ u_ws "LeasedFiles$Pool" T_P 3, w ∈ WS := ws_pl [97, 99, 101] (by decide +kernel) (by decide +kernel)
theorem n_F : ∀ a, a < 4 → ∀ b, b < 4 → a ≠ b → (T_F a).2.1 ≠ (T_F b).2.1 := by decide +kernel
theorem tk_F : ∀ k, k < 4 → parseFieldDescriptor (T_F k).2.2.1 = some (t_F k) := by decide +kernel
theorem u_F : ∀ w ∈ u_ws "LeasedFiles$ServedFile" T_F 4, w ∈ WS := ws_pl [153, 155, 157, 159] (by decide +kernel) (by decide +kernel)
theorem n_S : ∀ a, a < 8 → ∀ b, b < 8 → a ≠ b → (T_S a).2.1 ≠ (T_S b).2.1 := by decide +kernel
theorem tk_S : ∀ k, k < 8 → parseFieldDescriptor (T_S k).2.2.1 = some (t_S k) := by decide +kernel
theorem u_S : ∀ w ∈ u_ws "LeasedFiles$Server" T_S 8, w ∈ WS := ws_pl [173, 175, 177, 179, 181, 183, 185, 187] (by decide +kernel) (by decide +kernel)
theorem n_W : ∀ a, a < 3 → ∀ b, b < 3 → a ≠ b → (T_W a).2.1 ≠ (T_W b).2.1 := by decide +kernel
theorem tk_W : ∀ k, k < 3 → parseFieldDescriptor (T_W k).2.2.1 = some (t_W k) := by decide +kernel
theorem u_W : ∀ w ∈ u_ws "LeasedFiles$Write" T_W 3, w ∈ WS := ws_pl [422, 424, 426] (by decide +kernel) (by decide +kernel)
theorem n_A : ∀ a, a < 3 → ∀ b, b < 3 → a ≠ b → (T_A a).2.1 ≠ (T_A b).2.1 := by decide +kernel
theorem tk_A : ∀ k, k < 3 → parseFieldDescriptor (T_A k).2.2.1 = some (t_A k) := by decide +kernel
theorem u_A : ∀ w ∈ u_ws "java/util/ArrayList" T_A 3, w ∈ WS := ws_pl [136, 138, 140] (by decide +kernel) (by decide +kernel)
end
section
/-! worlds as maps: the addresses, and what each holds -/
abbrev wd : Type := List Nat × (Nat → va_E)
abbrev wl (w : wd) : va_W := va_pl w.1 w.2
def wh (w : wd) (a : Nat) (e : va_E) : Prop := a ∈ w.1 ∧ w.2 a = e
def wu (w : wd) (a : Nat) (e : va_E) : wd := (w.1, va_up w.2 a e)
def wn (w : wd) (a : Nat) (e : va_E) : wd := (w.1 ++ [a], va_up w.2 a e)
theorem wh.us {w : wd} {a : Nat} {e e0 : va_E} (h : wh w a e0) : wh (wu w a e) a e := ⟨h.1, va_up_self _ _ _⟩
theorem wh.un {w : wd} {a b : Nat} {e e' : va_E} (h : wh w b e') (hn : b ≠ a) : wh (wu w a e) b e' := ⟨h.1, (va_up_ne w.2 e hn).trans h.2⟩
theorem wh.ns {w : wd} {a : Nat} {e : va_E} : wh (wn w a e) a e := ⟨List.mem_append_right _ (List.mem_singleton.mpr rfl), va_up_self _ _ _⟩
theorem wh.nn {w : wd} {a b : Nat} {e e' : va_E} (h : wh w b e') (hq : a ∉ w.1) : wh (wn w a e) b e' := ⟨List.mem_append_left _ h.1, (va_up_ne (k := a) (j := b) w.2 e (fun z => hq (by rw [← z]; exact h.1))).trans h.2⟩
theorem wh.inj {w : wd} {a : Nat} {e e' : va_E} (h : wh w a e) (h' : wh w a e') : e = e' := h.2.symm.trans h'.2
theorem wh.ne {w : wd} {a b : Nat} {e e' : va_E} (h : wh w a e) (h' : wh w b e') (hn : e ≠ e') : a ≠ b := fun z => hn (wh.inj h (z ▸ h'))
theorem wu_wu (w : wd) (a : Nat) (e e' : va_E) : wu (wu w a e) a e' = wu w a e' := by
  refine Prod.ext rfl (funext fun j => ?_)
  show va_up (va_up w.2 a e) a e' j = va_up w.2 a e' j
  by_cases h : j = a
  · rw [h, va_up_self, va_up_self]
  · rw [va_up_ne _ _ h, va_up_ne _ _ h, va_up_ne _ _ h]
theorem wh.at {w : wd} {a : Nat} {e : va_E} (h : wh w a e) : ∃ k : Nat, (wl w)[k]? = some (a, e) := by
  obtain ⟨k, hk⟩ := va_pl_get (X := []) (f := w.2) h.1
  exact ⟨k, by rw [← h.2]; exact hk⟩
theorem wh.set {A : Nat → Prop} {w : wd} {a k : Nat} {e e' : va_E} (hD : va_D A (wl w)) (h : wh w a e) (hk : (wl w)[k]? = some (a, e)) : (wl w).set k (a, e') = wl (wu w a e') :=
  va_pl_set (X := []) hD h.1 (by rw [h.2]; exact hk)
theorem wl.push {A : Nat → Prop} {w : wd} {q : Nat} {e : va_E} (hD : va_D A (wl w ++ [(q, e)])) : q ∉ w.1 ∧ wl w ++ [(q, e)] = wl (wn w q e) := by
  have h : q ∉ w.1 := va_pl_fresh2 (X := []) hD
  exact ⟨h, va_pl_push h⟩
/-! what every method fixes -/
abbrev mY : Type := MethodName × ByteArray × Nat × Option FieldType
abbrev gE : Type := Launch × va_G × (Nat → ClassId) × (Nat → Nat)
/-- the room, which cells may change, the end, what more is known of the start -/
abbrev gZ : Type := Room × (Nat → Prop) × (Option Value → wd → Prop) × (State → Prop)
abbrev rmD (d mc ms : Nat) : Room := { frames := d, cells := mc, slots := ms, locals := 37 * d }
def gQ (E : gE) (Z : gZ) : Array Value → State → Outcome → State → Prop := fun _ st oc t => (∃ (r : Option Value) (w : wd), oc = .returned r ∧ Z.2.2.1 r w ∧ va_P E.2.1 vwCl (wl w) t.heap ∧ va_D Z.2.1 (wl w)) ∧ va_F Z.2.1 st t
theorem ws_good {w : Cond} (h : w ∈ WS) : (w.onTables && w.keeps) = true ∨ ∃ ty, w = .arrayClass ty := good_of_word (List.mem_filter.mp h).2
/-- words that no reader of steady words carries -/
def nestW : Cond → Bool
  | .fieldLinkNest .. => true
  | .methodLinkNest .. => true
  | .castable .. => true
  | .declares .. => true
  | _ => false
def tyl (E : gE) : List (ClassId × FieldType) := [(E.2.2.1 0, .int), (E.2.2.1 1, .boolean), (E.2.2.1 2, .object "LeasedFiles$Message"), (E.2.2.1 3, .object "LeasedFiles$Client"), (E.2.2.1 4, .object "LeasedFiles$Copy"), (E.2.2.1 5, .object "LeasedFiles$ServedFile"), (E.2.2.1 6, .object "java/lang/Object")]
def arrO : List String := ["LeasedFiles$Message", "LeasedFiles$Client", "LeasedFiles$Copy", "LeasedFiles$ServedFile", "java/lang/Object"]
def Kg (E : gE) (U : State) : Prop := va_K E.2.1 vwCl (tyl E) U ∧ (∀ w ∈ lw_tbl, nestW w = true → va_Nw w U) ∧ (∀ C ∈ arrO, va_AO C U) ∧ va_Mi "[Ljava/lang/Object;" (E.2.2.2 1) U
theorem Kg.warm {E : gE} {s U : State} (hW : s.WarmedH U.vm) (h : Kg E s) : Kg E U := by
  refine ⟨va_K.moved hW.alike h.1, fun w hw hn => ?_, fun C hC => (h.2.2.1 C hC).moved hW.alike, h.2.2.2.moved hW.alike⟩
  have hz := h.2.1 w hw hn
  cases w <;> first | (simp [nestW] at hn; done) | exact va_Nw.warmF hW hz | exact va_Nw.warmM hW hz | exact va_Nw.warmC hW hz | exact va_Nw.warmD hW hz
theorem Kg.call {E : gE} {U : State} {g : JFrame} {mk : MethodId} {a : Array Value} (h : Kg E U) : Kg E (U.calling g mk a) := by
  refine ⟨va_K.moved (u := U) (U := U.calling g mk a) (Vm.Alike.refl U.vm) h.1, fun w hw hn => ?_, fun C hC => (h.2.2.1 C hC).moved (u := U) (U := U.calling g mk a) (Vm.Alike.refl U.vm), h.2.2.2.moved (u := U) (U := U.calling g mk a) (Vm.Alike.refl U.vm)⟩
  refine va_Nw.same (u := U) (U := U.calling g mk a) ?_ rfl (h.2.1 w hw hn)
  cases w <;> first | (simp [nestW] at hn; done) | rfl
/-- statics that nobody writes: the list's empty array -/
def Zg (E : gE) (A : Nat → Prop) (U : State) (H : Heap) : Prop := va_Z "java/util/ArrayList" "DEFAULTCAPACITY_EMPTY_ELEMENTDATA" "[Ljava/lang/Object;" (.ref (E.2.2.2 0)) A U H ∧ va_T (.object "java/lang/Object") (E.2.2.2 0) 0 (fun _ => .null) A U H
theorem Zg.moved {E : gE} {A : Nat → Prop} {u U : State} {H : Heap} (hvm : u.vm.Alike U.vm) (h : Zg E A u H) : Zg E A U H := ⟨va_Z.moved hvm h.1, va_T.moved hvm h.2⟩
theorem Zg.kept {E : gE} {A : Nat → Prop} {U : State} {H H1 : Heap} (h : Zg E A U H) (hq : ∀ a : Nat, a < H.size → ¬ A a → H1[a]? = H[a]?) : Zg E A U H1 := ⟨h.1.kept hq, h.2.kept hq⟩
theorem Zg.narrow {E : gE} {A B : Nat → Prop} {U : State} {H : Heap} (h : Zg E A U H) (hAB : ∀ q, B q → A q) : Zg E B U H := ⟨h.1.narrow hAB, h.2.narrow hAB⟩
def gX (E : gE) (Y : mY) (Z : gZ) (p : Program) (s : State) (m : MethodId) (args : Array Value) (meth : Method) (c : Code) : Prop :=
  p.tables.exec = Jvm.exec ∧ c.code = Y.2.1 ∧ c.maxLocals = Y.2.2.1 ∧ s.vm.findClass Y.1.cls = some m.cls ∧ (∀ w ∈ WS, w.before args s = true) ∧ meth.locks = false ∧ meth.sig.returnType = Y.2.2.2 ∧ meth.name = Y.1.name ∧ Kg E s ∧ Zg E Z.2.1 s s.heap ∧ (∀ q : Nat, s.heap.size ≤ q → Z.2.1 q) ∧ Z.2.2.2 s
section GX
variable {E : gE} {Y : mY} {Z : gZ} {p : Program} {s : State} {m : MethodId} {args : Array Value} {meth : Method} {c : Code}
theorem gX.x (X : gX E Y Z p s m args meth c) : p.tables.exec = Jvm.exec := X.1
theorem gX.b (X : gX E Y Z p s m args meth c) : c.code = Y.2.1 := X.2.1
theorem gX.ml (X : gX E Y Z p s m args meth c) : c.maxLocals = Y.2.2.1 := X.2.2.1
theorem gX.own (X : gX E Y Z p s m args meth c) : s.vm.findClass Y.1.cls = some m.cls := X.2.2.2.1
theorem gX.ts (X : gX E Y Z p s m args meth c) : ∀ w ∈ WS, w.before args s = true := X.2.2.2.2.1
theorem gX.lk (X : gX E Y Z p s m args meth c) : meth.locks = false := X.2.2.2.2.2.1
theorem gX.rt (X : gX E Y Z p s m args meth c) : meth.sig.returnType = Y.2.2.2 := X.2.2.2.2.2.2.1
theorem gX.nm (X : gX E Y Z p s m args meth c) : meth.name = Y.1.name := X.2.2.2.2.2.2.2.1
theorem gX.K (X : gX E Y Z p s m args meth c) : Kg E s := X.2.2.2.2.2.2.2.2.1
theorem gX.Zs (X : gX E Y Z p s m args meth c) : Zg E Z.2.1 s s.heap := X.2.2.2.2.2.2.2.2.2.1
theorem gX.A (X : gX E Y Z p s m args meth c) : ∀ q : Nat, s.heap.size ≤ q → Z.2.1 q := X.2.2.2.2.2.2.2.2.2.2.1
theorem gX.ex (X : gX E Y Z p s m args meth c) : Z.2.2.2 s := X.2.2.2.2.2.2.2.2.2.2.2
end GX
/-- the machine, at pc with these locals, this stack, this world, so many cells and slots made: comes to the contract's end -/
def G (E : gE) (Y : mY) (Z : gZ) (pc : Nat) (lv : List (Nat × Value)) (st : List Value) (w : wd) (ce sl : Nat) : Prop :=
  ∀ (p : Program) (e : Env) (s : State) (m : MethodId) (args : Array Value) (below : List Frame) (meth : Method) (c : Code) (H : Heap) (locs : List Loc) (ls : Array Slot),
    gX E Y Z p s m args meth c → lv_has ls Y.2.2.1 lv → va_P E.2.1 vwCl (wl w) H → va_D Z.2.1 (wl w) → va_S Z.2.1 s.heap H locs →
    W p E.1 e (Z.1) s m args below meth c H locs ce sl (MQ below (gQ E Z) args s Z.1.cells Z.1.slots Z.2.1) (F0 m pc ls st)
def gP (E : gE) (av : List Value) (w : wd) (n0 : Nat) : Array Value → State → Prop := fun v U => v = av.toArray ∧ U.heap.size = n0 ∧ va_P E.2.1 vwCl (wl w) U.heap ∧ va_D (fun _ => True) (wl w) ∧ Kg E U ∧ Zg E (va_A (wl w) n0) U U.heap
/-- a method's contract from the world w: it ends with Q -/
def Cn (E : gE) (Y : mY) (d mc ms : Nat) (av : List Value) (w : wd) (Q : Option Value → wd → Prop) : Prop :=
  ∀ n0 : Nat, Met E.1 Y.1 (.code Y.1 Y.2.1 Y.2.2.1 Y.2.2.2 :: WS) (rmD d mc ms) (gP E av w n0) (gQ E (rmD d mc ms, va_A (wl w) n0, Q, fun _ => True)) mc ms (va_A (wl w) n0)
theorem Cn.of {E : gE} {Y : mY} {d mc ms : Nat} {av : List Value} {w : wd} {Q : Option Value → wd → Prop} (hy : plainName Y.1.cls = true) (hn : (lg_sl av).length ≤ Y.2.2.1) (h : ∀ A : Nat → Prop, G E Y (rmD d mc ms, A, Q, fun _ => True) 0 (lv_args 0 av) [] w 0 0) : Cn E Y d mc ms av w Q := by
  intro n0
  refine Met.ofW (cc := Y.2.1) (maxL := Y.2.2.1) (ret := Y.2.2.2) hy rfl ?_
  intro p e s m args below meth c s₁ B hml hv
  obtain ⟨rfl, hsz, hP, hD, hK, hZ⟩ := hv
  subst hsz
  rw [lg_entry_eq]
  exact h _ p e s m _ below meth c s.heap [] _ ⟨B.exec, B.bytes, hml, findClass_of_methodNamed B.named, fun w hw => atoms_spec B.pre w (List.mem_cons_of_mem _ hw), B.notSynchronized, B.returns, (name_of_methodNamed B.named B.method).1, hK, hZ, fun q h => Or.inr h, trivial⟩ (lv_entry av hn) hP hD.self va_S.rf
end
section
section GG
variable {E : gE} {Y : mY} {Z : gZ} {pc : Nat} {lv : List (Nat × Value)} {st : List Value} {w : wd} {ce sl : Nat}
theorem g_iconst {n : Int} {v : Int32} (hd : decode Y.2.1 pc = .ok (.iconst n, 1)) (hv : Int32.ofInt n = v) (k : G E Y Z (pc + 1) lv (.int v :: st) w ce sl) : G E Y Z pc lv (st) w ce sl := by
  intro p e s m args below meth c H locs ls X hl hP hD hS
  exact lv_iconst X.x X.b hd hv (k p e s m args below meth c H locs ls X hl hP hD hS)
theorem g_bipush {n : Int} {v : Int32} (hd : decode Y.2.1 pc = .ok (.bipush n, 2)) (hv : (Int8.ofInt n).toInt32 = v) (k : G E Y Z (pc + 2) lv (.int v :: st) w ce sl) : G E Y Z pc lv (st) w ce sl := by
  intro p e s m args below meth c H locs ls X hl hP hD hS
  exact lv_bipush X.x X.b hd hv (k p e s m args below meth c H locs ls X hl hP hD hS)
theorem g_sipush {n : Int} {v : Int32} (hd : decode Y.2.1 pc = .ok (.sipush n, 3)) (hv : (Int16.ofInt n).toInt32 = v) (k : G E Y Z (pc + 3) lv (.int v :: st) w ce sl) : G E Y Z pc lv (st) w ce sl := by
  intro p e s m args below meth c H locs ls X hl hP hD hS
  exact lv_sipush X.x X.b hd hv (k p e s m args below meth c H locs ls X hl hP hD hS)
theorem g_iload_n {j : Nat} {i : Fin 4} {x : Int32} (hd : decode Y.2.1 pc = .ok (.iload_n i, 1)) (hk : lv[j]? = some (i.val, .int x)) (k : G E Y Z (pc + 1) lv (.int x :: st) w ce sl) : G E Y Z pc lv (st) w ce sl := by
  intro p e s m args below meth c H locs ls X hl hP hD hS
  exact lv_iload_n X.x X.b hd rfl (lv_at hl j hk) (k p e s m args below meth c H locs ls X hl hP hD hS)
theorem g_iload {j i : Nat} {x : Int32} (hd : decode Y.2.1 pc = .ok (.iload i, 2)) (hk : lv[j]? = some (i, .int x)) (k : G E Y Z (pc + 2) lv (.int x :: st) w ce sl) : G E Y Z pc lv (st) w ce sl := by
  intro p e s m args below meth c H locs ls X hl hP hD hS
  exact lv_iload X.x X.b hd (lv_at hl j hk) (k p e s m args below meth c H locs ls X hl hP hD hS)
theorem g_aload_n {j : Nat} {i : Fin 4} {x : Nat} (hd : decode Y.2.1 pc = .ok (.aload_n i, 1)) (hk : lv[j]? = some (i.val, .ref x)) (k : G E Y Z (pc + 1) lv (.ref x :: st) w ce sl) : G E Y Z pc lv (st) w ce sl := by
  intro p e s m args below meth c H locs ls X hl hP hD hS
  exact lv_aload_n X.x X.b hd rfl (lv_at hl j hk) (k p e s m args below meth c H locs ls X hl hP hD hS)
theorem g_aload {j i : Nat} {x : Nat} (hd : decode Y.2.1 pc = .ok (.aload i, 2)) (hk : lv[j]? = some (i, .ref x)) (k : G E Y Z (pc + 2) lv (.ref x :: st) w ce sl) : G E Y Z pc lv (st) w ce sl := by
  intro p e s m args below meth c H locs ls X hl hP hD hS
  exact lv_aload X.x X.b hd (lv_at hl j hk) (k p e s m args below meth c H locs ls X hl hP hD hS)
theorem g_aload_nN {j : Nat} {i : Fin 4} (hd : decode Y.2.1 pc = .ok (.aload_n i, 1)) (hk : lv[j]? = some (i.val, .null)) (k : G E Y Z (pc + 1) lv (.null :: st) w ce sl) : G E Y Z pc lv (st) w ce sl := by
  intro p e s m args below meth c H locs ls X hl hP hD hS
  exact lv_aload_nN X.x X.b hd rfl (lv_at hl j hk) (k p e s m args below meth c H locs ls X hl hP hD hS)
theorem g_istore_n {i : Fin 4} {x : Int32} {lv' : List (Nat × Value)} (hd : decode Y.2.1 pc = .ok (.istore_n i, 1)) (hn : i.val < Y.2.2.1) (hl' : (i.val, Value.int x) :: lv.filter (fun q => !(q.1 == i.val) && !(q.1 + 1 == i.val && q.2.category == 2)) = lv') (k : G E Y Z (pc + 1) lv' st w ce sl) : G E Y Z pc lv (.int x :: st) w ce sl := by
  intro p e s m args below meth c H locs ls X hl hP hD hS
  exact lv_istore_n X.x X.b hd rfl hl hn hl' (fun ls' h' => k p e s m args below meth c H locs ls' X h' hP hD hS)
theorem g_istore {i : Nat} {x : Int32} {lv' : List (Nat × Value)} (hd : decode Y.2.1 pc = .ok (.istore i, 2)) (hn : i < Y.2.2.1) (hl' : (i, Value.int x) :: lv.filter (fun q => !(q.1 == i) && !(q.1 + 1 == i && q.2.category == 2)) = lv') (k : G E Y Z (pc + 2) lv' st w ce sl) : G E Y Z pc lv (.int x :: st) w ce sl := by
  intro p e s m args below meth c H locs ls X hl hP hD hS
  exact lv_istore X.x X.b hd hl hn hl' (fun ls' h' => k p e s m args below meth c H locs ls' X h' hP hD hS)
theorem g_astore_n {i : Fin 4} {x : Nat} {lv' : List (Nat × Value)} (hd : decode Y.2.1 pc = .ok (.astore_n i, 1)) (hn : i.val < Y.2.2.1) (hl' : (i.val, Value.ref x) :: lv.filter (fun q => !(q.1 == i.val) && !(q.1 + 1 == i.val && q.2.category == 2)) = lv') (k : G E Y Z (pc + 1) lv' st w ce sl) : G E Y Z pc lv (.ref x :: st) w ce sl := by
  intro p e s m args below meth c H locs ls X hl hP hD hS
  exact lv_astore_n X.x X.b hd rfl hl hn hl' (fun ls' h' => k p e s m args below meth c H locs ls' X h' hP hD hS)
theorem g_astore {i : Nat} {x : Nat} {lv' : List (Nat × Value)} (hd : decode Y.2.1 pc = .ok (.astore i, 2)) (hn : i < Y.2.2.1) (hl' : (i, Value.ref x) :: lv.filter (fun q => !(q.1 == i) && !(q.1 + 1 == i && q.2.category == 2)) = lv') (k : G E Y Z (pc + 2) lv' st w ce sl) : G E Y Z pc lv (.ref x :: st) w ce sl := by
  intro p e s m args below meth c H locs ls X hl hP hD hS
  exact lv_astore X.x X.b hd hl hn hl' (fun ls' h' => k p e s m args below meth c H locs ls' X h' hP hD hS)
theorem g_iinc {i j : Nat} {n : Int} {x v : Int32} {lv' : List (Nat × Value)} (hd : decode Y.2.1 pc = .ok (.iinc i n, 3)) (hk : lv[j]? = some (i, .int x)) (hv : x + Int32.ofInt n = v) (hn : i < Y.2.2.1) (hl' : (i, Value.int v) :: lv.filter (fun q => !(q.1 == i) && !(q.1 + 1 == i && q.2.category == 2)) = lv') (k : G E Y Z (pc + 3) lv' st w ce sl) : G E Y Z pc lv st w ce sl := by
  intro p e s m args below meth c H locs ls X hl hP hD hS
  exact lv_iinc X.x X.b hd hl hk hv hn hl' (fun ls' h' => k p e s m args below meth c H locs ls' X h' hP hD hS)
theorem g_iadd {x y : Int32} (hd : decode Y.2.1 pc = .ok (.iadd, 1)) (k : G E Y Z (pc + 1) lv (.int (x + y) :: st) w ce sl) : G E Y Z pc lv (.int y :: .int x :: st) w ce sl := by
  intro p e s m args below meth c H locs ls X hl hP hD hS
  exact lv_iadd X.x X.b hd (k p e s m args below meth c H locs ls X hl hP hD hS)
theorem g_isub {x y : Int32} (hd : decode Y.2.1 pc = .ok (.isub, 1)) (k : G E Y Z (pc + 1) lv (.int (x - y) :: st) w ce sl) : G E Y Z pc lv (.int y :: .int x :: st) w ce sl := by
  intro p e s m args below meth c H locs ls X hl hP hD hS
  exact lv_isub X.x X.b hd (k p e s m args below meth c H locs ls X hl hP hD hS)
theorem g_imul {x y : Int32} (hd : decode Y.2.1 pc = .ok (.imul, 1)) (k : G E Y Z (pc + 1) lv (.int (x * y) :: st) w ce sl) : G E Y Z pc lv (.int y :: .int x :: st) w ce sl := by
  intro p e s m args below meth c H locs ls X hl hP hD hS
  exact lv_imul X.x X.b hd (k p e s m args below meth c H locs ls X hl hP hD hS)
theorem g_iand {x y : Int32} (hd : decode Y.2.1 pc = .ok (.iand, 1)) (k : G E Y Z (pc + 1) lv (.int (x &&& y) :: st) w ce sl) : G E Y Z pc lv (.int y :: .int x :: st) w ce sl := by
  intro p e s m args below meth c H locs ls X hl hP hD hS
  exact lv_iand X.x X.b hd (k p e s m args below meth c H locs ls X hl hP hD hS)
theorem g_ishr {x y : Int32} (hd : decode Y.2.1 pc = .ok (.ishr, 1)) (k : G E Y Z (pc + 1) lv (.int (x >>> (y &&& 31)) :: st) w ce sl) : G E Y Z pc lv (.int y :: .int x :: st) w ce sl := by
  intro p e s m args below meth c H locs ls X hl hP hD hS
  exact lv_ishr X.x X.b hd (k p e s m args below meth c H locs ls X hl hP hD hS)
theorem g_dup {va : Value} (hd : decode Y.2.1 pc = .ok (.dup, 1)) (hc : va.category = 1) (k : G E Y Z (pc + 1) lv (va :: va :: st) w ce sl) : G E Y Z pc lv (va :: st) w ce sl := by
  intro p e s m args below meth c H locs ls X hl hP hD hS
  exact lv_dup X.x X.b hd hc (k p e s m args below meth c H locs ls X hl hP hD hS)
theorem g_pop {va : Value} (hd : decode Y.2.1 pc = .ok (.pop, 1)) (hc : va.category = 1) (k : G E Y Z (pc + 1) lv (st) w ce sl) : G E Y Z pc lv (va :: st) w ce sl := by
  intro p e s m args below meth c H locs ls X hl hP hD hS
  exact lv_pop X.x X.b hd hc (k p e s m args below meth c H locs ls X hl hP hD hS)
theorem g_dup_x1 {va vb : Value} (hd : decode Y.2.1 pc = .ok (.dup_x1, 1)) (hc : va.category = 1) (hc2 : vb.category = 1) (k : G E Y Z (pc + 1) lv (va :: vb :: va :: st) w ce sl) : G E Y Z pc lv (va :: vb :: st) w ce sl := by
  intro p e s m args below meth c H locs ls X hl hP hD hS
  exact lv_dup_x1 X.x X.b hd hc hc2 (k p e s m args below meth c H locs ls X hl hP hD hS)
theorem g_dup_x2 {va vb vd : Value} (hd : decode Y.2.1 pc = .ok (.dup_x2, 1)) (hc : va.category = 1) (hc2 : vb.category = 1) (hc3 : vd.category = 1) (k : G E Y Z (pc + 1) lv (va :: vb :: vd :: va :: st) w ce sl) : G E Y Z pc lv (va :: vb :: vd :: st) w ce sl := by
  intro p e s m args below meth c H locs ls X hl hP hD hS
  exact lv_dup_x2 X.x X.b hd hc hc2 hc3 (k p e s m args below meth c H locs ls X hl hP hD hS)
theorem g_dup2 {va vb : Value} (hd : decode Y.2.1 pc = .ok (.dup2, 1)) (hc : va.category = 1) (hc2 : vb.category = 1) (k : G E Y Z (pc + 1) lv (va :: vb :: va :: vb :: st) w ce sl) : G E Y Z pc lv (va :: vb :: st) w ce sl := by
  intro p e s m args below meth c H locs ls X hl hP hD hS
  exact lv_dup2_11 X.x X.b hd hc hc2 (k p e s m args below meth c H locs ls X hl hP hD hS)
theorem g_null (hd : decode Y.2.1 pc = .ok (.aconst_null, 1)) (k : G E Y Z (pc + 1) lv (.null :: st) w ce sl) : G E Y Z pc lv (st) w ce sl := by
  intro p e s m args below meth c H locs ls X hl hP hD hS
  exact lv_null X.x X.b hd (k p e s m args below meth c H locs ls X hl hP hD hS)
theorem g_goto {off : Int} {tgt : Nat} (hd : decode Y.2.1 pc = .ok (.goto off, 3)) (ht : (pc : Int) + off = (tgt : Int)) (k : G E Y Z tgt lv st w ce sl) : G E Y Z pc lv st w ce sl := by
  intro p e s m args below meth c H locs ls X hl hP hD hS
  exact lv_goto X.x X.b hd ht (k p e s m args below meth c H locs ls X hl hP hD hS)
theorem g_if_eq {x : Int32} {off : Int} {tgt : Nat} (hd : decode Y.2.1 pc = .ok (.ifCond .eq off, 3)) (ht : (pc : Int) + off = (tgt : Int)) (kt : x = 0 → G E Y Z tgt lv st w ce sl) (kf : ¬ x = 0 → G E Y Z (pc + 3) lv st w ce sl) : G E Y Z pc lv (.int x :: st) w ce sl := by
  intro p e s m args below meth c H locs ls X hl hP hD hS
  exact lv_if_eq X.x X.b hd ht (fun h => kt h p e s m args below meth c H locs ls X hl hP hD hS) (fun h => kf h p e s m args below meth c H locs ls X hl hP hD hS)
theorem g_icmp_eq {x y : Int32} {off : Int} {tgt : Nat} (hd : decode Y.2.1 pc = .ok (.if_icmp .eq off, 3)) (ht : (pc : Int) + off = (tgt : Int)) (kt : x = y → G E Y Z tgt lv st w ce sl) (kf : ¬ x = y → G E Y Z (pc + 3) lv st w ce sl) : G E Y Z pc lv (.int y :: .int x :: st) w ce sl := by
  intro p e s m args below meth c H locs ls X hl hP hD hS
  exact lv_icmp_eq X.x X.b hd ht (fun h => kt h p e s m args below meth c H locs ls X hl hP hD hS) (fun h => kf h p e s m args below meth c H locs ls X hl hP hD hS)
theorem g_if_ne {x : Int32} {off : Int} {tgt : Nat} (hd : decode Y.2.1 pc = .ok (.ifCond .ne off, 3)) (ht : (pc : Int) + off = (tgt : Int)) (kt : ¬ x = 0 → G E Y Z tgt lv st w ce sl) (kf : x = 0 → G E Y Z (pc + 3) lv st w ce sl) : G E Y Z pc lv (.int x :: st) w ce sl := by
  intro p e s m args below meth c H locs ls X hl hP hD hS
  exact lv_if_ne X.x X.b hd ht (fun h => kt h p e s m args below meth c H locs ls X hl hP hD hS) (fun h => kf h p e s m args below meth c H locs ls X hl hP hD hS)
theorem g_icmp_ne {x y : Int32} {off : Int} {tgt : Nat} (hd : decode Y.2.1 pc = .ok (.if_icmp .ne off, 3)) (ht : (pc : Int) + off = (tgt : Int)) (kt : ¬ x = y → G E Y Z tgt lv st w ce sl) (kf : x = y → G E Y Z (pc + 3) lv st w ce sl) : G E Y Z pc lv (.int y :: .int x :: st) w ce sl := by
  intro p e s m args below meth c H locs ls X hl hP hD hS
  exact lv_icmp_ne X.x X.b hd ht (fun h => kt h p e s m args below meth c H locs ls X hl hP hD hS) (fun h => kf h p e s m args below meth c H locs ls X hl hP hD hS)
theorem g_if_lt {x : Int32} {off : Int} {tgt : Nat} (hd : decode Y.2.1 pc = .ok (.ifCond .lt off, 3)) (ht : (pc : Int) + off = (tgt : Int)) (kt : x < 0 → G E Y Z tgt lv st w ce sl) (kf : ¬ x < 0 → G E Y Z (pc + 3) lv st w ce sl) : G E Y Z pc lv (.int x :: st) w ce sl := by
  intro p e s m args below meth c H locs ls X hl hP hD hS
  exact lv_if_lt X.x X.b hd ht (fun h => kt h p e s m args below meth c H locs ls X hl hP hD hS) (fun h => kf h p e s m args below meth c H locs ls X hl hP hD hS)
theorem g_icmp_lt {x y : Int32} {off : Int} {tgt : Nat} (hd : decode Y.2.1 pc = .ok (.if_icmp .lt off, 3)) (ht : (pc : Int) + off = (tgt : Int)) (kt : x < y → G E Y Z tgt lv st w ce sl) (kf : ¬ x < y → G E Y Z (pc + 3) lv st w ce sl) : G E Y Z pc lv (.int y :: .int x :: st) w ce sl := by
  intro p e s m args below meth c H locs ls X hl hP hD hS
  exact lv_icmp_lt X.x X.b hd ht (fun h => kt h p e s m args below meth c H locs ls X hl hP hD hS) (fun h => kf h p e s m args below meth c H locs ls X hl hP hD hS)
theorem g_if_ge {x : Int32} {off : Int} {tgt : Nat} (hd : decode Y.2.1 pc = .ok (.ifCond .ge off, 3)) (ht : (pc : Int) + off = (tgt : Int)) (kt : 0 ≤ x → G E Y Z tgt lv st w ce sl) (kf : ¬ 0 ≤ x → G E Y Z (pc + 3) lv st w ce sl) : G E Y Z pc lv (.int x :: st) w ce sl := by
  intro p e s m args below meth c H locs ls X hl hP hD hS
  exact lv_if_ge X.x X.b hd ht (fun h => kt h p e s m args below meth c H locs ls X hl hP hD hS) (fun h => kf h p e s m args below meth c H locs ls X hl hP hD hS)
theorem g_icmp_ge {x y : Int32} {off : Int} {tgt : Nat} (hd : decode Y.2.1 pc = .ok (.if_icmp .ge off, 3)) (ht : (pc : Int) + off = (tgt : Int)) (kt : y ≤ x → G E Y Z tgt lv st w ce sl) (kf : ¬ y ≤ x → G E Y Z (pc + 3) lv st w ce sl) : G E Y Z pc lv (.int y :: .int x :: st) w ce sl := by
  intro p e s m args below meth c H locs ls X hl hP hD hS
  exact lv_icmp_ge X.x X.b hd ht (fun h => kt h p e s m args below meth c H locs ls X hl hP hD hS) (fun h => kf h p e s m args below meth c H locs ls X hl hP hD hS)
theorem g_if_gt {x : Int32} {off : Int} {tgt : Nat} (hd : decode Y.2.1 pc = .ok (.ifCond .gt off, 3)) (ht : (pc : Int) + off = (tgt : Int)) (kt : 0 < x → G E Y Z tgt lv st w ce sl) (kf : ¬ 0 < x → G E Y Z (pc + 3) lv st w ce sl) : G E Y Z pc lv (.int x :: st) w ce sl := by
  intro p e s m args below meth c H locs ls X hl hP hD hS
  exact lv_if_gt X.x X.b hd ht (fun h => kt h p e s m args below meth c H locs ls X hl hP hD hS) (fun h => kf h p e s m args below meth c H locs ls X hl hP hD hS)
theorem g_icmp_gt {x y : Int32} {off : Int} {tgt : Nat} (hd : decode Y.2.1 pc = .ok (.if_icmp .gt off, 3)) (ht : (pc : Int) + off = (tgt : Int)) (kt : y < x → G E Y Z tgt lv st w ce sl) (kf : ¬ y < x → G E Y Z (pc + 3) lv st w ce sl) : G E Y Z pc lv (.int y :: .int x :: st) w ce sl := by
  intro p e s m args below meth c H locs ls X hl hP hD hS
  exact lv_icmp_gt X.x X.b hd ht (fun h => kt h p e s m args below meth c H locs ls X hl hP hD hS) (fun h => kf h p e s m args below meth c H locs ls X hl hP hD hS)
theorem g_if_le {x : Int32} {off : Int} {tgt : Nat} (hd : decode Y.2.1 pc = .ok (.ifCond .le off, 3)) (ht : (pc : Int) + off = (tgt : Int)) (kt : x ≤ 0 → G E Y Z tgt lv st w ce sl) (kf : ¬ x ≤ 0 → G E Y Z (pc + 3) lv st w ce sl) : G E Y Z pc lv (.int x :: st) w ce sl := by
  intro p e s m args below meth c H locs ls X hl hP hD hS
  exact lv_if_le X.x X.b hd ht (fun h => kt h p e s m args below meth c H locs ls X hl hP hD hS) (fun h => kf h p e s m args below meth c H locs ls X hl hP hD hS)
theorem g_icmp_le {x y : Int32} {off : Int} {tgt : Nat} (hd : decode Y.2.1 pc = .ok (.if_icmp .le off, 3)) (ht : (pc : Int) + off = (tgt : Int)) (kt : x ≤ y → G E Y Z tgt lv st w ce sl) (kf : ¬ x ≤ y → G E Y Z (pc + 3) lv st w ce sl) : G E Y Z pc lv (.int y :: .int x :: st) w ce sl := by
  intro p e s m args below meth c H locs ls X hl hP hD hS
  exact lv_icmp_le X.x X.b hd ht (fun h => kt h p e s m args below meth c H locs ls X hl hP hD hS) (fun h => kf h p e s m args below meth c H locs ls X hl hP hD hS)
theorem g_acmp_eq {rx ry : Option Nat} {off : Int} {tgt : Nat} (hd : decode Y.2.1 pc = .ok (.if_acmp .eq off, 3)) (ht : (pc : Int) + off = (tgt : Int)) (kt : rx = ry → G E Y Z tgt lv st w ce sl) (kf : ¬ rx = ry → G E Y Z (pc + 3) lv st w ce sl) : G E Y Z pc lv (va_rf ry :: va_rf rx :: st) w ce sl := by
  intro p e s m args below meth c H locs ls X hl hP hD hS
  exact lv_acmp_eq X.x X.b hd ht (fun h => kt h p e s m args below meth c H locs ls X hl hP hD hS) (fun h => kf h p e s m args below meth c H locs ls X hl hP hD hS)
theorem g_acmp_ne {rx ry : Option Nat} {off : Int} {tgt : Nat} (hd : decode Y.2.1 pc = .ok (.if_acmp .ne off, 3)) (ht : (pc : Int) + off = (tgt : Int)) (kt : ¬ rx = ry → G E Y Z tgt lv st w ce sl) (kf : rx = ry → G E Y Z (pc + 3) lv st w ce sl) : G E Y Z pc lv (va_rf ry :: va_rf rx :: st) w ce sl := by
  intro p e s m args below meth c H locs ls X hl hP hD hS
  exact lv_acmp_ne X.x X.b hd ht (fun h => kt h p e s m args below meth c H locs ls X hl hP hD hS) (fun h => kf h p e s m args below meth c H locs ls X hl hP hD hS)
theorem g_tableOut {dflt lo hi : Int} {offs : Array Int} {len : Nat} {x : Int32} {tgt : Nat} (hd : decode Y.2.1 pc = .ok (.tableswitch dflt lo hi offs, len)) (h : x.toInt < lo ∨ hi < x.toInt) (ht : (pc : Int) + dflt = (tgt : Int)) (k : G E Y Z tgt lv st w ce sl) : G E Y Z pc lv (.int x :: st) w ce sl := by
  intro p e s m args below meth c H locs ls X hl hP hD hS
  exact lv_tableOut X.x X.b hd h ht (k p e s m args below meth c H locs ls X hl hP hD hS)
theorem g_tableIn {dflt lo hi : Int} {offs : Array Int} {len : Nat} {x : Int32} {off : Int} {tgt : Nat} (hd : decode Y.2.1 pc = .ok (.tableswitch dflt lo hi offs, len)) (h1 : ¬ x.toInt < lo) (h2 : ¬ hi < x.toInt) (ho : offs[(x.toInt - lo).toNat]? = some off) (ht : (pc : Int) + off = (tgt : Int)) (k : G E Y Z tgt lv st w ce sl) : G E Y Z pc lv (.int x :: st) w ce sl := by
  intro p e s m args below meth c H locs ls X hl hP hD hS
  exact lv_tableIn X.x X.b hd h1 h2 ho ht (k p e s m args below meth c H locs ls X hl hP hD hS)
theorem g_lookup {dflt : Int} {ps : Array (Int × Int)} {len : Nat} {x : Int32} {off : Int} {tgt : Nat} (hd : decode Y.2.1 pc = .ok (.lookupswitch dflt ps, len)) (hp : (ps.toList.zip (ps.toList.drop 1)).all (fun (a, next) => a.1 < next.1) = true) (ho : Op.lookupswitch.offset ps.toList dflt x.toInt = off) (ht : (pc : Int) + off = (tgt : Int)) (k : G E Y Z tgt lv st w ce sl) : G E Y Z pc lv (.int x :: st) w ce sl := by
  intro p e s m args below meth c H locs ls X hl hP hD hS
  exact lv_lookup X.x X.b hd hp ho ht (k p e s m args below meth c H locs ls X hl hP hD hS)
theorem g_topi {x : Int32} (k : ∀ y : Int32, y = x → G E Y Z pc lv (.int y :: st) w ce sl) : G E Y Z pc lv (.int x :: st) w ce sl := k x rfl
/-- the same state in other words -/
theorem g_eq {lv' : List (Nat × Value)} {st' : List Value} {w' : wd} (h1 : lv = lv') (h2 : st = st') (h3 : w = w') (k : G E Y Z pc lv' st' w' ce sl) : G E Y Z pc lv st w ce sl := by
  subst h1 h2 h3
  exact k
/-- fewer locals, by their places -/
theorem g_lv {lv' : List (Nat × Value)} (ks : List Nat) (hl' : lv_pick lv ks = lv') (k : G E Y Z pc lv' st w ce sl) : G E Y Z pc lv st w ce sl := by
  intro p e s m args below meth c H locs ls X hl hP hD hS
  exact k p e s m args below meth c H locs ls X (lv_sub hl ks hl') hP hD hS
/-- a field by its class's place, its place there, and the number in the pool of the class that reads it -/
def fdl (own : String) (ci j index : Nat) : Prop := ∃ (C : String) (T : u_T) (N : Nat) (ref : String), vwCl[ci]? = some (C, T, N) ∧ (∀ w ∈ u_ws C T N, w ∈ WS) ∧ j < N ∧ Cond.fieldLink own index ref (T j).2.1 (T j).2.2.1 ∈ WS ∧ (ref = (T j).1 ∨ Cond.sameField ref (T j).1 (T j).2.1 (T j).2.2.1 ∈ WS)
theorem fd_same {s : State} {args : Array Value} {ref C n d : String} (hts : ∀ w ∈ WS, w.before args s = true) (h : ref = C ∨ Cond.sameField ref C n d ∈ WS) : ∀ x, s.fieldFound? C n d = some x → s.fieldFound? ref n d = some x := by
  rcases h with h | h
  · subst h
    exact fun _ z => z
  · exact fun x z => u_same (hts _ h) x z
theorem g_get {a ci j index : Nat} {fs : List Value} {v : Value} (hd : decode Y.2.1 pc = .ok (.getfield index, 3)) (hf : fdl Y.1.cls ci j index) (ha : wh w a (.inr (ci, fs))) (hv : fs[j]? = some v) (k : G E Y Z (pc + 3) lv (v :: st) w ce sl) : G E Y Z pc lv (.ref a :: st) w ce sl := by
  intro p e s m args below meth c H locs ls X hl hP hD hS
  obtain ⟨C, T, N, ref, h1, h2, h3, h4, h5⟩ := hf
  obtain ⟨q0, hq⟩ := ha.at
  exact va_get X.x X.b X.ts h2 X.own X.K.1 hP q0 hq h1 j h3 (X.ts _ h4) (fd_same X.ts h5) hv hd (k p e s m args below meth c H locs ls X hl hP hD hS)
/-- a field that may be written -/
def fdw (own : String) (ci j index : Nat) (ty : FieldType) (fin : Bool) : Prop := ∃ (C : String) (T : u_T) (N : Nat) (ref : String) (ty0 : Nat → FieldType), vwCl[ci]? = some (C, T, N) ∧ (∀ w ∈ u_ws C T N, w ∈ WS) ∧ j < N ∧ Cond.fieldLink own index ref (T j).2.1 (T j).2.2.1 ∈ WS ∧ (ref = (T j).1 ∨ Cond.sameField ref (T j).1 (T j).2.1 (T j).2.2.1 ∈ WS) ∧ (∀ k, k < N → parseFieldDescriptor (T k).2.2.1 = some (ty0 k)) ∧ (∀ a, a < N → ∀ b, b < N → a ≠ b → (T a).2.1 ≠ (T b).2.1) ∧ parseFieldDescriptor (T j).2.2.1 = some ty ∧ (T j).2.2.2 = fin ∧ (fin = true → (T j).1 = own)
theorem g_put {a ci j index : Nat} {fs : List Value} {v : Value} {ty : FieldType} {fin : Bool} (hd : decode Y.2.1 pc = .ok (.putfield index, 3)) (hf : fdw Y.1.cls ci j index ty fin) (hi : fin = false ∨ Y.1.name = "<init>") (ha : wh w a (.inr (ci, fs))) (hn : narrow ty v = v) (hfit : fits ty v = true) (hl0 : j < fs.length) (k : G E Y Z (pc + 3) lv st (wu w a (.inr (ci, fs.set j v))) ce sl) : G E Y Z pc lv (v :: .ref a :: st) w ce sl := by
  intro p e s m args below meth c H locs ls X hl hP hD hS
  obtain ⟨C, T, N, ref, ty0, h1, h2, h3, h4, h5, h6, h7, h8, h9, h10⟩ := hf
  obtain ⟨q0, hq⟩ := ha.at
  have kk : ∀ (H1 : Heap) (locs1 : List Loc), va_P E.2.1 vwCl ((wl w).set q0 (a, .inr (ci, fs.set j v))) H1 → va_D Z.2.1 ((wl w).set q0 (a, .inr (ci, fs.set j v))) → va_S Z.2.1 s.heap H1 locs1 → W p E.1 e (Z.1) s m args below meth c H1 locs1 ce sl (MQ below (gQ E Z) args s Z.1.cells Z.1.slots Z.2.1) (F0 m (pc + 3) ls st) := by
    intro H1 locs1 hP1 hD1 hS1
    rw [ha.set hD hq] at hP1 hD1
    exact k p e s m args below meth c H1 locs1 ls X hl hP1 hD1 hS1
  cases hfn : fin with
  | false => exact va_put X.x X.b X.ts h2 ty0 h6 h7 X.own X.K.1 hP hD hS q0 hq h1 j h3 (X.ts _ h4) (fd_same X.ts h5) (h9.trans hfn) h8 hn hfit hl0 hd kk
  | true =>
    rcases hi with hz | hz
    · rw [hfn] at hz; cases hz
    · exact va_putF X.x X.b X.ts h2 ty0 h6 h7 X.own X.K.1 hP hD hS q0 hq h1 j h3 (X.ts _ h4) (fd_same X.ts h5) (h9.trans hfn) (X.nm.trans hz) (h10 hfn) h8 hn hfit hl0 hd kk
theorem g_iald {a n j : Nat} {f : Nat → Int32} {i : Int32} (hd : decode Y.2.1 pc = .ok (.iaload, 1)) (ha : wh w a (.inl (E.2.2.1 0, n, .inl f))) (hi : i = nI j) (hj : j < n) (hn : n < 2 ^ 31) (k : G E Y Z (pc + 1) lv (.int (f j) :: st) w ce sl) : G E Y Z pc lv (.int i :: .ref a :: st) w ce sl := by
  intro p e s m args below meth c H locs ls X hl hP hD hS
  obtain ⟨q0, hq⟩ := ha.at
  refine va_iald X.x X.b X.K.1 hP q0 0 hq rfl (pk_in j n hj hi hn) hd ?_
  rw [pk_cl j hi (by omega)]
  exact k p e s m args below meth c H locs ls X hl hP hD hS
theorem g_zald {a n j : Nat} {f : Nat → Int32} {i : Int32} (hd : decode Y.2.1 pc = .ok (.baload, 1)) (ha : wh w a (.inl (E.2.2.1 1, n, .inl f))) (hi : i = nI j) (hj : j < n) (hn : n < 2 ^ 31) (k : G E Y Z (pc + 1) lv (.int (f j) :: st) w ce sl) : G E Y Z pc lv (.int i :: .ref a :: st) w ce sl := by
  intro p e s m args below meth c H locs ls X hl hP hD hS
  obtain ⟨q0, hq⟩ := ha.at
  refine va_zald X.x X.b X.K.1 hP q0 1 hq rfl (pk_in j n hj hi hn) hd ?_
  rw [pk_cl j hi (by omega)]
  exact k p e s m args below meth c H locs ls X hl hP hD hS
theorem g_iast {a n j : Nat} {f : Nat → Int32} {i x : Int32} (hd : decode Y.2.1 pc = .ok (.iastore, 1)) (ha : wh w a (.inl (E.2.2.1 0, n, .inl f))) (hi : i = nI j) (hj : j < n) (hn : n < 2 ^ 31) (k : G E Y Z (pc + 1) lv st (wu w a (.inl (E.2.2.1 0, n, .inl (upd f j x)))) ce sl) : G E Y Z pc lv (.int x :: .int i :: .ref a :: st) w ce sl := by
  intro p e s m args below meth c H locs ls X hl hP hD hS
  obtain ⟨q0, hq⟩ := ha.at
  refine va_iast X.x X.b X.K.1 hP hD hS q0 0 hq rfl (pk_in j n hj hi hn) hd (fun H1 locs1 hP1 hD1 hS1 => ?_)
  rw [pk_cl j hi (by omega), ha.set hD hq] at hP1 hD1
  exact k p e s m args below meth c H1 locs1 ls X hl hP1 hD1 hS1
theorem g_zast {a n j : Nat} {f : Nat → Int32} {i x : Int32} (hd : decode Y.2.1 pc = .ok (.bastore, 1)) (ha : wh w a (.inl (E.2.2.1 1, n, .inl f))) (hi : i = nI j) (hj : j < n) (hn : n < 2 ^ 31) (hx : vp_nar .boolean x = x) (k : G E Y Z (pc + 1) lv st (wu w a (.inl (E.2.2.1 1, n, .inl (upd f j x)))) ce sl) : G E Y Z pc lv (.int x :: .int i :: .ref a :: st) w ce sl := by
  intro p e s m args below meth c H locs ls X hl hP hD hS
  obtain ⟨q0, hq⟩ := ha.at
  refine va_zast X.x X.b X.K.1 hP hD hS q0 1 hq rfl (pk_in j n hj hi hn) hd (fun H1 locs1 hP1 hD1 hS1 => ?_)
  rw [hx, pk_cl j hi (by omega), ha.set hD hq] at hP1 hD1
  exact k p e s m args below meth c H1 locs1 ls X hl hP1 hD1 hS1
theorem g_aald {a n j t0 : Nat} {cA : ClassId} {C : String} {f : Nat → Option Nat} {i : Int32} {v : Value} (hd : decode Y.2.1 pc = .ok (.aaload, 1)) (ha : wh w a (.inl (cA, n, .inr (.inr (.inr (.inr f)))))) (ht : (tyl E)[t0]? = some (cA, .object C)) (hi : i = nI j) (hj : j < n) (hn : n < 2 ^ 31) (hv : va_rf (f j) = v) (k : G E Y Z (pc + 1) lv (v :: st) w ce sl) : G E Y Z pc lv (.int i :: .ref a :: st) w ce sl := by
  intro p e s m args below meth c H locs ls X hl hP hD hS
  obtain ⟨q0, hq⟩ := ha.at
  refine va_aldq X.x X.b X.K.1 hP q0 t0 hq ht (pk_in j n hj hi hn) hd ?_
  rw [pk_cl j hi (by omega), hv]
  exact k p e s m args below meth c H locs ls X hl hP hD hS
theorem g_aast {a n j t0 v ci : Nat} {cA : ClassId} {r : vw_C} {f : Nat → Option Nat} {i : Int32} {vs : List Value} (hd : decode Y.2.1 pc = .ok (.aastore, 1)) (ha : wh w a (.inl (cA, n, .inr (.inr (.inr (.inr f)))))) (ht : (tyl E)[t0]? = some (cA, .object r.1)) (hv : wh w v (.inr (ci, vs))) (hc : vwCl[ci]? = some r) (hi : i = nI j) (hj : j < n) (hn : n < 2 ^ 31) (k : G E Y Z (pc + 1) lv st (wu w a (.inl (cA, n, .inr (.inr (.inr (.inr (va_up f j (some v)))))))) ce sl) : G E Y Z pc lv (.ref v :: .int i :: .ref a :: st) w ce sl := by
  intro p e s m args below meth c H locs ls X hl hP hD hS
  obtain ⟨q0, hq⟩ := ha.at
  obtain ⟨q1, hq1⟩ := hv.at
  refine va_astq X.x X.b X.K.1 hP hD hS q0 t0 q1 ci hq ht hq1 hc (pk_in j n hj hi hn) hd (fun H1 locs1 hP1 hD1 hS1 => ?_)
  rw [pk_cl j hi (by omega), ha.set hD hq] at hP1 hD1
  exact k p e s m args below meth c H1 locs1 ls X hl hP1 hD1 hS1
/-- into a row of a wider kind -/
theorem g_aastO {a n j t0 v ci : Nat} {cA : ClassId} {r : vw_C} {O : String} {f : Nat → Option Nat} {i : Int32} {vs : List Value} (hd : decode Y.2.1 pc = .ok (.aastore, 1)) (ha : wh w a (.inl (cA, n, .inr (.inr (.inr (.inr f)))))) (ht : (tyl E)[t0]? = some (cA, .object O)) (hca : Cond.castable r.1 O ∈ lw_tbl) (hv : wh w v (.inr (ci, vs))) (hc : vwCl[ci]? = some r) (hi : i = nI j) (hj : j < n) (hn : n < 2 ^ 31) (k : G E Y Z (pc + 1) lv st (wu w a (.inl (cA, n, .inr (.inr (.inr (.inr (va_up f j (some v)))))))) ce sl) : G E Y Z pc lv (.ref v :: .int i :: .ref a :: st) w ce sl := by
  intro p e s m args below meth c H locs ls X hl hP hD hS
  obtain ⟨q0, hq⟩ := ha.at
  obtain ⟨q1, hq1⟩ := hv.at
  refine va_astqO X.x X.b X.K.1 hP hD hS q0 t0 q1 ci hq ht (X.K.2.1 _ hca rfl) hq1 hc (pk_in j n hj hi hn) hd (fun H1 locs1 hP1 hD1 hS1 => ?_)
  rw [pk_cl j hi (by omega), ha.set hD hq] at hP1 hD1
  exact k p e s m args below meth c H1 locs1 ls X hl hP1 hD1 hS1
theorem g_aastN {a n j t0 : Nat} {cA : ClassId} {C : String} {f : Nat → Option Nat} {i : Int32} (hd : decode Y.2.1 pc = .ok (.aastore, 1)) (ha : wh w a (.inl (cA, n, .inr (.inr (.inr (.inr f)))))) (ht : (tyl E)[t0]? = some (cA, .object C)) (hi : i = nI j) (hj : j < n) (hn : n < 2 ^ 31) (k : G E Y Z (pc + 1) lv st (wu w a (.inl (cA, n, .inr (.inr (.inr (.inr (va_up f j none))))))) ce sl) : G E Y Z pc lv (.null :: .int i :: .ref a :: st) w ce sl := by
  intro p e s m args below meth c H locs ls X hl hP hD hS
  obtain ⟨q0, hq⟩ := ha.at
  refine va_astqN X.x X.b X.K.1 hP hD hS q0 t0 hq ht (pk_in j n hj hi hn) hd (fun H1 locs1 hP1 hD1 hS1 => ?_)
  rw [pk_cl j hi (by omega), ha.set hD hq] at hP1 hD1
  exact k p e s m args below meth c H1 locs1 ls X hl hP1 hD1 hS1
theorem g_alen {a t0 : Nat} {cA : ClassId} {x : vp_A} {ty : FieldType} (hd : decode Y.2.1 pc = .ok (.arraylength, 1)) (ha : wh w a (.inl (cA, x))) (ht : (tyl E)[t0]? = some (cA, ty)) (k : G E Y Z (pc + 1) lv (.int (nI x.1) :: st) w ce sl) : G E Y Z pc lv (.ref a :: st) w ce sl := by
  intro p e s m args below meth c H locs ls X hl hP hD hS
  obtain ⟨q0, hq⟩ := ha.at
  exact va_alen X.x X.b X.K.1 hP q0 t0 hq ht rfl hd (k p e s m args below meth c H locs ls X hl hP hD hS)
theorem g_new {ci index N : Nat} {C : String} {T : u_T} {fs : List Value} (ty : Nat → FieldType) (hd : decode Y.2.1 pc = .ok (.new index, 3)) (hc : vwCl[ci]? = some (C, T, N)) (hin : ∀ w ∈ u_ws C T N, w ∈ WS) (hty : ∀ k, k < N → parseFieldDescriptor (T k).2.2.1 = some (ty k)) (hcl : Cond.classLink Y.1.cls index C ∈ WS) (hinst : Cond.instantiable C N ∈ WS) (hini : Cond.initialized C ∈ WS) (hfs : ∀ j, j < N → defaultValue (ty j) = vp_V fs j) (hce : ce + 1 ≤ Z.1.cells) (hsl : sl + N ≤ Z.1.slots) (k : ∀ q : Nat, q ∉ w.1 → G E Y Z (pc + 3) lv (.ref q :: st) (wn w q (.inr (ci, fs))) (ce + 1) (sl + N)) : G E Y Z pc lv st w ce sl := by
  intro p e s m args below meth c H locs ls X hl hP hD hS
  refine va_new X.x X.b X.ts hin ty hty X.own (X.ts _ hcl) (X.ts _ hinst) (X.ts _ hini) X.K.1 hP hD hS X.A hc hfs hce hsl hd (fun q H1 hP1 hD1 hS1 => ?_)
  obtain ⟨hq, he⟩ := wl.push hD1
  rw [he] at hP1 hD1
  exact k q hq p e s m args below meth c H1 locs ls X hl hP1 hD1 hS1
theorem g_ireturn {v : Int32} (hd : decode Y.2.1 pc = .ok (.ireturn, 1)) (hr : Y.2.2.2 = some .int) (hce : ce ≤ Z.1.cells) (hsl : sl ≤ Z.1.slots) (hq : Z.2.2.1 (some (.int v)) w) : G E Y Z pc lv [.int v] w ce sl := by
  intro p e s m args below meth c H locs ls X hl hP hD hS
  refine W.widen hce hsl ?_
  exact W.iret X.x X.b (X.rt.trans hr) (fun t ht _ => ⟨⟨_, w, rfl, hq, by rw [ht]; exact hP, hD⟩, hS.F ht⟩) hS.2.2 hd X.lk
theorem g_zreturn {v : Int32} (hd : decode Y.2.1 pc = .ok (.ireturn, 1)) (hr : Y.2.2.2 = some .boolean) (hn : narrow .boolean (.int v) = .int v) (hce : ce ≤ Z.1.cells) (hsl : sl ≤ Z.1.slots) (hq : Z.2.2.1 (some (.int v)) w) : G E Y Z pc lv [.int v] w ce sl := by
  intro p e s m args below meth c H locs ls X hl hP hD hS
  refine W.widen hce hsl ?_
  exact W.zret X.x X.b (X.rt.trans hr) hn (fun t ht _ => ⟨⟨_, w, rfl, hq, by rw [ht]; exact hP, hD⟩, hS.F ht⟩) hS.2.2 hd X.lk
theorem g_areturn {v : Value} {C : String} (hd : decode Y.2.1 pc = .ok (.areturn, 1)) (hr : Y.2.2.2 = some (.object C)) (hv : v = .null ∨ ∃ a, v = .ref a) (hce : ce ≤ Z.1.cells) (hsl : sl ≤ Z.1.slots) (hq : Z.2.2.1 (some v) w) : G E Y Z pc lv [v] w ce sl := by
  intro p e s m args below meth c H locs ls X hl hP hD hS
  refine W.widen hce hsl ?_
  exact W.aret X.x X.b (X.rt.trans hr) (Or.inl ⟨C, rfl⟩) hv (fun t ht _ => ⟨⟨_, w, rfl, hq, by rw [ht]; exact hP, hD⟩, hS.F ht⟩) hS.2.2 hd X.lk
theorem g_return (hd : decode Y.2.1 pc = .ok (.return_, 1)) (hr : Y.2.2.2 = none) (hce : ce ≤ Z.1.cells) (hsl : sl ≤ Z.1.slots) (hq : Z.2.2.1 none w) : G E Y Z pc lv [] w ce sl := by
  intro p e s m args below meth c H locs ls X hl hP hD hS
  refine W.widen hce hsl ?_
  exact W.vret X.x X.b (X.rt.trans hr) (fun t ht _ => ⟨⟨_, w, rfl, hq, by rw [ht]; exact hP, hD⟩, hS.F ht⟩) hS.2.2 hd X.lk
end GG
end
section
section GH
variable {E : gE} {Y : mY} {Z : gZ} {pc : Nat} {lv : List (Nat × Value)} {st : List Value} {w : wd} {ce sl : Nat}
theorem newa_id {s : State} {D : va_G} {t1 : List (ClassId × FieldType)} {cA c0 : ClassId} {ty : FieldType} {k : Nat} (hK : va_K D vwCl t1 s) (h0 : t1[k]? = some (c0, ty)) (h : va_K D vwCl (t1 ++ [(cA, ty)]) s) : cA = c0 := by
  have h1 := (hK.2 k _ h0).2
  have h2 := (h.2 t1.length (cA, ty) (by rw [List.getElem?_append_right (Nat.le_refl _), Nat.sub_self]; rfl)).2
  cases ty with
  | object C =>
    obtain ⟨_, _, _, _, _, g1⟩ := h1
    obtain ⟨_, _, _, _, _, g2⟩ := h2
    exact Option.some.inj (g2.symm.trans g1)
  | _ => exact Option.some.inj (Eq.trans (Eq.symm h2) h1)
theorem g_newI {N : Nat} {n : Int32} (hd : decode Y.2.1 pc = .ok (.newarray .int, 2)) (harr : Cond.arrayClass .int ∈ WS) (hn : n = nI N) (hN : N ≤ 100000) (hce : ce + 1 ≤ Z.1.cells) (hsl : sl + N ≤ Z.1.slots) (k : ∀ q : Nat, q ∉ w.1 → G E Y Z (pc + 2) lv (.ref q :: st) (wn w q (.inl (E.2.2.1 0, N, .inl (fun _ => 0)))) (ce + 1) (sl + N)) : G E Y Z pc lv (.int n :: st) w ce sl := by
  intro p e s m args below meth c H locs ls X hl hP hD hS
  refine va_newa (atype := .int) X.x X.b (X.ts _ harr) (ty := .int) rfl X.K.1 hP hD hS X.A (N' := N) (a0 := (N, .inl (fun _ => 0))) (fun cA => rfl) (by rw [hn]; exact nI_pos (by omega)) (pk_cl N hn (by omega)) (by show N * 4 ≤ _; omega) hce hsl hd (fun q cA H1 hK1 hP1 hD1 hS1 => ?_)
  have hc := newa_id (k := 0) X.K.1 rfl hK1
  subst hc
  obtain ⟨hq, he⟩ := wl.push hD1
  rw [he] at hP1 hD1
  exact k q hq p e s m args below meth c H1 locs ls X hl hP1 hD1 hS1
theorem g_newZ {N : Nat} {n : Int32} (hd : decode Y.2.1 pc = .ok (.newarray .boolean, 2)) (harr : Cond.arrayClass .boolean ∈ WS) (hn : n = nI N) (hN : N ≤ 100000) (hce : ce + 1 ≤ Z.1.cells) (hsl : sl + N ≤ Z.1.slots) (k : ∀ q : Nat, q ∉ w.1 → G E Y Z (pc + 2) lv (.ref q :: st) (wn w q (.inl (E.2.2.1 1, N, .inl (fun _ => 0)))) (ce + 1) (sl + N)) : G E Y Z pc lv (.int n :: st) w ce sl := by
  intro p e s m args below meth c H locs ls X hl hP hD hS
  refine va_newa (atype := .boolean) X.x X.b (X.ts _ harr) (ty := .boolean) rfl X.K.1 hP hD hS X.A (N' := N) (a0 := (N, .inl (fun _ => 0))) (fun cA => rfl) (by rw [hn]; exact nI_pos (by omega)) (pk_cl N hn (by omega)) (by show N * 1 ≤ _; omega) hce hsl hd (fun q cA H1 hK1 hP1 hD1 hS1 => ?_)
  have hc := newa_id (k := 1) X.K.1 rfl hK1
  subst hc
  obtain ⟨hq, he⟩ := wl.push hD1
  rw [he] at hP1 hD1
  exact k q hq p e s m args below meth c H1 locs ls X hl hP1 hD1 hS1
theorem g_newA {N index t0 : Nat} {n : Int32} {C : String} {cA : ClassId} (hd : decode Y.2.1 pc = .ok (.anewarray index, 3)) (hcl : Cond.classLink Y.1.cls index C ∈ WS) (ho : C ∈ arrO) (ht : (tyl E)[t0]? = some (cA, .object C)) (hn : n = nI N) (hN : N ≤ 100000) (hce : ce + 1 ≤ Z.1.cells) (hsl : sl + N ≤ Z.1.slots) (k : ∀ q : Nat, q ∉ w.1 → G E Y Z (pc + 3) lv (.ref q :: st) (wn w q (.inl (cA, N, .inr (.inr (.inr (.inr (fun _ => none))))))) (ce + 1) (sl + N)) : G E Y Z pc lv (.int n :: st) w ce sl := by
  intro p e s m args below meth c H locs ls X hl hP hD hS
  refine va_newq X.x X.b X.own (X.ts _ hcl) (X.K.2.2.1 _ ho) X.K.1 hP hD hS X.A (N' := N) (by rw [hn]; exact nI_pos (by omega)) (pk_cl N hn (by omega)) (by omega) hce hsl hd (fun q cA H1 hK1 hP1 hD1 hS1 => ?_)
  have hc := newa_id X.K.1 ht hK1
  subst hc
  obtain ⟨hq, he⟩ := wl.push hD1
  rw [he] at hP1 hD1
  exact k q hq p e s m args below meth c H1 locs ls X hl hP1 hD1 hS1
theorem g_objInit {a index : Nat} (hd : decode Y.2.1 pc = .ok (.invokespecial index, 3)) (hlk : Cond.methodLink Y.1.cls index Lib.objectInit ∈ WS) (hin : Cond.instanceMethod Lib.objectInit ∈ WS) (hco : Cond.code Lib.objectInit ⟨#[0xb1]⟩ 1 none ∈ WS) (hZ : 1 ≤ Z.1.frames ∧ 24 ≤ Z.1.locals) (hcat : (st.map fun v => v.category).sum ≤ 8) (k : G E Y Z (pc + 3) lv st w ce sl) : G E Y Z pc lv (.ref a :: st) w ce sl := by
  intro p e s m args below meth c H locs ls X hl hP hD hS
  refine W.objInit X.x X.b X.own (X.ts _ hlk) (X.ts _ hin) (X.ts _ hco) rfl (by rw [X.ml]; exact hl.1) rfl hd hZ.1 ?_ (k p e s m args below meth c H locs ls X hl hP hD hS)
  have := hZ.2
  show 2 * 0 + _ + 12 ≤ Z.1.locals
  omega
theorem g_max {index : Nat} {x y : Int32} (hd : decode Y.2.1 pc = .ok (.invokestatic index, 3)) (hlk : Cond.methodLink Y.1.cls index Lib.Math.max.name ∈ WS) (hst : Cond.static Lib.Math.max.name ∈ WS) (hini : Cond.initialized "java/lang/Math" ∈ WS) (hco : Cond.code Lib.Math.max.name Lib.Math.max.code 2 (some .int) ∈ WS) (hZ : 1 ≤ Z.1.frames ∧ 24 ≤ Z.1.locals) (hcat : (st.map fun v => v.category).sum ≤ 8) (hce : ce ≤ Z.1.cells) (hsl : sl ≤ Z.1.slots) (k : G E Y Z (pc + 3) lv (.int (if x < y then y else x) :: st) w ce sl) : G E Y Z pc lv (.int y :: .int x :: st) w ce sl := by
  intro p e s m args below meth c H locs ls X hl hP hD hS
  refine va_mmax X.x X.b (by rw [X.ml]; exact hl.1.symm) X.own (X.ts _ hlk) (X.ts _ hst) (X.ts _ hini) (X.ts _ hco) hZ.1 ?_ hce hsl hd (k p e s m args below meth c H locs ls X hl hP hD hS)
  have := hZ.2
  omega
theorem g_min {index : Nat} {x y : Int32} (hd : decode Y.2.1 pc = .ok (.invokestatic index, 3)) (hlk : Cond.methodLink Y.1.cls index Lib.Math.min.name ∈ WS) (hst : Cond.static Lib.Math.min.name ∈ WS) (hini : Cond.initialized "java/lang/Math" ∈ WS) (hco : Cond.code Lib.Math.min.name Lib.Math.min.code 2 (some .int) ∈ WS) (hZ : 1 ≤ Z.1.frames ∧ 24 ≤ Z.1.locals) (hcat : (st.map fun v => v.category).sum ≤ 8) (hce : ce ≤ Z.1.cells) (hsl : sl ≤ Z.1.slots) (k : G E Y Z (pc + 3) lv (.int (if y < x then y else x) :: st) w ce sl) : G E Y Z pc lv (.int y :: .int x :: st) w ce sl := by
  intro p e s m args below meth c H locs ls X hl hP hD hS
  refine va_mmin X.x X.b (by rw [X.ml]; exact hl.1.symm) X.own (X.ts _ hlk) (X.ts _ hst) (X.ts _ hini) (X.ts _ hco) hZ.1 ?_ hce hsl hd (k p e s m args below meth c H locs ls X hl hP hD hS)
  have := hZ.2
  omega
/-- behind a call: the callee had the whole world -/
theorem g_back {p : Program} {e : Env} {R : Room} {s : State} {m : MethodId} {args : Array Value} {below : List Frame} {meth : Method} {c : Code} {H : Heap} {locs : List Loc} {Qf : State → Prop} {ls : Array Slot} {st0 rest : List Value} {a : Array Value} {A : Nat → Prop} {R' : Room} {mc' ms' : Nat} {Q' : Option Value → wd → Prop} {ex : State → Prop}
    (hr : va_Run p E.1 e R s m args below meth c H locs ce sl mc' ms' (F0 m pc ls st0) rest (gQ E (R', va_A (wl w) H.size, Q', ex) a) (va_A (wl w) H.size)) (hS : va_S A s.heap H locs) (hD : va_D A (wl w)) (hA : ∀ q : Nat, s.heap.size ≤ q → A q)
    (kk : ∀ (r : Option Value) (w' : wd) (H1 : Heap) (locs1 : List Loc), Q' r w' → va_P E.2.1 vwCl (wl w') H1 → va_D A (wl w') → va_S A s.heap H1 locs1 → W p E.1 e R s m args below meth c H1 locs1 (ce + mc') (sl + ms') Qf (F0 m (pc + 3) ls (r.toList ++ rest))) : W p E.1 e R s m args below meth c H locs ce sl Qf (F0 m pc ls st0) := by
  intro T hT X
  obtain ⟨v, st₀, t, T', L, h0, X', hL, e1, e2, ⟨⟨r, w', hv, hq, hP1, hD1⟩, hz, hk⟩, st⟩ := hr T hT X
  cases hv
  rw [h0] at hz hk
  have hF : ∀ q, va_A (wl w) H.size q → A q := by
    intro q h
    rcases h with ⟨k, e, h⟩ | h
    · exact hD.2 k (q, e) h
    · exact hA q (Nat.le_trans hS.1 h)
  obtain ⟨t2, a1, b1⟩ := kk v w' T'.heap (locs ++ L) hq (by rw [e1]; exact hP1) (hD1.weaken (fun k q _ h => hF q.1 h))
    ⟨Nat.le_trans hS.1 (by rw [e1]; exact hz), fun q h1 h2 => by rw [e1, hk q (Nat.lt_of_lt_of_le h1 hS.1) (fun z => h2 (hF q z))]; exact hS.2.1 q h1 h2, fun q hq => by
      rcases List.mem_append.mp hq with h | h
      · exact hS.2.2 q h
      · exact hF _ (hL q h)⟩ T' rfl X'
  exact ⟨t2, st t2 a1, b1⟩
/-- a method that may be called: its code stands in the tables, its class is ready, so many parameters, few places -/
def okY (Y' : mY) (n : Nat) : Prop := Cond.code Y'.1 Y'.2.1 Y'.2.2.1 Y'.2.2.2 ∈ WS ∧ Cond.initialized Y'.1.cls ∈ WS ∧ (Y'.1.cls ≠ "java/lang/invoke/MethodHandle" ∧ Y'.1.cls ≠ "java/lang/invoke/VarHandle") ∧ (parseMethodDescriptor Y'.1.desc).map (fun d => d.parameters.length) = some n ∧ Y'.2.2.1 ≤ 18
theorem g_pre {p : Program} {s : State} {m : MethodId} {args : Array Value} {meth : Method} {c : Code} {H : Heap} {locs : List Loc} {av : List Value} (X : gX E Y Z p s m args meth c) (hP : va_P E.2.1 vwCl (wl w) H) (hD : va_D Z.2.1 (wl w)) (hS : va_S Z.2.1 s.heap H locs) : PreS s H (gP E av w H.size) av := by
  refine ⟨fun a U g mk q => ⟨q.1, q.2.1, q.2.2.1, q.2.2.2.1, q.2.2.2.2.1.call, Zg.moved (u := U) (U := U.calling g mk a) (Vm.Alike.refl U.vm) q.2.2.2.2.2⟩, fun U hU hW => ⟨rfl, by rw [hU], by rw [hU]; exact hP, hD.weaken (fun _ _ _ _ => trivial), X.K.warm hW, ?_⟩⟩
  rw [hU]
  refine Zg.moved hW.alike (Zg.narrow (A := Z.2.1) (X.Zs.kept (fun a h1 h2 => hS.2.1 a h1 h2)) ?_)
  intro q h
  rcases h with ⟨k, e, h⟩ | h
  · exact hD.2 k (q, e) h
  · exact X.A q (Nat.le_trans hS.1 h)
theorem g_callB {p : Program} {s : State} {m : MethodId} {args : Array Value} {meth : Method} {c : Code} {Y' : mY} {n d' mc' ms' : Nat} (X : gX E Y Z p s m args meth c) (ok : okY Y' n) (hdd : d' + 1 ≤ Z.1.frames ∧ 37 * d' + 37 ≤ Z.1.locals) :
    (rmD d' mc' ms').frames + 1 ≤ Z.1.frames ∧ 8 + (Y'.2.2.1 + 11) + (rmD d' mc' ms').locals ≤ Z.1.locals ∧ (∀ w ∈ Cond.code Y'.1 Y'.2.1 Y'.2.2.1 Y'.2.2.2 :: WS, ∀ (a' : Array Value) (U : State), s.WarmedH U.vm → w.before a' U = true) ∧ (∀ sig, parseMethodDescriptor Y'.1.desc = some sig → n = sig.parameters.length) := by
  obtain ⟨o1, o2, o3, o4, o5⟩ := ok
  refine ⟨hdd.1, ?_, fun w hw a' U hW => ?_, fun sig h => ?_⟩
  · show 8 + (Y'.2.2.1 + 11) + 37 * d' ≤ Z.1.locals
    have := hdd.2
    omega
  · rcases List.mem_cons.mp hw with rfl | hw
    · exact word_at hW (ws_good o1) (X.ts _ o1)
    · exact word_at hW (ws_good hw) (X.ts _ hw)
  · rw [h] at o4
    exact (Option.some.inj o4).symm
theorem g_recv {s : State} {H : Heap} {b ci N : Nat} {fs : List Value} {C : String} {T : u_T} (hK : Kg E s) (hP : va_P E.2.1 vwCl (wl w) H) (hb : wh w b (.inr (ci, fs))) (hc : vwCl[ci]? = some (C, T, N)) : ∃ cellB : Cell, H[b]? = some cellB ∧ cellB.vm.isStatics = false ∧ s.vm.findClass C = some cellB.cls := by
  obtain ⟨q0, hq⟩ := hb.at
  exact va_recv hK.1 hP hc hq
theorem g_callV {Y' : mY} {d' mc' ms' n b ci index N : Nat} {Q' : Option Value → wd → Prop} {As rest : List Value} {fs : List Value} {T : u_T} (hC : Cn E Y' d' mc' ms' (.ref b :: As) w Q') (ok : okY Y' n) (hlk : Cond.methodLink Y.1.cls index Y'.1 ∈ WS) (hin : Cond.instanceMethod Y'.1 ∈ WS) (hse : Cond.selects Y'.1.cls Y'.1 Y'.1 ∈ WS) (hb : wh w b (.inr (ci, fs))) (hc : vwCl[ci]? = some (Y'.1.cls, T, N)) (hd : decode Y.2.1 pc = .ok (.invokevirtual index, 3)) (hst : st = As.reverse ++ .ref b :: rest) (hn : As.length = n) (hcat : (rest.map fun v => v.category).sum ≤ 8) (hdd : d' + 1 ≤ Z.1.frames ∧ 37 * d' + 37 ≤ Z.1.locals) (hce : ce + mc' ≤ Z.1.cells) (hsl : sl + ms' ≤ Z.1.slots)
    (k : ∀ (r : Option Value) (w' : wd), Q' r w' → G E Y Z (pc + 3) lv (r.toList ++ rest) w' (ce + mc') (sl + ms')) : G E Y Z pc lv st w ce sl := by
  intro p e s m args below meth c H locs ls X hl hP hD hS
  obtain ⟨r1, r2, r3, r4⟩ := g_callB (mc' := mc') (ms' := ms') X ok hdd
  have hp := g_pre (av := .ref b :: As) X hP hD hS
  exact g_back (va_runV (C := Y'.1.cls) (As := As) (rest := rest) ⟨X.x, X.b, X.ml, X.own, X.ts⟩ (hC H.size) ⟨⟨rfl, rfl, r1, r2, r3, List.mem_cons_self, X.ts _ ok.1, X.ts _ ok.2.1, ok.2.2.1, r4, X.ts _ hlk⟩, X.ts _ hin, X.ts _ hse⟩ ⟨hp.1, g_recv X.K hP hb hc, hp.2⟩ rfl hn hl.1 hst (lv_room hcat) hd ⟨hce, hsl⟩) hS hD X.A (fun r w' H1 locs1 hq hP1 hD1 hS1 => k r w' hq p e s m args below meth c H1 locs1 ls X hl hP1 hD1 hS1)
theorem g_callVN {Y' : mY} {d' mc' ms' n b ci index N : Nat} {host : String} {Q' : Option Value → wd → Prop} {As rest : List Value} {fs : List Value} {T : u_T} (hC : Cn E Y' d' mc' ms' (.ref b :: As) w Q') (ok : okY Y' n) (hlk : Cond.methodLinkNest Y.1.cls index Y'.1 host ∈ lw_tbl) (hin : Cond.instanceMethod Y'.1 ∈ WS) (hse : Cond.selects Y'.1.cls Y'.1 Y'.1 ∈ WS) (hb : wh w b (.inr (ci, fs))) (hc : vwCl[ci]? = some (Y'.1.cls, T, N)) (hd : decode Y.2.1 pc = .ok (.invokevirtual index, 3)) (hst : st = As.reverse ++ .ref b :: rest) (hn : As.length = n) (hcat : (rest.map fun v => v.category).sum ≤ 8) (hdd : d' + 1 ≤ Z.1.frames ∧ 37 * d' + 37 ≤ Z.1.locals) (hce : ce + mc' ≤ Z.1.cells) (hsl : sl + ms' ≤ Z.1.slots)
    (k : ∀ (r : Option Value) (w' : wd), Q' r w' → G E Y Z (pc + 3) lv (r.toList ++ rest) w' (ce + mc') (sl + ms')) : G E Y Z pc lv st w ce sl := by
  intro p e s m args below meth c H locs ls X hl hP hD hS
  obtain ⟨r1, r2, r3, r4⟩ := g_callB (mc' := mc') (ms' := ms') X ok hdd
  have hp := g_pre (av := .ref b :: As) X hP hD hS
  exact g_back (va_runVN (C := Y'.1.cls) (host := host) (As := As) (rest := rest) ⟨X.x, X.b, X.ml, X.own, X.ts⟩ (hC H.size) ⟨⟨⟨rfl, rfl, r1, r2, r3, List.mem_cons_self⟩, X.ts _ ok.1, X.ts _ ok.2.1, ok.2.2.1, r4, va_Nw.use rfl (X.K.2.1 _ hlk rfl)⟩, X.ts _ hin, X.ts _ hse⟩ ⟨hp.1, g_recv X.K hP hb hc, hp.2⟩ rfl hn hl.1 hst (lv_room hcat) hd ⟨hce, hsl⟩) hS hD X.A (fun r w' H1 locs1 hq hP1 hD1 hS1 => k r w' hq p e s m args below meth c H1 locs1 ls X hl hP1 hD1 hS1)
theorem g_callI {Y' : mY} {d' mc' ms' n b index : Nat} {Q' : Option Value → wd → Prop} {As rest : List Value} (hC : Cn E Y' d' mc' ms' (.ref b :: As) w Q') (ok : okY Y' n) (hrv : Y'.2.2.2 = none) (hnm : Y'.1.name = "<init>") (hlk : Cond.methodLink Y.1.cls index Y'.1 ∈ WS) (hin : Cond.instanceMethod Y'.1 ∈ WS) (hd : decode Y.2.1 pc = .ok (.invokespecial index, 3)) (hst : st = As.reverse ++ .ref b :: rest) (hn : As.length = n) (hcat : (rest.map fun v => v.category).sum ≤ 8) (hdd : d' + 1 ≤ Z.1.frames ∧ 37 * d' + 37 ≤ Z.1.locals) (hce : ce + mc' ≤ Z.1.cells) (hsl : sl + ms' ≤ Z.1.slots)
    (k : ∀ (r : Option Value) (w' : wd), Q' r w' → G E Y Z (pc + 3) lv (r.toList ++ rest) w' (ce + mc') (sl + ms')) : G E Y Z pc lv st w ce sl := by
  intro p e s m args below meth c H locs ls X hl hP hD hS
  obtain ⟨r1, r2, r3, r4⟩ := g_callB (mc' := mc') (ms' := ms') X ok hdd
  have hp := g_pre (av := .ref b :: As) X hP hD hS
  have o1 := ok.1
  have hM := hC H.size
  rw [hrv] at o1 r3 hM
  exact g_back (va_runI (As := As) (rest := rest) ⟨X.x, X.b, X.ml, X.own, X.ts⟩ hM ⟨⟨rfl, rfl, r1, r2, r3, List.mem_cons_self, X.ts _ o1, X.ts _ ok.2.1, ok.2.2.1, r4, X.ts _ hlk⟩, hnm, X.ts _ hin⟩ hp rfl hn hl.1 hst (lv_room hcat) hd ⟨hce, hsl⟩) hS hD X.A (fun r w' H1 locs1 hq hP1 hD1 hS1 => k r w' hq p e s m args below meth c H1 locs1 ls X hl hP1 hD1 hS1)
theorem g_callS {Y' : mY} {d' mc' ms' n index : Nat} {Q' : Option Value → wd → Prop} {As rest : List Value} (hC : Cn E Y' d' mc' ms' As w Q') (ok : okY Y' n) (hlk : Cond.methodLink Y.1.cls index Y'.1 ∈ WS) (hsc : Cond.static Y'.1 ∈ WS) (hd : decode Y.2.1 pc = .ok (.invokestatic index, 3)) (hst : st = As.reverse ++ rest) (hn : As.length = n) (hcat : (rest.map fun v => v.category).sum ≤ 8) (hdd : d' + 1 ≤ Z.1.frames ∧ 37 * d' + 37 ≤ Z.1.locals) (hce : ce + mc' ≤ Z.1.cells) (hsl : sl + ms' ≤ Z.1.slots)
    (k : ∀ (r : Option Value) (w' : wd), Q' r w' → G E Y Z (pc + 3) lv (r.toList ++ rest) w' (ce + mc') (sl + ms')) : G E Y Z pc lv st w ce sl := by
  intro p e s m args below meth c H locs ls X hl hP hD hS
  obtain ⟨r1, r2, r3, r4⟩ := g_callB (mc' := mc') (ms' := ms') X ok hdd
  have hp := g_pre (av := As) X hP hD hS
  exact g_back (va_runS (As := As) (rest := rest) ⟨X.x, X.b, X.ml, X.own, X.ts⟩ (hC H.size) ⟨⟨rfl, rfl, r1, r2, r3, List.mem_cons_self, X.ts _ ok.1, X.ts _ ok.2.1, ok.2.2.1, r4, X.ts _ hlk⟩, X.ts _ hsc⟩ hp rfl hn hl.1 hst (lv_room hcat) hd ⟨hce, hsl⟩) hS hD X.A (fun r w' H1 locs1 hq hP1 hD1 hS1 => k r w' hq p e s m args below meth c H1 locs1 ls X hl hP1 hD1 hS1)
theorem g_callSN {Y' : mY} {d' mc' ms' n index : Nat} {host : String} {Q' : Option Value → wd → Prop} {As rest : List Value} (hC : Cn E Y' d' mc' ms' As w Q') (ok : okY Y' n) (hlk : Cond.methodLinkNest Y.1.cls index Y'.1 host ∈ lw_tbl) (hsc : Cond.static Y'.1 ∈ WS) (hd : decode Y.2.1 pc = .ok (.invokestatic index, 3)) (hst : st = As.reverse ++ rest) (hn : As.length = n) (hcat : (rest.map fun v => v.category).sum ≤ 8) (hdd : d' + 1 ≤ Z.1.frames ∧ 37 * d' + 37 ≤ Z.1.locals) (hce : ce + mc' ≤ Z.1.cells) (hsl : sl + ms' ≤ Z.1.slots)
    (k : ∀ (r : Option Value) (w' : wd), Q' r w' → G E Y Z (pc + 3) lv (r.toList ++ rest) w' (ce + mc') (sl + ms')) : G E Y Z pc lv st w ce sl := by
  intro p e s m args below meth c H locs ls X hl hP hD hS
  obtain ⟨r1, r2, r3, r4⟩ := g_callB (mc' := mc') (ms' := ms') X ok hdd
  have hp := g_pre (av := As) X hP hD hS
  exact g_back (va_runSN (host := host) (As := As) (rest := rest) ⟨X.x, X.b, X.ml, X.own, X.ts⟩ (hC H.size) ⟨⟨⟨rfl, rfl, r1, r2, r3, List.mem_cons_self⟩, X.ts _ ok.1, X.ts _ ok.2.1, ok.2.2.1, r4, va_Nw.use rfl (X.K.2.1 _ hlk rfl)⟩, X.ts _ hsc, trivial⟩ hp rfl hn hl.1 hst (lv_room hcat) hd ⟨hce, hsl⟩) hS hD X.A (fun r w' H1 locs1 hq hP1 hD1 hS1 => k r w' hq p e s m args below meth c H1 locs1 ls X hl hP1 hD1 hS1)
end GH
end
section
/-! the reference's state: its numbers, its rows of numbers -/
abbrev tR : Type := (Nat → Int32) × (Nat → Nat → Int32)
def lnR (k : Nat) : Nat := match k with
  | 0 => 4
  | 1 => 4
  | 2 => 16
  | 3 => 4
  | 4 => 4
  | 5 => 520
  | 6 => 520
  | 7 => 520
  | 8 => 520
  | 9 => 4
  | 10 => 4
  | 11 => 4
  | 12 => 4
  | 13 => 4
  | 14 => 4
  | 15 => 4
  | 16 => 4
  | 17 => 4
  | 18 => 4
  | 19 => 16
  | 20 => 16
  | 21 => 16
  | 22 => 16
  | _ => 448
def kdR (k : Nat) : Nat := match k with
  | 12 => 1
  | 16 => 1
  | 19 => 1
  | _ => 0
def ceR (ad : Nat → Nat) (t : tR) : List Value := [.int (t.1 0), .int (t.1 1), .int (t.1 2), .int (t.1 3), .ref (ad 1), .ref (ad 2), .int (t.1 4), .int (t.1 5), .int (t.1 6), .int (t.1 7), .ref (ad 3), .ref (ad 4), .ref (ad 5), .int (t.1 8), .ref (ad 6), .ref (ad 7), .ref (ad 8), .ref (ad 9), .ref (ad 10), .ref (ad 11), .ref (ad 12), .ref (ad 13), .ref (ad 14), .ref (ad 15), .ref (ad 16), .ref (ad 17), .ref (ad 18), .ref (ad 19), .ref (ad 20), .ref (ad 21), .ref (ad 22), .ref (ad 23), .int (t.1 9), .ref (ad 24)]
def SysR (E : gE) (ad : Nat → Nat) (t : tR) (w : wd) : Prop := wh w (ad 0) (.inr (0, ceR ad t)) ∧ (∀ k, k < 24 → wh w (ad (k + 1)) (.inl (E.2.2.1 (kdR k), lnR k, .inl (t.2 k)))) ∧ ∀ i j, i < 25 → j < 25 → ad i = ad j → i = j
def stA (t : tR) (k j : Nat) (x : Int32) : tR := (t.1, fun k' => if k' = k then upd (t.2 k) j x else t.2 k')
def stF (t : tR) (k : Nat) (x : Int32) : tR := (upd t.1 k x, t.2)
theorem SysR.obj {E : gE} {ad : Nat → Nat} {t : tR} {w : wd} (h : SysR E ad t w) : wh w (ad 0) (.inr (0, ceR ad t)) := h.1
theorem SysR.a0 {E : gE} {ad : Nat → Nat} {t : tR} {w : wd} (h : SysR E ad t w) : wh w (ad 1) (.inl (E.2.2.1 0, 4, .inl (t.2 0))) := h.2.1 0 (by decide)
theorem SysR.a1 {E : gE} {ad : Nat → Nat} {t : tR} {w : wd} (h : SysR E ad t w) : wh w (ad 2) (.inl (E.2.2.1 0, 4, .inl (t.2 1))) := h.2.1 1 (by decide)
theorem SysR.a2 {E : gE} {ad : Nat → Nat} {t : tR} {w : wd} (h : SysR E ad t w) : wh w (ad 3) (.inl (E.2.2.1 0, 16, .inl (t.2 2))) := h.2.1 2 (by decide)
theorem SysR.a3 {E : gE} {ad : Nat → Nat} {t : tR} {w : wd} (h : SysR E ad t w) : wh w (ad 4) (.inl (E.2.2.1 0, 4, .inl (t.2 3))) := h.2.1 3 (by decide)
theorem SysR.a4 {E : gE} {ad : Nat → Nat} {t : tR} {w : wd} (h : SysR E ad t w) : wh w (ad 5) (.inl (E.2.2.1 0, 4, .inl (t.2 4))) := h.2.1 4 (by decide)
theorem SysR.a5 {E : gE} {ad : Nat → Nat} {t : tR} {w : wd} (h : SysR E ad t w) : wh w (ad 6) (.inl (E.2.2.1 0, 520, .inl (t.2 5))) := h.2.1 5 (by decide)
theorem SysR.a6 {E : gE} {ad : Nat → Nat} {t : tR} {w : wd} (h : SysR E ad t w) : wh w (ad 7) (.inl (E.2.2.1 0, 520, .inl (t.2 6))) := h.2.1 6 (by decide)
theorem SysR.a7 {E : gE} {ad : Nat → Nat} {t : tR} {w : wd} (h : SysR E ad t w) : wh w (ad 8) (.inl (E.2.2.1 0, 520, .inl (t.2 7))) := h.2.1 7 (by decide)
theorem SysR.a8 {E : gE} {ad : Nat → Nat} {t : tR} {w : wd} (h : SysR E ad t w) : wh w (ad 9) (.inl (E.2.2.1 0, 520, .inl (t.2 8))) := h.2.1 8 (by decide)
theorem SysR.a9 {E : gE} {ad : Nat → Nat} {t : tR} {w : wd} (h : SysR E ad t w) : wh w (ad 10) (.inl (E.2.2.1 0, 4, .inl (t.2 9))) := h.2.1 9 (by decide)
theorem SysR.a10 {E : gE} {ad : Nat → Nat} {t : tR} {w : wd} (h : SysR E ad t w) : wh w (ad 11) (.inl (E.2.2.1 0, 4, .inl (t.2 10))) := h.2.1 10 (by decide)
theorem SysR.a11 {E : gE} {ad : Nat → Nat} {t : tR} {w : wd} (h : SysR E ad t w) : wh w (ad 12) (.inl (E.2.2.1 0, 4, .inl (t.2 11))) := h.2.1 11 (by decide)
theorem SysR.a12 {E : gE} {ad : Nat → Nat} {t : tR} {w : wd} (h : SysR E ad t w) : wh w (ad 13) (.inl (E.2.2.1 1, 4, .inl (t.2 12))) := h.2.1 12 (by decide)
theorem SysR.a13 {E : gE} {ad : Nat → Nat} {t : tR} {w : wd} (h : SysR E ad t w) : wh w (ad 14) (.inl (E.2.2.1 0, 4, .inl (t.2 13))) := h.2.1 13 (by decide)
theorem SysR.a14 {E : gE} {ad : Nat → Nat} {t : tR} {w : wd} (h : SysR E ad t w) : wh w (ad 15) (.inl (E.2.2.1 0, 4, .inl (t.2 14))) := h.2.1 14 (by decide)
theorem SysR.a15 {E : gE} {ad : Nat → Nat} {t : tR} {w : wd} (h : SysR E ad t w) : wh w (ad 16) (.inl (E.2.2.1 0, 4, .inl (t.2 15))) := h.2.1 15 (by decide)
theorem SysR.a16 {E : gE} {ad : Nat → Nat} {t : tR} {w : wd} (h : SysR E ad t w) : wh w (ad 17) (.inl (E.2.2.1 1, 4, .inl (t.2 16))) := h.2.1 16 (by decide)
theorem SysR.a17 {E : gE} {ad : Nat → Nat} {t : tR} {w : wd} (h : SysR E ad t w) : wh w (ad 18) (.inl (E.2.2.1 0, 4, .inl (t.2 17))) := h.2.1 17 (by decide)
theorem SysR.a18 {E : gE} {ad : Nat → Nat} {t : tR} {w : wd} (h : SysR E ad t w) : wh w (ad 19) (.inl (E.2.2.1 0, 4, .inl (t.2 18))) := h.2.1 18 (by decide)
theorem SysR.a19 {E : gE} {ad : Nat → Nat} {t : tR} {w : wd} (h : SysR E ad t w) : wh w (ad 20) (.inl (E.2.2.1 1, 16, .inl (t.2 19))) := h.2.1 19 (by decide)
theorem SysR.a20 {E : gE} {ad : Nat → Nat} {t : tR} {w : wd} (h : SysR E ad t w) : wh w (ad 21) (.inl (E.2.2.1 0, 16, .inl (t.2 20))) := h.2.1 20 (by decide)
theorem SysR.a21 {E : gE} {ad : Nat → Nat} {t : tR} {w : wd} (h : SysR E ad t w) : wh w (ad 22) (.inl (E.2.2.1 0, 16, .inl (t.2 21))) := h.2.1 21 (by decide)
theorem SysR.a22 {E : gE} {ad : Nat → Nat} {t : tR} {w : wd} (h : SysR E ad t w) : wh w (ad 23) (.inl (E.2.2.1 0, 16, .inl (t.2 22))) := h.2.1 22 (by decide)
theorem SysR.a23 {E : gE} {ad : Nat → Nat} {t : tR} {w : wd} (h : SysR E ad t w) : wh w (ad 24) (.inl (E.2.2.1 0, 448, .inl (t.2 23))) := h.2.1 23 (by decide)
theorem SysR.st {E : gE} {ad : Nat → Nat} {t : tR} {w : wd} (h : SysR E ad t w) {k j : Nat} {x : Int32} (hk : k < 24) : SysR E ad (stA t k j x) (wu w (ad (k + 1)) (.inl (E.2.2.1 (kdR k), lnR k, .inl (upd (t.2 k) j x)))) := by
  obtain ⟨h1, h2, h3⟩ := h
  refine ⟨h1.un (fun z => ?_), fun k' hk' => ?_, h3⟩
  · have := h3 _ _ (by omega) (by omega) z
    omega
  · by_cases he : k' = k
    · subst he
      have e : (stA t k' j x).2 k' = upd (t.2 k') j x := if_pos rfl
      rw [e]
      exact (h2 k' hk').us
    · have e : (stA t k j x).2 k' = t.2 k' := if_neg he
      rw [e]
      refine (h2 k' hk').un (fun z => ?_)
      have := h3 _ _ (by omega) (by omega) z
      omega
theorem SysR.sf {E : gE} {ad : Nat → Nat} {t t' : tR} {w : wd} (h : SysR E ad t w) {fs : List Value} (e1 : fs = ceR ad t') (e2 : t'.2 = t.2) : SysR E ad t' (wu w (ad 0) (.inr (0, fs))) := by
  obtain ⟨h1, h2, h3⟩ := h
  subst e1
  refine ⟨h1.us, fun k hk => ?_, h3⟩
  rw [e2]
  refine (h2 k hk).un (fun z => ?_)
  have := h3 _ _ (by omega) (by omega) z
  omega
theorem lnR_lt (k : Nat) : lnR k < 2 ^ 31 := by
  unfold lnR
  split <;> decide
section RR
variable {E : gE} {Y : mY} {Z : gZ} {pc : Nat} {lv : List (Nat × Value)} {st : List Value} {w : wd} {ce sl : Nat} {ad : Nat → Nat} {t : tR}
theorem r_iald {i : Int32} {k j : Nat} (hd : decode Y.2.1 pc = .ok (.iaload, 1)) (hs : SysR E ad t w) (hk : k < 24) (hkd : kdR k = 0) (hi : i = nI j) (hj : j < lnR k) (kk : G E Y Z (pc + 1) lv (.int (t.2 k j) :: st) w ce sl) : G E Y Z pc lv (.int i :: .ref (ad (k + 1)) :: st) w ce sl := by
  have h := hs.2.1 k hk
  rw [hkd] at h
  exact g_iald hd h hi hj (lnR_lt k) kk
theorem r_zald {i : Int32} {k j : Nat} (hd : decode Y.2.1 pc = .ok (.baload, 1)) (hs : SysR E ad t w) (hk : k < 24) (hkd : kdR k = 1) (hi : i = nI j) (hj : j < lnR k) (kk : G E Y Z (pc + 1) lv (.int (t.2 k j) :: st) w ce sl) : G E Y Z pc lv (.int i :: .ref (ad (k + 1)) :: st) w ce sl := by
  have h := hs.2.1 k hk
  rw [hkd] at h
  exact g_zald hd h hi hj (lnR_lt k) kk
theorem r_iast {i x : Int32} {k j : Nat} (hd : decode Y.2.1 pc = .ok (.iastore, 1)) (hs : SysR E ad t w) (hk : k < 24) (hkd : kdR k = 0) (hi : i = nI j) (hj : j < lnR k) (kk : ∀ w' : wd, SysR E ad (stA t k j x) w' → G E Y Z (pc + 1) lv st w' ce sl) : G E Y Z pc lv (.int x :: .int i :: .ref (ad (k + 1)) :: st) w ce sl := by
  have h := hs.2.1 k hk
  have h2 := hs.st (j := j) (x := x) hk
  rw [hkd] at h h2
  exact g_iast hd h hi hj (lnR_lt k) (kk _ h2)
theorem r_zast {i x : Int32} {k j : Nat} (hd : decode Y.2.1 pc = .ok (.bastore, 1)) (hs : SysR E ad t w) (hk : k < 24) (hkd : kdR k = 1) (hi : i = nI j) (hj : j < lnR k) (hx : vp_nar .boolean x = x) (kk : ∀ w' : wd, SysR E ad (stA t k j x) w' → G E Y Z (pc + 1) lv st w' ce sl) : G E Y Z pc lv (.int x :: .int i :: .ref (ad (k + 1)) :: st) w ce sl := by
  have h := hs.2.1 k hk
  have h2 := hs.st (j := j) (x := x) hk
  rw [hkd] at h h2
  exact g_zast hd h hi hj (lnR_lt k) hx (kk _ h2)
/-- another writing of the number on top -/
theorem g_norm {x y : Int32} (h : x = y) (k : G E Y Z pc lv (.int y :: st) w ce sl) : G E Y Z pc lv (.int x :: st) w ce sl := by
  subst h
  exact k
end RR
theorem nI_dec (a : Nat) : nI a + Int32.ofInt (-1) = nI a - 1 := by
  rw [Int32.sub_eq_add_neg]
  rfl
/-- how many messages, how many writes wait -/
def pN (t : tR) : Nat := (t.1 9).toNatClampNeg
def wN (t : tR) : Nat := (t.1 8).toNatClampNeg
def okP (t : tR) : Prop := t.1 9 = nI (pN t) ∧ pN t ≤ 64
def okW (t : tR) : Prop := t.1 8 = nI (wN t) ∧ wN t ≤ 519
def saA (t : tR) (k : Nat) (g : Nat → Int32) : tR := (t.1, fun k' => if k' = k then g else t.2 k')
theorem stA_saA (t : tR) (k j : Nat) (g : Nat → Int32) (x : Int32) : stA (saA t k g) k j x = saA t k (upd g j x) := by
  refine Prod.ext rfl (funext fun k' => ?_)
  show (if k' = k then upd (if k = k then g else t.2 k) j x else if k' = k then g else t.2 k') = if k' = k then upd g j x else t.2 k'
  by_cases h : k' = k
  · rw [if_pos h, if_pos rfl, if_pos h]
  · rw [if_neg h, if_neg h, if_neg h]
theorem saA_at (t : tR) (k : Nat) (g : Nat → Int32) : (saA t k g).2 k = g := if_pos rfl
theorem saA_ne (t : tR) {k k' : Nat} (g : Nat → Int32) (h : k' ≠ k) : (saA t k g).2 k' = t.2 k' := if_neg h
theorem saA_self (t : tR) (k : Nat) : saA t k (t.2 k) = t := by
  refine Prod.ext rfl (funext fun k' => ?_)
  show (if k' = k then t.2 k else t.2 k') = t.2 k'
  by_cases h : k' = k
  · rw [if_pos h, h]
  · rw [if_neg h]
theorem ix_mul (a b : Nat) : (Int32.ofNat a) * nI b = nI (a * b) := pk_mul a b
end
section
abbrev y_R_init : mY := (⟨"LeasedFilesModel", "<init>", "(IIII)V"⟩, prog_10_method_1_code, 5, none)
set_option maxRecDepth 100000 in
theorem ok_R_init : okY y_R_init 4 := ⟨ws_at 661 rfl rfl, ws_at 12 (by decide +kernel) rfl, ⟨by decide +kernel, by decide +kernel⟩, by decide +kernel, by decide⟩
theorem in_R_init : Cond.instanceMethod y_R_init.1 ∈ WS := ws_at 660 (by decide +kernel) rfl
abbrev y_R_read : mY := (⟨"LeasedFilesModel", "read", "(II)I"⟩, prog_10_method_10_code, 4, (some .int))
set_option maxRecDepth 100000 in
theorem ok_R_read : okY y_R_read 2 := ⟨ws_at 770 rfl rfl, ws_at 12 (by decide +kernel) rfl, ⟨by decide +kernel, by decide +kernel⟩, by decide +kernel, by decide⟩
theorem in_R_read : Cond.instanceMethod y_R_read.1 ∈ WS := ws_at 768 (by decide +kernel) rfl
theorem se_R_read : Cond.selects "LeasedFilesModel" y_R_read.1 y_R_read.1 ∈ WS := ws_at 769 (by decide +kernel) rfl
abbrev y_R_isClient : mY := (⟨"LeasedFilesModel", "isClient", "(I)Z"⟩, prog_10_method_2_code, 2, (some .boolean))
set_option maxRecDepth 100000 in
theorem ok_R_isClient : okY y_R_isClient 1 := ⟨ws_at 774 rfl rfl, ws_at 12 (by decide +kernel) rfl, ⟨by decide +kernel, by decide +kernel⟩, by decide +kernel, by decide⟩
theorem in_R_isClient : Cond.instanceMethod y_R_isClient.1 ∈ WS := ws_at 773 (by decide +kernel) rfl
theorem se_R_isClient : Cond.selects "LeasedFilesModel" y_R_isClient.1 y_R_isClient.1 ∈ WS := ws_sel 22 (q := (y_R_isClient.1, 34)) (by decide +kernel)
abbrev y_R_isFile : mY := (⟨"LeasedFilesModel", "isFile", "(I)Z"⟩, prog_10_method_3_code, 2, (some .boolean))
set_option maxRecDepth 100000 in
theorem ok_R_isFile : okY y_R_isFile 1 := ⟨ws_at 778 rfl rfl, ws_at 12 (by decide +kernel) rfl, ⟨by decide +kernel, by decide +kernel⟩, by decide +kernel, by decide⟩
theorem in_R_isFile : Cond.instanceMethod y_R_isFile.1 ∈ WS := ws_at 777 (by decide +kernel) rfl
theorem se_R_isFile : Cond.selects "LeasedFilesModel" y_R_isFile.1 y_R_isFile.1 ∈ WS := ws_sel 23 (q := (y_R_isFile.1, 34)) (by decide +kernel)
abbrev y_R_begin : mY := (⟨"LeasedFilesModel", "begin", "(IIZI)V"⟩, prog_10_method_8_code, 5, none)
set_option maxRecDepth 100000 in
theorem ok_R_begin : okY y_R_begin 4 := ⟨ws_at 782 rfl rfl, ws_at 12 (by decide +kernel) rfl, ⟨by decide +kernel, by decide +kernel⟩, by decide +kernel, by decide⟩
theorem in_R_begin : Cond.instanceMethod y_R_begin.1 ∈ WS := ws_at 781 (by decide +kernel) rfl
theorem se_R_begin : Cond.selects "LeasedFilesModel" y_R_begin.1 y_R_begin.1 ∈ WS := ws_sel 24 (q := (y_R_begin.1, 34)) (by decide +kernel)
abbrev y_R_finish : mY := (⟨"LeasedFilesModel", "finish", "(III)V"⟩, prog_10_method_9_code, 4, none)
set_option maxRecDepth 100000 in
theorem ok_R_finish : okY y_R_finish 3 := ⟨ws_at 786 rfl rfl, ws_at 12 (by decide +kernel) rfl, ⟨by decide +kernel, by decide +kernel⟩, by decide +kernel, by decide⟩
theorem in_R_finish : Cond.instanceMethod y_R_finish.1 ∈ WS := ws_at 785 (by decide +kernel) rfl
theorem se_R_finish : Cond.selects "LeasedFilesModel" y_R_finish.1 y_R_finish.1 ∈ WS := ws_sel 25 (q := (y_R_finish.1, 34)) (by decide +kernel)
abbrev y_R_sendOperation : mY := (⟨"LeasedFilesModel", "sendOperation", "(I)V"⟩, prog_10_method_7_code, 2, none)
set_option maxRecDepth 100000 in
theorem ok_R_sendOperation : okY y_R_sendOperation 1 := ⟨ws_at 790 rfl rfl, ws_at 12 (by decide +kernel) rfl, ⟨by decide +kernel, by decide +kernel⟩, by decide +kernel, by decide⟩
theorem in_R_sendOperation : Cond.instanceMethod y_R_sendOperation.1 ∈ WS := ws_at 789 (by decide +kernel) rfl
theorem se_R_sendOperation : Cond.selects "LeasedFilesModel" y_R_sendOperation.1 y_R_sendOperation.1 ∈ WS := ws_sel 26 (q := (y_R_sendOperation.1, 34)) (by decide +kernel)
abbrev y_R_send : mY := (⟨"LeasedFilesModel", "send", "(IIIIIII)V"⟩, prog_10_method_4_code, 9, none)
set_option maxRecDepth 100000 in
theorem ok_R_send : okY y_R_send 7 := ⟨ws_at 794 rfl rfl, ws_at 12 (by decide +kernel) rfl, ⟨by decide +kernel, by decide +kernel⟩, by decide +kernel, by decide⟩
theorem in_R_send : Cond.instanceMethod y_R_send.1 ∈ WS := ws_at 793 (by decide +kernel) rfl
theorem se_R_send : Cond.selects "LeasedFilesModel" y_R_send.1 y_R_send.1 ∈ WS := ws_sel 27 (q := (y_R_send.1, 34)) (by decide +kernel)
abbrev y_R_write : mY := (⟨"LeasedFilesModel", "write", "(III)I"⟩, prog_10_method_11_code, 4, (some .int))
set_option maxRecDepth 100000 in
theorem ok_R_write : okY y_R_write 3 := ⟨ws_at 798 rfl rfl, ws_at 12 (by decide +kernel) rfl, ⟨by decide +kernel, by decide +kernel⟩, by decide +kernel, by decide⟩
theorem in_R_write : Cond.instanceMethod y_R_write.1 ∈ WS := ws_at 796 (by decide +kernel) rfl
theorem se_R_write : Cond.selects "LeasedFilesModel" y_R_write.1 y_R_write.1 ∈ WS := ws_at 797 (by decide +kernel) rfl
abbrev y_R_retry : mY := (⟨"LeasedFilesModel", "retry", "(I)I"⟩, prog_10_method_12_code, 2, (some .int))
set_option maxRecDepth 100000 in
theorem ok_R_retry : okY y_R_retry 1 := ⟨ws_at 802 rfl rfl, ws_at 12 (by decide +kernel) rfl, ⟨by decide +kernel, by decide +kernel⟩, by decide +kernel, by decide⟩
theorem in_R_retry : Cond.instanceMethod y_R_retry.1 ∈ WS := ws_at 800 (by decide +kernel) rfl
theorem se_R_retry : Cond.selects "LeasedFilesModel" y_R_retry.1 y_R_retry.1 ∈ WS := ws_at 801 (by decide +kernel) rfl
abbrev y_R_status : mY := (⟨"LeasedFilesModel", "status", "(I)I"⟩, prog_10_method_13_code, 2, (some .int))
set_option maxRecDepth 100000 in
theorem ok_R_status : okY y_R_status 1 := ⟨ws_at 806 rfl rfl, ws_at 12 (by decide +kernel) rfl, ⟨by decide +kernel, by decide +kernel⟩, by decide +kernel, by decide⟩
theorem in_R_status : Cond.instanceMethod y_R_status.1 ∈ WS := ws_at 804 (by decide +kernel) rfl
theorem se_R_status : Cond.selects "LeasedFilesModel" y_R_status.1 y_R_status.1 ∈ WS := ws_at 805 (by decide +kernel) rfl
abbrev y_R_result : mY := (⟨"LeasedFilesModel", "result", "(I)I"⟩, prog_10_method_14_code, 2, (some .int))
set_option maxRecDepth 100000 in
theorem ok_R_result : okY y_R_result 1 := ⟨ws_at 810 rfl rfl, ws_at 12 (by decide +kernel) rfl, ⟨by decide +kernel, by decide +kernel⟩, by decide +kernel, by decide⟩
theorem in_R_result : Cond.instanceMethod y_R_result.1 ∈ WS := ws_at 808 (by decide +kernel) rfl
theorem se_R_result : Cond.selects "LeasedFilesModel" y_R_result.1 y_R_result.1 ∈ WS := ws_at 809 (by decide +kernel) rfl
abbrev y_R_version : mY := (⟨"LeasedFilesModel", "version", "(I)I"⟩, prog_10_method_15_code, 2, (some .int))
set_option maxRecDepth 100000 in
theorem ok_R_version : okY y_R_version 1 := ⟨ws_at 814 rfl rfl, ws_at 12 (by decide +kernel) rfl, ⟨by decide +kernel, by decide +kernel⟩, by decide +kernel, by decide⟩
theorem in_R_version : Cond.instanceMethod y_R_version.1 ∈ WS := ws_at 812 (by decide +kernel) rfl
theorem se_R_version : Cond.selects "LeasedFilesModel" y_R_version.1 y_R_version.1 ∈ WS := ws_at 813 (by decide +kernel) rfl
abbrev y_R_deliver : mY := (⟨"LeasedFilesModel", "deliver", "(I)I"⟩, prog_10_method_27_code, 11, (some .int))
set_option maxRecDepth 100000 in
theorem ok_R_deliver : okY y_R_deliver 1 := ⟨ws_at 818 rfl rfl, ws_at 12 (by decide +kernel) rfl, ⟨by decide +kernel, by decide +kernel⟩, by decide +kernel, by decide⟩
theorem in_R_deliver : Cond.instanceMethod y_R_deliver.1 ∈ WS := ws_at 816 (by decide +kernel) rfl
theorem se_R_deliver : Cond.selects "LeasedFilesModel" y_R_deliver.1 y_R_deliver.1 ∈ WS := ws_at 817 (by decide +kernel) rfl
abbrev y_R_isMessage : mY := (⟨"LeasedFilesModel", "isMessage", "(I)Z"⟩, prog_10_method_6_code, 2, (some .boolean))
set_option maxRecDepth 100000 in
theorem ok_R_isMessage : okY y_R_isMessage 1 := ⟨ws_at 822 rfl rfl, ws_at 12 (by decide +kernel) rfl, ⟨by decide +kernel, by decide +kernel⟩, by decide +kernel, by decide⟩
theorem in_R_isMessage : Cond.instanceMethod y_R_isMessage.1 ∈ WS := ws_at 821 (by decide +kernel) rfl
theorem se_R_isMessage : Cond.selects "LeasedFilesModel" y_R_isMessage.1 y_R_isMessage.1 ∈ WS := ws_sel 28 (q := (y_R_isMessage.1, 34)) (by decide +kernel)
abbrev y_R_takeOut : mY := (⟨"LeasedFilesModel", "takeOut", "(I)V"⟩, prog_10_method_5_code, 3, none)
set_option maxRecDepth 100000 in
theorem ok_R_takeOut : okY y_R_takeOut 1 := ⟨ws_at 826 rfl rfl, ws_at 12 (by decide +kernel) rfl, ⟨by decide +kernel, by decide +kernel⟩, by decide +kernel, by decide⟩
theorem in_R_takeOut : Cond.instanceMethod y_R_takeOut.1 ∈ WS := ws_at 825 (by decide +kernel) rfl
theorem se_R_takeOut : Cond.selects "LeasedFilesModel" y_R_takeOut.1 y_R_takeOut.1 ∈ WS := ws_sel 29 (q := (y_R_takeOut.1, 34)) (by decide +kernel)
abbrev y_R_given : mY := (⟨"LeasedFilesModel", "given", "(IIIIII)V"⟩, prog_10_method_16_code, 8, none)
set_option maxRecDepth 100000 in
theorem ok_R_given : okY y_R_given 6 := ⟨ws_at 830 rfl rfl, ws_at 12 (by decide +kernel) rfl, ⟨by decide +kernel, by decide +kernel⟩, by decide +kernel, by decide⟩
theorem in_R_given : Cond.instanceMethod y_R_given.1 ∈ WS := ws_at 829 (by decide +kernel) rfl
theorem se_R_given : Cond.selects "LeasedFilesModel" y_R_given.1 y_R_given.1 ∈ WS := ws_sel 30 (q := (y_R_given.1, 34)) (by decide +kernel)
abbrev y_R_stored : mY := (⟨"LeasedFilesModel", "stored", "(III)V"⟩, prog_10_method_17_code, 4, none)
set_option maxRecDepth 100000 in
theorem ok_R_stored : okY y_R_stored 3 := ⟨ws_at 834 rfl rfl, ws_at 12 (by decide +kernel) rfl, ⟨by decide +kernel, by decide +kernel⟩, by decide +kernel, by decide⟩
theorem in_R_stored : Cond.instanceMethod y_R_stored.1 ∈ WS := ws_at 833 (by decide +kernel) rfl
theorem se_R_stored : Cond.selects "LeasedFilesModel" y_R_stored.1 y_R_stored.1 ∈ WS := ws_sel 31 (q := (y_R_stored.1, 34)) (by decide +kernel)
abbrev y_R_recalled : mY := (⟨"LeasedFilesModel", "recalled", "(IIIII)V"⟩, prog_10_method_18_code, 6, none)
set_option maxRecDepth 100000 in
theorem ok_R_recalled : okY y_R_recalled 5 := ⟨ws_at 838 rfl rfl, ws_at 12 (by decide +kernel) rfl, ⟨by decide +kernel, by decide +kernel⟩, by decide +kernel, by decide⟩
theorem in_R_recalled : Cond.instanceMethod y_R_recalled.1 ∈ WS := ws_at 837 (by decide +kernel) rfl
theorem se_R_recalled : Cond.selects "LeasedFilesModel" y_R_recalled.1 y_R_recalled.1 ∈ WS := ws_sel 32 (q := (y_R_recalled.1, 34)) (by decide +kernel)
abbrev y_R_asked : mY := (⟨"LeasedFilesModel", "asked", "(III)V"⟩, prog_10_method_21_code, 5, none)
set_option maxRecDepth 100000 in
theorem ok_R_asked : okY y_R_asked 3 := ⟨ws_at 842 rfl rfl, ws_at 12 (by decide +kernel) rfl, ⟨by decide +kernel, by decide +kernel⟩, by decide +kernel, by decide⟩
theorem in_R_asked : Cond.instanceMethod y_R_asked.1 ∈ WS := ws_at 841 (by decide +kernel) rfl
theorem se_R_asked : Cond.selects "LeasedFilesModel" y_R_asked.1 y_R_asked.1 ∈ WS := ws_sel 33 (q := (y_R_asked.1, 34)) (by decide +kernel)
abbrev y_R_firstOf : mY := (⟨"LeasedFilesModel", "firstOf", "(I)I"⟩, prog_10_method_20_code, 4, (some .int))
set_option maxRecDepth 100000 in
theorem ok_R_firstOf : okY y_R_firstOf 1 := ⟨ws_at 846 rfl rfl, ws_at 12 (by decide +kernel) rfl, ⟨by decide +kernel, by decide +kernel⟩, by decide +kernel, by decide⟩
theorem in_R_firstOf : Cond.instanceMethod y_R_firstOf.1 ∈ WS := ws_at 845 (by decide +kernel) rfl
theorem se_R_firstOf : Cond.selects "LeasedFilesModel" y_R_firstOf.1 y_R_firstOf.1 ∈ WS := ws_sel 34 (q := (y_R_firstOf.1, 34)) (by decide +kernel)
abbrev y_R_putCame : mY := (⟨"LeasedFilesModel", "putCame", "(IIII)V"⟩, prog_10_method_22_code, 8, none)
set_option maxRecDepth 100000 in
theorem ok_R_putCame : okY y_R_putCame 4 := ⟨ws_at 850 rfl rfl, ws_at 12 (by decide +kernel) rfl, ⟨by decide +kernel, by decide +kernel⟩, by decide +kernel, by decide⟩
theorem in_R_putCame : Cond.instanceMethod y_R_putCame.1 ∈ WS := ws_at 849 (by decide +kernel) rfl
theorem se_R_putCame : Cond.selects "LeasedFilesModel" y_R_putCame.1 y_R_putCame.1 ∈ WS := ws_sel 35 (q := (y_R_putCame.1, 34)) (by decide +kernel)
abbrev y_R_isLeased : mY := (⟨"LeasedFilesModel", "isLeased", "(II)Z"⟩, prog_10_method_19_code, 3, (some .boolean))
set_option maxRecDepth 100000 in
theorem ok_R_isLeased : okY y_R_isLeased 2 := ⟨ws_at 854 rfl rfl, ws_at 12 (by decide +kernel) rfl, ⟨by decide +kernel, by decide +kernel⟩, by decide +kernel, by decide⟩
theorem in_R_isLeased : Cond.instanceMethod y_R_isLeased.1 ∈ WS := ws_at 853 (by decide +kernel) rfl
theorem se_R_isLeased : Cond.selects "LeasedFilesModel" y_R_isLeased.1 y_R_isLeased.1 ∈ WS := ws_sel 36 (q := (y_R_isLeased.1, 34)) (by decide +kernel)
abbrev y_R_freed : mY := (⟨"LeasedFilesModel", "freed", "(IIIII)V"⟩, prog_10_method_23_code, 7, none)
set_option maxRecDepth 100000 in
theorem ok_R_freed : okY y_R_freed 5 := ⟨ws_at 858 rfl rfl, ws_at 12 (by decide +kernel) rfl, ⟨by decide +kernel, by decide +kernel⟩, by decide +kernel, by decide⟩
theorem in_R_freed : Cond.instanceMethod y_R_freed.1 ∈ WS := ws_at 857 (by decide +kernel) rfl
theorem se_R_freed : Cond.selects "LeasedFilesModel" y_R_freed.1 y_R_freed.1 ∈ WS := ws_sel 37 (q := (y_R_freed.1, 34)) (by decide +kernel)
abbrev y_R_storeAll : mY := (⟨"LeasedFilesModel", "storeAll", "()I"⟩, prog_10_method_26_code, 4, (some .int))
set_option maxRecDepth 100000 in
theorem ok_R_storeAll : okY y_R_storeAll 0 := ⟨ws_at 862 rfl rfl, ws_at 12 (by decide +kernel) rfl, ⟨by decide +kernel, by decide +kernel⟩, by decide +kernel, by decide⟩
theorem in_R_storeAll : Cond.instanceMethod y_R_storeAll.1 ∈ WS := ws_at 861 (by decide +kernel) rfl
theorem se_R_storeAll : Cond.selects "LeasedFilesModel" y_R_storeAll.1 y_R_storeAll.1 ∈ WS := ws_sel 38 (q := (y_R_storeAll.1, 34)) (by decide +kernel)
abbrev y_R_isFree : mY := (⟨"LeasedFilesModel", "isFree", "(I)Z"⟩, prog_10_method_24_code, 4, (some .boolean))
set_option maxRecDepth 100000 in
theorem ok_R_isFree : okY y_R_isFree 1 := ⟨ws_at 866 rfl rfl, ws_at 12 (by decide +kernel) rfl, ⟨by decide +kernel, by decide +kernel⟩, by decide +kernel, by decide⟩
theorem in_R_isFree : Cond.instanceMethod y_R_isFree.1 ∈ WS := ws_at 865 (by decide +kernel) rfl
theorem se_R_isFree : Cond.selects "LeasedFilesModel" y_R_isFree.1 y_R_isFree.1 ∈ WS := ws_sel 39 (q := (y_R_isFree.1, 34)) (by decide +kernel)
abbrev y_R_store : mY := (⟨"LeasedFilesModel", "store", "(I)V"⟩, prog_10_method_25_code, 6, none)
set_option maxRecDepth 100000 in
theorem ok_R_store : okY y_R_store 1 := ⟨ws_at 870 rfl rfl, ws_at 12 (by decide +kernel) rfl, ⟨by decide +kernel, by decide +kernel⟩, by decide +kernel, by decide⟩
theorem in_R_store : Cond.instanceMethod y_R_store.1 ∈ WS := ws_at 869 (by decide +kernel) rfl
theorem se_R_store : Cond.selects "LeasedFilesModel" y_R_store.1 y_R_store.1 ∈ WS := ws_sel 40 (q := (y_R_store.1, 34)) (by decide +kernel)
abbrev y_R_lose : mY := (⟨"LeasedFilesModel", "lose", "(I)Z"⟩, prog_10_method_28_code, 2, (some .boolean))
set_option maxRecDepth 100000 in
theorem ok_R_lose : okY y_R_lose 1 := ⟨ws_at 874 rfl rfl, ws_at 12 (by decide +kernel) rfl, ⟨by decide +kernel, by decide +kernel⟩, by decide +kernel, by decide⟩
theorem in_R_lose : Cond.instanceMethod y_R_lose.1 ∈ WS := ws_at 872 (by decide +kernel) rfl
theorem se_R_lose : Cond.selects "LeasedFilesModel" y_R_lose.1 y_R_lose.1 ∈ WS := ws_at 873 (by decide +kernel) rfl
abbrev y_R_pending : mY := (⟨"LeasedFilesModel", "pending", "()I"⟩, prog_10_method_29_code, 1, (some .int))
set_option maxRecDepth 100000 in
theorem ok_R_pending : okY y_R_pending 0 := ⟨ws_at 878 rfl rfl, ws_at 12 (by decide +kernel) rfl, ⟨by decide +kernel, by decide +kernel⟩, by decide +kernel, by decide⟩
theorem in_R_pending : Cond.instanceMethod y_R_pending.1 ∈ WS := ws_at 876 (by decide +kernel) rfl
theorem se_R_pending : Cond.selects "LeasedFilesModel" y_R_pending.1 y_R_pending.1 ∈ WS := ws_at 877 (by decide +kernel) rfl
abbrev y_R_message : mY := (⟨"LeasedFilesModel", "message", "(II)I"⟩, prog_10_method_30_code, 3, (some .int))
set_option maxRecDepth 100000 in
theorem ok_R_message : okY y_R_message 2 := ⟨ws_at 882 rfl rfl, ws_at 12 (by decide +kernel) rfl, ⟨by decide +kernel, by decide +kernel⟩, by decide +kernel, by decide⟩
theorem in_R_message : Cond.instanceMethod y_R_message.1 ∈ WS := ws_at 880 (by decide +kernel) rfl
theorem se_R_message : Cond.selects "LeasedFilesModel" y_R_message.1 y_R_message.1 ∈ WS := ws_at 881 (by decide +kernel) rfl
abbrev y_R_tick : mY := (⟨"LeasedFilesModel", "tick", "(I)I"⟩, prog_10_method_31_code, 2, (some .int))
set_option maxRecDepth 100000 in
theorem ok_R_tick : okY y_R_tick 1 := ⟨ws_at 886 rfl rfl, ws_at 12 (by decide +kernel) rfl, ⟨by decide +kernel, by decide +kernel⟩, by decide +kernel, by decide⟩
theorem in_R_tick : Cond.instanceMethod y_R_tick.1 ∈ WS := ws_at 884 (by decide +kernel) rfl
theorem se_R_tick : Cond.selects "LeasedFilesModel" y_R_tick.1 y_R_tick.1 ∈ WS := ws_at 885 (by decide +kernel) rfl
abbrev y_R_pass : mY := (⟨"LeasedFilesModel", "pass", "(II)I"⟩, prog_10_method_32_code, 3, (some .int))
set_option maxRecDepth 100000 in
theorem ok_R_pass : okY y_R_pass 2 := ⟨ws_at 890 rfl rfl, ws_at 12 (by decide +kernel) rfl, ⟨by decide +kernel, by decide +kernel⟩, by decide +kernel, by decide⟩
theorem in_R_pass : Cond.instanceMethod y_R_pass.1 ∈ WS := ws_at 888 (by decide +kernel) rfl
theorem se_R_pass : Cond.selects "LeasedFilesModel" y_R_pass.1 y_R_pass.1 ∈ WS := ws_at 889 (by decide +kernel) rfl
abbrev y_R_crash : mY := (⟨"LeasedFilesModel", "crash", "(I)I"⟩, prog_10_method_33_code, 4, (some .int))
set_option maxRecDepth 100000 in
theorem ok_R_crash : okY y_R_crash 1 := ⟨ws_at 894 rfl rfl, ws_at 12 (by decide +kernel) rfl, ⟨by decide +kernel, by decide +kernel⟩, by decide +kernel, by decide⟩
theorem in_R_crash : Cond.instanceMethod y_R_crash.1 ∈ WS := ws_at 892 (by decide +kernel) rfl
theorem se_R_crash : Cond.selects "LeasedFilesModel" y_R_crash.1 y_R_crash.1 ∈ WS := ws_at 893 (by decide +kernel) rfl
abbrev y_R_halt : mY := (⟨"LeasedFilesModel", "halt", "()I"⟩, prog_10_method_34_code, 3, (some .int))
set_option maxRecDepth 100000 in
theorem ok_R_halt : okY y_R_halt 0 := ⟨ws_at 898 rfl rfl, ws_at 12 (by decide +kernel) rfl, ⟨by decide +kernel, by decide +kernel⟩, by decide +kernel, by decide⟩
theorem in_R_halt : Cond.instanceMethod y_R_halt.1 ∈ WS := ws_at 896 (by decide +kernel) rfl
theorem se_R_halt : Cond.selects "LeasedFilesModel" y_R_halt.1 y_R_halt.1 ∈ WS := ws_at 897 (by decide +kernel) rfl
abbrev y_R_restart : mY := (⟨"LeasedFilesModel", "restart", "()I"⟩, prog_10_method_35_code, 1, (some .int))
set_option maxRecDepth 100000 in
theorem ok_R_restart : okY y_R_restart 0 := ⟨ws_at 902 rfl rfl, ws_at 12 (by decide +kernel) rfl, ⟨by decide +kernel, by decide +kernel⟩, by decide +kernel, by decide⟩
theorem in_R_restart : Cond.instanceMethod y_R_restart.1 ∈ WS := ws_at 900 (by decide +kernel) rfl
theorem se_R_restart : Cond.selects "LeasedFilesModel" y_R_restart.1 y_R_restart.1 ∈ WS := ws_at 901 (by decide +kernel) rfl
abbrev y_R_copy : mY := (⟨"LeasedFilesModel", "copy", "(III)I"⟩, prog_10_method_37_code, 5, (some .int))
set_option maxRecDepth 100000 in
theorem ok_R_copy : okY y_R_copy 3 := ⟨ws_at 906 rfl rfl, ws_at 12 (by decide +kernel) rfl, ⟨by decide +kernel, by decide +kernel⟩, by decide +kernel, by decide⟩
theorem in_R_copy : Cond.instanceMethod y_R_copy.1 ∈ WS := ws_at 904 (by decide +kernel) rfl
theorem se_R_copy : Cond.selects "LeasedFilesModel" y_R_copy.1 y_R_copy.1 ∈ WS := ws_at 905 (by decide +kernel) rfl
abbrev y_R_rest : mY := (⟨"LeasedFilesModel", "rest", "(II)I"⟩, prog_10_method_36_code, 2, (some .int))
set_option maxRecDepth 100000 in
theorem ok_R_rest : okY y_R_rest 2 := ⟨ws_at 909 rfl rfl, ws_at 12 (by decide +kernel) rfl, ⟨by decide +kernel, by decide +kernel⟩, by decide +kernel, by decide⟩
theorem st_R_rest : Cond.static y_R_rest.1 ∈ WS := ws_at 908 (by decide +kernel) rfl
abbrev y_R_lease : mY := (⟨"LeasedFilesModel", "lease", "(II)I"⟩, prog_10_method_38_code, 3, (some .int))
set_option maxRecDepth 100000 in
theorem ok_R_lease : okY y_R_lease 2 := ⟨ws_at 913 rfl rfl, ws_at 12 (by decide +kernel) rfl, ⟨by decide +kernel, by decide +kernel⟩, by decide +kernel, by decide⟩
theorem in_R_lease : Cond.instanceMethod y_R_lease.1 ∈ WS := ws_at 911 (by decide +kernel) rfl
theorem se_R_lease : Cond.selects "LeasedFilesModel" y_R_lease.1 y_R_lease.1 ∈ WS := ws_at 912 (by decide +kernel) rfl
abbrev y_R_file : mY := (⟨"LeasedFilesModel", "file", "(II)I"⟩, prog_10_method_39_code, 5, (some .int))
set_option maxRecDepth 100000 in
theorem ok_R_file : okY y_R_file 2 := ⟨ws_at 917 rfl rfl, ws_at 12 (by decide +kernel) rfl, ⟨by decide +kernel, by decide +kernel⟩, by decide +kernel, by decide⟩
theorem in_R_file : Cond.instanceMethod y_R_file.1 ∈ WS := ws_at 915 (by decide +kernel) rfl
theorem se_R_file : Cond.selects "LeasedFilesModel" y_R_file.1 y_R_file.1 ∈ WS := ws_at 916 (by decide +kernel) rfl
abbrev y_R_server : mY := (⟨"LeasedFilesModel", "server", "(I)I"⟩, prog_10_method_40_code, 2, (some .int))
set_option maxRecDepth 100000 in
theorem ok_R_server : okY y_R_server 1 := ⟨ws_at 921 rfl rfl, ws_at 12 (by decide +kernel) rfl, ⟨by decide +kernel, by decide +kernel⟩, by decide +kernel, by decide⟩
theorem in_R_server : Cond.instanceMethod y_R_server.1 ∈ WS := ws_at 919 (by decide +kernel) rfl
theorem se_R_server : Cond.selects "LeasedFilesModel" y_R_server.1 y_R_server.1 ∈ WS := ws_at 920 (by decide +kernel) rfl
abbrev y_R_client : mY := (⟨"LeasedFilesModel", "client", "(II)I"⟩, prog_10_method_41_code, 4, (some .int))
set_option maxRecDepth 100000 in
theorem ok_R_client : okY y_R_client 2 := ⟨ws_at 925 rfl rfl, ws_at 12 (by decide +kernel) rfl, ⟨by decide +kernel, by decide +kernel⟩, by decide +kernel, by decide⟩
theorem in_R_client : Cond.instanceMethod y_R_client.1 ∈ WS := ws_at 923 (by decide +kernel) rfl
theorem se_R_client : Cond.selects "LeasedFilesModel" y_R_client.1 y_R_client.1 ∈ WS := ws_at 924 (by decide +kernel) rfl
theorem lk_R_1 : Cond.methodLink "LeasedFilesModel" 1 Lib.objectInit ∈ WS := ws_at 662 (by decide +kernel) rfl
theorem lk_R_103 : Cond.methodLink "LeasedFilesModel" 103 y_R_isClient.1 ∈ WS := ws_at 771 (by decide +kernel) rfl
theorem lk_R_107 : Cond.methodLink "LeasedFilesModel" 107 y_R_isFile.1 ∈ WS := ws_at 775 (by decide +kernel) rfl
theorem lk_R_110 : Cond.methodLink "LeasedFilesModel" 110 y_R_begin.1 ∈ WS := ws_at 779 (by decide +kernel) rfl
theorem lk_R_114 : Cond.methodLink "LeasedFilesModel" 114 y_R_finish.1 ∈ WS := ws_at 783 (by decide +kernel) rfl
theorem lk_R_118 : Cond.methodLink "LeasedFilesModel" 118 y_R_sendOperation.1 ∈ WS := ws_at 787 (by decide +kernel) rfl
theorem lk_R_99 : Cond.methodLink "LeasedFilesModel" 99 y_R_send.1 ∈ WS := ws_at 791 (by decide +kernel) rfl
theorem lk_R_148 : Cond.methodLink "LeasedFilesModel" 148 y_R_isMessage.1 ∈ WS := ws_at 819 (by decide +kernel) rfl
theorem lk_R_151 : Cond.methodLink "LeasedFilesModel" 151 y_R_takeOut.1 ∈ WS := ws_at 823 (by decide +kernel) rfl
theorem lk_R_154 : Cond.methodLink "LeasedFilesModel" 154 y_R_given.1 ∈ WS := ws_at 827 (by decide +kernel) rfl
theorem lk_R_158 : Cond.methodLink "LeasedFilesModel" 158 y_R_stored.1 ∈ WS := ws_at 831 (by decide +kernel) rfl
theorem lk_R_161 : Cond.methodLink "LeasedFilesModel" 161 y_R_recalled.1 ∈ WS := ws_at 835 (by decide +kernel) rfl
theorem lk_R_169 : Cond.methodLink "LeasedFilesModel" 169 y_R_asked.1 ∈ WS := ws_at 839 (by decide +kernel) rfl
theorem lk_R_128 : Cond.methodLink "LeasedFilesModel" 128 y_R_firstOf.1 ∈ WS := ws_at 843 (by decide +kernel) rfl
theorem lk_R_172 : Cond.methodLink "LeasedFilesModel" 172 y_R_putCame.1 ∈ WS := ws_at 847 (by decide +kernel) rfl
theorem lk_R_132 : Cond.methodLink "LeasedFilesModel" 132 y_R_isLeased.1 ∈ WS := ws_at 851 (by decide +kernel) rfl
theorem lk_R_176 : Cond.methodLink "LeasedFilesModel" 176 y_R_freed.1 ∈ WS := ws_at 855 (by decide +kernel) rfl
theorem lk_R_179 : Cond.methodLink "LeasedFilesModel" 179 y_R_storeAll.1 ∈ WS := ws_at 859 (by decide +kernel) rfl
theorem lk_R_142 : Cond.methodLink "LeasedFilesModel" 142 y_R_isFree.1 ∈ WS := ws_at 863 (by decide +kernel) rfl
theorem lk_R_145 : Cond.methodLink "LeasedFilesModel" 145 y_R_store.1 ∈ WS := ws_at 867 (by decide +kernel) rfl
theorem lk_R_183 : Cond.methodLink "LeasedFilesModel" 183 y_R_rest.1 ∈ WS := ws_at 907 (by decide +kernel) rfl
theorem f_R_83 : fdl "LeasedFilesModel" 0 0 83 := ⟨_, T_R, 34, "LeasedFilesModel", rfl, u_R, by decide, ws_at 663 (by decide +kernel) rfl, Or.inl rfl⟩
theorem fw_R_83 : fdw "LeasedFilesModel" 0 0 83 .int true := ⟨_, T_R, 34, "LeasedFilesModel", t_R, rfl, u_R, by decide, ws_at 663 (by decide +kernel) rfl, Or.inl rfl, tk_R, n_R, by decide +kernel, rfl, fun h => by first | rfl | cases h⟩
theorem f_R_87 : fdl "LeasedFilesModel" 0 1 87 := ⟨_, T_R, 34, "LeasedFilesModel", rfl, u_R, by decide, ws_at 664 (by decide +kernel) rfl, Or.inl rfl⟩
theorem fw_R_87 : fdw "LeasedFilesModel" 0 1 87 .int true := ⟨_, T_R, 34, "LeasedFilesModel", t_R, rfl, u_R, by decide, ws_at 664 (by decide +kernel) rfl, Or.inl rfl, tk_R, n_R, by decide +kernel, rfl, fun h => by first | rfl | cases h⟩
theorem f_R_90 : fdl "LeasedFilesModel" 0 2 90 := ⟨_, T_R, 34, "LeasedFilesModel", rfl, u_R, by decide, ws_at 665 (by decide +kernel) rfl, Or.inl rfl⟩
theorem fw_R_90 : fdw "LeasedFilesModel" 0 2 90 .int true := ⟨_, T_R, 34, "LeasedFilesModel", t_R, rfl, u_R, by decide, ws_at 665 (by decide +kernel) rfl, Or.inl rfl, tk_R, n_R, by decide +kernel, rfl, fun h => by first | rfl | cases h⟩
theorem f_R_93 : fdl "LeasedFilesModel" 0 3 93 := ⟨_, T_R, 34, "LeasedFilesModel", rfl, u_R, by decide, ws_at 666 (by decide +kernel) rfl, Or.inl rfl⟩
theorem fw_R_93 : fdw "LeasedFilesModel" 0 3 93 .int true := ⟨_, T_R, 34, "LeasedFilesModel", t_R, rfl, u_R, by decide, ws_at 666 (by decide +kernel) rfl, Or.inl rfl, tk_R, n_R, by decide +kernel, rfl, fun h => by first | rfl | cases h⟩
theorem f_R_7 : fdl "LeasedFilesModel" 0 4 7 := ⟨_, T_R, 34, "LeasedFilesModel", rfl, u_R, by decide, ws_at 667 (by decide +kernel) rfl, Or.inl rfl⟩
theorem fw_R_7 : fdw "LeasedFilesModel" 0 4 7 (.array .int) true := ⟨_, T_R, 34, "LeasedFilesModel", t_R, rfl, u_R, by decide, ws_at 667 (by decide +kernel) rfl, Or.inl rfl, tk_R, n_R, by decide +kernel, rfl, fun h => by first | rfl | cases h⟩
theorem f_R_13 : fdl "LeasedFilesModel" 0 5 13 := ⟨_, T_R, 34, "LeasedFilesModel", rfl, u_R, by decide, ws_at 668 (by decide +kernel) rfl, Or.inl rfl⟩
theorem fw_R_13 : fdw "LeasedFilesModel" 0 5 13 (.array .int) true := ⟨_, T_R, 34, "LeasedFilesModel", t_R, rfl, u_R, by decide, ws_at 668 (by decide +kernel) rfl, Or.inl rfl, tk_R, n_R, by decide +kernel, rfl, fun h => by first | rfl | cases h⟩
theorem f_R_122 : fdl "LeasedFilesModel" 0 6 122 := ⟨_, T_R, 34, "LeasedFilesModel", rfl, u_R, by decide, ws_at 669 (by decide +kernel) rfl, Or.inl rfl⟩
theorem fw_R_122 : fdw "LeasedFilesModel" 0 6 122 .int false := ⟨_, T_R, 34, "LeasedFilesModel", t_R, rfl, u_R, by decide, ws_at 669 (by decide +kernel) rfl, Or.inl rfl, tk_R, n_R, by decide +kernel, rfl, fun h => by first | rfl | cases h⟩
theorem f_R_165 : fdl "LeasedFilesModel" 0 7 165 := ⟨_, T_R, 34, "LeasedFilesModel", rfl, u_R, by decide, ws_at 670 (by decide +kernel) rfl, Or.inl rfl⟩
theorem fw_R_165 : fdw "LeasedFilesModel" 0 7 165 .boolean false := ⟨_, T_R, 34, "LeasedFilesModel", t_R, rfl, u_R, by decide, ws_at 670 (by decide +kernel) rfl, Or.inl rfl, tk_R, n_R, by decide +kernel, rfl, fun h => by first | rfl | cases h⟩
theorem f_R_136 : fdl "LeasedFilesModel" 0 8 136 := ⟨_, T_R, 34, "LeasedFilesModel", rfl, u_R, by decide, ws_at 671 (by decide +kernel) rfl, Or.inl rfl⟩
theorem fw_R_136 : fdw "LeasedFilesModel" 0 8 136 .int false := ⟨_, T_R, 34, "LeasedFilesModel", t_R, rfl, u_R, by decide, ws_at 671 (by decide +kernel) rfl, Or.inl rfl, tk_R, n_R, by decide +kernel, rfl, fun h => by first | rfl | cases h⟩
theorem f_R_139 : fdl "LeasedFilesModel" 0 9 139 := ⟨_, T_R, 34, "LeasedFilesModel", rfl, u_R, by decide, ws_at 672 (by decide +kernel) rfl, Or.inl rfl⟩
theorem fw_R_139 : fdw "LeasedFilesModel" 0 9 139 .int false := ⟨_, T_R, 34, "LeasedFilesModel", t_R, rfl, u_R, by decide, ws_at 672 (by decide +kernel) rfl, Or.inl rfl, tk_R, n_R, by decide +kernel, rfl, fun h => by first | rfl | cases h⟩
theorem f_R_16 : fdl "LeasedFilesModel" 0 10 16 := ⟨_, T_R, 34, "LeasedFilesModel", rfl, u_R, by decide, ws_at 673 (by decide +kernel) rfl, Or.inl rfl⟩
theorem fw_R_16 : fdw "LeasedFilesModel" 0 10 16 (.array .int) true := ⟨_, T_R, 34, "LeasedFilesModel", t_R, rfl, u_R, by decide, ws_at 673 (by decide +kernel) rfl, Or.inl rfl, tk_R, n_R, by decide +kernel, rfl, fun h => by first | rfl | cases h⟩
theorem f_R_19 : fdl "LeasedFilesModel" 0 11 19 := ⟨_, T_R, 34, "LeasedFilesModel", rfl, u_R, by decide, ws_at 674 (by decide +kernel) rfl, Or.inl rfl⟩
theorem fw_R_19 : fdw "LeasedFilesModel" 0 11 19 (.array .int) true := ⟨_, T_R, 34, "LeasedFilesModel", t_R, rfl, u_R, by decide, ws_at 674 (by decide +kernel) rfl, Or.inl rfl, tk_R, n_R, by decide +kernel, rfl, fun h => by first | rfl | cases h⟩
theorem f_R_22 : fdl "LeasedFilesModel" 0 12 22 := ⟨_, T_R, 34, "LeasedFilesModel", rfl, u_R, by decide, ws_at 675 (by decide +kernel) rfl, Or.inl rfl⟩
theorem fw_R_22 : fdw "LeasedFilesModel" 0 12 22 (.array .int) true := ⟨_, T_R, 34, "LeasedFilesModel", t_R, rfl, u_R, by decide, ws_at 675 (by decide +kernel) rfl, Or.inl rfl, tk_R, n_R, by decide +kernel, rfl, fun h => by first | rfl | cases h⟩
theorem f_R_125 : fdl "LeasedFilesModel" 0 13 125 := ⟨_, T_R, 34, "LeasedFilesModel", rfl, u_R, by decide, ws_at 676 (by decide +kernel) rfl, Or.inl rfl⟩
theorem fw_R_125 : fdw "LeasedFilesModel" 0 13 125 .int false := ⟨_, T_R, 34, "LeasedFilesModel", t_R, rfl, u_R, by decide, ws_at 676 (by decide +kernel) rfl, Or.inl rfl, tk_R, n_R, by decide +kernel, rfl, fun h => by first | rfl | cases h⟩
theorem f_R_25 : fdl "LeasedFilesModel" 0 14 25 := ⟨_, T_R, 34, "LeasedFilesModel", rfl, u_R, by decide, ws_at 677 (by decide +kernel) rfl, Or.inl rfl⟩
theorem fw_R_25 : fdw "LeasedFilesModel" 0 14 25 (.array .int) true := ⟨_, T_R, 34, "LeasedFilesModel", t_R, rfl, u_R, by decide, ws_at 677 (by decide +kernel) rfl, Or.inl rfl, tk_R, n_R, by decide +kernel, rfl, fun h => by first | rfl | cases h⟩
theorem f_R_28 : fdl "LeasedFilesModel" 0 15 28 := ⟨_, T_R, 34, "LeasedFilesModel", rfl, u_R, by decide, ws_at 678 (by decide +kernel) rfl, Or.inl rfl⟩
theorem fw_R_28 : fdw "LeasedFilesModel" 0 15 28 (.array .int) true := ⟨_, T_R, 34, "LeasedFilesModel", t_R, rfl, u_R, by decide, ws_at 678 (by decide +kernel) rfl, Or.inl rfl, tk_R, n_R, by decide +kernel, rfl, fun h => by first | rfl | cases h⟩
theorem f_R_31 : fdl "LeasedFilesModel" 0 16 31 := ⟨_, T_R, 34, "LeasedFilesModel", rfl, u_R, by decide, ws_at 679 (by decide +kernel) rfl, Or.inl rfl⟩
theorem fw_R_31 : fdw "LeasedFilesModel" 0 16 31 (.array .int) true := ⟨_, T_R, 34, "LeasedFilesModel", t_R, rfl, u_R, by decide, ws_at 679 (by decide +kernel) rfl, Or.inl rfl, tk_R, n_R, by decide +kernel, rfl, fun h => by first | rfl | cases h⟩
theorem f_R_34 : fdl "LeasedFilesModel" 0 17 34 := ⟨_, T_R, 34, "LeasedFilesModel", rfl, u_R, by decide, ws_at 680 (by decide +kernel) rfl, Or.inl rfl⟩
theorem fw_R_34 : fdw "LeasedFilesModel" 0 17 34 (.array .int) true := ⟨_, T_R, 34, "LeasedFilesModel", t_R, rfl, u_R, by decide, ws_at 680 (by decide +kernel) rfl, Or.inl rfl, tk_R, n_R, by decide +kernel, rfl, fun h => by first | rfl | cases h⟩
theorem f_R_37 : fdl "LeasedFilesModel" 0 18 37 := ⟨_, T_R, 34, "LeasedFilesModel", rfl, u_R, by decide, ws_at 681 (by decide +kernel) rfl, Or.inl rfl⟩
theorem fw_R_37 : fdw "LeasedFilesModel" 0 18 37 (.array .int) true := ⟨_, T_R, 34, "LeasedFilesModel", t_R, rfl, u_R, by decide, ws_at 681 (by decide +kernel) rfl, Or.inl rfl, tk_R, n_R, by decide +kernel, rfl, fun h => by first | rfl | cases h⟩
theorem f_R_40 : fdl "LeasedFilesModel" 0 19 40 := ⟨_, T_R, 34, "LeasedFilesModel", rfl, u_R, by decide, ws_at 682 (by decide +kernel) rfl, Or.inl rfl⟩
theorem fw_R_40 : fdw "LeasedFilesModel" 0 19 40 (.array .int) true := ⟨_, T_R, 34, "LeasedFilesModel", t_R, rfl, u_R, by decide, ws_at 682 (by decide +kernel) rfl, Or.inl rfl, tk_R, n_R, by decide +kernel, rfl, fun h => by first | rfl | cases h⟩
theorem f_R_43 : fdl "LeasedFilesModel" 0 20 43 := ⟨_, T_R, 34, "LeasedFilesModel", rfl, u_R, by decide, ws_at 683 (by decide +kernel) rfl, Or.inl rfl⟩
theorem fw_R_43 : fdw "LeasedFilesModel" 0 20 43 (.array .int) true := ⟨_, T_R, 34, "LeasedFilesModel", t_R, rfl, u_R, by decide, ws_at 683 (by decide +kernel) rfl, Or.inl rfl, tk_R, n_R, by decide +kernel, rfl, fun h => by first | rfl | cases h⟩
theorem f_R_46 : fdl "LeasedFilesModel" 0 21 46 := ⟨_, T_R, 34, "LeasedFilesModel", rfl, u_R, by decide, ws_at 684 (by decide +kernel) rfl, Or.inl rfl⟩
theorem fw_R_46 : fdw "LeasedFilesModel" 0 21 46 (.array .boolean) true := ⟨_, T_R, 34, "LeasedFilesModel", t_R, rfl, u_R, by decide, ws_at 684 (by decide +kernel) rfl, Or.inl rfl, tk_R, n_R, by decide +kernel, rfl, fun h => by first | rfl | cases h⟩
theorem f_R_50 : fdl "LeasedFilesModel" 0 22 50 := ⟨_, T_R, 34, "LeasedFilesModel", rfl, u_R, by decide, ws_at 685 (by decide +kernel) rfl, Or.inl rfl⟩
theorem fw_R_50 : fdw "LeasedFilesModel" 0 22 50 (.array .int) true := ⟨_, T_R, 34, "LeasedFilesModel", t_R, rfl, u_R, by decide, ws_at 685 (by decide +kernel) rfl, Or.inl rfl, tk_R, n_R, by decide +kernel, rfl, fun h => by first | rfl | cases h⟩
theorem f_R_53 : fdl "LeasedFilesModel" 0 23 53 := ⟨_, T_R, 34, "LeasedFilesModel", rfl, u_R, by decide, ws_at 686 (by decide +kernel) rfl, Or.inl rfl⟩
theorem fw_R_53 : fdw "LeasedFilesModel" 0 23 53 (.array .int) true := ⟨_, T_R, 34, "LeasedFilesModel", t_R, rfl, u_R, by decide, ws_at 686 (by decide +kernel) rfl, Or.inl rfl, tk_R, n_R, by decide +kernel, rfl, fun h => by first | rfl | cases h⟩
theorem f_R_56 : fdl "LeasedFilesModel" 0 24 56 := ⟨_, T_R, 34, "LeasedFilesModel", rfl, u_R, by decide, ws_at 687 (by decide +kernel) rfl, Or.inl rfl⟩
theorem fw_R_56 : fdw "LeasedFilesModel" 0 24 56 (.array .int) true := ⟨_, T_R, 34, "LeasedFilesModel", t_R, rfl, u_R, by decide, ws_at 687 (by decide +kernel) rfl, Or.inl rfl, tk_R, n_R, by decide +kernel, rfl, fun h => by first | rfl | cases h⟩
theorem f_R_59 : fdl "LeasedFilesModel" 0 25 59 := ⟨_, T_R, 34, "LeasedFilesModel", rfl, u_R, by decide, ws_at 688 (by decide +kernel) rfl, Or.inl rfl⟩
theorem fw_R_59 : fdw "LeasedFilesModel" 0 25 59 (.array .boolean) true := ⟨_, T_R, 34, "LeasedFilesModel", t_R, rfl, u_R, by decide, ws_at 688 (by decide +kernel) rfl, Or.inl rfl, tk_R, n_R, by decide +kernel, rfl, fun h => by first | rfl | cases h⟩
theorem f_R_62 : fdl "LeasedFilesModel" 0 26 62 := ⟨_, T_R, 34, "LeasedFilesModel", rfl, u_R, by decide, ws_at 689 (by decide +kernel) rfl, Or.inl rfl⟩
theorem fw_R_62 : fdw "LeasedFilesModel" 0 26 62 (.array .int) true := ⟨_, T_R, 34, "LeasedFilesModel", t_R, rfl, u_R, by decide, ws_at 689 (by decide +kernel) rfl, Or.inl rfl, tk_R, n_R, by decide +kernel, rfl, fun h => by first | rfl | cases h⟩
theorem f_R_65 : fdl "LeasedFilesModel" 0 27 65 := ⟨_, T_R, 34, "LeasedFilesModel", rfl, u_R, by decide, ws_at 690 (by decide +kernel) rfl, Or.inl rfl⟩
theorem fw_R_65 : fdw "LeasedFilesModel" 0 27 65 (.array .int) true := ⟨_, T_R, 34, "LeasedFilesModel", t_R, rfl, u_R, by decide, ws_at 690 (by decide +kernel) rfl, Or.inl rfl, tk_R, n_R, by decide +kernel, rfl, fun h => by first | rfl | cases h⟩
theorem f_R_68 : fdl "LeasedFilesModel" 0 28 68 := ⟨_, T_R, 34, "LeasedFilesModel", rfl, u_R, by decide, ws_at 691 (by decide +kernel) rfl, Or.inl rfl⟩
theorem fw_R_68 : fdw "LeasedFilesModel" 0 28 68 (.array .boolean) true := ⟨_, T_R, 34, "LeasedFilesModel", t_R, rfl, u_R, by decide, ws_at 691 (by decide +kernel) rfl, Or.inl rfl, tk_R, n_R, by decide +kernel, rfl, fun h => by first | rfl | cases h⟩
theorem f_R_71 : fdl "LeasedFilesModel" 0 29 71 := ⟨_, T_R, 34, "LeasedFilesModel", rfl, u_R, by decide, ws_at 692 (by decide +kernel) rfl, Or.inl rfl⟩
theorem fw_R_71 : fdw "LeasedFilesModel" 0 29 71 (.array .int) true := ⟨_, T_R, 34, "LeasedFilesModel", t_R, rfl, u_R, by decide, ws_at 692 (by decide +kernel) rfl, Or.inl rfl, tk_R, n_R, by decide +kernel, rfl, fun h => by first | rfl | cases h⟩
theorem f_R_74 : fdl "LeasedFilesModel" 0 30 74 := ⟨_, T_R, 34, "LeasedFilesModel", rfl, u_R, by decide, ws_at 693 (by decide +kernel) rfl, Or.inl rfl⟩
theorem fw_R_74 : fdw "LeasedFilesModel" 0 30 74 (.array .int) true := ⟨_, T_R, 34, "LeasedFilesModel", t_R, rfl, u_R, by decide, ws_at 693 (by decide +kernel) rfl, Or.inl rfl, tk_R, n_R, by decide +kernel, rfl, fun h => by first | rfl | cases h⟩
theorem f_R_77 : fdl "LeasedFilesModel" 0 31 77 := ⟨_, T_R, 34, "LeasedFilesModel", rfl, u_R, by decide, ws_at 694 (by decide +kernel) rfl, Or.inl rfl⟩
theorem fw_R_77 : fdw "LeasedFilesModel" 0 31 77 (.array .int) true := ⟨_, T_R, 34, "LeasedFilesModel", t_R, rfl, u_R, by decide, ws_at 694 (by decide +kernel) rfl, Or.inl rfl, tk_R, n_R, by decide +kernel, rfl, fun h => by first | rfl | cases h⟩
theorem f_R_96 : fdl "LeasedFilesModel" 0 32 96 := ⟨_, T_R, 34, "LeasedFilesModel", rfl, u_R, by decide, ws_at 695 (by decide +kernel) rfl, Or.inl rfl⟩
theorem fw_R_96 : fdw "LeasedFilesModel" 0 32 96 .int false := ⟨_, T_R, 34, "LeasedFilesModel", t_R, rfl, u_R, by decide, ws_at 695 (by decide +kernel) rfl, Or.inl rfl, tk_R, n_R, by decide +kernel, rfl, fun h => by first | rfl | cases h⟩
theorem f_R_80 : fdl "LeasedFilesModel" 0 33 80 := ⟨_, T_R, 34, "LeasedFilesModel", rfl, u_R, by decide, ws_at 696 (by decide +kernel) rfl, Or.inl rfl⟩
theorem fw_R_80 : fdw "LeasedFilesModel" 0 33 80 (.array .int) true := ⟨_, T_R, 34, "LeasedFilesModel", t_R, rfl, u_R, by decide, ws_at 696 (by decide +kernel) rfl, Or.inl rfl, tk_R, n_R, by decide +kernel, rfl, fun h => by first | rfl | cases h⟩
end
section
theorem d_R_init_0 : decode prog_10_method_1_code 0 = .ok (.aload_n 0, 1) := by decide +kernel
theorem d_R_init_1 : decode prog_10_method_1_code 1 = .ok (.invokespecial 1, 3) := by decide +kernel
theorem d_R_init_4 : decode prog_10_method_1_code 4 = .ok (.aload_n 0, 1) := by decide +kernel
theorem d_R_init_5 : decode prog_10_method_1_code 5 = .ok (.iconst 4, 1) := by decide +kernel
theorem d_R_init_6 : decode prog_10_method_1_code 6 = .ok (.newarray .int, 2) := by decide +kernel
theorem d_R_init_8 : decode prog_10_method_1_code 8 = .ok (.putfield 7, 3) := by decide +kernel
theorem d_R_init_11 : decode prog_10_method_1_code 11 = .ok (.aload_n 0, 1) := by decide +kernel
theorem d_R_init_12 : decode prog_10_method_1_code 12 = .ok (.iconst 4, 1) := by decide +kernel
theorem d_R_init_13 : decode prog_10_method_1_code 13 = .ok (.newarray .int, 2) := by decide +kernel
theorem d_R_init_15 : decode prog_10_method_1_code 15 = .ok (.putfield 13, 3) := by decide +kernel
theorem d_R_init_18 : decode prog_10_method_1_code 18 = .ok (.aload_n 0, 1) := by decide +kernel
theorem d_R_init_19 : decode prog_10_method_1_code 19 = .ok (.bipush 16, 2) := by decide +kernel
theorem d_R_init_21 : decode prog_10_method_1_code 21 = .ok (.newarray .int, 2) := by decide +kernel
theorem d_R_init_23 : decode prog_10_method_1_code 23 = .ok (.putfield 16, 3) := by decide +kernel
theorem d_R_init_26 : decode prog_10_method_1_code 26 = .ok (.aload_n 0, 1) := by decide +kernel
theorem d_R_init_27 : decode prog_10_method_1_code 27 = .ok (.iconst 4, 1) := by decide +kernel
theorem d_R_init_28 : decode prog_10_method_1_code 28 = .ok (.newarray .int, 2) := by decide +kernel
theorem d_R_init_30 : decode prog_10_method_1_code 30 = .ok (.putfield 19, 3) := by decide +kernel
theorem d_R_init_33 : decode prog_10_method_1_code 33 = .ok (.aload_n 0, 1) := by decide +kernel
theorem d_R_init_34 : decode prog_10_method_1_code 34 = .ok (.iconst 4, 1) := by decide +kernel
theorem d_R_init_35 : decode prog_10_method_1_code 35 = .ok (.newarray .int, 2) := by decide +kernel
theorem d_R_init_37 : decode prog_10_method_1_code 37 = .ok (.putfield 22, 3) := by decide +kernel
theorem d_R_init_40 : decode prog_10_method_1_code 40 = .ok (.aload_n 0, 1) := by decide +kernel
theorem d_R_init_41 : decode prog_10_method_1_code 41 = .ok (.sipush 520, 3) := by decide +kernel
theorem d_R_init_44 : decode prog_10_method_1_code 44 = .ok (.newarray .int, 2) := by decide +kernel
theorem d_R_init_46 : decode prog_10_method_1_code 46 = .ok (.putfield 25, 3) := by decide +kernel
theorem d_R_init_49 : decode prog_10_method_1_code 49 = .ok (.aload_n 0, 1) := by decide +kernel
theorem d_R_init_50 : decode prog_10_method_1_code 50 = .ok (.sipush 520, 3) := by decide +kernel
theorem d_R_init_53 : decode prog_10_method_1_code 53 = .ok (.newarray .int, 2) := by decide +kernel
theorem d_R_init_55 : decode prog_10_method_1_code 55 = .ok (.putfield 28, 3) := by decide +kernel
theorem d_R_init_58 : decode prog_10_method_1_code 58 = .ok (.aload_n 0, 1) := by decide +kernel
theorem d_R_init_59 : decode prog_10_method_1_code 59 = .ok (.sipush 520, 3) := by decide +kernel
theorem d_R_init_62 : decode prog_10_method_1_code 62 = .ok (.newarray .int, 2) := by decide +kernel
theorem d_R_init_64 : decode prog_10_method_1_code 64 = .ok (.putfield 31, 3) := by decide +kernel
theorem d_R_init_67 : decode prog_10_method_1_code 67 = .ok (.aload_n 0, 1) := by decide +kernel
theorem d_R_init_68 : decode prog_10_method_1_code 68 = .ok (.sipush 520, 3) := by decide +kernel
theorem d_R_init_71 : decode prog_10_method_1_code 71 = .ok (.newarray .int, 2) := by decide +kernel
theorem d_R_init_73 : decode prog_10_method_1_code 73 = .ok (.putfield 34, 3) := by decide +kernel
theorem d_R_init_76 : decode prog_10_method_1_code 76 = .ok (.aload_n 0, 1) := by decide +kernel
theorem d_R_init_77 : decode prog_10_method_1_code 77 = .ok (.iconst 4, 1) := by decide +kernel
theorem d_R_init_78 : decode prog_10_method_1_code 78 = .ok (.newarray .int, 2) := by decide +kernel
theorem d_R_init_80 : decode prog_10_method_1_code 80 = .ok (.putfield 37, 3) := by decide +kernel
theorem d_R_init_83 : decode prog_10_method_1_code 83 = .ok (.aload_n 0, 1) := by decide +kernel
theorem d_R_init_84 : decode prog_10_method_1_code 84 = .ok (.iconst 4, 1) := by decide +kernel
theorem d_R_init_85 : decode prog_10_method_1_code 85 = .ok (.newarray .int, 2) := by decide +kernel
theorem d_R_init_87 : decode prog_10_method_1_code 87 = .ok (.putfield 40, 3) := by decide +kernel
theorem d_R_init_90 : decode prog_10_method_1_code 90 = .ok (.aload_n 0, 1) := by decide +kernel
theorem d_R_init_91 : decode prog_10_method_1_code 91 = .ok (.iconst 4, 1) := by decide +kernel
theorem d_R_init_92 : decode prog_10_method_1_code 92 = .ok (.newarray .int, 2) := by decide +kernel
theorem d_R_init_94 : decode prog_10_method_1_code 94 = .ok (.putfield 43, 3) := by decide +kernel
theorem d_R_init_97 : decode prog_10_method_1_code 97 = .ok (.aload_n 0, 1) := by decide +kernel
theorem d_R_init_98 : decode prog_10_method_1_code 98 = .ok (.iconst 4, 1) := by decide +kernel
theorem d_R_init_99 : decode prog_10_method_1_code 99 = .ok (.newarray .boolean, 2) := by decide +kernel
theorem d_R_init_101 : decode prog_10_method_1_code 101 = .ok (.putfield 46, 3) := by decide +kernel
theorem d_R_init_104 : decode prog_10_method_1_code 104 = .ok (.aload_n 0, 1) := by decide +kernel
theorem d_R_init_105 : decode prog_10_method_1_code 105 = .ok (.iconst 4, 1) := by decide +kernel
theorem d_R_init_106 : decode prog_10_method_1_code 106 = .ok (.newarray .int, 2) := by decide +kernel
theorem d_R_init_108 : decode prog_10_method_1_code 108 = .ok (.putfield 50, 3) := by decide +kernel
theorem d_R_init_111 : decode prog_10_method_1_code 111 = .ok (.aload_n 0, 1) := by decide +kernel
theorem d_R_init_112 : decode prog_10_method_1_code 112 = .ok (.iconst 4, 1) := by decide +kernel
theorem d_R_init_113 : decode prog_10_method_1_code 113 = .ok (.newarray .int, 2) := by decide +kernel
theorem d_R_init_115 : decode prog_10_method_1_code 115 = .ok (.putfield 53, 3) := by decide +kernel
theorem d_R_init_118 : decode prog_10_method_1_code 118 = .ok (.aload_n 0, 1) := by decide +kernel
theorem d_R_init_119 : decode prog_10_method_1_code 119 = .ok (.iconst 4, 1) := by decide +kernel
theorem d_R_init_120 : decode prog_10_method_1_code 120 = .ok (.newarray .int, 2) := by decide +kernel
theorem d_R_init_122 : decode prog_10_method_1_code 122 = .ok (.putfield 56, 3) := by decide +kernel
theorem d_R_init_125 : decode prog_10_method_1_code 125 = .ok (.aload_n 0, 1) := by decide +kernel
theorem d_R_init_126 : decode prog_10_method_1_code 126 = .ok (.iconst 4, 1) := by decide +kernel
theorem d_R_init_127 : decode prog_10_method_1_code 127 = .ok (.newarray .boolean, 2) := by decide +kernel
theorem d_R_init_129 : decode prog_10_method_1_code 129 = .ok (.putfield 59, 3) := by decide +kernel
theorem d_R_init_132 : decode prog_10_method_1_code 132 = .ok (.aload_n 0, 1) := by decide +kernel
theorem d_R_init_133 : decode prog_10_method_1_code 133 = .ok (.iconst 4, 1) := by decide +kernel
theorem d_R_init_134 : decode prog_10_method_1_code 134 = .ok (.newarray .int, 2) := by decide +kernel
theorem d_R_init_136 : decode prog_10_method_1_code 136 = .ok (.putfield 62, 3) := by decide +kernel
theorem d_R_init_139 : decode prog_10_method_1_code 139 = .ok (.aload_n 0, 1) := by decide +kernel
theorem d_R_init_140 : decode prog_10_method_1_code 140 = .ok (.iconst 4, 1) := by decide +kernel
theorem d_R_init_141 : decode prog_10_method_1_code 141 = .ok (.newarray .int, 2) := by decide +kernel
theorem d_R_init_143 : decode prog_10_method_1_code 143 = .ok (.putfield 65, 3) := by decide +kernel
theorem d_R_init_146 : decode prog_10_method_1_code 146 = .ok (.aload_n 0, 1) := by decide +kernel
theorem d_R_init_147 : decode prog_10_method_1_code 147 = .ok (.bipush 16, 2) := by decide +kernel
theorem d_R_init_149 : decode prog_10_method_1_code 149 = .ok (.newarray .boolean, 2) := by decide +kernel
theorem d_R_init_151 : decode prog_10_method_1_code 151 = .ok (.putfield 68, 3) := by decide +kernel
theorem d_R_init_154 : decode prog_10_method_1_code 154 = .ok (.aload_n 0, 1) := by decide +kernel
theorem d_R_init_155 : decode prog_10_method_1_code 155 = .ok (.bipush 16, 2) := by decide +kernel
theorem d_R_init_157 : decode prog_10_method_1_code 157 = .ok (.newarray .int, 2) := by decide +kernel
theorem d_R_init_159 : decode prog_10_method_1_code 159 = .ok (.putfield 71, 3) := by decide +kernel
theorem d_R_init_162 : decode prog_10_method_1_code 162 = .ok (.aload_n 0, 1) := by decide +kernel
theorem d_R_init_163 : decode prog_10_method_1_code 163 = .ok (.bipush 16, 2) := by decide +kernel
theorem d_R_init_165 : decode prog_10_method_1_code 165 = .ok (.newarray .int, 2) := by decide +kernel
theorem d_R_init_167 : decode prog_10_method_1_code 167 = .ok (.putfield 74, 3) := by decide +kernel
theorem d_R_init_170 : decode prog_10_method_1_code 170 = .ok (.aload_n 0, 1) := by decide +kernel
theorem d_R_init_171 : decode prog_10_method_1_code 171 = .ok (.bipush 16, 2) := by decide +kernel
theorem d_R_init_173 : decode prog_10_method_1_code 173 = .ok (.newarray .int, 2) := by decide +kernel
theorem d_R_init_175 : decode prog_10_method_1_code 175 = .ok (.putfield 77, 3) := by decide +kernel
theorem d_R_init_178 : decode prog_10_method_1_code 178 = .ok (.aload_n 0, 1) := by decide +kernel
theorem d_R_init_179 : decode prog_10_method_1_code 179 = .ok (.sipush 448, 3) := by decide +kernel
theorem d_R_init_182 : decode prog_10_method_1_code 182 = .ok (.newarray .int, 2) := by decide +kernel
theorem d_R_init_184 : decode prog_10_method_1_code 184 = .ok (.putfield 80, 3) := by decide +kernel
theorem d_R_init_187 : decode prog_10_method_1_code 187 = .ok (.aload_n 0, 1) := by decide +kernel
theorem d_R_init_188 : decode prog_10_method_1_code 188 = .ok (.iload_n 1, 1) := by decide +kernel
theorem d_R_init_189 : decode prog_10_method_1_code 189 = .ok (.iconst 1, 1) := by decide +kernel
theorem d_R_init_190 : decode prog_10_method_1_code 190 = .ok (.if_icmp .ge 7, 3) := by decide +kernel
theorem d_R_init_193 : decode prog_10_method_1_code 193 = .ok (.iconst 1, 1) := by decide +kernel
theorem d_R_init_194 : decode prog_10_method_1_code 194 = .ok (.goto 13, 3) := by decide +kernel
theorem d_R_init_197 : decode prog_10_method_1_code 197 = .ok (.iload_n 1, 1) := by decide +kernel
theorem d_R_init_198 : decode prog_10_method_1_code 198 = .ok (.iconst 4, 1) := by decide +kernel
theorem d_R_init_199 : decode prog_10_method_1_code 199 = .ok (.if_icmp .le 7, 3) := by decide +kernel
theorem d_R_init_202 : decode prog_10_method_1_code 202 = .ok (.iconst 4, 1) := by decide +kernel
theorem d_R_init_203 : decode prog_10_method_1_code 203 = .ok (.goto 4, 3) := by decide +kernel
theorem d_R_init_206 : decode prog_10_method_1_code 206 = .ok (.iload_n 1, 1) := by decide +kernel
theorem d_R_init_207 : decode prog_10_method_1_code 207 = .ok (.putfield 83, 3) := by decide +kernel
theorem d_R_init_210 : decode prog_10_method_1_code 210 = .ok (.aload_n 0, 1) := by decide +kernel
theorem d_R_init_211 : decode prog_10_method_1_code 211 = .ok (.iload_n 2, 1) := by decide +kernel
theorem d_R_init_212 : decode prog_10_method_1_code 212 = .ok (.iconst 1, 1) := by decide +kernel
theorem d_R_init_213 : decode prog_10_method_1_code 213 = .ok (.if_icmp .ge 7, 3) := by decide +kernel
theorem d_R_init_216 : decode prog_10_method_1_code 216 = .ok (.iconst 1, 1) := by decide +kernel
theorem d_R_init_217 : decode prog_10_method_1_code 217 = .ok (.goto 13, 3) := by decide +kernel
theorem d_R_init_220 : decode prog_10_method_1_code 220 = .ok (.iload_n 2, 1) := by decide +kernel
theorem d_R_init_221 : decode prog_10_method_1_code 221 = .ok (.iconst 4, 1) := by decide +kernel
theorem d_R_init_222 : decode prog_10_method_1_code 222 = .ok (.if_icmp .le 7, 3) := by decide +kernel
theorem d_R_init_225 : decode prog_10_method_1_code 225 = .ok (.iconst 4, 1) := by decide +kernel
theorem d_R_init_226 : decode prog_10_method_1_code 226 = .ok (.goto 4, 3) := by decide +kernel
theorem d_R_init_229 : decode prog_10_method_1_code 229 = .ok (.iload_n 2, 1) := by decide +kernel
theorem d_R_init_230 : decode prog_10_method_1_code 230 = .ok (.putfield 87, 3) := by decide +kernel
theorem d_R_init_233 : decode prog_10_method_1_code 233 = .ok (.aload_n 0, 1) := by decide +kernel
theorem d_R_init_234 : decode prog_10_method_1_code 234 = .ok (.iload_n 3, 1) := by decide +kernel
theorem d_R_init_235 : decode prog_10_method_1_code 235 = .ok (.iconst 1, 1) := by decide +kernel
theorem d_R_init_236 : decode prog_10_method_1_code 236 = .ok (.if_icmp .ge 7, 3) := by decide +kernel
theorem d_R_init_239 : decode prog_10_method_1_code 239 = .ok (.iconst 1, 1) := by decide +kernel
theorem d_R_init_240 : decode prog_10_method_1_code 240 = .ok (.goto 17, 3) := by decide +kernel
theorem d_R_init_243 : decode prog_10_method_1_code 243 = .ok (.iload_n 3, 1) := by decide +kernel
theorem d_R_init_244 : decode prog_10_method_1_code 244 = .ok (.sipush 1000, 3) := by decide +kernel
theorem d_R_init_247 : decode prog_10_method_1_code 247 = .ok (.if_icmp .le 9, 3) := by decide +kernel
theorem d_R_init_250 : decode prog_10_method_1_code 250 = .ok (.sipush 1000, 3) := by decide +kernel
theorem d_R_init_253 : decode prog_10_method_1_code 253 = .ok (.goto 4, 3) := by decide +kernel
theorem d_R_init_256 : decode prog_10_method_1_code 256 = .ok (.iload_n 3, 1) := by decide +kernel
theorem d_R_init_257 : decode prog_10_method_1_code 257 = .ok (.putfield 90, 3) := by decide +kernel
theorem d_R_init_260 : decode prog_10_method_1_code 260 = .ok (.aload_n 0, 1) := by decide +kernel
theorem d_R_init_261 : decode prog_10_method_1_code 261 = .ok (.iload 4, 2) := by decide +kernel
theorem d_R_init_263 : decode prog_10_method_1_code 263 = .ok (.iconst 1, 1) := by decide +kernel
theorem d_R_init_264 : decode prog_10_method_1_code 264 = .ok (.if_icmp .ge 7, 3) := by decide +kernel
theorem d_R_init_267 : decode prog_10_method_1_code 267 = .ok (.iconst 1, 1) := by decide +kernel
theorem d_R_init_268 : decode prog_10_method_1_code 268 = .ok (.goto 21, 3) := by decide +kernel
theorem d_R_init_271 : decode prog_10_method_1_code 271 = .ok (.iload 4, 2) := by decide +kernel
theorem d_R_init_273 : decode prog_10_method_1_code 273 = .ok (.aload_n 0, 1) := by decide +kernel
theorem d_R_init_274 : decode prog_10_method_1_code 274 = .ok (.getfield 90, 3) := by decide +kernel
theorem d_R_init_277 : decode prog_10_method_1_code 277 = .ok (.if_icmp .le 10, 3) := by decide +kernel
theorem d_R_init_280 : decode prog_10_method_1_code 280 = .ok (.aload_n 0, 1) := by decide +kernel
theorem d_R_init_281 : decode prog_10_method_1_code 281 = .ok (.getfield 90, 3) := by decide +kernel
theorem d_R_init_284 : decode prog_10_method_1_code 284 = .ok (.goto 5, 3) := by decide +kernel
theorem d_R_init_287 : decode prog_10_method_1_code 287 = .ok (.iload 4, 2) := by decide +kernel
theorem d_R_init_289 : decode prog_10_method_1_code 289 = .ok (.putfield 93, 3) := by decide +kernel
theorem d_R_init_292 : decode prog_10_method_1_code 292 = .ok (.return_, 1) := by decide +kernel
theorem d_R_isClient_0 : decode prog_10_method_2_code 0 = .ok (.iload_n 1, 1) := by decide +kernel
theorem d_R_isClient_1 : decode prog_10_method_2_code 1 = .ok (.ifCond .lt 15, 3) := by decide +kernel
theorem d_R_isClient_4 : decode prog_10_method_2_code 4 = .ok (.iload_n 1, 1) := by decide +kernel
theorem d_R_isClient_5 : decode prog_10_method_2_code 5 = .ok (.aload_n 0, 1) := by decide +kernel
theorem d_R_isClient_6 : decode prog_10_method_2_code 6 = .ok (.getfield 83, 3) := by decide +kernel
theorem d_R_isClient_9 : decode prog_10_method_2_code 9 = .ok (.if_icmp .ge 7, 3) := by decide +kernel
theorem d_R_isClient_12 : decode prog_10_method_2_code 12 = .ok (.iconst 1, 1) := by decide +kernel
theorem d_R_isClient_13 : decode prog_10_method_2_code 13 = .ok (.goto 4, 3) := by decide +kernel
theorem d_R_isClient_16 : decode prog_10_method_2_code 16 = .ok (.iconst 0, 1) := by decide +kernel
theorem d_R_isClient_17 : decode prog_10_method_2_code 17 = .ok (.ireturn, 1) := by decide +kernel
theorem d_R_isFile_0 : decode prog_10_method_3_code 0 = .ok (.iload_n 1, 1) := by decide +kernel
theorem d_R_isFile_1 : decode prog_10_method_3_code 1 = .ok (.ifCond .lt 15, 3) := by decide +kernel
theorem d_R_isFile_4 : decode prog_10_method_3_code 4 = .ok (.iload_n 1, 1) := by decide +kernel
theorem d_R_isFile_5 : decode prog_10_method_3_code 5 = .ok (.aload_n 0, 1) := by decide +kernel
theorem d_R_isFile_6 : decode prog_10_method_3_code 6 = .ok (.getfield 87, 3) := by decide +kernel
theorem d_R_isFile_9 : decode prog_10_method_3_code 9 = .ok (.if_icmp .ge 7, 3) := by decide +kernel
theorem d_R_isFile_12 : decode prog_10_method_3_code 12 = .ok (.iconst 1, 1) := by decide +kernel
theorem d_R_isFile_13 : decode prog_10_method_3_code 13 = .ok (.goto 4, 3) := by decide +kernel
theorem d_R_isFile_16 : decode prog_10_method_3_code 16 = .ok (.iconst 0, 1) := by decide +kernel
theorem d_R_isFile_17 : decode prog_10_method_3_code 17 = .ok (.ireturn, 1) := by decide +kernel
theorem d_R_send_0 : decode prog_10_method_4_code 0 = .ok (.aload_n 0, 1) := by decide +kernel
theorem d_R_send_1 : decode prog_10_method_4_code 1 = .ok (.getfield 96, 3) := by decide +kernel
theorem d_R_send_4 : decode prog_10_method_4_code 4 = .ok (.bipush 64, 2) := by decide +kernel
theorem d_R_send_6 : decode prog_10_method_4_code 6 = .ok (.if_icmp .ne 4, 3) := by decide +kernel
theorem d_R_send_9 : decode prog_10_method_4_code 9 = .ok (.return_, 1) := by decide +kernel
theorem d_R_send_10 : decode prog_10_method_4_code 10 = .ok (.bipush 7, 2) := by decide +kernel
theorem d_R_send_12 : decode prog_10_method_4_code 12 = .ok (.aload_n 0, 1) := by decide +kernel
theorem d_R_send_13 : decode prog_10_method_4_code 13 = .ok (.getfield 96, 3) := by decide +kernel
theorem d_R_send_16 : decode prog_10_method_4_code 16 = .ok (.imul, 1) := by decide +kernel
theorem d_R_send_17 : decode prog_10_method_4_code 17 = .ok (.istore 8, 2) := by decide +kernel
theorem d_R_send_19 : decode prog_10_method_4_code 19 = .ok (.aload_n 0, 1) := by decide +kernel
theorem d_R_send_20 : decode prog_10_method_4_code 20 = .ok (.getfield 80, 3) := by decide +kernel
theorem d_R_send_23 : decode prog_10_method_4_code 23 = .ok (.iload 8, 2) := by decide +kernel
theorem d_R_send_25 : decode prog_10_method_4_code 25 = .ok (.iload_n 1, 1) := by decide +kernel
theorem d_R_send_26 : decode prog_10_method_4_code 26 = .ok (.iastore, 1) := by decide +kernel
theorem d_R_send_27 : decode prog_10_method_4_code 27 = .ok (.aload_n 0, 1) := by decide +kernel
theorem d_R_send_28 : decode prog_10_method_4_code 28 = .ok (.getfield 80, 3) := by decide +kernel
theorem d_R_send_31 : decode prog_10_method_4_code 31 = .ok (.iload 8, 2) := by decide +kernel
theorem d_R_send_33 : decode prog_10_method_4_code 33 = .ok (.iconst 1, 1) := by decide +kernel
theorem d_R_send_34 : decode prog_10_method_4_code 34 = .ok (.iadd, 1) := by decide +kernel
theorem d_R_send_35 : decode prog_10_method_4_code 35 = .ok (.iload_n 2, 1) := by decide +kernel
theorem d_R_send_36 : decode prog_10_method_4_code 36 = .ok (.iastore, 1) := by decide +kernel
theorem d_R_send_37 : decode prog_10_method_4_code 37 = .ok (.aload_n 0, 1) := by decide +kernel
theorem d_R_send_38 : decode prog_10_method_4_code 38 = .ok (.getfield 80, 3) := by decide +kernel
theorem d_R_send_41 : decode prog_10_method_4_code 41 = .ok (.iload 8, 2) := by decide +kernel
theorem d_R_send_43 : decode prog_10_method_4_code 43 = .ok (.iconst 2, 1) := by decide +kernel
theorem d_R_send_44 : decode prog_10_method_4_code 44 = .ok (.iadd, 1) := by decide +kernel
theorem d_R_send_45 : decode prog_10_method_4_code 45 = .ok (.iload_n 3, 1) := by decide +kernel
theorem d_R_send_46 : decode prog_10_method_4_code 46 = .ok (.iastore, 1) := by decide +kernel
theorem d_R_send_47 : decode prog_10_method_4_code 47 = .ok (.aload_n 0, 1) := by decide +kernel
theorem d_R_send_48 : decode prog_10_method_4_code 48 = .ok (.getfield 80, 3) := by decide +kernel
theorem d_R_send_51 : decode prog_10_method_4_code 51 = .ok (.iload 8, 2) := by decide +kernel
theorem d_R_send_53 : decode prog_10_method_4_code 53 = .ok (.iconst 3, 1) := by decide +kernel
theorem d_R_send_54 : decode prog_10_method_4_code 54 = .ok (.iadd, 1) := by decide +kernel
theorem d_R_send_55 : decode prog_10_method_4_code 55 = .ok (.iload 4, 2) := by decide +kernel
theorem d_R_send_57 : decode prog_10_method_4_code 57 = .ok (.iastore, 1) := by decide +kernel
theorem d_R_send_58 : decode prog_10_method_4_code 58 = .ok (.aload_n 0, 1) := by decide +kernel
theorem d_R_send_59 : decode prog_10_method_4_code 59 = .ok (.getfield 80, 3) := by decide +kernel
theorem d_R_send_62 : decode prog_10_method_4_code 62 = .ok (.iload 8, 2) := by decide +kernel
theorem d_R_send_64 : decode prog_10_method_4_code 64 = .ok (.iconst 4, 1) := by decide +kernel
theorem d_R_send_65 : decode prog_10_method_4_code 65 = .ok (.iadd, 1) := by decide +kernel
theorem d_R_send_66 : decode prog_10_method_4_code 66 = .ok (.iload 5, 2) := by decide +kernel
theorem d_R_send_68 : decode prog_10_method_4_code 68 = .ok (.iastore, 1) := by decide +kernel
theorem d_R_send_69 : decode prog_10_method_4_code 69 = .ok (.aload_n 0, 1) := by decide +kernel
theorem d_R_send_70 : decode prog_10_method_4_code 70 = .ok (.getfield 80, 3) := by decide +kernel
theorem d_R_send_73 : decode prog_10_method_4_code 73 = .ok (.iload 8, 2) := by decide +kernel
theorem d_R_send_75 : decode prog_10_method_4_code 75 = .ok (.iconst 5, 1) := by decide +kernel
theorem d_R_send_76 : decode prog_10_method_4_code 76 = .ok (.iadd, 1) := by decide +kernel
theorem d_R_send_77 : decode prog_10_method_4_code 77 = .ok (.iload 6, 2) := by decide +kernel
theorem d_R_send_79 : decode prog_10_method_4_code 79 = .ok (.iastore, 1) := by decide +kernel
theorem d_R_send_80 : decode prog_10_method_4_code 80 = .ok (.aload_n 0, 1) := by decide +kernel
theorem d_R_send_81 : decode prog_10_method_4_code 81 = .ok (.getfield 80, 3) := by decide +kernel
theorem d_R_send_84 : decode prog_10_method_4_code 84 = .ok (.iload 8, 2) := by decide +kernel
theorem d_R_send_86 : decode prog_10_method_4_code 86 = .ok (.bipush 6, 2) := by decide +kernel
theorem d_R_send_88 : decode prog_10_method_4_code 88 = .ok (.iadd, 1) := by decide +kernel
theorem d_R_send_89 : decode prog_10_method_4_code 89 = .ok (.iload 7, 2) := by decide +kernel
theorem d_R_send_91 : decode prog_10_method_4_code 91 = .ok (.iastore, 1) := by decide +kernel
theorem d_R_send_92 : decode prog_10_method_4_code 92 = .ok (.aload_n 0, 1) := by decide +kernel
theorem d_R_send_93 : decode prog_10_method_4_code 93 = .ok (.dup, 1) := by decide +kernel
theorem d_R_send_94 : decode prog_10_method_4_code 94 = .ok (.getfield 96, 3) := by decide +kernel
theorem d_R_send_97 : decode prog_10_method_4_code 97 = .ok (.iconst 1, 1) := by decide +kernel
theorem d_R_send_98 : decode prog_10_method_4_code 98 = .ok (.iadd, 1) := by decide +kernel
theorem d_R_send_99 : decode prog_10_method_4_code 99 = .ok (.putfield 96, 3) := by decide +kernel
theorem d_R_send_102 : decode prog_10_method_4_code 102 = .ok (.return_, 1) := by decide +kernel
theorem d_R_takeOut_0 : decode prog_10_method_5_code 0 = .ok (.aload_n 0, 1) := by decide +kernel
theorem d_R_takeOut_1 : decode prog_10_method_5_code 1 = .ok (.dup, 1) := by decide +kernel
theorem d_R_takeOut_2 : decode prog_10_method_5_code 2 = .ok (.getfield 96, 3) := by decide +kernel
theorem d_R_takeOut_5 : decode prog_10_method_5_code 5 = .ok (.iconst 1, 1) := by decide +kernel
theorem d_R_takeOut_6 : decode prog_10_method_5_code 6 = .ok (.isub, 1) := by decide +kernel
theorem d_R_takeOut_7 : decode prog_10_method_5_code 7 = .ok (.putfield 96, 3) := by decide +kernel
theorem d_R_takeOut_10 : decode prog_10_method_5_code 10 = .ok (.bipush 7, 2) := by decide +kernel
theorem d_R_takeOut_12 : decode prog_10_method_5_code 12 = .ok (.iload_n 1, 1) := by decide +kernel
theorem d_R_takeOut_13 : decode prog_10_method_5_code 13 = .ok (.imul, 1) := by decide +kernel
theorem d_R_takeOut_14 : decode prog_10_method_5_code 14 = .ok (.istore_n 2, 1) := by decide +kernel
theorem d_R_takeOut_15 : decode prog_10_method_5_code 15 = .ok (.iload_n 2, 1) := by decide +kernel
theorem d_R_takeOut_16 : decode prog_10_method_5_code 16 = .ok (.bipush 7, 2) := by decide +kernel
theorem d_R_takeOut_18 : decode prog_10_method_5_code 18 = .ok (.aload_n 0, 1) := by decide +kernel
theorem d_R_takeOut_19 : decode prog_10_method_5_code 19 = .ok (.getfield 96, 3) := by decide +kernel
theorem d_R_takeOut_22 : decode prog_10_method_5_code 22 = .ok (.imul, 1) := by decide +kernel
theorem d_R_takeOut_23 : decode prog_10_method_5_code 23 = .ok (.if_icmp .ge 24, 3) := by decide +kernel
theorem d_R_takeOut_26 : decode prog_10_method_5_code 26 = .ok (.aload_n 0, 1) := by decide +kernel
theorem d_R_takeOut_27 : decode prog_10_method_5_code 27 = .ok (.getfield 80, 3) := by decide +kernel
theorem d_R_takeOut_30 : decode prog_10_method_5_code 30 = .ok (.iload_n 2, 1) := by decide +kernel
theorem d_R_takeOut_31 : decode prog_10_method_5_code 31 = .ok (.aload_n 0, 1) := by decide +kernel
theorem d_R_takeOut_32 : decode prog_10_method_5_code 32 = .ok (.getfield 80, 3) := by decide +kernel
theorem d_R_takeOut_35 : decode prog_10_method_5_code 35 = .ok (.iload_n 2, 1) := by decide +kernel
theorem d_R_takeOut_36 : decode prog_10_method_5_code 36 = .ok (.bipush 7, 2) := by decide +kernel
theorem d_R_takeOut_38 : decode prog_10_method_5_code 38 = .ok (.iadd, 1) := by decide +kernel
theorem d_R_takeOut_39 : decode prog_10_method_5_code 39 = .ok (.iaload, 1) := by decide +kernel
theorem d_R_takeOut_40 : decode prog_10_method_5_code 40 = .ok (.iastore, 1) := by decide +kernel
theorem d_R_takeOut_41 : decode prog_10_method_5_code 41 = .ok (.iinc 2 1, 3) := by decide +kernel
theorem d_R_takeOut_44 : decode prog_10_method_5_code 44 = .ok (.goto (-29), 3) := by decide +kernel
theorem d_R_takeOut_47 : decode prog_10_method_5_code 47 = .ok (.return_, 1) := by decide +kernel
theorem d_R_isMessage_0 : decode prog_10_method_6_code 0 = .ok (.iload_n 1, 1) := by decide +kernel
theorem d_R_isMessage_1 : decode prog_10_method_6_code 1 = .ok (.ifCond .lt 15, 3) := by decide +kernel
theorem d_R_isMessage_4 : decode prog_10_method_6_code 4 = .ok (.iload_n 1, 1) := by decide +kernel
theorem d_R_isMessage_5 : decode prog_10_method_6_code 5 = .ok (.aload_n 0, 1) := by decide +kernel
theorem d_R_isMessage_6 : decode prog_10_method_6_code 6 = .ok (.getfield 96, 3) := by decide +kernel
theorem d_R_isMessage_9 : decode prog_10_method_6_code 9 = .ok (.if_icmp .ge 7, 3) := by decide +kernel
theorem d_R_isMessage_12 : decode prog_10_method_6_code 12 = .ok (.iconst 1, 1) := by decide +kernel
theorem d_R_isMessage_13 : decode prog_10_method_6_code 13 = .ok (.goto 4, 3) := by decide +kernel
theorem d_R_isMessage_16 : decode prog_10_method_6_code 16 = .ok (.iconst 0, 1) := by decide +kernel
theorem d_R_isMessage_17 : decode prog_10_method_6_code 17 = .ok (.ireturn, 1) := by decide +kernel
theorem d_R_sendOperation_0 : decode prog_10_method_7_code 0 = .ok (.aload_n 0, 1) := by decide +kernel
theorem d_R_sendOperation_1 : decode prog_10_method_7_code 1 = .ok (.getfield 46, 3) := by decide +kernel
theorem d_R_sendOperation_4 : decode prog_10_method_7_code 4 = .ok (.iload_n 1, 1) := by decide +kernel
theorem d_R_sendOperation_5 : decode prog_10_method_7_code 5 = .ok (.baload, 1) := by decide +kernel
theorem d_R_sendOperation_6 : decode prog_10_method_7_code 6 = .ok (.ifCond .eq 32, 3) := by decide +kernel
theorem d_R_sendOperation_9 : decode prog_10_method_7_code 9 = .ok (.aload_n 0, 1) := by decide +kernel
theorem d_R_sendOperation_10 : decode prog_10_method_7_code 10 = .ok (.iconst 1, 1) := by decide +kernel
theorem d_R_sendOperation_11 : decode prog_10_method_7_code 11 = .ok (.iload_n 1, 1) := by decide +kernel
theorem d_R_sendOperation_12 : decode prog_10_method_7_code 12 = .ok (.aload_n 0, 1) := by decide +kernel
theorem d_R_sendOperation_13 : decode prog_10_method_7_code 13 = .ok (.getfield 50, 3) := by decide +kernel
theorem d_R_sendOperation_16 : decode prog_10_method_7_code 16 = .ok (.iload_n 1, 1) := by decide +kernel
theorem d_R_sendOperation_17 : decode prog_10_method_7_code 17 = .ok (.iaload, 1) := by decide +kernel
theorem d_R_sendOperation_18 : decode prog_10_method_7_code 18 = .ok (.aload_n 0, 1) := by decide +kernel
theorem d_R_sendOperation_19 : decode prog_10_method_7_code 19 = .ok (.getfield 40, 3) := by decide +kernel
theorem d_R_sendOperation_22 : decode prog_10_method_7_code 22 = .ok (.iload_n 1, 1) := by decide +kernel
theorem d_R_sendOperation_23 : decode prog_10_method_7_code 23 = .ok (.iaload, 1) := by decide +kernel
theorem d_R_sendOperation_24 : decode prog_10_method_7_code 24 = .ok (.aload_n 0, 1) := by decide +kernel
theorem d_R_sendOperation_25 : decode prog_10_method_7_code 25 = .ok (.getfield 53, 3) := by decide +kernel
theorem d_R_sendOperation_28 : decode prog_10_method_7_code 28 = .ok (.iload_n 1, 1) := by decide +kernel
theorem d_R_sendOperation_29 : decode prog_10_method_7_code 29 = .ok (.iaload, 1) := by decide +kernel
theorem d_R_sendOperation_30 : decode prog_10_method_7_code 30 = .ok (.iconst 0, 1) := by decide +kernel
theorem d_R_sendOperation_31 : decode prog_10_method_7_code 31 = .ok (.iconst 0, 1) := by decide +kernel
theorem d_R_sendOperation_32 : decode prog_10_method_7_code 32 = .ok (.invokevirtual 99, 3) := by decide +kernel
theorem d_R_sendOperation_35 : decode prog_10_method_7_code 35 = .ok (.goto 24, 3) := by decide +kernel
theorem d_R_sendOperation_38 : decode prog_10_method_7_code 38 = .ok (.aload_n 0, 1) := by decide +kernel
theorem d_R_sendOperation_39 : decode prog_10_method_7_code 39 = .ok (.iconst 0, 1) := by decide +kernel
theorem d_R_sendOperation_40 : decode prog_10_method_7_code 40 = .ok (.iload_n 1, 1) := by decide +kernel
theorem d_R_sendOperation_41 : decode prog_10_method_7_code 41 = .ok (.aload_n 0, 1) := by decide +kernel
theorem d_R_sendOperation_42 : decode prog_10_method_7_code 42 = .ok (.getfield 50, 3) := by decide +kernel
theorem d_R_sendOperation_45 : decode prog_10_method_7_code 45 = .ok (.iload_n 1, 1) := by decide +kernel
theorem d_R_sendOperation_46 : decode prog_10_method_7_code 46 = .ok (.iaload, 1) := by decide +kernel
theorem d_R_sendOperation_47 : decode prog_10_method_7_code 47 = .ok (.aload_n 0, 1) := by decide +kernel
theorem d_R_sendOperation_48 : decode prog_10_method_7_code 48 = .ok (.getfield 40, 3) := by decide +kernel
theorem d_R_sendOperation_51 : decode prog_10_method_7_code 51 = .ok (.iload_n 1, 1) := by decide +kernel
theorem d_R_sendOperation_52 : decode prog_10_method_7_code 52 = .ok (.iaload, 1) := by decide +kernel
theorem d_R_sendOperation_53 : decode prog_10_method_7_code 53 = .ok (.iconst 0, 1) := by decide +kernel
theorem d_R_sendOperation_54 : decode prog_10_method_7_code 54 = .ok (.iconst 0, 1) := by decide +kernel
theorem d_R_sendOperation_55 : decode prog_10_method_7_code 55 = .ok (.iconst 0, 1) := by decide +kernel
theorem d_R_sendOperation_56 : decode prog_10_method_7_code 56 = .ok (.invokevirtual 99, 3) := by decide +kernel
theorem d_R_sendOperation_59 : decode prog_10_method_7_code 59 = .ok (.return_, 1) := by decide +kernel
theorem d_R_begin_0 : decode prog_10_method_8_code 0 = .ok (.aload_n 0, 1) := by decide +kernel
theorem d_R_begin_1 : decode prog_10_method_8_code 1 = .ok (.getfield 40, 3) := by decide +kernel
theorem d_R_begin_4 : decode prog_10_method_8_code 4 = .ok (.iload_n 1, 1) := by decide +kernel
theorem d_R_begin_5 : decode prog_10_method_8_code 5 = .ok (.dup2, 1) := by decide +kernel
theorem d_R_begin_6 : decode prog_10_method_8_code 6 = .ok (.iaload, 1) := by decide +kernel
theorem d_R_begin_7 : decode prog_10_method_8_code 7 = .ok (.iconst 1, 1) := by decide +kernel
theorem d_R_begin_8 : decode prog_10_method_8_code 8 = .ok (.iadd, 1) := by decide +kernel
theorem d_R_begin_9 : decode prog_10_method_8_code 9 = .ok (.iastore, 1) := by decide +kernel
theorem d_R_begin_10 : decode prog_10_method_8_code 10 = .ok (.aload_n 0, 1) := by decide +kernel
theorem d_R_begin_11 : decode prog_10_method_8_code 11 = .ok (.getfield 43, 3) := by decide +kernel
theorem d_R_begin_14 : decode prog_10_method_8_code 14 = .ok (.iload_n 1, 1) := by decide +kernel
theorem d_R_begin_15 : decode prog_10_method_8_code 15 = .ok (.iconst 2, 1) := by decide +kernel
theorem d_R_begin_16 : decode prog_10_method_8_code 16 = .ok (.iastore, 1) := by decide +kernel
theorem d_R_begin_17 : decode prog_10_method_8_code 17 = .ok (.aload_n 0, 1) := by decide +kernel
theorem d_R_begin_18 : decode prog_10_method_8_code 18 = .ok (.getfield 46, 3) := by decide +kernel
theorem d_R_begin_21 : decode prog_10_method_8_code 21 = .ok (.iload_n 1, 1) := by decide +kernel
theorem d_R_begin_22 : decode prog_10_method_8_code 22 = .ok (.iload_n 3, 1) := by decide +kernel
theorem d_R_begin_23 : decode prog_10_method_8_code 23 = .ok (.bastore, 1) := by decide +kernel
theorem d_R_begin_24 : decode prog_10_method_8_code 24 = .ok (.aload_n 0, 1) := by decide +kernel
theorem d_R_begin_25 : decode prog_10_method_8_code 25 = .ok (.getfield 50, 3) := by decide +kernel
theorem d_R_begin_28 : decode prog_10_method_8_code 28 = .ok (.iload_n 1, 1) := by decide +kernel
theorem d_R_begin_29 : decode prog_10_method_8_code 29 = .ok (.iload_n 2, 1) := by decide +kernel
theorem d_R_begin_30 : decode prog_10_method_8_code 30 = .ok (.iastore, 1) := by decide +kernel
theorem d_R_begin_31 : decode prog_10_method_8_code 31 = .ok (.aload_n 0, 1) := by decide +kernel
theorem d_R_begin_32 : decode prog_10_method_8_code 32 = .ok (.getfield 53, 3) := by decide +kernel
theorem d_R_begin_35 : decode prog_10_method_8_code 35 = .ok (.iload_n 1, 1) := by decide +kernel
theorem d_R_begin_36 : decode prog_10_method_8_code 36 = .ok (.iload 4, 2) := by decide +kernel
theorem d_R_begin_38 : decode prog_10_method_8_code 38 = .ok (.iastore, 1) := by decide +kernel
theorem d_R_begin_39 : decode prog_10_method_8_code 39 = .ok (.aload_n 0, 1) := by decide +kernel
theorem d_R_begin_40 : decode prog_10_method_8_code 40 = .ok (.getfield 56, 3) := by decide +kernel
theorem d_R_begin_43 : decode prog_10_method_8_code 43 = .ok (.iload_n 1, 1) := by decide +kernel
theorem d_R_begin_44 : decode prog_10_method_8_code 44 = .ok (.aload_n 0, 1) := by decide +kernel
theorem d_R_begin_45 : decode prog_10_method_8_code 45 = .ok (.getfield 37, 3) := by decide +kernel
theorem d_R_begin_48 : decode prog_10_method_8_code 48 = .ok (.iload_n 1, 1) := by decide +kernel
theorem d_R_begin_49 : decode prog_10_method_8_code 49 = .ok (.iaload, 1) := by decide +kernel
theorem d_R_begin_50 : decode prog_10_method_8_code 50 = .ok (.iastore, 1) := by decide +kernel
theorem d_R_begin_51 : decode prog_10_method_8_code 51 = .ok (.aload_n 0, 1) := by decide +kernel
theorem d_R_begin_52 : decode prog_10_method_8_code 52 = .ok (.getfield 59, 3) := by decide +kernel
theorem d_R_begin_55 : decode prog_10_method_8_code 55 = .ok (.iload_n 1, 1) := by decide +kernel
theorem d_R_begin_56 : decode prog_10_method_8_code 56 = .ok (.iconst 0, 1) := by decide +kernel
theorem d_R_begin_57 : decode prog_10_method_8_code 57 = .ok (.bastore, 1) := by decide +kernel
theorem d_R_begin_58 : decode prog_10_method_8_code 58 = .ok (.return_, 1) := by decide +kernel
theorem d_R_finish_0 : decode prog_10_method_9_code 0 = .ok (.aload_n 0, 1) := by decide +kernel
theorem d_R_finish_1 : decode prog_10_method_9_code 1 = .ok (.getfield 43, 3) := by decide +kernel
theorem d_R_finish_4 : decode prog_10_method_9_code 4 = .ok (.iload_n 1, 1) := by decide +kernel
theorem d_R_finish_5 : decode prog_10_method_9_code 5 = .ok (.iconst 1, 1) := by decide +kernel
theorem d_R_finish_6 : decode prog_10_method_9_code 6 = .ok (.iastore, 1) := by decide +kernel
theorem d_R_finish_7 : decode prog_10_method_9_code 7 = .ok (.aload_n 0, 1) := by decide +kernel
theorem d_R_finish_8 : decode prog_10_method_9_code 8 = .ok (.getfield 62, 3) := by decide +kernel
theorem d_R_finish_11 : decode prog_10_method_9_code 11 = .ok (.iload_n 1, 1) := by decide +kernel
theorem d_R_finish_12 : decode prog_10_method_9_code 12 = .ok (.iload_n 2, 1) := by decide +kernel
theorem d_R_finish_13 : decode prog_10_method_9_code 13 = .ok (.iastore, 1) := by decide +kernel
theorem d_R_finish_14 : decode prog_10_method_9_code 14 = .ok (.aload_n 0, 1) := by decide +kernel
theorem d_R_finish_15 : decode prog_10_method_9_code 15 = .ok (.getfield 65, 3) := by decide +kernel
theorem d_R_finish_18 : decode prog_10_method_9_code 18 = .ok (.iload_n 1, 1) := by decide +kernel
theorem d_R_finish_19 : decode prog_10_method_9_code 19 = .ok (.iload_n 3, 1) := by decide +kernel
theorem d_R_finish_20 : decode prog_10_method_9_code 20 = .ok (.iastore, 1) := by decide +kernel
theorem d_R_finish_21 : decode prog_10_method_9_code 21 = .ok (.return_, 1) := by decide +kernel
theorem d_R_read_0 : decode prog_10_method_10_code 0 = .ok (.aload_n 0, 1) := by decide +kernel
theorem d_R_read_1 : decode prog_10_method_10_code 1 = .ok (.iload_n 1, 1) := by decide +kernel
theorem d_R_read_2 : decode prog_10_method_10_code 2 = .ok (.invokevirtual 103, 3) := by decide +kernel
theorem d_R_read_5 : decode prog_10_method_10_code 5 = .ok (.ifCond .eq 11, 3) := by decide +kernel
theorem d_R_read_8 : decode prog_10_method_10_code 8 = .ok (.aload_n 0, 1) := by decide +kernel
theorem d_R_read_9 : decode prog_10_method_10_code 9 = .ok (.iload_n 2, 1) := by decide +kernel
theorem d_R_read_10 : decode prog_10_method_10_code 10 = .ok (.invokevirtual 107, 3) := by decide +kernel
theorem d_R_read_13 : decode prog_10_method_10_code 13 = .ok (.ifCond .ne 5, 3) := by decide +kernel
theorem d_R_read_16 : decode prog_10_method_10_code 16 = .ok (.iconst (-1), 1) := by decide +kernel
theorem d_R_read_17 : decode prog_10_method_10_code 17 = .ok (.ireturn, 1) := by decide +kernel
theorem d_R_read_18 : decode prog_10_method_10_code 18 = .ok (.aload_n 0, 1) := by decide +kernel
theorem d_R_read_19 : decode prog_10_method_10_code 19 = .ok (.getfield 43, 3) := by decide +kernel
theorem d_R_read_22 : decode prog_10_method_10_code 22 = .ok (.iload_n 1, 1) := by decide +kernel
theorem d_R_read_23 : decode prog_10_method_10_code 23 = .ok (.iaload, 1) := by decide +kernel
theorem d_R_read_24 : decode prog_10_method_10_code 24 = .ok (.iconst 2, 1) := by decide +kernel
theorem d_R_read_25 : decode prog_10_method_10_code 25 = .ok (.if_icmp .ne 5, 3) := by decide +kernel
theorem d_R_read_28 : decode prog_10_method_10_code 28 = .ok (.iconst 0, 1) := by decide +kernel
theorem d_R_read_29 : decode prog_10_method_10_code 29 = .ok (.ireturn, 1) := by decide +kernel
theorem d_R_read_30 : decode prog_10_method_10_code 30 = .ok (.aload_n 0, 1) := by decide +kernel
theorem d_R_read_31 : decode prog_10_method_10_code 31 = .ok (.iload_n 1, 1) := by decide +kernel
theorem d_R_read_32 : decode prog_10_method_10_code 32 = .ok (.iload_n 2, 1) := by decide +kernel
theorem d_R_read_33 : decode prog_10_method_10_code 33 = .ok (.iconst 0, 1) := by decide +kernel
theorem d_R_read_34 : decode prog_10_method_10_code 34 = .ok (.iconst 0, 1) := by decide +kernel
theorem d_R_read_35 : decode prog_10_method_10_code 35 = .ok (.invokevirtual 110, 3) := by decide +kernel
theorem d_R_read_38 : decode prog_10_method_10_code 38 = .ok (.iconst 4, 1) := by decide +kernel
theorem d_R_read_39 : decode prog_10_method_10_code 39 = .ok (.iload_n 1, 1) := by decide +kernel
end
section
theorem d_R_read_40 : decode prog_10_method_10_code 40 = .ok (.imul, 1) := by decide +kernel
theorem d_R_read_41 : decode prog_10_method_10_code 41 = .ok (.iload_n 2, 1) := by decide +kernel
theorem d_R_read_42 : decode prog_10_method_10_code 42 = .ok (.iadd, 1) := by decide +kernel
theorem d_R_read_43 : decode prog_10_method_10_code 43 = .ok (.istore_n 3, 1) := by decide +kernel
theorem d_R_read_44 : decode prog_10_method_10_code 44 = .ok (.aload_n 0, 1) := by decide +kernel
theorem d_R_read_45 : decode prog_10_method_10_code 45 = .ok (.getfield 68, 3) := by decide +kernel
theorem d_R_read_48 : decode prog_10_method_10_code 48 = .ok (.iload_n 3, 1) := by decide +kernel
theorem d_R_read_49 : decode prog_10_method_10_code 49 = .ok (.baload, 1) := by decide +kernel
theorem d_R_read_50 : decode prog_10_method_10_code 50 = .ok (.ifCond .eq 37, 3) := by decide +kernel
theorem d_R_read_53 : decode prog_10_method_10_code 53 = .ok (.aload_n 0, 1) := by decide +kernel
theorem d_R_read_54 : decode prog_10_method_10_code 54 = .ok (.getfield 71, 3) := by decide +kernel
theorem d_R_read_57 : decode prog_10_method_10_code 57 = .ok (.iload_n 3, 1) := by decide +kernel
theorem d_R_read_58 : decode prog_10_method_10_code 58 = .ok (.iaload, 1) := by decide +kernel
theorem d_R_read_59 : decode prog_10_method_10_code 59 = .ok (.aload_n 0, 1) := by decide +kernel
theorem d_R_read_60 : decode prog_10_method_10_code 60 = .ok (.getfield 37, 3) := by decide +kernel
theorem d_R_read_63 : decode prog_10_method_10_code 63 = .ok (.iload_n 1, 1) := by decide +kernel
theorem d_R_read_64 : decode prog_10_method_10_code 64 = .ok (.iaload, 1) := by decide +kernel
theorem d_R_read_65 : decode prog_10_method_10_code 65 = .ok (.if_icmp .le 22, 3) := by decide +kernel
theorem d_R_read_68 : decode prog_10_method_10_code 68 = .ok (.aload_n 0, 1) := by decide +kernel
theorem d_R_read_69 : decode prog_10_method_10_code 69 = .ok (.iload_n 1, 1) := by decide +kernel
theorem d_R_read_70 : decode prog_10_method_10_code 70 = .ok (.aload_n 0, 1) := by decide +kernel
theorem d_R_read_71 : decode prog_10_method_10_code 71 = .ok (.getfield 74, 3) := by decide +kernel
theorem d_R_read_74 : decode prog_10_method_10_code 74 = .ok (.iload_n 3, 1) := by decide +kernel
theorem d_R_read_75 : decode prog_10_method_10_code 75 = .ok (.iaload, 1) := by decide +kernel
theorem d_R_read_76 : decode prog_10_method_10_code 76 = .ok (.aload_n 0, 1) := by decide +kernel
theorem d_R_read_77 : decode prog_10_method_10_code 77 = .ok (.getfield 77, 3) := by decide +kernel
theorem d_R_read_80 : decode prog_10_method_10_code 80 = .ok (.iload_n 3, 1) := by decide +kernel
theorem d_R_read_81 : decode prog_10_method_10_code 81 = .ok (.iaload, 1) := by decide +kernel
theorem d_R_read_82 : decode prog_10_method_10_code 82 = .ok (.invokevirtual 114, 3) := by decide +kernel
theorem d_R_read_85 : decode prog_10_method_10_code 85 = .ok (.iconst 1, 1) := by decide +kernel
theorem d_R_read_86 : decode prog_10_method_10_code 86 = .ok (.ireturn, 1) := by decide +kernel
theorem d_R_read_87 : decode prog_10_method_10_code 87 = .ok (.aload_n 0, 1) := by decide +kernel
theorem d_R_read_88 : decode prog_10_method_10_code 88 = .ok (.iload_n 1, 1) := by decide +kernel
theorem d_R_read_89 : decode prog_10_method_10_code 89 = .ok (.invokevirtual 118, 3) := by decide +kernel
theorem d_R_read_92 : decode prog_10_method_10_code 92 = .ok (.iconst 2, 1) := by decide +kernel
theorem d_R_read_93 : decode prog_10_method_10_code 93 = .ok (.ireturn, 1) := by decide +kernel
theorem d_R_write_0 : decode prog_10_method_11_code 0 = .ok (.aload_n 0, 1) := by decide +kernel
theorem d_R_write_1 : decode prog_10_method_11_code 1 = .ok (.iload_n 1, 1) := by decide +kernel
theorem d_R_write_2 : decode prog_10_method_11_code 2 = .ok (.invokevirtual 103, 3) := by decide +kernel
theorem d_R_write_5 : decode prog_10_method_11_code 5 = .ok (.ifCond .eq 11, 3) := by decide +kernel
theorem d_R_write_8 : decode prog_10_method_11_code 8 = .ok (.aload_n 0, 1) := by decide +kernel
theorem d_R_write_9 : decode prog_10_method_11_code 9 = .ok (.iload_n 2, 1) := by decide +kernel
theorem d_R_write_10 : decode prog_10_method_11_code 10 = .ok (.invokevirtual 107, 3) := by decide +kernel
theorem d_R_write_13 : decode prog_10_method_11_code 13 = .ok (.ifCond .ne 5, 3) := by decide +kernel
theorem d_R_write_16 : decode prog_10_method_11_code 16 = .ok (.iconst (-1), 1) := by decide +kernel
theorem d_R_write_17 : decode prog_10_method_11_code 17 = .ok (.ireturn, 1) := by decide +kernel
theorem d_R_write_18 : decode prog_10_method_11_code 18 = .ok (.aload_n 0, 1) := by decide +kernel
theorem d_R_write_19 : decode prog_10_method_11_code 19 = .ok (.getfield 43, 3) := by decide +kernel
theorem d_R_write_22 : decode prog_10_method_11_code 22 = .ok (.iload_n 1, 1) := by decide +kernel
theorem d_R_write_23 : decode prog_10_method_11_code 23 = .ok (.iaload, 1) := by decide +kernel
theorem d_R_write_24 : decode prog_10_method_11_code 24 = .ok (.iconst 2, 1) := by decide +kernel
theorem d_R_write_25 : decode prog_10_method_11_code 25 = .ok (.if_icmp .ne 5, 3) := by decide +kernel
theorem d_R_write_28 : decode prog_10_method_11_code 28 = .ok (.iconst 0, 1) := by decide +kernel
theorem d_R_write_29 : decode prog_10_method_11_code 29 = .ok (.ireturn, 1) := by decide +kernel
theorem d_R_write_30 : decode prog_10_method_11_code 30 = .ok (.aload_n 0, 1) := by decide +kernel
theorem d_R_write_31 : decode prog_10_method_11_code 31 = .ok (.iload_n 1, 1) := by decide +kernel
theorem d_R_write_32 : decode prog_10_method_11_code 32 = .ok (.iload_n 2, 1) := by decide +kernel
theorem d_R_write_33 : decode prog_10_method_11_code 33 = .ok (.iconst 1, 1) := by decide +kernel
theorem d_R_write_34 : decode prog_10_method_11_code 34 = .ok (.iload_n 3, 1) := by decide +kernel
theorem d_R_write_35 : decode prog_10_method_11_code 35 = .ok (.invokevirtual 110, 3) := by decide +kernel
theorem d_R_write_38 : decode prog_10_method_11_code 38 = .ok (.aload_n 0, 1) := by decide +kernel
theorem d_R_write_39 : decode prog_10_method_11_code 39 = .ok (.getfield 68, 3) := by decide +kernel
theorem d_R_write_42 : decode prog_10_method_11_code 42 = .ok (.iconst 4, 1) := by decide +kernel
theorem d_R_write_43 : decode prog_10_method_11_code 43 = .ok (.iload_n 1, 1) := by decide +kernel
theorem d_R_write_44 : decode prog_10_method_11_code 44 = .ok (.imul, 1) := by decide +kernel
theorem d_R_write_45 : decode prog_10_method_11_code 45 = .ok (.iload_n 2, 1) := by decide +kernel
theorem d_R_write_46 : decode prog_10_method_11_code 46 = .ok (.iadd, 1) := by decide +kernel
theorem d_R_write_47 : decode prog_10_method_11_code 47 = .ok (.iconst 0, 1) := by decide +kernel
theorem d_R_write_48 : decode prog_10_method_11_code 48 = .ok (.bastore, 1) := by decide +kernel
theorem d_R_write_49 : decode prog_10_method_11_code 49 = .ok (.aload_n 0, 1) := by decide +kernel
theorem d_R_write_50 : decode prog_10_method_11_code 50 = .ok (.iload_n 1, 1) := by decide +kernel
theorem d_R_write_51 : decode prog_10_method_11_code 51 = .ok (.invokevirtual 118, 3) := by decide +kernel
theorem d_R_write_54 : decode prog_10_method_11_code 54 = .ok (.iconst 2, 1) := by decide +kernel
theorem d_R_write_55 : decode prog_10_method_11_code 55 = .ok (.ireturn, 1) := by decide +kernel
theorem d_R_retry_0 : decode prog_10_method_12_code 0 = .ok (.aload_n 0, 1) := by decide +kernel
theorem d_R_retry_1 : decode prog_10_method_12_code 1 = .ok (.iload_n 1, 1) := by decide +kernel
theorem d_R_retry_2 : decode prog_10_method_12_code 2 = .ok (.invokevirtual 103, 3) := by decide +kernel
theorem d_R_retry_5 : decode prog_10_method_12_code 5 = .ok (.ifCond .ne 5, 3) := by decide +kernel
theorem d_R_retry_8 : decode prog_10_method_12_code 8 = .ok (.iconst (-1), 1) := by decide +kernel
theorem d_R_retry_9 : decode prog_10_method_12_code 9 = .ok (.ireturn, 1) := by decide +kernel
theorem d_R_retry_10 : decode prog_10_method_12_code 10 = .ok (.aload_n 0, 1) := by decide +kernel
theorem d_R_retry_11 : decode prog_10_method_12_code 11 = .ok (.getfield 43, 3) := by decide +kernel
theorem d_R_retry_14 : decode prog_10_method_12_code 14 = .ok (.iload_n 1, 1) := by decide +kernel
theorem d_R_retry_15 : decode prog_10_method_12_code 15 = .ok (.iaload, 1) := by decide +kernel
theorem d_R_retry_16 : decode prog_10_method_12_code 16 = .ok (.iconst 2, 1) := by decide +kernel
theorem d_R_retry_17 : decode prog_10_method_12_code 17 = .ok (.if_icmp .eq 5, 3) := by decide +kernel
theorem d_R_retry_20 : decode prog_10_method_12_code 20 = .ok (.iconst 0, 1) := by decide +kernel
theorem d_R_retry_21 : decode prog_10_method_12_code 21 = .ok (.ireturn, 1) := by decide +kernel
theorem d_R_retry_22 : decode prog_10_method_12_code 22 = .ok (.aload_n 0, 1) := by decide +kernel
theorem d_R_retry_23 : decode prog_10_method_12_code 23 = .ok (.iload_n 1, 1) := by decide +kernel
theorem d_R_retry_24 : decode prog_10_method_12_code 24 = .ok (.invokevirtual 118, 3) := by decide +kernel
theorem d_R_retry_27 : decode prog_10_method_12_code 27 = .ok (.aload_n 0, 1) := by decide +kernel
theorem d_R_retry_28 : decode prog_10_method_12_code 28 = .ok (.getfield 40, 3) := by decide +kernel
theorem d_R_retry_31 : decode prog_10_method_12_code 31 = .ok (.iload_n 1, 1) := by decide +kernel
theorem d_R_retry_32 : decode prog_10_method_12_code 32 = .ok (.iaload, 1) := by decide +kernel
theorem d_R_retry_33 : decode prog_10_method_12_code 33 = .ok (.ireturn, 1) := by decide +kernel
theorem d_R_status_0 : decode prog_10_method_13_code 0 = .ok (.aload_n 0, 1) := by decide +kernel
theorem d_R_status_1 : decode prog_10_method_13_code 1 = .ok (.iload_n 1, 1) := by decide +kernel
theorem d_R_status_2 : decode prog_10_method_13_code 2 = .ok (.invokevirtual 103, 3) := by decide +kernel
theorem d_R_status_5 : decode prog_10_method_13_code 5 = .ok (.ifCond .eq 12, 3) := by decide +kernel
theorem d_R_status_8 : decode prog_10_method_13_code 8 = .ok (.aload_n 0, 1) := by decide +kernel
theorem d_R_status_9 : decode prog_10_method_13_code 9 = .ok (.getfield 43, 3) := by decide +kernel
theorem d_R_status_12 : decode prog_10_method_13_code 12 = .ok (.iload_n 1, 1) := by decide +kernel
theorem d_R_status_13 : decode prog_10_method_13_code 13 = .ok (.iaload, 1) := by decide +kernel
theorem d_R_status_14 : decode prog_10_method_13_code 14 = .ok (.goto 4, 3) := by decide +kernel
theorem d_R_status_17 : decode prog_10_method_13_code 17 = .ok (.iconst (-1), 1) := by decide +kernel
theorem d_R_status_18 : decode prog_10_method_13_code 18 = .ok (.ireturn, 1) := by decide +kernel
theorem d_R_result_0 : decode prog_10_method_14_code 0 = .ok (.aload_n 0, 1) := by decide +kernel
theorem d_R_result_1 : decode prog_10_method_14_code 1 = .ok (.iload_n 1, 1) := by decide +kernel
theorem d_R_result_2 : decode prog_10_method_14_code 2 = .ok (.invokevirtual 103, 3) := by decide +kernel
theorem d_R_result_5 : decode prog_10_method_14_code 5 = .ok (.ifCond .eq 22, 3) := by decide +kernel
theorem d_R_result_8 : decode prog_10_method_14_code 8 = .ok (.aload_n 0, 1) := by decide +kernel
theorem d_R_result_9 : decode prog_10_method_14_code 9 = .ok (.getfield 43, 3) := by decide +kernel
theorem d_R_result_12 : decode prog_10_method_14_code 12 = .ok (.iload_n 1, 1) := by decide +kernel
theorem d_R_result_13 : decode prog_10_method_14_code 13 = .ok (.iaload, 1) := by decide +kernel
theorem d_R_result_14 : decode prog_10_method_14_code 14 = .ok (.iconst 1, 1) := by decide +kernel
theorem d_R_result_15 : decode prog_10_method_14_code 15 = .ok (.if_icmp .ne 12, 3) := by decide +kernel
theorem d_R_result_18 : decode prog_10_method_14_code 18 = .ok (.aload_n 0, 1) := by decide +kernel
theorem d_R_result_19 : decode prog_10_method_14_code 19 = .ok (.getfield 62, 3) := by decide +kernel
theorem d_R_result_22 : decode prog_10_method_14_code 22 = .ok (.iload_n 1, 1) := by decide +kernel
theorem d_R_result_23 : decode prog_10_method_14_code 23 = .ok (.iaload, 1) := by decide +kernel
theorem d_R_result_24 : decode prog_10_method_14_code 24 = .ok (.goto 4, 3) := by decide +kernel
theorem d_R_result_27 : decode prog_10_method_14_code 27 = .ok (.iconst 0, 1) := by decide +kernel
theorem d_R_result_28 : decode prog_10_method_14_code 28 = .ok (.ireturn, 1) := by decide +kernel
theorem d_R_version_0 : decode prog_10_method_15_code 0 = .ok (.aload_n 0, 1) := by decide +kernel
theorem d_R_version_1 : decode prog_10_method_15_code 1 = .ok (.iload_n 1, 1) := by decide +kernel
theorem d_R_version_2 : decode prog_10_method_15_code 2 = .ok (.invokevirtual 103, 3) := by decide +kernel
theorem d_R_version_5 : decode prog_10_method_15_code 5 = .ok (.ifCond .eq 22, 3) := by decide +kernel
theorem d_R_version_8 : decode prog_10_method_15_code 8 = .ok (.aload_n 0, 1) := by decide +kernel
theorem d_R_version_9 : decode prog_10_method_15_code 9 = .ok (.getfield 43, 3) := by decide +kernel
theorem d_R_version_12 : decode prog_10_method_15_code 12 = .ok (.iload_n 1, 1) := by decide +kernel
theorem d_R_version_13 : decode prog_10_method_15_code 13 = .ok (.iaload, 1) := by decide +kernel
theorem d_R_version_14 : decode prog_10_method_15_code 14 = .ok (.iconst 1, 1) := by decide +kernel
theorem d_R_version_15 : decode prog_10_method_15_code 15 = .ok (.if_icmp .ne 12, 3) := by decide +kernel
theorem d_R_version_18 : decode prog_10_method_15_code 18 = .ok (.aload_n 0, 1) := by decide +kernel
theorem d_R_version_19 : decode prog_10_method_15_code 19 = .ok (.getfield 65, 3) := by decide +kernel
theorem d_R_version_22 : decode prog_10_method_15_code 22 = .ok (.iload_n 1, 1) := by decide +kernel
theorem d_R_version_23 : decode prog_10_method_15_code 23 = .ok (.iaload, 1) := by decide +kernel
theorem d_R_version_24 : decode prog_10_method_15_code 24 = .ok (.goto 4, 3) := by decide +kernel
theorem d_R_version_27 : decode prog_10_method_15_code 27 = .ok (.iconst (-1), 1) := by decide +kernel
theorem d_R_version_28 : decode prog_10_method_15_code 28 = .ok (.ireturn, 1) := by decide +kernel
theorem d_R_given_0 : decode prog_10_method_16_code 0 = .ok (.aload_n 0, 1) := by decide +kernel
theorem d_R_given_1 : decode prog_10_method_16_code 1 = .ok (.getfield 43, 3) := by decide +kernel
theorem d_R_given_4 : decode prog_10_method_16_code 4 = .ok (.iload_n 1, 1) := by decide +kernel
theorem d_R_given_5 : decode prog_10_method_16_code 5 = .ok (.iaload, 1) := by decide +kernel
theorem d_R_given_6 : decode prog_10_method_16_code 6 = .ok (.iconst 2, 1) := by decide +kernel
theorem d_R_given_7 : decode prog_10_method_16_code 7 = .ok (.if_icmp .ne 22, 3) := by decide +kernel
theorem d_R_given_10 : decode prog_10_method_16_code 10 = .ok (.aload_n 0, 1) := by decide +kernel
theorem d_R_given_11 : decode prog_10_method_16_code 11 = .ok (.getfield 46, 3) := by decide +kernel
theorem d_R_given_14 : decode prog_10_method_16_code 14 = .ok (.iload_n 1, 1) := by decide +kernel
theorem d_R_given_15 : decode prog_10_method_16_code 15 = .ok (.baload, 1) := by decide +kernel
theorem d_R_given_16 : decode prog_10_method_16_code 16 = .ok (.ifCond .ne 13, 3) := by decide +kernel
theorem d_R_given_19 : decode prog_10_method_16_code 19 = .ok (.aload_n 0, 1) := by decide +kernel
theorem d_R_given_20 : decode prog_10_method_16_code 20 = .ok (.getfield 40, 3) := by decide +kernel
theorem d_R_given_23 : decode prog_10_method_16_code 23 = .ok (.iload_n 1, 1) := by decide +kernel
theorem d_R_given_24 : decode prog_10_method_16_code 24 = .ok (.iaload, 1) := by decide +kernel
theorem d_R_given_25 : decode prog_10_method_16_code 25 = .ok (.iload_n 3, 1) := by decide +kernel
theorem d_R_given_26 : decode prog_10_method_16_code 26 = .ok (.if_icmp .eq 4, 3) := by decide +kernel
theorem d_R_given_29 : decode prog_10_method_16_code 29 = .ok (.return_, 1) := by decide +kernel
theorem d_R_given_30 : decode prog_10_method_16_code 30 = .ok (.aload_n 0, 1) := by decide +kernel
theorem d_R_given_31 : decode prog_10_method_16_code 31 = .ok (.iload_n 1, 1) := by decide +kernel
theorem d_R_given_32 : decode prog_10_method_16_code 32 = .ok (.iload 4, 2) := by decide +kernel
theorem d_R_given_34 : decode prog_10_method_16_code 34 = .ok (.iload 5, 2) := by decide +kernel
theorem d_R_given_36 : decode prog_10_method_16_code 36 = .ok (.invokevirtual 114, 3) := by decide +kernel
theorem d_R_given_39 : decode prog_10_method_16_code 39 = .ok (.iload 6, 2) := by decide +kernel
theorem d_R_given_41 : decode prog_10_method_16_code 41 = .ok (.iconst 1, 1) := by decide +kernel
theorem d_R_given_42 : decode prog_10_method_16_code 42 = .ok (.if_icmp .ne 63, 3) := by decide +kernel
theorem d_R_given_45 : decode prog_10_method_16_code 45 = .ok (.aload_n 0, 1) := by decide +kernel
theorem d_R_given_46 : decode prog_10_method_16_code 46 = .ok (.getfield 59, 3) := by decide +kernel
theorem d_R_given_49 : decode prog_10_method_16_code 49 = .ok (.iload_n 1, 1) := by decide +kernel
theorem d_R_given_50 : decode prog_10_method_16_code 50 = .ok (.baload, 1) := by decide +kernel
theorem d_R_given_51 : decode prog_10_method_16_code 51 = .ok (.ifCond .ne 54, 3) := by decide +kernel
theorem d_R_given_54 : decode prog_10_method_16_code 54 = .ok (.iconst 4, 1) := by decide +kernel
theorem d_R_given_55 : decode prog_10_method_16_code 55 = .ok (.iload_n 1, 1) := by decide +kernel
theorem d_R_given_56 : decode prog_10_method_16_code 56 = .ok (.imul, 1) := by decide +kernel
theorem d_R_given_57 : decode prog_10_method_16_code 57 = .ok (.iload_n 2, 1) := by decide +kernel
theorem d_R_given_58 : decode prog_10_method_16_code 58 = .ok (.iadd, 1) := by decide +kernel
theorem d_R_given_59 : decode prog_10_method_16_code 59 = .ok (.istore 7, 2) := by decide +kernel
theorem d_R_given_61 : decode prog_10_method_16_code 61 = .ok (.aload_n 0, 1) := by decide +kernel
theorem d_R_given_62 : decode prog_10_method_16_code 62 = .ok (.getfield 68, 3) := by decide +kernel
theorem d_R_given_65 : decode prog_10_method_16_code 65 = .ok (.iload 7, 2) := by decide +kernel
theorem d_R_given_67 : decode prog_10_method_16_code 67 = .ok (.iconst 1, 1) := by decide +kernel
theorem d_R_given_68 : decode prog_10_method_16_code 68 = .ok (.bastore, 1) := by decide +kernel
theorem d_R_given_69 : decode prog_10_method_16_code 69 = .ok (.aload_n 0, 1) := by decide +kernel
theorem d_R_given_70 : decode prog_10_method_16_code 70 = .ok (.getfield 71, 3) := by decide +kernel
theorem d_R_given_73 : decode prog_10_method_16_code 73 = .ok (.iload 7, 2) := by decide +kernel
theorem d_R_given_75 : decode prog_10_method_16_code 75 = .ok (.aload_n 0, 1) := by decide +kernel
theorem d_R_given_76 : decode prog_10_method_16_code 76 = .ok (.getfield 56, 3) := by decide +kernel
theorem d_R_given_79 : decode prog_10_method_16_code 79 = .ok (.iload_n 1, 1) := by decide +kernel
theorem d_R_given_80 : decode prog_10_method_16_code 80 = .ok (.iaload, 1) := by decide +kernel
theorem d_R_given_81 : decode prog_10_method_16_code 81 = .ok (.aload_n 0, 1) := by decide +kernel
theorem d_R_given_82 : decode prog_10_method_16_code 82 = .ok (.getfield 93, 3) := by decide +kernel
theorem d_R_given_85 : decode prog_10_method_16_code 85 = .ok (.iadd, 1) := by decide +kernel
theorem d_R_given_86 : decode prog_10_method_16_code 86 = .ok (.iastore, 1) := by decide +kernel
theorem d_R_given_87 : decode prog_10_method_16_code 87 = .ok (.aload_n 0, 1) := by decide +kernel
theorem d_R_given_88 : decode prog_10_method_16_code 88 = .ok (.getfield 74, 3) := by decide +kernel
theorem d_R_given_91 : decode prog_10_method_16_code 91 = .ok (.iload 7, 2) := by decide +kernel
theorem d_R_given_93 : decode prog_10_method_16_code 93 = .ok (.iload 4, 2) := by decide +kernel
theorem d_R_given_95 : decode prog_10_method_16_code 95 = .ok (.iastore, 1) := by decide +kernel
theorem d_R_given_96 : decode prog_10_method_16_code 96 = .ok (.aload_n 0, 1) := by decide +kernel
theorem d_R_given_97 : decode prog_10_method_16_code 97 = .ok (.getfield 77, 3) := by decide +kernel
theorem d_R_given_100 : decode prog_10_method_16_code 100 = .ok (.iload 7, 2) := by decide +kernel
theorem d_R_given_102 : decode prog_10_method_16_code 102 = .ok (.iload 5, 2) := by decide +kernel
theorem d_R_given_104 : decode prog_10_method_16_code 104 = .ok (.iastore, 1) := by decide +kernel
theorem d_R_given_105 : decode prog_10_method_16_code 105 = .ok (.return_, 1) := by decide +kernel
theorem d_R_stored_0 : decode prog_10_method_17_code 0 = .ok (.aload_n 0, 1) := by decide +kernel
theorem d_R_stored_1 : decode prog_10_method_17_code 1 = .ok (.getfield 43, 3) := by decide +kernel
theorem d_R_stored_4 : decode prog_10_method_17_code 4 = .ok (.iload_n 1, 1) := by decide +kernel
theorem d_R_stored_5 : decode prog_10_method_17_code 5 = .ok (.iaload, 1) := by decide +kernel
theorem d_R_stored_6 : decode prog_10_method_17_code 6 = .ok (.iconst 2, 1) := by decide +kernel
theorem d_R_stored_7 : decode prog_10_method_17_code 7 = .ok (.if_icmp .ne 29, 3) := by decide +kernel
theorem d_R_stored_10 : decode prog_10_method_17_code 10 = .ok (.aload_n 0, 1) := by decide +kernel
theorem d_R_stored_11 : decode prog_10_method_17_code 11 = .ok (.getfield 46, 3) := by decide +kernel
theorem d_R_stored_14 : decode prog_10_method_17_code 14 = .ok (.iload_n 1, 1) := by decide +kernel
theorem d_R_stored_15 : decode prog_10_method_17_code 15 = .ok (.baload, 1) := by decide +kernel
theorem d_R_stored_16 : decode prog_10_method_17_code 16 = .ok (.ifCond .eq 20, 3) := by decide +kernel
theorem d_R_stored_19 : decode prog_10_method_17_code 19 = .ok (.aload_n 0, 1) := by decide +kernel
theorem d_R_stored_20 : decode prog_10_method_17_code 20 = .ok (.getfield 40, 3) := by decide +kernel
theorem d_R_stored_23 : decode prog_10_method_17_code 23 = .ok (.iload_n 1, 1) := by decide +kernel
theorem d_R_stored_24 : decode prog_10_method_17_code 24 = .ok (.iaload, 1) := by decide +kernel
theorem d_R_stored_25 : decode prog_10_method_17_code 25 = .ok (.iload_n 2, 1) := by decide +kernel
theorem d_R_stored_26 : decode prog_10_method_17_code 26 = .ok (.if_icmp .ne 10, 3) := by decide +kernel
theorem d_R_stored_29 : decode prog_10_method_17_code 29 = .ok (.aload_n 0, 1) := by decide +kernel
theorem d_R_stored_30 : decode prog_10_method_17_code 30 = .ok (.iload_n 1, 1) := by decide +kernel
theorem d_R_stored_31 : decode prog_10_method_17_code 31 = .ok (.iload_n 3, 1) := by decide +kernel
theorem d_R_stored_32 : decode prog_10_method_17_code 32 = .ok (.iload_n 3, 1) := by decide +kernel
theorem d_R_stored_33 : decode prog_10_method_17_code 33 = .ok (.invokevirtual 114, 3) := by decide +kernel
theorem d_R_stored_36 : decode prog_10_method_17_code 36 = .ok (.return_, 1) := by decide +kernel
theorem d_R_recalled_0 : decode prog_10_method_18_code 0 = .ok (.aload_n 0, 1) := by decide +kernel
theorem d_R_recalled_1 : decode prog_10_method_18_code 1 = .ok (.getfield 68, 3) := by decide +kernel
theorem d_R_recalled_4 : decode prog_10_method_18_code 4 = .ok (.iconst 4, 1) := by decide +kernel
theorem d_R_recalled_5 : decode prog_10_method_18_code 5 = .ok (.iload_n 1, 1) := by decide +kernel
theorem d_R_recalled_6 : decode prog_10_method_18_code 6 = .ok (.imul, 1) := by decide +kernel
theorem d_R_recalled_7 : decode prog_10_method_18_code 7 = .ok (.iload_n 2, 1) := by decide +kernel
theorem d_R_recalled_8 : decode prog_10_method_18_code 8 = .ok (.iadd, 1) := by decide +kernel
theorem d_R_recalled_9 : decode prog_10_method_18_code 9 = .ok (.iconst 0, 1) := by decide +kernel
theorem d_R_recalled_10 : decode prog_10_method_18_code 10 = .ok (.bastore, 1) := by decide +kernel
theorem d_R_recalled_11 : decode prog_10_method_18_code 11 = .ok (.aload_n 0, 1) := by decide +kernel
theorem d_R_recalled_12 : decode prog_10_method_18_code 12 = .ok (.getfield 43, 3) := by decide +kernel
theorem d_R_recalled_15 : decode prog_10_method_18_code 15 = .ok (.iload_n 1, 1) := by decide +kernel
theorem d_R_recalled_16 : decode prog_10_method_18_code 16 = .ok (.iaload, 1) := by decide +kernel
theorem d_R_recalled_17 : decode prog_10_method_18_code 17 = .ok (.iconst 2, 1) := by decide +kernel
theorem d_R_recalled_18 : decode prog_10_method_18_code 18 = .ok (.if_icmp .ne 29, 3) := by decide +kernel
theorem d_R_recalled_21 : decode prog_10_method_18_code 21 = .ok (.aload_n 0, 1) := by decide +kernel
theorem d_R_recalled_22 : decode prog_10_method_18_code 22 = .ok (.getfield 46, 3) := by decide +kernel
theorem d_R_recalled_25 : decode prog_10_method_18_code 25 = .ok (.iload_n 1, 1) := by decide +kernel
theorem d_R_recalled_26 : decode prog_10_method_18_code 26 = .ok (.baload, 1) := by decide +kernel
theorem d_R_recalled_27 : decode prog_10_method_18_code 27 = .ok (.ifCond .ne 20, 3) := by decide +kernel
theorem d_R_recalled_30 : decode prog_10_method_18_code 30 = .ok (.aload_n 0, 1) := by decide +kernel
theorem d_R_recalled_31 : decode prog_10_method_18_code 31 = .ok (.getfield 50, 3) := by decide +kernel
theorem d_R_recalled_34 : decode prog_10_method_18_code 34 = .ok (.iload_n 1, 1) := by decide +kernel
theorem d_R_recalled_35 : decode prog_10_method_18_code 35 = .ok (.iaload, 1) := by decide +kernel
theorem d_R_recalled_36 : decode prog_10_method_18_code 36 = .ok (.iload_n 2, 1) := by decide +kernel
theorem d_R_recalled_37 : decode prog_10_method_18_code 37 = .ok (.if_icmp .ne 10, 3) := by decide +kernel
theorem d_R_recalled_40 : decode prog_10_method_18_code 40 = .ok (.aload_n 0, 1) := by decide +kernel
theorem d_R_recalled_41 : decode prog_10_method_18_code 41 = .ok (.getfield 59, 3) := by decide +kernel
theorem d_R_recalled_44 : decode prog_10_method_18_code 44 = .ok (.iload_n 1, 1) := by decide +kernel
theorem d_R_recalled_45 : decode prog_10_method_18_code 45 = .ok (.iconst 1, 1) := by decide +kernel
theorem d_R_recalled_46 : decode prog_10_method_18_code 46 = .ok (.bastore, 1) := by decide +kernel
theorem d_R_recalled_47 : decode prog_10_method_18_code 47 = .ok (.aload_n 0, 1) := by decide +kernel
theorem d_R_recalled_48 : decode prog_10_method_18_code 48 = .ok (.iconst 5, 1) := by decide +kernel
theorem d_R_recalled_49 : decode prog_10_method_18_code 49 = .ok (.iload_n 1, 1) := by decide +kernel
theorem d_R_recalled_50 : decode prog_10_method_18_code 50 = .ok (.iload_n 2, 1) := by decide +kernel
theorem d_R_recalled_51 : decode prog_10_method_18_code 51 = .ok (.iload_n 3, 1) := by decide +kernel
theorem d_R_recalled_52 : decode prog_10_method_18_code 52 = .ok (.iload 4, 2) := by decide +kernel
theorem d_R_recalled_54 : decode prog_10_method_18_code 54 = .ok (.iload 5, 2) := by decide +kernel
theorem d_R_recalled_56 : decode prog_10_method_18_code 56 = .ok (.iconst 0, 1) := by decide +kernel
theorem d_R_recalled_57 : decode prog_10_method_18_code 57 = .ok (.invokevirtual 99, 3) := by decide +kernel
theorem d_R_recalled_60 : decode prog_10_method_18_code 60 = .ok (.return_, 1) := by decide +kernel
theorem d_R_isLeased_0 : decode prog_10_method_19_code 0 = .ok (.aload_n 0, 1) := by decide +kernel
theorem d_R_isLeased_1 : decode prog_10_method_19_code 1 = .ok (.getfield 16, 3) := by decide +kernel
theorem d_R_isLeased_4 : decode prog_10_method_19_code 4 = .ok (.iconst 4, 1) := by decide +kernel
theorem d_R_isLeased_5 : decode prog_10_method_19_code 5 = .ok (.iload_n 1, 1) := by decide +kernel
theorem d_R_isLeased_6 : decode prog_10_method_19_code 6 = .ok (.imul, 1) := by decide +kernel
theorem d_R_isLeased_7 : decode prog_10_method_19_code 7 = .ok (.iload_n 2, 1) := by decide +kernel
theorem d_R_isLeased_8 : decode prog_10_method_19_code 8 = .ok (.iadd, 1) := by decide +kernel
theorem d_R_isLeased_9 : decode prog_10_method_19_code 9 = .ok (.iaload, 1) := by decide +kernel
theorem d_R_isLeased_10 : decode prog_10_method_19_code 10 = .ok (.aload_n 0, 1) := by decide +kernel
theorem d_R_isLeased_11 : decode prog_10_method_19_code 11 = .ok (.getfield 122, 3) := by decide +kernel
theorem d_R_isLeased_14 : decode prog_10_method_19_code 14 = .ok (.if_icmp .le 7, 3) := by decide +kernel
theorem d_R_isLeased_17 : decode prog_10_method_19_code 17 = .ok (.iconst 1, 1) := by decide +kernel
theorem d_R_isLeased_18 : decode prog_10_method_19_code 18 = .ok (.goto 4, 3) := by decide +kernel
theorem d_R_isLeased_21 : decode prog_10_method_19_code 21 = .ok (.iconst 0, 1) := by decide +kernel
theorem d_R_isLeased_22 : decode prog_10_method_19_code 22 = .ok (.ireturn, 1) := by decide +kernel
theorem d_R_firstOf_0 : decode prog_10_method_20_code 0 = .ok (.iconst (-1), 1) := by decide +kernel
theorem d_R_firstOf_1 : decode prog_10_method_20_code 1 = .ok (.istore_n 2, 1) := by decide +kernel
theorem d_R_firstOf_2 : decode prog_10_method_20_code 2 = .ok (.aload_n 0, 1) := by decide +kernel
theorem d_R_firstOf_3 : decode prog_10_method_20_code 3 = .ok (.getfield 125, 3) := by decide +kernel
theorem d_R_firstOf_6 : decode prog_10_method_20_code 6 = .ok (.iconst 1, 1) := by decide +kernel
theorem d_R_firstOf_7 : decode prog_10_method_20_code 7 = .ok (.isub, 1) := by decide +kernel
theorem d_R_firstOf_8 : decode prog_10_method_20_code 8 = .ok (.istore_n 3, 1) := by decide +kernel
theorem d_R_firstOf_9 : decode prog_10_method_20_code 9 = .ok (.iload_n 3, 1) := by decide +kernel
theorem d_R_firstOf_10 : decode prog_10_method_20_code 10 = .ok (.ifCond .lt 25, 3) := by decide +kernel
theorem d_R_firstOf_13 : decode prog_10_method_20_code 13 = .ok (.aload_n 0, 1) := by decide +kernel
theorem d_R_firstOf_14 : decode prog_10_method_20_code 14 = .ok (.getfield 28, 3) := by decide +kernel
theorem d_R_firstOf_17 : decode prog_10_method_20_code 17 = .ok (.iload_n 3, 1) := by decide +kernel
theorem d_R_firstOf_18 : decode prog_10_method_20_code 18 = .ok (.iaload, 1) := by decide +kernel
theorem d_R_firstOf_19 : decode prog_10_method_20_code 19 = .ok (.iload_n 1, 1) := by decide +kernel
theorem d_R_firstOf_20 : decode prog_10_method_20_code 20 = .ok (.if_icmp .ne 7, 3) := by decide +kernel
theorem d_R_firstOf_23 : decode prog_10_method_20_code 23 = .ok (.iload_n 3, 1) := by decide +kernel
theorem d_R_firstOf_24 : decode prog_10_method_20_code 24 = .ok (.goto 4, 3) := by decide +kernel
theorem d_R_firstOf_27 : decode prog_10_method_20_code 27 = .ok (.iload_n 2, 1) := by decide +kernel
theorem d_R_firstOf_28 : decode prog_10_method_20_code 28 = .ok (.istore_n 2, 1) := by decide +kernel
theorem d_R_firstOf_29 : decode prog_10_method_20_code 29 = .ok (.iinc 3 (-1), 3) := by decide +kernel
theorem d_R_firstOf_32 : decode prog_10_method_20_code 32 = .ok (.goto (-23), 3) := by decide +kernel
theorem d_R_firstOf_35 : decode prog_10_method_20_code 35 = .ok (.iload_n 2, 1) := by decide +kernel
theorem d_R_firstOf_36 : decode prog_10_method_20_code 36 = .ok (.ireturn, 1) := by decide +kernel
theorem d_R_asked_0 : decode prog_10_method_21_code 0 = .ok (.aload_n 0, 1) := by decide +kernel
theorem d_R_asked_1 : decode prog_10_method_21_code 1 = .ok (.iload_n 2, 1) := by decide +kernel
theorem d_R_asked_2 : decode prog_10_method_21_code 2 = .ok (.invokevirtual 128, 3) := by decide +kernel
theorem d_R_asked_5 : decode prog_10_method_21_code 5 = .ok (.ifCond .ge 7, 3) := by decide +kernel
theorem d_R_asked_8 : decode prog_10_method_21_code 8 = .ok (.iconst 1, 1) := by decide +kernel
theorem d_R_asked_9 : decode prog_10_method_21_code 9 = .ok (.goto 4, 3) := by decide +kernel
theorem d_R_asked_12 : decode prog_10_method_21_code 12 = .ok (.iconst 0, 1) := by decide +kernel
theorem d_R_asked_13 : decode prog_10_method_21_code 13 = .ok (.istore 4, 2) := by decide +kernel
theorem d_R_asked_15 : decode prog_10_method_21_code 15 = .ok (.aload_n 0, 1) := by decide +kernel
theorem d_R_asked_16 : decode prog_10_method_21_code 16 = .ok (.iconst 2, 1) := by decide +kernel
theorem d_R_asked_17 : decode prog_10_method_21_code 17 = .ok (.iload_n 1, 1) := by decide +kernel
theorem d_R_asked_18 : decode prog_10_method_21_code 18 = .ok (.iload_n 2, 1) := by decide +kernel
theorem d_R_asked_19 : decode prog_10_method_21_code 19 = .ok (.iload_n 3, 1) := by decide +kernel
theorem d_R_asked_20 : decode prog_10_method_21_code 20 = .ok (.aload_n 0, 1) := by decide +kernel
theorem d_R_asked_21 : decode prog_10_method_21_code 21 = .ok (.getfield 7, 3) := by decide +kernel
theorem d_R_asked_24 : decode prog_10_method_21_code 24 = .ok (.iload_n 2, 1) := by decide +kernel
theorem d_R_asked_25 : decode prog_10_method_21_code 25 = .ok (.iaload, 1) := by decide +kernel
theorem d_R_asked_26 : decode prog_10_method_21_code 26 = .ok (.aload_n 0, 1) := by decide +kernel
theorem d_R_asked_27 : decode prog_10_method_21_code 27 = .ok (.getfield 13, 3) := by decide +kernel
theorem d_R_asked_30 : decode prog_10_method_21_code 30 = .ok (.iload_n 2, 1) := by decide +kernel
theorem d_R_asked_31 : decode prog_10_method_21_code 31 = .ok (.iaload, 1) := by decide +kernel
theorem d_R_asked_32 : decode prog_10_method_21_code 32 = .ok (.iload 4, 2) := by decide +kernel
theorem d_R_asked_34 : decode prog_10_method_21_code 34 = .ok (.ifCond .eq 7, 3) := by decide +kernel
theorem d_R_asked_37 : decode prog_10_method_21_code 37 = .ok (.iconst 1, 1) := by decide +kernel
theorem d_R_asked_38 : decode prog_10_method_21_code 38 = .ok (.goto 4, 3) := by decide +kernel
theorem d_R_asked_41 : decode prog_10_method_21_code 41 = .ok (.iconst 0, 1) := by decide +kernel
theorem d_R_asked_42 : decode prog_10_method_21_code 42 = .ok (.invokevirtual 99, 3) := by decide +kernel
theorem d_R_asked_45 : decode prog_10_method_21_code 45 = .ok (.iload 4, 2) := by decide +kernel
theorem d_R_asked_47 : decode prog_10_method_21_code 47 = .ok (.ifCond .eq 22, 3) := by decide +kernel
theorem d_R_asked_50 : decode prog_10_method_21_code 50 = .ok (.aload_n 0, 1) := by decide +kernel
theorem d_R_asked_51 : decode prog_10_method_21_code 51 = .ok (.getfield 16, 3) := by decide +kernel
theorem d_R_asked_54 : decode prog_10_method_21_code 54 = .ok (.iconst 4, 1) := by decide +kernel
theorem d_R_asked_55 : decode prog_10_method_21_code 55 = .ok (.iload_n 1, 1) := by decide +kernel
theorem d_R_asked_56 : decode prog_10_method_21_code 56 = .ok (.imul, 1) := by decide +kernel
theorem d_R_asked_57 : decode prog_10_method_21_code 57 = .ok (.iload_n 2, 1) := by decide +kernel
theorem d_R_asked_58 : decode prog_10_method_21_code 58 = .ok (.iadd, 1) := by decide +kernel
theorem d_R_asked_59 : decode prog_10_method_21_code 59 = .ok (.aload_n 0, 1) := by decide +kernel
theorem d_R_asked_60 : decode prog_10_method_21_code 60 = .ok (.getfield 122, 3) := by decide +kernel
theorem d_R_asked_63 : decode prog_10_method_21_code 63 = .ok (.aload_n 0, 1) := by decide +kernel
theorem d_R_asked_64 : decode prog_10_method_21_code 64 = .ok (.getfield 90, 3) := by decide +kernel
theorem d_R_asked_67 : decode prog_10_method_21_code 67 = .ok (.iadd, 1) := by decide +kernel
theorem d_R_asked_68 : decode prog_10_method_21_code 68 = .ok (.iastore, 1) := by decide +kernel
theorem d_R_asked_69 : decode prog_10_method_21_code 69 = .ok (.return_, 1) := by decide +kernel
theorem d_R_putCame_0 : decode prog_10_method_22_code 0 = .ok (.iload_n 3, 1) := by decide +kernel
theorem d_R_putCame_1 : decode prog_10_method_22_code 1 = .ok (.aload_n 0, 1) := by decide +kernel
theorem d_R_putCame_2 : decode prog_10_method_22_code 2 = .ok (.getfield 19, 3) := by decide +kernel
theorem d_R_putCame_5 : decode prog_10_method_22_code 5 = .ok (.iload_n 1, 1) := by decide +kernel
theorem d_R_putCame_6 : decode prog_10_method_22_code 6 = .ok (.iaload, 1) := by decide +kernel
theorem d_R_putCame_7 : decode prog_10_method_22_code 7 = .ok (.if_icmp .ne 20, 3) := by decide +kernel
theorem d_R_putCame_10 : decode prog_10_method_22_code 10 = .ok (.aload_n 0, 1) := by decide +kernel
theorem d_R_putCame_11 : decode prog_10_method_22_code 11 = .ok (.iconst 3, 1) := by decide +kernel
theorem d_R_putCame_12 : decode prog_10_method_22_code 12 = .ok (.iload_n 1, 1) := by decide +kernel
theorem d_R_putCame_13 : decode prog_10_method_22_code 13 = .ok (.iload_n 2, 1) := by decide +kernel
theorem d_R_putCame_14 : decode prog_10_method_22_code 14 = .ok (.iload_n 3, 1) := by decide +kernel
theorem d_R_putCame_15 : decode prog_10_method_22_code 15 = .ok (.aload_n 0, 1) := by decide +kernel
theorem d_R_putCame_16 : decode prog_10_method_22_code 16 = .ok (.getfield 22, 3) := by decide +kernel
theorem d_R_putCame_19 : decode prog_10_method_22_code 19 = .ok (.iload_n 1, 1) := by decide +kernel
theorem d_R_putCame_20 : decode prog_10_method_22_code 20 = .ok (.iaload, 1) := by decide +kernel
theorem d_R_putCame_21 : decode prog_10_method_22_code 21 = .ok (.iconst 0, 1) := by decide +kernel
theorem d_R_putCame_22 : decode prog_10_method_22_code 22 = .ok (.iconst 0, 1) := by decide +kernel
theorem d_R_putCame_23 : decode prog_10_method_22_code 23 = .ok (.invokevirtual 99, 3) := by decide +kernel
theorem d_R_putCame_26 : decode prog_10_method_22_code 26 = .ok (.return_, 1) := by decide +kernel
theorem d_R_putCame_27 : decode prog_10_method_22_code 27 = .ok (.iload_n 3, 1) := by decide +kernel
theorem d_R_putCame_28 : decode prog_10_method_22_code 28 = .ok (.aload_n 0, 1) := by decide +kernel
theorem d_R_putCame_29 : decode prog_10_method_22_code 29 = .ok (.getfield 19, 3) := by decide +kernel
theorem d_R_putCame_32 : decode prog_10_method_22_code 32 = .ok (.iload_n 1, 1) := by decide +kernel
theorem d_R_putCame_33 : decode prog_10_method_22_code 33 = .ok (.iaload, 1) := by decide +kernel
theorem d_R_putCame_34 : decode prog_10_method_22_code 34 = .ok (.if_icmp .ge 4, 3) := by decide +kernel
theorem d_R_putCame_37 : decode prog_10_method_22_code 37 = .ok (.return_, 1) := by decide +kernel
theorem d_R_putCame_38 : decode prog_10_method_22_code 38 = .ok (.iconst 0, 1) := by decide +kernel
theorem d_R_putCame_39 : decode prog_10_method_22_code 39 = .ok (.istore 5, 2) := by decide +kernel
theorem d_R_putCame_41 : decode prog_10_method_22_code 41 = .ok (.iconst 0, 1) := by decide +kernel
theorem d_R_putCame_42 : decode prog_10_method_22_code 42 = .ok (.istore 6, 2) := by decide +kernel
theorem d_R_putCame_44 : decode prog_10_method_22_code 44 = .ok (.iload 6, 2) := by decide +kernel
theorem d_R_putCame_46 : decode prog_10_method_22_code 46 = .ok (.aload_n 0, 1) := by decide +kernel
theorem d_R_putCame_47 : decode prog_10_method_22_code 47 = .ok (.getfield 125, 3) := by decide +kernel
theorem d_R_putCame_50 : decode prog_10_method_22_code 50 = .ok (.if_icmp .ge 54, 3) := by decide +kernel
theorem d_R_putCame_53 : decode prog_10_method_22_code 53 = .ok (.iload 5, 2) := by decide +kernel
theorem d_R_putCame_55 : decode prog_10_method_22_code 55 = .ok (.ifCond .ne 36, 3) := by decide +kernel
theorem d_R_putCame_58 : decode prog_10_method_22_code 58 = .ok (.aload_n 0, 1) := by decide +kernel
theorem d_R_putCame_59 : decode prog_10_method_22_code 59 = .ok (.getfield 25, 3) := by decide +kernel
theorem d_R_putCame_62 : decode prog_10_method_22_code 62 = .ok (.iload 6, 2) := by decide +kernel
theorem d_R_putCame_64 : decode prog_10_method_22_code 64 = .ok (.iaload, 1) := by decide +kernel
theorem d_R_putCame_65 : decode prog_10_method_22_code 65 = .ok (.iload_n 1, 1) := by decide +kernel
theorem d_R_putCame_66 : decode prog_10_method_22_code 66 = .ok (.if_icmp .ne 29, 3) := by decide +kernel
theorem d_R_putCame_69 : decode prog_10_method_22_code 69 = .ok (.aload_n 0, 1) := by decide +kernel
theorem d_R_putCame_70 : decode prog_10_method_22_code 70 = .ok (.getfield 28, 3) := by decide +kernel
theorem d_R_putCame_73 : decode prog_10_method_22_code 73 = .ok (.iload 6, 2) := by decide +kernel
theorem d_R_putCame_75 : decode prog_10_method_22_code 75 = .ok (.iaload, 1) := by decide +kernel
theorem d_R_putCame_76 : decode prog_10_method_22_code 76 = .ok (.iload_n 2, 1) := by decide +kernel
theorem d_R_putCame_77 : decode prog_10_method_22_code 77 = .ok (.if_icmp .ne 18, 3) := by decide +kernel
theorem d_R_putCame_80 : decode prog_10_method_22_code 80 = .ok (.aload_n 0, 1) := by decide +kernel
theorem d_R_putCame_81 : decode prog_10_method_22_code 81 = .ok (.getfield 31, 3) := by decide +kernel
end
section
theorem d_R_putCame_84 : decode prog_10_method_22_code 84 = .ok (.iload 6, 2) := by decide +kernel
theorem d_R_putCame_86 : decode prog_10_method_22_code 86 = .ok (.iaload, 1) := by decide +kernel
theorem d_R_putCame_87 : decode prog_10_method_22_code 87 = .ok (.iload_n 3, 1) := by decide +kernel
theorem d_R_putCame_88 : decode prog_10_method_22_code 88 = .ok (.if_icmp .ne 7, 3) := by decide +kernel
theorem d_R_putCame_91 : decode prog_10_method_22_code 91 = .ok (.iconst 1, 1) := by decide +kernel
theorem d_R_putCame_92 : decode prog_10_method_22_code 92 = .ok (.goto 4, 3) := by decide +kernel
theorem d_R_putCame_95 : decode prog_10_method_22_code 95 = .ok (.iconst 0, 1) := by decide +kernel
theorem d_R_putCame_96 : decode prog_10_method_22_code 96 = .ok (.istore 5, 2) := by decide +kernel
theorem d_R_putCame_98 : decode prog_10_method_22_code 98 = .ok (.iinc 6 1, 3) := by decide +kernel
theorem d_R_putCame_101 : decode prog_10_method_22_code 101 = .ok (.goto (-57), 3) := by decide +kernel
theorem d_R_putCame_104 : decode prog_10_method_22_code 104 = .ok (.iload 5, 2) := by decide +kernel
theorem d_R_putCame_106 : decode prog_10_method_22_code 106 = .ok (.ifCond .ne 54, 3) := by decide +kernel
theorem d_R_putCame_109 : decode prog_10_method_22_code 109 = .ok (.aload_n 0, 1) := by decide +kernel
theorem d_R_putCame_110 : decode prog_10_method_22_code 110 = .ok (.getfield 25, 3) := by decide +kernel
theorem d_R_putCame_113 : decode prog_10_method_22_code 113 = .ok (.aload_n 0, 1) := by decide +kernel
theorem d_R_putCame_114 : decode prog_10_method_22_code 114 = .ok (.getfield 125, 3) := by decide +kernel
theorem d_R_putCame_117 : decode prog_10_method_22_code 117 = .ok (.iload_n 1, 1) := by decide +kernel
theorem d_R_putCame_118 : decode prog_10_method_22_code 118 = .ok (.iastore, 1) := by decide +kernel
theorem d_R_putCame_119 : decode prog_10_method_22_code 119 = .ok (.aload_n 0, 1) := by decide +kernel
theorem d_R_putCame_120 : decode prog_10_method_22_code 120 = .ok (.getfield 28, 3) := by decide +kernel
theorem d_R_putCame_123 : decode prog_10_method_22_code 123 = .ok (.aload_n 0, 1) := by decide +kernel
theorem d_R_putCame_124 : decode prog_10_method_22_code 124 = .ok (.getfield 125, 3) := by decide +kernel
theorem d_R_putCame_127 : decode prog_10_method_22_code 127 = .ok (.iload_n 2, 1) := by decide +kernel
theorem d_R_putCame_128 : decode prog_10_method_22_code 128 = .ok (.iastore, 1) := by decide +kernel
theorem d_R_putCame_129 : decode prog_10_method_22_code 129 = .ok (.aload_n 0, 1) := by decide +kernel
theorem d_R_putCame_130 : decode prog_10_method_22_code 130 = .ok (.getfield 31, 3) := by decide +kernel
theorem d_R_putCame_133 : decode prog_10_method_22_code 133 = .ok (.aload_n 0, 1) := by decide +kernel
theorem d_R_putCame_134 : decode prog_10_method_22_code 134 = .ok (.getfield 125, 3) := by decide +kernel
theorem d_R_putCame_137 : decode prog_10_method_22_code 137 = .ok (.iload_n 3, 1) := by decide +kernel
theorem d_R_putCame_138 : decode prog_10_method_22_code 138 = .ok (.iastore, 1) := by decide +kernel
theorem d_R_putCame_139 : decode prog_10_method_22_code 139 = .ok (.aload_n 0, 1) := by decide +kernel
theorem d_R_putCame_140 : decode prog_10_method_22_code 140 = .ok (.getfield 34, 3) := by decide +kernel
theorem d_R_putCame_143 : decode prog_10_method_22_code 143 = .ok (.aload_n 0, 1) := by decide +kernel
theorem d_R_putCame_144 : decode prog_10_method_22_code 144 = .ok (.getfield 125, 3) := by decide +kernel
theorem d_R_putCame_147 : decode prog_10_method_22_code 147 = .ok (.iload 4, 2) := by decide +kernel
theorem d_R_putCame_149 : decode prog_10_method_22_code 149 = .ok (.iastore, 1) := by decide +kernel
theorem d_R_putCame_150 : decode prog_10_method_22_code 150 = .ok (.aload_n 0, 1) := by decide +kernel
theorem d_R_putCame_151 : decode prog_10_method_22_code 151 = .ok (.dup, 1) := by decide +kernel
theorem d_R_putCame_152 : decode prog_10_method_22_code 152 = .ok (.getfield 125, 3) := by decide +kernel
theorem d_R_putCame_155 : decode prog_10_method_22_code 155 = .ok (.iconst 1, 1) := by decide +kernel
theorem d_R_putCame_156 : decode prog_10_method_22_code 156 = .ok (.iadd, 1) := by decide +kernel
theorem d_R_putCame_157 : decode prog_10_method_22_code 157 = .ok (.putfield 125, 3) := by decide +kernel
theorem d_R_putCame_160 : decode prog_10_method_22_code 160 = .ok (.aload_n 0, 1) := by decide +kernel
theorem d_R_putCame_161 : decode prog_10_method_22_code 161 = .ok (.iload_n 2, 1) := by decide +kernel
theorem d_R_putCame_162 : decode prog_10_method_22_code 162 = .ok (.invokevirtual 128, 3) := by decide +kernel
theorem d_R_putCame_165 : decode prog_10_method_22_code 165 = .ok (.istore 6, 2) := by decide +kernel
theorem d_R_putCame_167 : decode prog_10_method_22_code 167 = .ok (.aload_n 0, 1) := by decide +kernel
theorem d_R_putCame_168 : decode prog_10_method_22_code 168 = .ok (.getfield 25, 3) := by decide +kernel
theorem d_R_putCame_171 : decode prog_10_method_22_code 171 = .ok (.iload 6, 2) := by decide +kernel
theorem d_R_putCame_173 : decode prog_10_method_22_code 173 = .ok (.iaload, 1) := by decide +kernel
theorem d_R_putCame_174 : decode prog_10_method_22_code 174 = .ok (.iload_n 1, 1) := by decide +kernel
theorem d_R_putCame_175 : decode prog_10_method_22_code 175 = .ok (.if_icmp .ne 57, 3) := by decide +kernel
theorem d_R_putCame_178 : decode prog_10_method_22_code 178 = .ok (.aload_n 0, 1) := by decide +kernel
theorem d_R_putCame_179 : decode prog_10_method_22_code 179 = .ok (.getfield 31, 3) := by decide +kernel
theorem d_R_putCame_182 : decode prog_10_method_22_code 182 = .ok (.iload 6, 2) := by decide +kernel
theorem d_R_putCame_184 : decode prog_10_method_22_code 184 = .ok (.iaload, 1) := by decide +kernel
theorem d_R_putCame_185 : decode prog_10_method_22_code 185 = .ok (.iload_n 3, 1) := by decide +kernel
theorem d_R_putCame_186 : decode prog_10_method_22_code 186 = .ok (.if_icmp .ne 46, 3) := by decide +kernel
theorem d_R_putCame_189 : decode prog_10_method_22_code 189 = .ok (.iconst 0, 1) := by decide +kernel
theorem d_R_putCame_190 : decode prog_10_method_22_code 190 = .ok (.istore 7, 2) := by decide +kernel
theorem d_R_putCame_192 : decode prog_10_method_22_code 192 = .ok (.iload 7, 2) := by decide +kernel
theorem d_R_putCame_194 : decode prog_10_method_22_code 194 = .ok (.aload_n 0, 1) := by decide +kernel
theorem d_R_putCame_195 : decode prog_10_method_22_code 195 = .ok (.getfield 83, 3) := by decide +kernel
theorem d_R_putCame_198 : decode prog_10_method_22_code 198 = .ok (.if_icmp .ge 34, 3) := by decide +kernel
theorem d_R_putCame_201 : decode prog_10_method_22_code 201 = .ok (.aload_n 0, 1) := by decide +kernel
theorem d_R_putCame_202 : decode prog_10_method_22_code 202 = .ok (.iload 7, 2) := by decide +kernel
theorem d_R_putCame_204 : decode prog_10_method_22_code 204 = .ok (.iload_n 2, 1) := by decide +kernel
theorem d_R_putCame_205 : decode prog_10_method_22_code 205 = .ok (.invokevirtual 132, 3) := by decide +kernel
theorem d_R_putCame_208 : decode prog_10_method_22_code 208 = .ok (.ifCond .eq 18, 3) := by decide +kernel
theorem d_R_putCame_211 : decode prog_10_method_22_code 211 = .ok (.aload_n 0, 1) := by decide +kernel
theorem d_R_putCame_212 : decode prog_10_method_22_code 212 = .ok (.iconst 4, 1) := by decide +kernel
theorem d_R_putCame_213 : decode prog_10_method_22_code 213 = .ok (.iload 7, 2) := by decide +kernel
theorem d_R_putCame_215 : decode prog_10_method_22_code 215 = .ok (.iload_n 2, 1) := by decide +kernel
theorem d_R_putCame_216 : decode prog_10_method_22_code 216 = .ok (.iload_n 3, 1) := by decide +kernel
theorem d_R_putCame_217 : decode prog_10_method_22_code 217 = .ok (.iload_n 1, 1) := by decide +kernel
theorem d_R_putCame_218 : decode prog_10_method_22_code 218 = .ok (.aload_n 0, 1) := by decide +kernel
theorem d_R_putCame_219 : decode prog_10_method_22_code 219 = .ok (.getfield 136, 3) := by decide +kernel
theorem d_R_putCame_222 : decode prog_10_method_22_code 222 = .ok (.iconst 0, 1) := by decide +kernel
theorem d_R_putCame_223 : decode prog_10_method_22_code 223 = .ok (.invokevirtual 99, 3) := by decide +kernel
theorem d_R_putCame_226 : decode prog_10_method_22_code 226 = .ok (.iinc 7 1, 3) := by decide +kernel
theorem d_R_putCame_229 : decode prog_10_method_22_code 229 = .ok (.goto (-37), 3) := by decide +kernel
theorem d_R_putCame_232 : decode prog_10_method_22_code 232 = .ok (.return_, 1) := by decide +kernel
theorem d_R_freed_0 : decode prog_10_method_23_code 0 = .ok (.aload_n 0, 1) := by decide +kernel
theorem d_R_freed_1 : decode prog_10_method_23_code 1 = .ok (.iload_n 2, 1) := by decide +kernel
theorem d_R_freed_2 : decode prog_10_method_23_code 2 = .ok (.invokevirtual 128, 3) := by decide +kernel
theorem d_R_freed_5 : decode prog_10_method_23_code 5 = .ok (.istore 6, 2) := by decide +kernel
theorem d_R_freed_7 : decode prog_10_method_23_code 7 = .ok (.iload 5, 2) := by decide +kernel
theorem d_R_freed_9 : decode prog_10_method_23_code 9 = .ok (.aload_n 0, 1) := by decide +kernel
theorem d_R_freed_10 : decode prog_10_method_23_code 10 = .ok (.getfield 136, 3) := by decide +kernel
theorem d_R_freed_13 : decode prog_10_method_23_code 13 = .ok (.if_icmp .ne 67, 3) := by decide +kernel
theorem d_R_freed_16 : decode prog_10_method_23_code 16 = .ok (.iload 6, 2) := by decide +kernel
theorem d_R_freed_18 : decode prog_10_method_23_code 18 = .ok (.ifCond .lt 62, 3) := by decide +kernel
theorem d_R_freed_21 : decode prog_10_method_23_code 21 = .ok (.aload_n 0, 1) := by decide +kernel
theorem d_R_freed_22 : decode prog_10_method_23_code 22 = .ok (.getfield 25, 3) := by decide +kernel
theorem d_R_freed_25 : decode prog_10_method_23_code 25 = .ok (.iload 6, 2) := by decide +kernel
theorem d_R_freed_27 : decode prog_10_method_23_code 27 = .ok (.iaload, 1) := by decide +kernel
theorem d_R_freed_28 : decode prog_10_method_23_code 28 = .ok (.iload 4, 2) := by decide +kernel
theorem d_R_freed_30 : decode prog_10_method_23_code 30 = .ok (.if_icmp .ne 50, 3) := by decide +kernel
theorem d_R_freed_33 : decode prog_10_method_23_code 33 = .ok (.aload_n 0, 1) := by decide +kernel
theorem d_R_freed_34 : decode prog_10_method_23_code 34 = .ok (.getfield 31, 3) := by decide +kernel
theorem d_R_freed_37 : decode prog_10_method_23_code 37 = .ok (.iload 6, 2) := by decide +kernel
theorem d_R_freed_39 : decode prog_10_method_23_code 39 = .ok (.iaload, 1) := by decide +kernel
theorem d_R_freed_40 : decode prog_10_method_23_code 40 = .ok (.iload_n 3, 1) := by decide +kernel
theorem d_R_freed_41 : decode prog_10_method_23_code 41 = .ok (.if_icmp .ne 39, 3) := by decide +kernel
theorem d_R_freed_44 : decode prog_10_method_23_code 44 = .ok (.aload_n 0, 1) := by decide +kernel
theorem d_R_freed_45 : decode prog_10_method_23_code 45 = .ok (.getfield 16, 3) := by decide +kernel
theorem d_R_freed_48 : decode prog_10_method_23_code 48 = .ok (.iconst 4, 1) := by decide +kernel
theorem d_R_freed_49 : decode prog_10_method_23_code 49 = .ok (.iload_n 1, 1) := by decide +kernel
theorem d_R_freed_50 : decode prog_10_method_23_code 50 = .ok (.imul, 1) := by decide +kernel
theorem d_R_freed_51 : decode prog_10_method_23_code 51 = .ok (.iload_n 2, 1) := by decide +kernel
theorem d_R_freed_52 : decode prog_10_method_23_code 52 = .ok (.iadd, 1) := by decide +kernel
theorem d_R_freed_53 : decode prog_10_method_23_code 53 = .ok (.aload_n 0, 1) := by decide +kernel
theorem d_R_freed_54 : decode prog_10_method_23_code 54 = .ok (.iload_n 1, 1) := by decide +kernel
theorem d_R_freed_55 : decode prog_10_method_23_code 55 = .ok (.iload_n 2, 1) := by decide +kernel
theorem d_R_freed_56 : decode prog_10_method_23_code 56 = .ok (.invokevirtual 132, 3) := by decide +kernel
theorem d_R_freed_59 : decode prog_10_method_23_code 59 = .ok (.ifCond .eq 10, 3) := by decide +kernel
theorem d_R_freed_62 : decode prog_10_method_23_code 62 = .ok (.aload_n 0, 1) := by decide +kernel
theorem d_R_freed_63 : decode prog_10_method_23_code 63 = .ok (.getfield 122, 3) := by decide +kernel
theorem d_R_freed_66 : decode prog_10_method_23_code 66 = .ok (.goto 13, 3) := by decide +kernel
theorem d_R_freed_69 : decode prog_10_method_23_code 69 = .ok (.aload_n 0, 1) := by decide +kernel
theorem d_R_freed_70 : decode prog_10_method_23_code 70 = .ok (.getfield 16, 3) := by decide +kernel
theorem d_R_freed_73 : decode prog_10_method_23_code 73 = .ok (.iconst 4, 1) := by decide +kernel
theorem d_R_freed_74 : decode prog_10_method_23_code 74 = .ok (.iload_n 1, 1) := by decide +kernel
theorem d_R_freed_75 : decode prog_10_method_23_code 75 = .ok (.imul, 1) := by decide +kernel
theorem d_R_freed_76 : decode prog_10_method_23_code 76 = .ok (.iload_n 2, 1) := by decide +kernel
theorem d_R_freed_77 : decode prog_10_method_23_code 77 = .ok (.iadd, 1) := by decide +kernel
theorem d_R_freed_78 : decode prog_10_method_23_code 78 = .ok (.iaload, 1) := by decide +kernel
theorem d_R_freed_79 : decode prog_10_method_23_code 79 = .ok (.iastore, 1) := by decide +kernel
theorem d_R_freed_80 : decode prog_10_method_23_code 80 = .ok (.return_, 1) := by decide +kernel
theorem d_R_isFree_0 : decode prog_10_method_24_code 0 = .ok (.aload_n 0, 1) := by decide +kernel
theorem d_R_isFree_1 : decode prog_10_method_24_code 1 = .ok (.getfield 139, 3) := by decide +kernel
theorem d_R_isFree_4 : decode prog_10_method_24_code 4 = .ok (.aload_n 0, 1) := by decide +kernel
theorem d_R_isFree_5 : decode prog_10_method_24_code 5 = .ok (.getfield 122, 3) := by decide +kernel
theorem d_R_isFree_8 : decode prog_10_method_24_code 8 = .ok (.if_icmp .gt 7, 3) := by decide +kernel
theorem d_R_isFree_11 : decode prog_10_method_24_code 11 = .ok (.iconst 1, 1) := by decide +kernel
theorem d_R_isFree_12 : decode prog_10_method_24_code 12 = .ok (.goto 4, 3) := by decide +kernel
theorem d_R_isFree_15 : decode prog_10_method_24_code 15 = .ok (.iconst 0, 1) := by decide +kernel
theorem d_R_isFree_16 : decode prog_10_method_24_code 16 = .ok (.istore_n 2, 1) := by decide +kernel
theorem d_R_isFree_17 : decode prog_10_method_24_code 17 = .ok (.iconst 0, 1) := by decide +kernel
theorem d_R_isFree_18 : decode prog_10_method_24_code 18 = .ok (.istore_n 3, 1) := by decide +kernel
theorem d_R_isFree_19 : decode prog_10_method_24_code 19 = .ok (.iload_n 3, 1) := by decide +kernel
theorem d_R_isFree_20 : decode prog_10_method_24_code 20 = .ok (.aload_n 0, 1) := by decide +kernel
theorem d_R_isFree_21 : decode prog_10_method_24_code 21 = .ok (.getfield 83, 3) := by decide +kernel
theorem d_R_isFree_24 : decode prog_10_method_24_code 24 = .ok (.if_icmp .ge 28, 3) := by decide +kernel
theorem d_R_isFree_27 : decode prog_10_method_24_code 27 = .ok (.iload_n 2, 1) := by decide +kernel
theorem d_R_isFree_28 : decode prog_10_method_24_code 28 = .ok (.ifCond .eq 16, 3) := by decide +kernel
theorem d_R_isFree_31 : decode prog_10_method_24_code 31 = .ok (.aload_n 0, 1) := by decide +kernel
theorem d_R_isFree_32 : decode prog_10_method_24_code 32 = .ok (.iload_n 3, 1) := by decide +kernel
theorem d_R_isFree_33 : decode prog_10_method_24_code 33 = .ok (.iload_n 1, 1) := by decide +kernel
theorem d_R_isFree_34 : decode prog_10_method_24_code 34 = .ok (.invokevirtual 132, 3) := by decide +kernel
theorem d_R_isFree_37 : decode prog_10_method_24_code 37 = .ok (.ifCond .ne 7, 3) := by decide +kernel
theorem d_R_isFree_40 : decode prog_10_method_24_code 40 = .ok (.iconst 1, 1) := by decide +kernel
theorem d_R_isFree_41 : decode prog_10_method_24_code 41 = .ok (.goto 4, 3) := by decide +kernel
theorem d_R_isFree_44 : decode prog_10_method_24_code 44 = .ok (.iconst 0, 1) := by decide +kernel
theorem d_R_isFree_45 : decode prog_10_method_24_code 45 = .ok (.istore_n 2, 1) := by decide +kernel
theorem d_R_isFree_46 : decode prog_10_method_24_code 46 = .ok (.iinc 3 1, 3) := by decide +kernel
theorem d_R_isFree_49 : decode prog_10_method_24_code 49 = .ok (.goto (-30), 3) := by decide +kernel
theorem d_R_isFree_52 : decode prog_10_method_24_code 52 = .ok (.iload_n 2, 1) := by decide +kernel
theorem d_R_isFree_53 : decode prog_10_method_24_code 53 = .ok (.ireturn, 1) := by decide +kernel
theorem d_R_store_0 : decode prog_10_method_25_code 0 = .ok (.aload_n 0, 1) := by decide +kernel
theorem d_R_store_1 : decode prog_10_method_25_code 1 = .ok (.getfield 25, 3) := by decide +kernel
theorem d_R_store_4 : decode prog_10_method_25_code 4 = .ok (.iload_n 1, 1) := by decide +kernel
theorem d_R_store_5 : decode prog_10_method_25_code 5 = .ok (.iaload, 1) := by decide +kernel
theorem d_R_store_6 : decode prog_10_method_25_code 6 = .ok (.istore_n 2, 1) := by decide +kernel
theorem d_R_store_7 : decode prog_10_method_25_code 7 = .ok (.aload_n 0, 1) := by decide +kernel
theorem d_R_store_8 : decode prog_10_method_25_code 8 = .ok (.getfield 28, 3) := by decide +kernel
theorem d_R_store_11 : decode prog_10_method_25_code 11 = .ok (.iload_n 1, 1) := by decide +kernel
theorem d_R_store_12 : decode prog_10_method_25_code 12 = .ok (.iaload, 1) := by decide +kernel
theorem d_R_store_13 : decode prog_10_method_25_code 13 = .ok (.istore_n 3, 1) := by decide +kernel
theorem d_R_store_14 : decode prog_10_method_25_code 14 = .ok (.aload_n 0, 1) := by decide +kernel
theorem d_R_store_15 : decode prog_10_method_25_code 15 = .ok (.getfield 31, 3) := by decide +kernel
theorem d_R_store_18 : decode prog_10_method_25_code 18 = .ok (.iload_n 1, 1) := by decide +kernel
theorem d_R_store_19 : decode prog_10_method_25_code 19 = .ok (.iaload, 1) := by decide +kernel
theorem d_R_store_20 : decode prog_10_method_25_code 20 = .ok (.istore 4, 2) := by decide +kernel
theorem d_R_store_22 : decode prog_10_method_25_code 22 = .ok (.aload_n 0, 1) := by decide +kernel
theorem d_R_store_23 : decode prog_10_method_25_code 23 = .ok (.getfield 7, 3) := by decide +kernel
theorem d_R_store_26 : decode prog_10_method_25_code 26 = .ok (.iload_n 3, 1) := by decide +kernel
theorem d_R_store_27 : decode prog_10_method_25_code 27 = .ok (.aload_n 0, 1) := by decide +kernel
theorem d_R_store_28 : decode prog_10_method_25_code 28 = .ok (.getfield 34, 3) := by decide +kernel
theorem d_R_store_31 : decode prog_10_method_25_code 31 = .ok (.iload_n 1, 1) := by decide +kernel
theorem d_R_store_32 : decode prog_10_method_25_code 32 = .ok (.iaload, 1) := by decide +kernel
theorem d_R_store_33 : decode prog_10_method_25_code 33 = .ok (.iastore, 1) := by decide +kernel
theorem d_R_store_34 : decode prog_10_method_25_code 34 = .ok (.aload_n 0, 1) := by decide +kernel
theorem d_R_store_35 : decode prog_10_method_25_code 35 = .ok (.getfield 13, 3) := by decide +kernel
theorem d_R_store_38 : decode prog_10_method_25_code 38 = .ok (.iload_n 3, 1) := by decide +kernel
theorem d_R_store_39 : decode prog_10_method_25_code 39 = .ok (.dup2, 1) := by decide +kernel
theorem d_R_store_40 : decode prog_10_method_25_code 40 = .ok (.iaload, 1) := by decide +kernel
theorem d_R_store_41 : decode prog_10_method_25_code 41 = .ok (.iconst 1, 1) := by decide +kernel
theorem d_R_store_42 : decode prog_10_method_25_code 42 = .ok (.iadd, 1) := by decide +kernel
theorem d_R_store_43 : decode prog_10_method_25_code 43 = .ok (.iastore, 1) := by decide +kernel
theorem d_R_store_44 : decode prog_10_method_25_code 44 = .ok (.iload 4, 2) := by decide +kernel
theorem d_R_store_46 : decode prog_10_method_25_code 46 = .ok (.aload_n 0, 1) := by decide +kernel
theorem d_R_store_47 : decode prog_10_method_25_code 47 = .ok (.getfield 19, 3) := by decide +kernel
theorem d_R_store_50 : decode prog_10_method_25_code 50 = .ok (.iload_n 2, 1) := by decide +kernel
theorem d_R_store_51 : decode prog_10_method_25_code 51 = .ok (.iaload, 1) := by decide +kernel
theorem d_R_store_52 : decode prog_10_method_25_code 52 = .ok (.if_icmp .le 23, 3) := by decide +kernel
theorem d_R_store_55 : decode prog_10_method_25_code 55 = .ok (.aload_n 0, 1) := by decide +kernel
theorem d_R_store_56 : decode prog_10_method_25_code 56 = .ok (.getfield 19, 3) := by decide +kernel
theorem d_R_store_59 : decode prog_10_method_25_code 59 = .ok (.iload_n 2, 1) := by decide +kernel
theorem d_R_store_60 : decode prog_10_method_25_code 60 = .ok (.iload 4, 2) := by decide +kernel
theorem d_R_store_62 : decode prog_10_method_25_code 62 = .ok (.iastore, 1) := by decide +kernel
theorem d_R_store_63 : decode prog_10_method_25_code 63 = .ok (.aload_n 0, 1) := by decide +kernel
theorem d_R_store_64 : decode prog_10_method_25_code 64 = .ok (.getfield 22, 3) := by decide +kernel
theorem d_R_store_67 : decode prog_10_method_25_code 67 = .ok (.iload_n 2, 1) := by decide +kernel
theorem d_R_store_68 : decode prog_10_method_25_code 68 = .ok (.aload_n 0, 1) := by decide +kernel
theorem d_R_store_69 : decode prog_10_method_25_code 69 = .ok (.getfield 13, 3) := by decide +kernel
theorem d_R_store_72 : decode prog_10_method_25_code 72 = .ok (.iload_n 3, 1) := by decide +kernel
theorem d_R_store_73 : decode prog_10_method_25_code 73 = .ok (.iaload, 1) := by decide +kernel
theorem d_R_store_74 : decode prog_10_method_25_code 74 = .ok (.iastore, 1) := by decide +kernel
theorem d_R_store_75 : decode prog_10_method_25_code 75 = .ok (.aload_n 0, 1) := by decide +kernel
theorem d_R_store_76 : decode prog_10_method_25_code 76 = .ok (.dup, 1) := by decide +kernel
theorem d_R_store_77 : decode prog_10_method_25_code 77 = .ok (.getfield 125, 3) := by decide +kernel
theorem d_R_store_80 : decode prog_10_method_25_code 80 = .ok (.iconst 1, 1) := by decide +kernel
theorem d_R_store_81 : decode prog_10_method_25_code 81 = .ok (.isub, 1) := by decide +kernel
theorem d_R_store_82 : decode prog_10_method_25_code 82 = .ok (.putfield 125, 3) := by decide +kernel
theorem d_R_store_85 : decode prog_10_method_25_code 85 = .ok (.iload_n 1, 1) := by decide +kernel
theorem d_R_store_86 : decode prog_10_method_25_code 86 = .ok (.istore 5, 2) := by decide +kernel
theorem d_R_store_88 : decode prog_10_method_25_code 88 = .ok (.iload 5, 2) := by decide +kernel
theorem d_R_store_90 : decode prog_10_method_25_code 90 = .ok (.aload_n 0, 1) := by decide +kernel
theorem d_R_store_91 : decode prog_10_method_25_code 91 = .ok (.getfield 125, 3) := by decide +kernel
theorem d_R_store_94 : decode prog_10_method_25_code 94 = .ok (.if_icmp .ge 73, 3) := by decide +kernel
theorem d_R_store_97 : decode prog_10_method_25_code 97 = .ok (.aload_n 0, 1) := by decide +kernel
theorem d_R_store_98 : decode prog_10_method_25_code 98 = .ok (.getfield 25, 3) := by decide +kernel
theorem d_R_store_101 : decode prog_10_method_25_code 101 = .ok (.iload 5, 2) := by decide +kernel
theorem d_R_store_103 : decode prog_10_method_25_code 103 = .ok (.aload_n 0, 1) := by decide +kernel
theorem d_R_store_104 : decode prog_10_method_25_code 104 = .ok (.getfield 25, 3) := by decide +kernel
theorem d_R_store_107 : decode prog_10_method_25_code 107 = .ok (.iload 5, 2) := by decide +kernel
theorem d_R_store_109 : decode prog_10_method_25_code 109 = .ok (.iconst 1, 1) := by decide +kernel
theorem d_R_store_110 : decode prog_10_method_25_code 110 = .ok (.iadd, 1) := by decide +kernel
theorem d_R_store_111 : decode prog_10_method_25_code 111 = .ok (.iaload, 1) := by decide +kernel
theorem d_R_store_112 : decode prog_10_method_25_code 112 = .ok (.iastore, 1) := by decide +kernel
theorem d_R_store_113 : decode prog_10_method_25_code 113 = .ok (.aload_n 0, 1) := by decide +kernel
theorem d_R_store_114 : decode prog_10_method_25_code 114 = .ok (.getfield 28, 3) := by decide +kernel
theorem d_R_store_117 : decode prog_10_method_25_code 117 = .ok (.iload 5, 2) := by decide +kernel
theorem d_R_store_119 : decode prog_10_method_25_code 119 = .ok (.aload_n 0, 1) := by decide +kernel
theorem d_R_store_120 : decode prog_10_method_25_code 120 = .ok (.getfield 28, 3) := by decide +kernel
theorem d_R_store_123 : decode prog_10_method_25_code 123 = .ok (.iload 5, 2) := by decide +kernel
theorem d_R_store_125 : decode prog_10_method_25_code 125 = .ok (.iconst 1, 1) := by decide +kernel
theorem d_R_store_126 : decode prog_10_method_25_code 126 = .ok (.iadd, 1) := by decide +kernel
theorem d_R_store_127 : decode prog_10_method_25_code 127 = .ok (.iaload, 1) := by decide +kernel
theorem d_R_store_128 : decode prog_10_method_25_code 128 = .ok (.iastore, 1) := by decide +kernel
theorem d_R_store_129 : decode prog_10_method_25_code 129 = .ok (.aload_n 0, 1) := by decide +kernel
theorem d_R_store_130 : decode prog_10_method_25_code 130 = .ok (.getfield 31, 3) := by decide +kernel
theorem d_R_store_133 : decode prog_10_method_25_code 133 = .ok (.iload 5, 2) := by decide +kernel
theorem d_R_store_135 : decode prog_10_method_25_code 135 = .ok (.aload_n 0, 1) := by decide +kernel
theorem d_R_store_136 : decode prog_10_method_25_code 136 = .ok (.getfield 31, 3) := by decide +kernel
theorem d_R_store_139 : decode prog_10_method_25_code 139 = .ok (.iload 5, 2) := by decide +kernel
theorem d_R_store_141 : decode prog_10_method_25_code 141 = .ok (.iconst 1, 1) := by decide +kernel
theorem d_R_store_142 : decode prog_10_method_25_code 142 = .ok (.iadd, 1) := by decide +kernel
theorem d_R_store_143 : decode prog_10_method_25_code 143 = .ok (.iaload, 1) := by decide +kernel
theorem d_R_store_144 : decode prog_10_method_25_code 144 = .ok (.iastore, 1) := by decide +kernel
theorem d_R_store_145 : decode prog_10_method_25_code 145 = .ok (.aload_n 0, 1) := by decide +kernel
theorem d_R_store_146 : decode prog_10_method_25_code 146 = .ok (.getfield 34, 3) := by decide +kernel
theorem d_R_store_149 : decode prog_10_method_25_code 149 = .ok (.iload 5, 2) := by decide +kernel
theorem d_R_store_151 : decode prog_10_method_25_code 151 = .ok (.aload_n 0, 1) := by decide +kernel
theorem d_R_store_152 : decode prog_10_method_25_code 152 = .ok (.getfield 34, 3) := by decide +kernel
theorem d_R_store_155 : decode prog_10_method_25_code 155 = .ok (.iload 5, 2) := by decide +kernel
theorem d_R_store_157 : decode prog_10_method_25_code 157 = .ok (.iconst 1, 1) := by decide +kernel
theorem d_R_store_158 : decode prog_10_method_25_code 158 = .ok (.iadd, 1) := by decide +kernel
theorem d_R_store_159 : decode prog_10_method_25_code 159 = .ok (.iaload, 1) := by decide +kernel
theorem d_R_store_160 : decode prog_10_method_25_code 160 = .ok (.iastore, 1) := by decide +kernel
theorem d_R_store_161 : decode prog_10_method_25_code 161 = .ok (.iinc 5 1, 3) := by decide +kernel
theorem d_R_store_164 : decode prog_10_method_25_code 164 = .ok (.goto (-76), 3) := by decide +kernel
theorem d_R_store_167 : decode prog_10_method_25_code 167 = .ok (.aload_n 0, 1) := by decide +kernel
theorem d_R_store_168 : decode prog_10_method_25_code 168 = .ok (.iconst 3, 1) := by decide +kernel
theorem d_R_store_169 : decode prog_10_method_25_code 169 = .ok (.iload_n 2, 1) := by decide +kernel
theorem d_R_store_170 : decode prog_10_method_25_code 170 = .ok (.iload_n 3, 1) := by decide +kernel
theorem d_R_store_171 : decode prog_10_method_25_code 171 = .ok (.iload 4, 2) := by decide +kernel
theorem d_R_store_173 : decode prog_10_method_25_code 173 = .ok (.aload_n 0, 1) := by decide +kernel
theorem d_R_store_174 : decode prog_10_method_25_code 174 = .ok (.getfield 13, 3) := by decide +kernel
theorem d_R_store_177 : decode prog_10_method_25_code 177 = .ok (.iload_n 3, 1) := by decide +kernel
theorem d_R_store_178 : decode prog_10_method_25_code 178 = .ok (.iaload, 1) := by decide +kernel
theorem d_R_store_179 : decode prog_10_method_25_code 179 = .ok (.iconst 0, 1) := by decide +kernel
theorem d_R_store_180 : decode prog_10_method_25_code 180 = .ok (.iconst 0, 1) := by decide +kernel
theorem d_R_store_181 : decode prog_10_method_25_code 181 = .ok (.invokevirtual 99, 3) := by decide +kernel
theorem d_R_store_184 : decode prog_10_method_25_code 184 = .ok (.return_, 1) := by decide +kernel
theorem d_R_storeAll_0 : decode prog_10_method_26_code 0 = .ok (.iconst 0, 1) := by decide +kernel
theorem d_R_storeAll_1 : decode prog_10_method_26_code 1 = .ok (.istore_n 1, 1) := by decide +kernel
theorem d_R_storeAll_2 : decode prog_10_method_26_code 2 = .ok (.iconst 0, 1) := by decide +kernel
theorem d_R_storeAll_3 : decode prog_10_method_26_code 3 = .ok (.istore_n 2, 1) := by decide +kernel
theorem d_R_storeAll_4 : decode prog_10_method_26_code 4 = .ok (.iload_n 2, 1) := by decide +kernel
theorem d_R_storeAll_5 : decode prog_10_method_26_code 5 = .ok (.aload_n 0, 1) := by decide +kernel
theorem d_R_storeAll_6 : decode prog_10_method_26_code 6 = .ok (.getfield 87, 3) := by decide +kernel
theorem d_R_storeAll_9 : decode prog_10_method_26_code 9 = .ok (.if_icmp .ge 44, 3) := by decide +kernel
theorem d_R_storeAll_12 : decode prog_10_method_26_code 12 = .ok (.aload_n 0, 1) := by decide +kernel
theorem d_R_storeAll_13 : decode prog_10_method_26_code 13 = .ok (.iload_n 2, 1) := by decide +kernel
theorem d_R_storeAll_14 : decode prog_10_method_26_code 14 = .ok (.invokevirtual 128, 3) := by decide +kernel
theorem d_R_storeAll_17 : decode prog_10_method_26_code 17 = .ok (.istore_n 3, 1) := by decide +kernel
theorem d_R_storeAll_18 : decode prog_10_method_26_code 18 = .ok (.iload_n 3, 1) := by decide +kernel
theorem d_R_storeAll_19 : decode prog_10_method_26_code 19 = .ok (.ifCond .lt 28, 3) := by decide +kernel
theorem d_R_storeAll_22 : decode prog_10_method_26_code 22 = .ok (.aload_n 0, 1) := by decide +kernel
theorem d_R_storeAll_23 : decode prog_10_method_26_code 23 = .ok (.iload_n 2, 1) := by decide +kernel
theorem d_R_storeAll_24 : decode prog_10_method_26_code 24 = .ok (.invokevirtual 142, 3) := by decide +kernel
theorem d_R_storeAll_27 : decode prog_10_method_26_code 27 = .ok (.ifCond .eq 20, 3) := by decide +kernel
theorem d_R_storeAll_30 : decode prog_10_method_26_code 30 = .ok (.aload_n 0, 1) := by decide +kernel
theorem d_R_storeAll_31 : decode prog_10_method_26_code 31 = .ok (.iload_n 3, 1) := by decide +kernel
theorem d_R_storeAll_32 : decode prog_10_method_26_code 32 = .ok (.invokevirtual 145, 3) := by decide +kernel
theorem d_R_storeAll_35 : decode prog_10_method_26_code 35 = .ok (.iinc 1 1, 3) := by decide +kernel
theorem d_R_storeAll_38 : decode prog_10_method_26_code 38 = .ok (.aload_n 0, 1) := by decide +kernel
theorem d_R_storeAll_39 : decode prog_10_method_26_code 39 = .ok (.iload_n 2, 1) := by decide +kernel
theorem d_R_storeAll_40 : decode prog_10_method_26_code 40 = .ok (.invokevirtual 128, 3) := by decide +kernel
theorem d_R_storeAll_43 : decode prog_10_method_26_code 43 = .ok (.istore_n 3, 1) := by decide +kernel
theorem d_R_storeAll_44 : decode prog_10_method_26_code 44 = .ok (.goto (-26), 3) := by decide +kernel
theorem d_R_storeAll_47 : decode prog_10_method_26_code 47 = .ok (.iinc 2 1, 3) := by decide +kernel
theorem d_R_storeAll_50 : decode prog_10_method_26_code 50 = .ok (.goto (-46), 3) := by decide +kernel
theorem d_R_storeAll_53 : decode prog_10_method_26_code 53 = .ok (.iload_n 1, 1) := by decide +kernel
theorem d_R_storeAll_54 : decode prog_10_method_26_code 54 = .ok (.ireturn, 1) := by decide +kernel
theorem d_R_deliver_0 : decode prog_10_method_27_code 0 = .ok (.aload_n 0, 1) := by decide +kernel
theorem d_R_deliver_1 : decode prog_10_method_27_code 1 = .ok (.iload_n 1, 1) := by decide +kernel
theorem d_R_deliver_2 : decode prog_10_method_27_code 2 = .ok (.invokevirtual 148, 3) := by decide +kernel
theorem d_R_deliver_5 : decode prog_10_method_27_code 5 = .ok (.ifCond .ne 5, 3) := by decide +kernel
theorem d_R_deliver_8 : decode prog_10_method_27_code 8 = .ok (.iconst (-1), 1) := by decide +kernel
theorem d_R_deliver_9 : decode prog_10_method_27_code 9 = .ok (.ireturn, 1) := by decide +kernel
theorem d_R_deliver_10 : decode prog_10_method_27_code 10 = .ok (.bipush 7, 2) := by decide +kernel
theorem d_R_deliver_12 : decode prog_10_method_27_code 12 = .ok (.iload_n 1, 1) := by decide +kernel
theorem d_R_deliver_13 : decode prog_10_method_27_code 13 = .ok (.imul, 1) := by decide +kernel
theorem d_R_deliver_14 : decode prog_10_method_27_code 14 = .ok (.istore_n 2, 1) := by decide +kernel
theorem d_R_deliver_15 : decode prog_10_method_27_code 15 = .ok (.aload_n 0, 1) := by decide +kernel
theorem d_R_deliver_16 : decode prog_10_method_27_code 16 = .ok (.getfield 80, 3) := by decide +kernel
theorem d_R_deliver_19 : decode prog_10_method_27_code 19 = .ok (.iload_n 2, 1) := by decide +kernel
theorem d_R_deliver_20 : decode prog_10_method_27_code 20 = .ok (.iaload, 1) := by decide +kernel
theorem d_R_deliver_21 : decode prog_10_method_27_code 21 = .ok (.istore_n 3, 1) := by decide +kernel
theorem d_R_deliver_22 : decode prog_10_method_27_code 22 = .ok (.aload_n 0, 1) := by decide +kernel
theorem d_R_deliver_23 : decode prog_10_method_27_code 23 = .ok (.getfield 80, 3) := by decide +kernel
theorem d_R_deliver_26 : decode prog_10_method_27_code 26 = .ok (.iload_n 2, 1) := by decide +kernel
theorem d_R_deliver_27 : decode prog_10_method_27_code 27 = .ok (.iconst 1, 1) := by decide +kernel
theorem d_R_deliver_28 : decode prog_10_method_27_code 28 = .ok (.iadd, 1) := by decide +kernel
theorem d_R_deliver_29 : decode prog_10_method_27_code 29 = .ok (.iaload, 1) := by decide +kernel
theorem d_R_deliver_30 : decode prog_10_method_27_code 30 = .ok (.istore 4, 2) := by decide +kernel
theorem d_R_deliver_32 : decode prog_10_method_27_code 32 = .ok (.aload_n 0, 1) := by decide +kernel
theorem d_R_deliver_33 : decode prog_10_method_27_code 33 = .ok (.getfield 80, 3) := by decide +kernel
theorem d_R_deliver_36 : decode prog_10_method_27_code 36 = .ok (.iload_n 2, 1) := by decide +kernel
theorem d_R_deliver_37 : decode prog_10_method_27_code 37 = .ok (.iconst 2, 1) := by decide +kernel
theorem d_R_deliver_38 : decode prog_10_method_27_code 38 = .ok (.iadd, 1) := by decide +kernel
theorem d_R_deliver_39 : decode prog_10_method_27_code 39 = .ok (.iaload, 1) := by decide +kernel
theorem d_R_deliver_40 : decode prog_10_method_27_code 40 = .ok (.istore 5, 2) := by decide +kernel
theorem d_R_deliver_42 : decode prog_10_method_27_code 42 = .ok (.aload_n 0, 1) := by decide +kernel
theorem d_R_deliver_43 : decode prog_10_method_27_code 43 = .ok (.getfield 80, 3) := by decide +kernel
theorem d_R_deliver_46 : decode prog_10_method_27_code 46 = .ok (.iload_n 2, 1) := by decide +kernel
theorem d_R_deliver_47 : decode prog_10_method_27_code 47 = .ok (.iconst 3, 1) := by decide +kernel
theorem d_R_deliver_48 : decode prog_10_method_27_code 48 = .ok (.iadd, 1) := by decide +kernel
theorem d_R_deliver_49 : decode prog_10_method_27_code 49 = .ok (.iaload, 1) := by decide +kernel
theorem d_R_deliver_50 : decode prog_10_method_27_code 50 = .ok (.istore 6, 2) := by decide +kernel
theorem d_R_deliver_52 : decode prog_10_method_27_code 52 = .ok (.aload_n 0, 1) := by decide +kernel
theorem d_R_deliver_53 : decode prog_10_method_27_code 53 = .ok (.getfield 80, 3) := by decide +kernel
theorem d_R_deliver_56 : decode prog_10_method_27_code 56 = .ok (.iload_n 2, 1) := by decide +kernel
theorem d_R_deliver_57 : decode prog_10_method_27_code 57 = .ok (.iconst 4, 1) := by decide +kernel
theorem d_R_deliver_58 : decode prog_10_method_27_code 58 = .ok (.iadd, 1) := by decide +kernel
theorem d_R_deliver_59 : decode prog_10_method_27_code 59 = .ok (.iaload, 1) := by decide +kernel
theorem d_R_deliver_60 : decode prog_10_method_27_code 60 = .ok (.istore 7, 2) := by decide +kernel
theorem d_R_deliver_62 : decode prog_10_method_27_code 62 = .ok (.aload_n 0, 1) := by decide +kernel
theorem d_R_deliver_63 : decode prog_10_method_27_code 63 = .ok (.getfield 80, 3) := by decide +kernel
theorem d_R_deliver_66 : decode prog_10_method_27_code 66 = .ok (.iload_n 2, 1) := by decide +kernel
theorem d_R_deliver_67 : decode prog_10_method_27_code 67 = .ok (.iconst 5, 1) := by decide +kernel
theorem d_R_deliver_68 : decode prog_10_method_27_code 68 = .ok (.iadd, 1) := by decide +kernel
theorem d_R_deliver_69 : decode prog_10_method_27_code 69 = .ok (.iaload, 1) := by decide +kernel
theorem d_R_deliver_70 : decode prog_10_method_27_code 70 = .ok (.istore 8, 2) := by decide +kernel
theorem d_R_deliver_72 : decode prog_10_method_27_code 72 = .ok (.aload_n 0, 1) := by decide +kernel
theorem d_R_deliver_73 : decode prog_10_method_27_code 73 = .ok (.getfield 80, 3) := by decide +kernel
theorem d_R_deliver_76 : decode prog_10_method_27_code 76 = .ok (.iload_n 2, 1) := by decide +kernel
theorem d_R_deliver_77 : decode prog_10_method_27_code 77 = .ok (.bipush 6, 2) := by decide +kernel
theorem d_R_deliver_79 : decode prog_10_method_27_code 79 = .ok (.iadd, 1) := by decide +kernel
theorem d_R_deliver_80 : decode prog_10_method_27_code 80 = .ok (.iaload, 1) := by decide +kernel
theorem d_R_deliver_81 : decode prog_10_method_27_code 81 = .ok (.istore 9, 2) := by decide +kernel
theorem d_R_deliver_83 : decode prog_10_method_27_code 83 = .ok (.aload_n 0, 1) := by decide +kernel
theorem d_R_deliver_84 : decode prog_10_method_27_code 84 = .ok (.iload_n 1, 1) := by decide +kernel
theorem d_R_deliver_85 : decode prog_10_method_27_code 85 = .ok (.invokevirtual 151, 3) := by decide +kernel
theorem d_R_deliver_88 : decode prog_10_method_27_code 88 = .ok (.iload_n 3, 1) := by decide +kernel
theorem d_R_deliver_89 : decode prog_10_method_27_code 89 = .ok (.iconst 2, 1) := by decide +kernel
theorem d_R_deliver_90 : decode prog_10_method_27_code 90 = .ok (.if_icmp .ne 21, 3) := by decide +kernel
theorem d_R_deliver_93 : decode prog_10_method_27_code 93 = .ok (.aload_n 0, 1) := by decide +kernel
theorem d_R_deliver_94 : decode prog_10_method_27_code 94 = .ok (.iload 4, 2) := by decide +kernel
theorem d_R_deliver_96 : decode prog_10_method_27_code 96 = .ok (.iload 5, 2) := by decide +kernel
theorem d_R_deliver_98 : decode prog_10_method_27_code 98 = .ok (.iload 6, 2) := by decide +kernel
theorem d_R_deliver_100 : decode prog_10_method_27_code 100 = .ok (.iload 7, 2) := by decide +kernel
theorem d_R_deliver_102 : decode prog_10_method_27_code 102 = .ok (.iload 8, 2) := by decide +kernel
theorem d_R_deliver_104 : decode prog_10_method_27_code 104 = .ok (.iload 9, 2) := by decide +kernel
theorem d_R_deliver_106 : decode prog_10_method_27_code 106 = .ok (.invokevirtual 154, 3) := by decide +kernel
theorem d_R_deliver_109 : decode prog_10_method_27_code 109 = .ok (.iload_n 3, 1) := by decide +kernel
theorem d_R_deliver_110 : decode prog_10_method_27_code 110 = .ok (.ireturn, 1) := by decide +kernel
theorem d_R_deliver_111 : decode prog_10_method_27_code 111 = .ok (.iload_n 3, 1) := by decide +kernel
theorem d_R_deliver_112 : decode prog_10_method_27_code 112 = .ok (.iconst 3, 1) := by decide +kernel
theorem d_R_deliver_113 : decode prog_10_method_27_code 113 = .ok (.if_icmp .ne 15, 3) := by decide +kernel
theorem d_R_deliver_116 : decode prog_10_method_27_code 116 = .ok (.aload_n 0, 1) := by decide +kernel
theorem d_R_deliver_117 : decode prog_10_method_27_code 117 = .ok (.iload 4, 2) := by decide +kernel
theorem d_R_deliver_119 : decode prog_10_method_27_code 119 = .ok (.iload 6, 2) := by decide +kernel
theorem d_R_deliver_121 : decode prog_10_method_27_code 121 = .ok (.iload 7, 2) := by decide +kernel
theorem d_R_deliver_123 : decode prog_10_method_27_code 123 = .ok (.invokevirtual 158, 3) := by decide +kernel
theorem d_R_deliver_126 : decode prog_10_method_27_code 126 = .ok (.iload_n 3, 1) := by decide +kernel
theorem d_R_deliver_127 : decode prog_10_method_27_code 127 = .ok (.ireturn, 1) := by decide +kernel
theorem d_R_deliver_128 : decode prog_10_method_27_code 128 = .ok (.iload_n 3, 1) := by decide +kernel
theorem d_R_deliver_129 : decode prog_10_method_27_code 129 = .ok (.iconst 4, 1) := by decide +kernel
theorem d_R_deliver_130 : decode prog_10_method_27_code 130 = .ok (.if_icmp .ne 19, 3) := by decide +kernel
theorem d_R_deliver_133 : decode prog_10_method_27_code 133 = .ok (.aload_n 0, 1) := by decide +kernel
theorem d_R_deliver_134 : decode prog_10_method_27_code 134 = .ok (.iload 4, 2) := by decide +kernel
theorem d_R_deliver_136 : decode prog_10_method_27_code 136 = .ok (.iload 5, 2) := by decide +kernel
theorem d_R_deliver_138 : decode prog_10_method_27_code 138 = .ok (.iload 6, 2) := by decide +kernel
theorem d_R_deliver_140 : decode prog_10_method_27_code 140 = .ok (.iload 7, 2) := by decide +kernel
theorem d_R_deliver_142 : decode prog_10_method_27_code 142 = .ok (.iload 8, 2) := by decide +kernel
theorem d_R_deliver_144 : decode prog_10_method_27_code 144 = .ok (.invokevirtual 161, 3) := by decide +kernel
end
section
theorem d_R_deliver_147 : decode prog_10_method_27_code 147 = .ok (.iload_n 3, 1) := by decide +kernel
theorem d_R_deliver_148 : decode prog_10_method_27_code 148 = .ok (.ireturn, 1) := by decide +kernel
theorem d_R_deliver_149 : decode prog_10_method_27_code 149 = .ok (.aload_n 0, 1) := by decide +kernel
theorem d_R_deliver_150 : decode prog_10_method_27_code 150 = .ok (.getfield 165, 3) := by decide +kernel
theorem d_R_deliver_153 : decode prog_10_method_27_code 153 = .ok (.ifCond .eq 6, 3) := by decide +kernel
theorem d_R_deliver_156 : decode prog_10_method_27_code 156 = .ok (.bipush 9, 2) := by decide +kernel
theorem d_R_deliver_158 : decode prog_10_method_27_code 158 = .ok (.ireturn, 1) := by decide +kernel
theorem d_R_deliver_159 : decode prog_10_method_27_code 159 = .ok (.iload_n 3, 1) := by decide +kernel
theorem d_R_deliver_160 : decode prog_10_method_27_code 160 = .ok (.ifCond .ne 16, 3) := by decide +kernel
theorem d_R_deliver_163 : decode prog_10_method_27_code 163 = .ok (.aload_n 0, 1) := by decide +kernel
theorem d_R_deliver_164 : decode prog_10_method_27_code 164 = .ok (.iload 4, 2) := by decide +kernel
theorem d_R_deliver_166 : decode prog_10_method_27_code 166 = .ok (.iload 5, 2) := by decide +kernel
theorem d_R_deliver_168 : decode prog_10_method_27_code 168 = .ok (.iload 6, 2) := by decide +kernel
theorem d_R_deliver_170 : decode prog_10_method_27_code 170 = .ok (.invokevirtual 169, 3) := by decide +kernel
theorem d_R_deliver_173 : decode prog_10_method_27_code 173 = .ok (.goto 37, 3) := by decide +kernel
theorem d_R_deliver_176 : decode prog_10_method_27_code 176 = .ok (.iload_n 3, 1) := by decide +kernel
theorem d_R_deliver_177 : decode prog_10_method_27_code 177 = .ok (.iconst 1, 1) := by decide +kernel
theorem d_R_deliver_178 : decode prog_10_method_27_code 178 = .ok (.if_icmp .ne 18, 3) := by decide +kernel
theorem d_R_deliver_181 : decode prog_10_method_27_code 181 = .ok (.aload_n 0, 1) := by decide +kernel
theorem d_R_deliver_182 : decode prog_10_method_27_code 182 = .ok (.iload 4, 2) := by decide +kernel
theorem d_R_deliver_184 : decode prog_10_method_27_code 184 = .ok (.iload 5, 2) := by decide +kernel
theorem d_R_deliver_186 : decode prog_10_method_27_code 186 = .ok (.iload 6, 2) := by decide +kernel
theorem d_R_deliver_188 : decode prog_10_method_27_code 188 = .ok (.iload 7, 2) := by decide +kernel
theorem d_R_deliver_190 : decode prog_10_method_27_code 190 = .ok (.invokevirtual 172, 3) := by decide +kernel
theorem d_R_deliver_193 : decode prog_10_method_27_code 193 = .ok (.goto 17, 3) := by decide +kernel
theorem d_R_deliver_196 : decode prog_10_method_27_code 196 = .ok (.aload_n 0, 1) := by decide +kernel
theorem d_R_deliver_197 : decode prog_10_method_27_code 197 = .ok (.iload 4, 2) := by decide +kernel
theorem d_R_deliver_199 : decode prog_10_method_27_code 199 = .ok (.iload 5, 2) := by decide +kernel
theorem d_R_deliver_201 : decode prog_10_method_27_code 201 = .ok (.iload 6, 2) := by decide +kernel
theorem d_R_deliver_203 : decode prog_10_method_27_code 203 = .ok (.iload 7, 2) := by decide +kernel
theorem d_R_deliver_205 : decode prog_10_method_27_code 205 = .ok (.iload 8, 2) := by decide +kernel
theorem d_R_deliver_207 : decode prog_10_method_27_code 207 = .ok (.invokevirtual 176, 3) := by decide +kernel
theorem d_R_deliver_210 : decode prog_10_method_27_code 210 = .ok (.aload_n 0, 1) := by decide +kernel
theorem d_R_deliver_211 : decode prog_10_method_27_code 211 = .ok (.invokevirtual 179, 3) := by decide +kernel
theorem d_R_deliver_214 : decode prog_10_method_27_code 214 = .ok (.istore 10, 2) := by decide +kernel
theorem d_R_deliver_216 : decode prog_10_method_27_code 216 = .ok (.iload_n 3, 1) := by decide +kernel
theorem d_R_deliver_217 : decode prog_10_method_27_code 217 = .ok (.ireturn, 1) := by decide +kernel
theorem d_R_lose_0 : decode prog_10_method_28_code 0 = .ok (.aload_n 0, 1) := by decide +kernel
theorem d_R_lose_1 : decode prog_10_method_28_code 1 = .ok (.iload_n 1, 1) := by decide +kernel
theorem d_R_lose_2 : decode prog_10_method_28_code 2 = .ok (.invokevirtual 148, 3) := by decide +kernel
theorem d_R_lose_5 : decode prog_10_method_28_code 5 = .ok (.ifCond .ne 5, 3) := by decide +kernel
theorem d_R_lose_8 : decode prog_10_method_28_code 8 = .ok (.iconst 0, 1) := by decide +kernel
theorem d_R_lose_9 : decode prog_10_method_28_code 9 = .ok (.ireturn, 1) := by decide +kernel
theorem d_R_lose_10 : decode prog_10_method_28_code 10 = .ok (.aload_n 0, 1) := by decide +kernel
theorem d_R_lose_11 : decode prog_10_method_28_code 11 = .ok (.iload_n 1, 1) := by decide +kernel
theorem d_R_lose_12 : decode prog_10_method_28_code 12 = .ok (.invokevirtual 151, 3) := by decide +kernel
theorem d_R_lose_15 : decode prog_10_method_28_code 15 = .ok (.iconst 1, 1) := by decide +kernel
theorem d_R_lose_16 : decode prog_10_method_28_code 16 = .ok (.ireturn, 1) := by decide +kernel
theorem d_R_pending_0 : decode prog_10_method_29_code 0 = .ok (.aload_n 0, 1) := by decide +kernel
theorem d_R_pending_1 : decode prog_10_method_29_code 1 = .ok (.getfield 96, 3) := by decide +kernel
theorem d_R_pending_4 : decode prog_10_method_29_code 4 = .ok (.ireturn, 1) := by decide +kernel
theorem d_R_message_0 : decode prog_10_method_30_code 0 = .ok (.aload_n 0, 1) := by decide +kernel
theorem d_R_message_1 : decode prog_10_method_30_code 1 = .ok (.iload_n 1, 1) := by decide +kernel
theorem d_R_message_2 : decode prog_10_method_30_code 2 = .ok (.invokevirtual 148, 3) := by decide +kernel
theorem d_R_message_5 : decode prog_10_method_30_code 5 = .ok (.ifCond .eq 27, 3) := by decide +kernel
theorem d_R_message_8 : decode prog_10_method_30_code 8 = .ok (.iload_n 2, 1) := by decide +kernel
theorem d_R_message_9 : decode prog_10_method_30_code 9 = .ok (.ifCond .lt 23, 3) := by decide +kernel
theorem d_R_message_12 : decode prog_10_method_30_code 12 = .ok (.iload_n 2, 1) := by decide +kernel
theorem d_R_message_13 : decode prog_10_method_30_code 13 = .ok (.bipush 6, 2) := by decide +kernel
theorem d_R_message_15 : decode prog_10_method_30_code 15 = .ok (.if_icmp .gt 17, 3) := by decide +kernel
theorem d_R_message_18 : decode prog_10_method_30_code 18 = .ok (.aload_n 0, 1) := by decide +kernel
theorem d_R_message_19 : decode prog_10_method_30_code 19 = .ok (.getfield 80, 3) := by decide +kernel
theorem d_R_message_22 : decode prog_10_method_30_code 22 = .ok (.bipush 7, 2) := by decide +kernel
theorem d_R_message_24 : decode prog_10_method_30_code 24 = .ok (.iload_n 1, 1) := by decide +kernel
theorem d_R_message_25 : decode prog_10_method_30_code 25 = .ok (.imul, 1) := by decide +kernel
theorem d_R_message_26 : decode prog_10_method_30_code 26 = .ok (.iload_n 2, 1) := by decide +kernel
theorem d_R_message_27 : decode prog_10_method_30_code 27 = .ok (.iadd, 1) := by decide +kernel
theorem d_R_message_28 : decode prog_10_method_30_code 28 = .ok (.iaload, 1) := by decide +kernel
theorem d_R_message_29 : decode prog_10_method_30_code 29 = .ok (.goto 4, 3) := by decide +kernel
theorem d_R_message_32 : decode prog_10_method_30_code 32 = .ok (.iconst (-1), 1) := by decide +kernel
theorem d_R_message_33 : decode prog_10_method_30_code 33 = .ok (.ireturn, 1) := by decide +kernel
theorem d_R_tick_0 : decode prog_10_method_31_code 0 = .ok (.iload_n 1, 1) := by decide +kernel
theorem d_R_tick_1 : decode prog_10_method_31_code 1 = .ok (.ifCond .lt 10, 3) := by decide +kernel
theorem d_R_tick_4 : decode prog_10_method_31_code 4 = .ok (.iload_n 1, 1) := by decide +kernel
theorem d_R_tick_5 : decode prog_10_method_31_code 5 = .ok (.sipush 1000, 3) := by decide +kernel
theorem d_R_tick_8 : decode prog_10_method_31_code 8 = .ok (.if_icmp .le 5, 3) := by decide +kernel
theorem d_R_tick_11 : decode prog_10_method_31_code 11 = .ok (.iconst (-1), 1) := by decide +kernel
theorem d_R_tick_12 : decode prog_10_method_31_code 12 = .ok (.ireturn, 1) := by decide +kernel
theorem d_R_tick_13 : decode prog_10_method_31_code 13 = .ok (.aload_n 0, 1) := by decide +kernel
theorem d_R_tick_14 : decode prog_10_method_31_code 14 = .ok (.aload_n 0, 1) := by decide +kernel
theorem d_R_tick_15 : decode prog_10_method_31_code 15 = .ok (.getfield 122, 3) := by decide +kernel
theorem d_R_tick_18 : decode prog_10_method_31_code 18 = .ok (.iload_n 1, 1) := by decide +kernel
theorem d_R_tick_19 : decode prog_10_method_31_code 19 = .ok (.iadd, 1) := by decide +kernel
theorem d_R_tick_20 : decode prog_10_method_31_code 20 = .ok (.putfield 122, 3) := by decide +kernel
theorem d_R_tick_23 : decode prog_10_method_31_code 23 = .ok (.aload_n 0, 1) := by decide +kernel
theorem d_R_tick_24 : decode prog_10_method_31_code 24 = .ok (.getfield 165, 3) := by decide +kernel
theorem d_R_tick_27 : decode prog_10_method_31_code 27 = .ok (.ifCond .eq 7, 3) := by decide +kernel
theorem d_R_tick_30 : decode prog_10_method_31_code 30 = .ok (.iconst 0, 1) := by decide +kernel
theorem d_R_tick_31 : decode prog_10_method_31_code 31 = .ok (.goto 7, 3) := by decide +kernel
theorem d_R_tick_34 : decode prog_10_method_31_code 34 = .ok (.aload_n 0, 1) := by decide +kernel
theorem d_R_tick_35 : decode prog_10_method_31_code 35 = .ok (.invokevirtual 179, 3) := by decide +kernel
theorem d_R_tick_38 : decode prog_10_method_31_code 38 = .ok (.ireturn, 1) := by decide +kernel
theorem d_R_pass_0 : decode prog_10_method_32_code 0 = .ok (.aload_n 0, 1) := by decide +kernel
theorem d_R_pass_1 : decode prog_10_method_32_code 1 = .ok (.iload_n 1, 1) := by decide +kernel
theorem d_R_pass_2 : decode prog_10_method_32_code 2 = .ok (.invokevirtual 103, 3) := by decide +kernel
theorem d_R_pass_5 : decode prog_10_method_32_code 5 = .ok (.ifCond .eq 14, 3) := by decide +kernel
theorem d_R_pass_8 : decode prog_10_method_32_code 8 = .ok (.iload_n 2, 1) := by decide +kernel
theorem d_R_pass_9 : decode prog_10_method_32_code 9 = .ok (.ifCond .lt 10, 3) := by decide +kernel
theorem d_R_pass_12 : decode prog_10_method_32_code 12 = .ok (.iload_n 2, 1) := by decide +kernel
theorem d_R_pass_13 : decode prog_10_method_32_code 13 = .ok (.sipush 1000, 3) := by decide +kernel
theorem d_R_pass_16 : decode prog_10_method_32_code 16 = .ok (.if_icmp .le 5, 3) := by decide +kernel
theorem d_R_pass_19 : decode prog_10_method_32_code 19 = .ok (.iconst (-1), 1) := by decide +kernel
theorem d_R_pass_20 : decode prog_10_method_32_code 20 = .ok (.ireturn, 1) := by decide +kernel
theorem d_R_pass_21 : decode prog_10_method_32_code 21 = .ok (.aload_n 0, 1) := by decide +kernel
theorem d_R_pass_22 : decode prog_10_method_32_code 22 = .ok (.getfield 37, 3) := by decide +kernel
theorem d_R_pass_25 : decode prog_10_method_32_code 25 = .ok (.iload_n 1, 1) := by decide +kernel
theorem d_R_pass_26 : decode prog_10_method_32_code 26 = .ok (.aload_n 0, 1) := by decide +kernel
theorem d_R_pass_27 : decode prog_10_method_32_code 27 = .ok (.getfield 37, 3) := by decide +kernel
theorem d_R_pass_30 : decode prog_10_method_32_code 30 = .ok (.iload_n 1, 1) := by decide +kernel
theorem d_R_pass_31 : decode prog_10_method_32_code 31 = .ok (.iaload, 1) := by decide +kernel
theorem d_R_pass_32 : decode prog_10_method_32_code 32 = .ok (.iload_n 2, 1) := by decide +kernel
theorem d_R_pass_33 : decode prog_10_method_32_code 33 = .ok (.iadd, 1) := by decide +kernel
theorem d_R_pass_34 : decode prog_10_method_32_code 34 = .ok (.iastore, 1) := by decide +kernel
theorem d_R_pass_35 : decode prog_10_method_32_code 35 = .ok (.aload_n 0, 1) := by decide +kernel
theorem d_R_pass_36 : decode prog_10_method_32_code 36 = .ok (.getfield 37, 3) := by decide +kernel
theorem d_R_pass_39 : decode prog_10_method_32_code 39 = .ok (.iload_n 1, 1) := by decide +kernel
theorem d_R_pass_40 : decode prog_10_method_32_code 40 = .ok (.iaload, 1) := by decide +kernel
theorem d_R_pass_41 : decode prog_10_method_32_code 41 = .ok (.ireturn, 1) := by decide +kernel
theorem d_R_crash_0 : decode prog_10_method_33_code 0 = .ok (.aload_n 0, 1) := by decide +kernel
theorem d_R_crash_1 : decode prog_10_method_33_code 1 = .ok (.iload_n 1, 1) := by decide +kernel
theorem d_R_crash_2 : decode prog_10_method_33_code 2 = .ok (.invokevirtual 103, 3) := by decide +kernel
theorem d_R_crash_5 : decode prog_10_method_33_code 5 = .ok (.ifCond .ne 5, 3) := by decide +kernel
theorem d_R_crash_8 : decode prog_10_method_33_code 8 = .ok (.iconst (-1), 1) := by decide +kernel
theorem d_R_crash_9 : decode prog_10_method_33_code 9 = .ok (.ireturn, 1) := by decide +kernel
theorem d_R_crash_10 : decode prog_10_method_33_code 10 = .ok (.iconst 0, 1) := by decide +kernel
theorem d_R_crash_11 : decode prog_10_method_33_code 11 = .ok (.istore_n 2, 1) := by decide +kernel
theorem d_R_crash_12 : decode prog_10_method_33_code 12 = .ok (.iconst 0, 1) := by decide +kernel
theorem d_R_crash_13 : decode prog_10_method_33_code 13 = .ok (.istore_n 3, 1) := by decide +kernel
theorem d_R_crash_14 : decode prog_10_method_33_code 14 = .ok (.iload_n 3, 1) := by decide +kernel
theorem d_R_crash_15 : decode prog_10_method_33_code 15 = .ok (.aload_n 0, 1) := by decide +kernel
theorem d_R_crash_16 : decode prog_10_method_33_code 16 = .ok (.getfield 87, 3) := by decide +kernel
theorem d_R_crash_19 : decode prog_10_method_33_code 19 = .ok (.if_icmp .ge 41, 3) := by decide +kernel
theorem d_R_crash_22 : decode prog_10_method_33_code 22 = .ok (.aload_n 0, 1) := by decide +kernel
theorem d_R_crash_23 : decode prog_10_method_33_code 23 = .ok (.getfield 68, 3) := by decide +kernel
theorem d_R_crash_26 : decode prog_10_method_33_code 26 = .ok (.iconst 4, 1) := by decide +kernel
theorem d_R_crash_27 : decode prog_10_method_33_code 27 = .ok (.iload_n 1, 1) := by decide +kernel
theorem d_R_crash_28 : decode prog_10_method_33_code 28 = .ok (.imul, 1) := by decide +kernel
theorem d_R_crash_29 : decode prog_10_method_33_code 29 = .ok (.iload_n 3, 1) := by decide +kernel
theorem d_R_crash_30 : decode prog_10_method_33_code 30 = .ok (.iadd, 1) := by decide +kernel
theorem d_R_crash_31 : decode prog_10_method_33_code 31 = .ok (.baload, 1) := by decide +kernel
theorem d_R_crash_32 : decode prog_10_method_33_code 32 = .ok (.ifCond .eq 9, 3) := by decide +kernel
theorem d_R_crash_35 : decode prog_10_method_33_code 35 = .ok (.iload_n 2, 1) := by decide +kernel
theorem d_R_crash_36 : decode prog_10_method_33_code 36 = .ok (.iconst 1, 1) := by decide +kernel
theorem d_R_crash_37 : decode prog_10_method_33_code 37 = .ok (.iadd, 1) := by decide +kernel
theorem d_R_crash_38 : decode prog_10_method_33_code 38 = .ok (.goto 4, 3) := by decide +kernel
theorem d_R_crash_41 : decode prog_10_method_33_code 41 = .ok (.iload_n 2, 1) := by decide +kernel
theorem d_R_crash_42 : decode prog_10_method_33_code 42 = .ok (.istore_n 2, 1) := by decide +kernel
theorem d_R_crash_43 : decode prog_10_method_33_code 43 = .ok (.aload_n 0, 1) := by decide +kernel
theorem d_R_crash_44 : decode prog_10_method_33_code 44 = .ok (.getfield 68, 3) := by decide +kernel
theorem d_R_crash_47 : decode prog_10_method_33_code 47 = .ok (.iconst 4, 1) := by decide +kernel
theorem d_R_crash_48 : decode prog_10_method_33_code 48 = .ok (.iload_n 1, 1) := by decide +kernel
theorem d_R_crash_49 : decode prog_10_method_33_code 49 = .ok (.imul, 1) := by decide +kernel
theorem d_R_crash_50 : decode prog_10_method_33_code 50 = .ok (.iload_n 3, 1) := by decide +kernel
theorem d_R_crash_51 : decode prog_10_method_33_code 51 = .ok (.iadd, 1) := by decide +kernel
theorem d_R_crash_52 : decode prog_10_method_33_code 52 = .ok (.iconst 0, 1) := by decide +kernel
theorem d_R_crash_53 : decode prog_10_method_33_code 53 = .ok (.bastore, 1) := by decide +kernel
theorem d_R_crash_54 : decode prog_10_method_33_code 54 = .ok (.iinc 3 1, 3) := by decide +kernel
theorem d_R_crash_57 : decode prog_10_method_33_code 57 = .ok (.goto (-43), 3) := by decide +kernel
theorem d_R_crash_60 : decode prog_10_method_33_code 60 = .ok (.aload_n 0, 1) := by decide +kernel
theorem d_R_crash_61 : decode prog_10_method_33_code 61 = .ok (.getfield 43, 3) := by decide +kernel
theorem d_R_crash_64 : decode prog_10_method_33_code 64 = .ok (.iload_n 1, 1) := by decide +kernel
theorem d_R_crash_65 : decode prog_10_method_33_code 65 = .ok (.iconst 0, 1) := by decide +kernel
theorem d_R_crash_66 : decode prog_10_method_33_code 66 = .ok (.iastore, 1) := by decide +kernel
theorem d_R_crash_67 : decode prog_10_method_33_code 67 = .ok (.aload_n 0, 1) := by decide +kernel
theorem d_R_crash_68 : decode prog_10_method_33_code 68 = .ok (.getfield 59, 3) := by decide +kernel
theorem d_R_crash_71 : decode prog_10_method_33_code 71 = .ok (.iload_n 1, 1) := by decide +kernel
theorem d_R_crash_72 : decode prog_10_method_33_code 72 = .ok (.iconst 0, 1) := by decide +kernel
theorem d_R_crash_73 : decode prog_10_method_33_code 73 = .ok (.bastore, 1) := by decide +kernel
theorem d_R_crash_74 : decode prog_10_method_33_code 74 = .ok (.iload_n 2, 1) := by decide +kernel
theorem d_R_crash_75 : decode prog_10_method_33_code 75 = .ok (.ireturn, 1) := by decide +kernel
theorem d_R_halt_0 : decode prog_10_method_34_code 0 = .ok (.aload_n 0, 1) := by decide +kernel
theorem d_R_halt_1 : decode prog_10_method_34_code 1 = .ok (.getfield 165, 3) := by decide +kernel
theorem d_R_halt_4 : decode prog_10_method_34_code 4 = .ok (.ifCond .eq 5, 3) := by decide +kernel
theorem d_R_halt_7 : decode prog_10_method_34_code 7 = .ok (.iconst (-1), 1) := by decide +kernel
theorem d_R_halt_8 : decode prog_10_method_34_code 8 = .ok (.ireturn, 1) := by decide +kernel
theorem d_R_halt_9 : decode prog_10_method_34_code 9 = .ok (.aload_n 0, 1) := by decide +kernel
theorem d_R_halt_10 : decode prog_10_method_34_code 10 = .ok (.getfield 125, 3) := by decide +kernel
theorem d_R_halt_13 : decode prog_10_method_34_code 13 = .ok (.istore_n 1, 1) := by decide +kernel
theorem d_R_halt_14 : decode prog_10_method_34_code 14 = .ok (.aload_n 0, 1) := by decide +kernel
theorem d_R_halt_15 : decode prog_10_method_34_code 15 = .ok (.iconst 1, 1) := by decide +kernel
theorem d_R_halt_16 : decode prog_10_method_34_code 16 = .ok (.putfield 165, 3) := by decide +kernel
theorem d_R_halt_19 : decode prog_10_method_34_code 19 = .ok (.aload_n 0, 1) := by decide +kernel
theorem d_R_halt_20 : decode prog_10_method_34_code 20 = .ok (.iconst 0, 1) := by decide +kernel
theorem d_R_halt_21 : decode prog_10_method_34_code 21 = .ok (.putfield 125, 3) := by decide +kernel
theorem d_R_halt_24 : decode prog_10_method_34_code 24 = .ok (.iconst 0, 1) := by decide +kernel
theorem d_R_halt_25 : decode prog_10_method_34_code 25 = .ok (.istore_n 2, 1) := by decide +kernel
theorem d_R_halt_26 : decode prog_10_method_34_code 26 = .ok (.iload_n 2, 1) := by decide +kernel
theorem d_R_halt_27 : decode prog_10_method_34_code 27 = .ok (.bipush 16, 2) := by decide +kernel
theorem d_R_halt_29 : decode prog_10_method_34_code 29 = .ok (.if_icmp .ge 16, 3) := by decide +kernel
theorem d_R_halt_32 : decode prog_10_method_34_code 32 = .ok (.aload_n 0, 1) := by decide +kernel
theorem d_R_halt_33 : decode prog_10_method_34_code 33 = .ok (.getfield 16, 3) := by decide +kernel
theorem d_R_halt_36 : decode prog_10_method_34_code 36 = .ok (.iload_n 2, 1) := by decide +kernel
theorem d_R_halt_37 : decode prog_10_method_34_code 37 = .ok (.iconst 0, 1) := by decide +kernel
theorem d_R_halt_38 : decode prog_10_method_34_code 38 = .ok (.iastore, 1) := by decide +kernel
theorem d_R_halt_39 : decode prog_10_method_34_code 39 = .ok (.iinc 2 1, 3) := by decide +kernel
theorem d_R_halt_42 : decode prog_10_method_34_code 42 = .ok (.goto (-16), 3) := by decide +kernel
theorem d_R_halt_45 : decode prog_10_method_34_code 45 = .ok (.iload_n 1, 1) := by decide +kernel
theorem d_R_halt_46 : decode prog_10_method_34_code 46 = .ok (.ireturn, 1) := by decide +kernel
theorem d_R_restart_0 : decode prog_10_method_35_code 0 = .ok (.aload_n 0, 1) := by decide +kernel
theorem d_R_restart_1 : decode prog_10_method_35_code 1 = .ok (.getfield 165, 3) := by decide +kernel
theorem d_R_restart_4 : decode prog_10_method_35_code 4 = .ok (.ifCond .ne 5, 3) := by decide +kernel
theorem d_R_restart_7 : decode prog_10_method_35_code 7 = .ok (.iconst (-1), 1) := by decide +kernel
theorem d_R_restart_8 : decode prog_10_method_35_code 8 = .ok (.ireturn, 1) := by decide +kernel
theorem d_R_restart_9 : decode prog_10_method_35_code 9 = .ok (.aload_n 0, 1) := by decide +kernel
theorem d_R_restart_10 : decode prog_10_method_35_code 10 = .ok (.iconst 0, 1) := by decide +kernel
theorem d_R_restart_11 : decode prog_10_method_35_code 11 = .ok (.putfield 165, 3) := by decide +kernel
theorem d_R_restart_14 : decode prog_10_method_35_code 14 = .ok (.aload_n 0, 1) := by decide +kernel
theorem d_R_restart_15 : decode prog_10_method_35_code 15 = .ok (.dup, 1) := by decide +kernel
theorem d_R_restart_16 : decode prog_10_method_35_code 16 = .ok (.getfield 136, 3) := by decide +kernel
theorem d_R_restart_19 : decode prog_10_method_35_code 19 = .ok (.iconst 1, 1) := by decide +kernel
theorem d_R_restart_20 : decode prog_10_method_35_code 20 = .ok (.iadd, 1) := by decide +kernel
theorem d_R_restart_21 : decode prog_10_method_35_code 21 = .ok (.putfield 136, 3) := by decide +kernel
theorem d_R_restart_24 : decode prog_10_method_35_code 24 = .ok (.aload_n 0, 1) := by decide +kernel
theorem d_R_restart_25 : decode prog_10_method_35_code 25 = .ok (.aload_n 0, 1) := by decide +kernel
theorem d_R_restart_26 : decode prog_10_method_35_code 26 = .ok (.getfield 122, 3) := by decide +kernel
theorem d_R_restart_29 : decode prog_10_method_35_code 29 = .ok (.aload_n 0, 1) := by decide +kernel
theorem d_R_restart_30 : decode prog_10_method_35_code 30 = .ok (.getfield 90, 3) := by decide +kernel
theorem d_R_restart_33 : decode prog_10_method_35_code 33 = .ok (.iadd, 1) := by decide +kernel
theorem d_R_restart_34 : decode prog_10_method_35_code 34 = .ok (.putfield 139, 3) := by decide +kernel
theorem d_R_restart_37 : decode prog_10_method_35_code 37 = .ok (.aload_n 0, 1) := by decide +kernel
theorem d_R_restart_38 : decode prog_10_method_35_code 38 = .ok (.getfield 136, 3) := by decide +kernel
theorem d_R_restart_41 : decode prog_10_method_35_code 41 = .ok (.ireturn, 1) := by decide +kernel
theorem d_R_rest_0 : decode prog_10_method_36_code 0 = .ok (.iload_n 0, 1) := by decide +kernel
theorem d_R_rest_1 : decode prog_10_method_36_code 1 = .ok (.iload_n 1, 1) := by decide +kernel
theorem d_R_rest_2 : decode prog_10_method_36_code 2 = .ok (.if_icmp .le 9, 3) := by decide +kernel
theorem d_R_rest_5 : decode prog_10_method_36_code 5 = .ok (.iload_n 0, 1) := by decide +kernel
theorem d_R_rest_6 : decode prog_10_method_36_code 6 = .ok (.iload_n 1, 1) := by decide +kernel
theorem d_R_rest_7 : decode prog_10_method_36_code 7 = .ok (.isub, 1) := by decide +kernel
theorem d_R_rest_8 : decode prog_10_method_36_code 8 = .ok (.goto 4, 3) := by decide +kernel
theorem d_R_rest_11 : decode prog_10_method_36_code 11 = .ok (.iconst 0, 1) := by decide +kernel
theorem d_R_rest_12 : decode prog_10_method_36_code 12 = .ok (.ireturn, 1) := by decide +kernel
theorem d_R_copy_0 : decode prog_10_method_37_code 0 = .ok (.aload_n 0, 1) := by decide +kernel
theorem d_R_copy_1 : decode prog_10_method_37_code 1 = .ok (.iload_n 1, 1) := by decide +kernel
theorem d_R_copy_2 : decode prog_10_method_37_code 2 = .ok (.invokevirtual 103, 3) := by decide +kernel
theorem d_R_copy_5 : decode prog_10_method_37_code 5 = .ok (.ifCond .eq 33, 3) := by decide +kernel
theorem d_R_copy_8 : decode prog_10_method_37_code 8 = .ok (.aload_n 0, 1) := by decide +kernel
theorem d_R_copy_9 : decode prog_10_method_37_code 9 = .ok (.iload_n 2, 1) := by decide +kernel
theorem d_R_copy_10 : decode prog_10_method_37_code 10 = .ok (.invokevirtual 107, 3) := by decide +kernel
theorem d_R_copy_13 : decode prog_10_method_37_code 13 = .ok (.ifCond .eq 25, 3) := by decide +kernel
theorem d_R_copy_16 : decode prog_10_method_37_code 16 = .ok (.aload_n 0, 1) := by decide +kernel
theorem d_R_copy_17 : decode prog_10_method_37_code 17 = .ok (.getfield 68, 3) := by decide +kernel
theorem d_R_copy_20 : decode prog_10_method_37_code 20 = .ok (.iconst 4, 1) := by decide +kernel
theorem d_R_copy_21 : decode prog_10_method_37_code 21 = .ok (.iload_n 1, 1) := by decide +kernel
theorem d_R_copy_22 : decode prog_10_method_37_code 22 = .ok (.imul, 1) := by decide +kernel
theorem d_R_copy_23 : decode prog_10_method_37_code 23 = .ok (.iload_n 2, 1) := by decide +kernel
theorem d_R_copy_24 : decode prog_10_method_37_code 24 = .ok (.iadd, 1) := by decide +kernel
theorem d_R_copy_25 : decode prog_10_method_37_code 25 = .ok (.baload, 1) := by decide +kernel
theorem d_R_copy_26 : decode prog_10_method_37_code 26 = .ok (.ifCond .eq 12, 3) := by decide +kernel
theorem d_R_copy_29 : decode prog_10_method_37_code 29 = .ok (.iload_n 3, 1) := by decide +kernel
theorem d_R_copy_30 : decode prog_10_method_37_code 30 = .ok (.ifCond .lt 8, 3) := by decide +kernel
theorem d_R_copy_33 : decode prog_10_method_37_code 33 = .ok (.iload_n 3, 1) := by decide +kernel
theorem d_R_copy_34 : decode prog_10_method_37_code 34 = .ok (.iconst 2, 1) := by decide +kernel
theorem d_R_copy_35 : decode prog_10_method_37_code 35 = .ok (.if_icmp .le 5, 3) := by decide +kernel
theorem d_R_copy_38 : decode prog_10_method_37_code 38 = .ok (.iconst (-1), 1) := by decide +kernel
theorem d_R_copy_39 : decode prog_10_method_37_code 39 = .ok (.ireturn, 1) := by decide +kernel
theorem d_R_copy_40 : decode prog_10_method_37_code 40 = .ok (.iconst 4, 1) := by decide +kernel
theorem d_R_copy_41 : decode prog_10_method_37_code 41 = .ok (.iload_n 1, 1) := by decide +kernel
theorem d_R_copy_42 : decode prog_10_method_37_code 42 = .ok (.imul, 1) := by decide +kernel
theorem d_R_copy_43 : decode prog_10_method_37_code 43 = .ok (.iload_n 2, 1) := by decide +kernel
theorem d_R_copy_44 : decode prog_10_method_37_code 44 = .ok (.iadd, 1) := by decide +kernel
theorem d_R_copy_45 : decode prog_10_method_37_code 45 = .ok (.istore 4, 2) := by decide +kernel
theorem d_R_copy_47 : decode prog_10_method_37_code 47 = .ok (.iload_n 3, 1) := by decide +kernel
theorem d_R_copy_48 : decode prog_10_method_37_code 48 = .ok (.ifCond .ne 22, 3) := by decide +kernel
theorem d_R_copy_51 : decode prog_10_method_37_code 51 = .ok (.aload_n 0, 1) := by decide +kernel
theorem d_R_copy_52 : decode prog_10_method_37_code 52 = .ok (.getfield 71, 3) := by decide +kernel
theorem d_R_copy_55 : decode prog_10_method_37_code 55 = .ok (.iload 4, 2) := by decide +kernel
theorem d_R_copy_57 : decode prog_10_method_37_code 57 = .ok (.iaload, 1) := by decide +kernel
theorem d_R_copy_58 : decode prog_10_method_37_code 58 = .ok (.aload_n 0, 1) := by decide +kernel
theorem d_R_copy_59 : decode prog_10_method_37_code 59 = .ok (.getfield 37, 3) := by decide +kernel
theorem d_R_copy_62 : decode prog_10_method_37_code 62 = .ok (.iload_n 1, 1) := by decide +kernel
theorem d_R_copy_63 : decode prog_10_method_37_code 63 = .ok (.iaload, 1) := by decide +kernel
theorem d_R_copy_64 : decode prog_10_method_37_code 64 = .ok (.invokestatic 183, 3) := by decide +kernel
theorem d_R_copy_67 : decode prog_10_method_37_code 67 = .ok (.goto 25, 3) := by decide +kernel
theorem d_R_copy_70 : decode prog_10_method_37_code 70 = .ok (.iload_n 3, 1) := by decide +kernel
theorem d_R_copy_71 : decode prog_10_method_37_code 71 = .ok (.iconst 1, 1) := by decide +kernel
theorem d_R_copy_72 : decode prog_10_method_37_code 72 = .ok (.if_icmp .ne 13, 3) := by decide +kernel
theorem d_R_copy_75 : decode prog_10_method_37_code 75 = .ok (.aload_n 0, 1) := by decide +kernel
theorem d_R_copy_76 : decode prog_10_method_37_code 76 = .ok (.getfield 74, 3) := by decide +kernel
theorem d_R_copy_79 : decode prog_10_method_37_code 79 = .ok (.iload 4, 2) := by decide +kernel
theorem d_R_copy_81 : decode prog_10_method_37_code 81 = .ok (.iaload, 1) := by decide +kernel
theorem d_R_copy_82 : decode prog_10_method_37_code 82 = .ok (.goto 10, 3) := by decide +kernel
theorem d_R_copy_85 : decode prog_10_method_37_code 85 = .ok (.aload_n 0, 1) := by decide +kernel
theorem d_R_copy_86 : decode prog_10_method_37_code 86 = .ok (.getfield 77, 3) := by decide +kernel
theorem d_R_copy_89 : decode prog_10_method_37_code 89 = .ok (.iload 4, 2) := by decide +kernel
theorem d_R_copy_91 : decode prog_10_method_37_code 91 = .ok (.iaload, 1) := by decide +kernel
theorem d_R_copy_92 : decode prog_10_method_37_code 92 = .ok (.ireturn, 1) := by decide +kernel
theorem d_R_lease_0 : decode prog_10_method_38_code 0 = .ok (.aload_n 0, 1) := by decide +kernel
theorem d_R_lease_1 : decode prog_10_method_38_code 1 = .ok (.iload_n 1, 1) := by decide +kernel
theorem d_R_lease_2 : decode prog_10_method_38_code 2 = .ok (.invokevirtual 103, 3) := by decide +kernel
theorem d_R_lease_5 : decode prog_10_method_38_code 5 = .ok (.ifCond .eq 31, 3) := by decide +kernel
theorem d_R_lease_8 : decode prog_10_method_38_code 8 = .ok (.aload_n 0, 1) := by decide +kernel
theorem d_R_lease_9 : decode prog_10_method_38_code 9 = .ok (.iload_n 2, 1) := by decide +kernel
theorem d_R_lease_10 : decode prog_10_method_38_code 10 = .ok (.invokevirtual 107, 3) := by decide +kernel
theorem d_R_lease_13 : decode prog_10_method_38_code 13 = .ok (.ifCond .eq 23, 3) := by decide +kernel
theorem d_R_lease_16 : decode prog_10_method_38_code 16 = .ok (.aload_n 0, 1) := by decide +kernel
theorem d_R_lease_17 : decode prog_10_method_38_code 17 = .ok (.getfield 16, 3) := by decide +kernel
theorem d_R_lease_20 : decode prog_10_method_38_code 20 = .ok (.iconst 4, 1) := by decide +kernel
theorem d_R_lease_21 : decode prog_10_method_38_code 21 = .ok (.iload_n 1, 1) := by decide +kernel
theorem d_R_lease_22 : decode prog_10_method_38_code 22 = .ok (.imul, 1) := by decide +kernel
theorem d_R_lease_23 : decode prog_10_method_38_code 23 = .ok (.iload_n 2, 1) := by decide +kernel
theorem d_R_lease_24 : decode prog_10_method_38_code 24 = .ok (.iadd, 1) := by decide +kernel
theorem d_R_lease_25 : decode prog_10_method_38_code 25 = .ok (.iaload, 1) := by decide +kernel
theorem d_R_lease_26 : decode prog_10_method_38_code 26 = .ok (.aload_n 0, 1) := by decide +kernel
theorem d_R_lease_27 : decode prog_10_method_38_code 27 = .ok (.getfield 122, 3) := by decide +kernel
theorem d_R_lease_30 : decode prog_10_method_38_code 30 = .ok (.invokestatic 183, 3) := by decide +kernel
theorem d_R_lease_33 : decode prog_10_method_38_code 33 = .ok (.goto 4, 3) := by decide +kernel
theorem d_R_lease_36 : decode prog_10_method_38_code 36 = .ok (.iconst (-1), 1) := by decide +kernel
theorem d_R_lease_37 : decode prog_10_method_38_code 37 = .ok (.ireturn, 1) := by decide +kernel
theorem d_R_file_0 : decode prog_10_method_39_code 0 = .ok (.aload_n 0, 1) := by decide +kernel
theorem d_R_file_1 : decode prog_10_method_39_code 1 = .ok (.iload_n 1, 1) := by decide +kernel
theorem d_R_file_2 : decode prog_10_method_39_code 2 = .ok (.invokevirtual 107, 3) := by decide +kernel
theorem d_R_file_5 : decode prog_10_method_39_code 5 = .ok (.ifCond .eq 12, 3) := by decide +kernel
theorem d_R_file_8 : decode prog_10_method_39_code 8 = .ok (.iload_n 2, 1) := by decide +kernel
theorem d_R_file_9 : decode prog_10_method_39_code 9 = .ok (.ifCond .lt 8, 3) := by decide +kernel
theorem d_R_file_12 : decode prog_10_method_39_code 12 = .ok (.iload_n 2, 1) := by decide +kernel
theorem d_R_file_13 : decode prog_10_method_39_code 13 = .ok (.iconst 3, 1) := by decide +kernel
theorem d_R_file_14 : decode prog_10_method_39_code 14 = .ok (.if_icmp .le 5, 3) := by decide +kernel
theorem d_R_file_17 : decode prog_10_method_39_code 17 = .ok (.iconst (-1), 1) := by decide +kernel
theorem d_R_file_18 : decode prog_10_method_39_code 18 = .ok (.ireturn, 1) := by decide +kernel
theorem d_R_file_19 : decode prog_10_method_39_code 19 = .ok (.iconst 0, 1) := by decide +kernel
theorem d_R_file_20 : decode prog_10_method_39_code 20 = .ok (.istore_n 3, 1) := by decide +kernel
theorem d_R_file_21 : decode prog_10_method_39_code 21 = .ok (.iconst 0, 1) := by decide +kernel
theorem d_R_file_22 : decode prog_10_method_39_code 22 = .ok (.istore 4, 2) := by decide +kernel
theorem d_R_file_24 : decode prog_10_method_39_code 24 = .ok (.iload 4, 2) := by decide +kernel
theorem d_R_file_26 : decode prog_10_method_39_code 26 = .ok (.aload_n 0, 1) := by decide +kernel
theorem d_R_file_27 : decode prog_10_method_39_code 27 = .ok (.getfield 125, 3) := by decide +kernel
theorem d_R_file_30 : decode prog_10_method_39_code 30 = .ok (.if_icmp .ge 28, 3) := by decide +kernel
theorem d_R_file_33 : decode prog_10_method_39_code 33 = .ok (.aload_n 0, 1) := by decide +kernel
theorem d_R_file_34 : decode prog_10_method_39_code 34 = .ok (.getfield 28, 3) := by decide +kernel
theorem d_R_file_37 : decode prog_10_method_39_code 37 = .ok (.iload 4, 2) := by decide +kernel
theorem d_R_file_39 : decode prog_10_method_39_code 39 = .ok (.iaload, 1) := by decide +kernel
theorem d_R_file_40 : decode prog_10_method_39_code 40 = .ok (.iload_n 1, 1) := by decide +kernel
theorem d_R_file_41 : decode prog_10_method_39_code 41 = .ok (.if_icmp .ne 9, 3) := by decide +kernel
theorem d_R_file_44 : decode prog_10_method_39_code 44 = .ok (.iload_n 3, 1) := by decide +kernel
theorem d_R_file_45 : decode prog_10_method_39_code 45 = .ok (.iconst 1, 1) := by decide +kernel
theorem d_R_file_46 : decode prog_10_method_39_code 46 = .ok (.iadd, 1) := by decide +kernel
theorem d_R_file_47 : decode prog_10_method_39_code 47 = .ok (.goto 4, 3) := by decide +kernel
theorem d_R_file_50 : decode prog_10_method_39_code 50 = .ok (.iload_n 3, 1) := by decide +kernel
theorem d_R_file_51 : decode prog_10_method_39_code 51 = .ok (.istore_n 3, 1) := by decide +kernel
theorem d_R_file_52 : decode prog_10_method_39_code 52 = .ok (.iinc 4 1, 3) := by decide +kernel
theorem d_R_file_55 : decode prog_10_method_39_code 55 = .ok (.goto (-31), 3) := by decide +kernel
theorem d_R_file_58 : decode prog_10_method_39_code 58 = .ok (.aload_n 0, 1) := by decide +kernel
theorem d_R_file_59 : decode prog_10_method_39_code 59 = .ok (.iload_n 1, 1) := by decide +kernel
theorem d_R_file_60 : decode prog_10_method_39_code 60 = .ok (.invokevirtual 128, 3) := by decide +kernel
theorem d_R_file_63 : decode prog_10_method_39_code 63 = .ok (.istore 4, 2) := by decide +kernel
theorem d_R_file_65 : decode prog_10_method_39_code 65 = .ok (.iload_n 2, 1) := by decide +kernel
theorem d_R_file_66 : decode prog_10_method_39_code 66 = .ok (.ifCond .ne 12, 3) := by decide +kernel
theorem d_R_file_69 : decode prog_10_method_39_code 69 = .ok (.aload_n 0, 1) := by decide +kernel
theorem d_R_file_70 : decode prog_10_method_39_code 70 = .ok (.getfield 7, 3) := by decide +kernel
theorem d_R_file_73 : decode prog_10_method_39_code 73 = .ok (.iload_n 1, 1) := by decide +kernel
theorem d_R_file_74 : decode prog_10_method_39_code 74 = .ok (.iaload, 1) := by decide +kernel
theorem d_R_file_75 : decode prog_10_method_39_code 75 = .ok (.goto 42, 3) := by decide +kernel
theorem d_R_file_78 : decode prog_10_method_39_code 78 = .ok (.iload_n 2, 1) := by decide +kernel
theorem d_R_file_79 : decode prog_10_method_39_code 79 = .ok (.iconst 1, 1) := by decide +kernel
theorem d_R_file_80 : decode prog_10_method_39_code 80 = .ok (.if_icmp .ne 12, 3) := by decide +kernel
theorem d_R_file_83 : decode prog_10_method_39_code 83 = .ok (.aload_n 0, 1) := by decide +kernel
theorem d_R_file_84 : decode prog_10_method_39_code 84 = .ok (.getfield 13, 3) := by decide +kernel
theorem d_R_file_87 : decode prog_10_method_39_code 87 = .ok (.iload_n 1, 1) := by decide +kernel
theorem d_R_file_88 : decode prog_10_method_39_code 88 = .ok (.iaload, 1) := by decide +kernel
theorem d_R_file_89 : decode prog_10_method_39_code 89 = .ok (.goto 28, 3) := by decide +kernel
theorem d_R_file_92 : decode prog_10_method_39_code 92 = .ok (.iload_n 2, 1) := by decide +kernel
theorem d_R_file_93 : decode prog_10_method_39_code 93 = .ok (.iconst 2, 1) := by decide +kernel
theorem d_R_file_94 : decode prog_10_method_39_code 94 = .ok (.if_icmp .ne 7, 3) := by decide +kernel
theorem d_R_file_97 : decode prog_10_method_39_code 97 = .ok (.iload_n 3, 1) := by decide +kernel
theorem d_R_file_98 : decode prog_10_method_39_code 98 = .ok (.goto 19, 3) := by decide +kernel
theorem d_R_file_101 : decode prog_10_method_39_code 101 = .ok (.iload 4, 2) := by decide +kernel
theorem d_R_file_103 : decode prog_10_method_39_code 103 = .ok (.ifCond .ge 7, 3) := by decide +kernel
theorem d_R_file_106 : decode prog_10_method_39_code 106 = .ok (.iconst (-1), 1) := by decide +kernel
theorem d_R_file_107 : decode prog_10_method_39_code 107 = .ok (.goto 10, 3) := by decide +kernel
theorem d_R_file_110 : decode prog_10_method_39_code 110 = .ok (.aload_n 0, 1) := by decide +kernel
theorem d_R_file_111 : decode prog_10_method_39_code 111 = .ok (.getfield 25, 3) := by decide +kernel
theorem d_R_file_114 : decode prog_10_method_39_code 114 = .ok (.iload 4, 2) := by decide +kernel
theorem d_R_file_116 : decode prog_10_method_39_code 116 = .ok (.iaload, 1) := by decide +kernel
theorem d_R_file_117 : decode prog_10_method_39_code 117 = .ok (.ireturn, 1) := by decide +kernel
theorem d_R_server_0 : decode prog_10_method_40_code 0 = .ok (.iload_n 1, 1) := by decide +kernel
theorem d_R_server_1 : decode prog_10_method_40_code 1 = .ok (.ifCond .ne 10, 3) := by decide +kernel
theorem d_R_server_4 : decode prog_10_method_40_code 4 = .ok (.aload_n 0, 1) := by decide +kernel
theorem d_R_server_5 : decode prog_10_method_40_code 5 = .ok (.getfield 122, 3) := by decide +kernel
theorem d_R_server_8 : decode prog_10_method_40_code 8 = .ok (.goto 55, 3) := by decide +kernel
theorem d_R_server_11 : decode prog_10_method_40_code 11 = .ok (.iload_n 1, 1) := by decide +kernel
theorem d_R_server_12 : decode prog_10_method_40_code 12 = .ok (.iconst 1, 1) := by decide +kernel
theorem d_R_server_13 : decode prog_10_method_40_code 13 = .ok (.if_icmp .ne 18, 3) := by decide +kernel
theorem d_R_server_16 : decode prog_10_method_40_code 16 = .ok (.aload_n 0, 1) := by decide +kernel
theorem d_R_server_17 : decode prog_10_method_40_code 17 = .ok (.getfield 165, 3) := by decide +kernel
theorem d_R_server_20 : decode prog_10_method_40_code 20 = .ok (.ifCond .eq 7, 3) := by decide +kernel
theorem d_R_server_23 : decode prog_10_method_40_code 23 = .ok (.iconst 0, 1) := by decide +kernel
theorem d_R_server_24 : decode prog_10_method_40_code 24 = .ok (.goto 39, 3) := by decide +kernel
theorem d_R_server_27 : decode prog_10_method_40_code 27 = .ok (.iconst 1, 1) := by decide +kernel
theorem d_R_server_28 : decode prog_10_method_40_code 28 = .ok (.goto 35, 3) := by decide +kernel
theorem d_R_server_31 : decode prog_10_method_40_code 31 = .ok (.iload_n 1, 1) := by decide +kernel
theorem d_R_server_32 : decode prog_10_method_40_code 32 = .ok (.iconst 2, 1) := by decide +kernel
theorem d_R_server_33 : decode prog_10_method_40_code 33 = .ok (.if_icmp .ne 10, 3) := by decide +kernel
theorem d_R_server_36 : decode prog_10_method_40_code 36 = .ok (.aload_n 0, 1) := by decide +kernel
theorem d_R_server_37 : decode prog_10_method_40_code 37 = .ok (.getfield 136, 3) := by decide +kernel
theorem d_R_server_40 : decode prog_10_method_40_code 40 = .ok (.goto 23, 3) := by decide +kernel
theorem d_R_server_43 : decode prog_10_method_40_code 43 = .ok (.iload_n 1, 1) := by decide +kernel
theorem d_R_server_44 : decode prog_10_method_40_code 44 = .ok (.iconst 3, 1) := by decide +kernel
theorem d_R_server_45 : decode prog_10_method_40_code 45 = .ok (.if_icmp .ne 17, 3) := by decide +kernel
theorem d_R_server_48 : decode prog_10_method_40_code 48 = .ok (.aload_n 0, 1) := by decide +kernel
theorem d_R_server_49 : decode prog_10_method_40_code 49 = .ok (.getfield 139, 3) := by decide +kernel
end
section
theorem d_R_server_52 : decode prog_10_method_40_code 52 = .ok (.aload_n 0, 1) := by decide +kernel
theorem d_R_server_53 : decode prog_10_method_40_code 53 = .ok (.getfield 122, 3) := by decide +kernel
theorem d_R_server_56 : decode prog_10_method_40_code 56 = .ok (.invokestatic 183, 3) := by decide +kernel
theorem d_R_server_59 : decode prog_10_method_40_code 59 = .ok (.goto 4, 3) := by decide +kernel
theorem d_R_server_62 : decode prog_10_method_40_code 62 = .ok (.iconst (-1), 1) := by decide +kernel
theorem d_R_server_63 : decode prog_10_method_40_code 63 = .ok (.ireturn, 1) := by decide +kernel
theorem d_R_client_0 : decode prog_10_method_41_code 0 = .ok (.aload_n 0, 1) := by decide +kernel
theorem d_R_client_1 : decode prog_10_method_41_code 1 = .ok (.iload_n 1, 1) := by decide +kernel
theorem d_R_client_2 : decode prog_10_method_41_code 2 = .ok (.invokevirtual 103, 3) := by decide +kernel
theorem d_R_client_5 : decode prog_10_method_41_code 5 = .ok (.ifCond .ne 5, 3) := by decide +kernel
theorem d_R_client_8 : decode prog_10_method_41_code 8 = .ok (.iconst (-1), 1) := by decide +kernel
theorem d_R_client_9 : decode prog_10_method_41_code 9 = .ok (.ireturn, 1) := by decide +kernel
theorem d_R_client_10 : decode prog_10_method_41_code 10 = .ok (.aload_n 0, 1) := by decide +kernel
theorem d_R_client_11 : decode prog_10_method_41_code 11 = .ok (.getfield 43, 3) := by decide +kernel
theorem d_R_client_14 : decode prog_10_method_41_code 14 = .ok (.iload_n 1, 1) := by decide +kernel
theorem d_R_client_15 : decode prog_10_method_41_code 15 = .ok (.iaload, 1) := by decide +kernel
theorem d_R_client_16 : decode prog_10_method_41_code 16 = .ok (.iconst 2, 1) := by decide +kernel
theorem d_R_client_17 : decode prog_10_method_41_code 17 = .ok (.if_icmp .ne 25, 3) := by decide +kernel
theorem d_R_client_20 : decode prog_10_method_41_code 20 = .ok (.aload_n 0, 1) := by decide +kernel
theorem d_R_client_21 : decode prog_10_method_41_code 21 = .ok (.getfield 46, 3) := by decide +kernel
theorem d_R_client_24 : decode prog_10_method_41_code 24 = .ok (.iload_n 1, 1) := by decide +kernel
theorem d_R_client_25 : decode prog_10_method_41_code 25 = .ok (.baload, 1) := by decide +kernel
theorem d_R_client_26 : decode prog_10_method_41_code 26 = .ok (.ifCond .ne 16, 3) := by decide +kernel
theorem d_R_client_29 : decode prog_10_method_41_code 29 = .ok (.aload_n 0, 1) := by decide +kernel
theorem d_R_client_30 : decode prog_10_method_41_code 30 = .ok (.getfield 59, 3) := by decide +kernel
theorem d_R_client_33 : decode prog_10_method_41_code 33 = .ok (.iload_n 1, 1) := by decide +kernel
theorem d_R_client_34 : decode prog_10_method_41_code 34 = .ok (.baload, 1) := by decide +kernel
theorem d_R_client_35 : decode prog_10_method_41_code 35 = .ok (.ifCond .eq 7, 3) := by decide +kernel
theorem d_R_client_38 : decode prog_10_method_41_code 38 = .ok (.iconst 1, 1) := by decide +kernel
theorem d_R_client_39 : decode prog_10_method_41_code 39 = .ok (.goto 4, 3) := by decide +kernel
theorem d_R_client_42 : decode prog_10_method_41_code 42 = .ok (.iconst 0, 1) := by decide +kernel
theorem d_R_client_43 : decode prog_10_method_41_code 43 = .ok (.istore_n 3, 1) := by decide +kernel
theorem d_R_client_44 : decode prog_10_method_41_code 44 = .ok (.iload_n 2, 1) := by decide +kernel
theorem d_R_client_45 : decode prog_10_method_41_code 45 = .ok (.ifCond .ne 12, 3) := by decide +kernel
theorem d_R_client_48 : decode prog_10_method_41_code 48 = .ok (.aload_n 0, 1) := by decide +kernel
theorem d_R_client_49 : decode prog_10_method_41_code 49 = .ok (.getfield 40, 3) := by decide +kernel
theorem d_R_client_52 : decode prog_10_method_41_code 52 = .ok (.iload_n 1, 1) := by decide +kernel
theorem d_R_client_53 : decode prog_10_method_41_code 53 = .ok (.iaload, 1) := by decide +kernel
theorem d_R_client_54 : decode prog_10_method_41_code 54 = .ok (.goto 26, 3) := by decide +kernel
theorem d_R_client_57 : decode prog_10_method_41_code 57 = .ok (.iload_n 2, 1) := by decide +kernel
theorem d_R_client_58 : decode prog_10_method_41_code 58 = .ok (.iconst 1, 1) := by decide +kernel
theorem d_R_client_59 : decode prog_10_method_41_code 59 = .ok (.if_icmp .ne 15, 3) := by decide +kernel
theorem d_R_client_62 : decode prog_10_method_41_code 62 = .ok (.iload_n 3, 1) := by decide +kernel
theorem d_R_client_63 : decode prog_10_method_41_code 63 = .ok (.ifCond .eq 7, 3) := by decide +kernel
theorem d_R_client_66 : decode prog_10_method_41_code 66 = .ok (.iconst 1, 1) := by decide +kernel
theorem d_R_client_67 : decode prog_10_method_41_code 67 = .ok (.goto 13, 3) := by decide +kernel
theorem d_R_client_70 : decode prog_10_method_41_code 70 = .ok (.iconst 0, 1) := by decide +kernel
theorem d_R_client_71 : decode prog_10_method_41_code 71 = .ok (.goto 9, 3) := by decide +kernel
theorem d_R_client_74 : decode prog_10_method_41_code 74 = .ok (.aload_n 0, 1) := by decide +kernel
theorem d_R_client_75 : decode prog_10_method_41_code 75 = .ok (.getfield 37, 3) := by decide +kernel
theorem d_R_client_78 : decode prog_10_method_41_code 78 = .ok (.iload_n 1, 1) := by decide +kernel
theorem d_R_client_79 : decode prog_10_method_41_code 79 = .ok (.iaload, 1) := by decide +kernel
theorem d_R_client_80 : decode prog_10_method_41_code 80 = .ok (.ireturn, 1) := by decide +kernel
end
section
def s_R_isClient (t : tR) (x : Int32) : Int32 :=
  if x < 0 then
    0
  else
    if t.1 0 ≤ x then
      0
    else
      1
set_option maxHeartbeats 4000000 in
set_option maxRecDepth 100000 in
theorem c_R_isClient {E : gE} {w : wd} {ad : Nat → Nat} {t : tR} (hs : SysR E ad t w) (x : Int32) : Cn E y_R_isClient 1 0 0 [.ref (ad 0), .int x] w (fun r w' => r = some (.int (s_R_isClient t x)) ∧ w' = w) := by
  refine Cn.of (by decide) (Nat.le_of_ble_eq_true rfl) (fun A => ?_)
  show G E y_R_isClient _ 0 [(0, .ref (ad 0)), (1, .int x)] [] w 0 0
  refine g_iload_n (j := 1) d_R_isClient_0 rfl ?_
  refine g_if_lt (tgt := 16) d_R_isClient_1 (by decide) (fun h1 => ?_) (fun h1 => ?_)
  · skip
    refine g_iconst (v := 0) d_R_isClient_16 (by decide) ?_
    have hz : s_R_isClient t x = 0 := by
      unfold s_R_isClient
      rw [if_pos h1]
    exact g_zreturn d_R_isClient_17 rfl (by decide) (Nat.le_of_ble_eq_true rfl) (Nat.le_of_ble_eq_true rfl) ⟨by rw [hz], rfl⟩
  · skip
    refine g_iload_n (j := 1) d_R_isClient_4 rfl ?_
    refine g_aload_n (j := 0) d_R_isClient_5 rfl ?_
    refine g_get d_R_isClient_6 f_R_83 hs.obj rfl ?_
    refine g_icmp_ge (tgt := 16) d_R_isClient_9 (by decide) (fun h2 => ?_) (fun h2 => ?_)
    · skip
      refine g_iconst (v := 0) d_R_isClient_16 (by decide) ?_
      have hz : s_R_isClient t x = 0 := by
        unfold s_R_isClient
        rw [if_neg h1, if_pos h2]
      exact g_zreturn d_R_isClient_17 rfl (by decide) (Nat.le_of_ble_eq_true rfl) (Nat.le_of_ble_eq_true rfl) ⟨by rw [hz], rfl⟩
    · skip
      refine g_iconst (v := 1) d_R_isClient_12 (by decide) ?_
      refine g_goto (tgt := 17) d_R_isClient_13 (by decide) ?_
      have hz : s_R_isClient t x = 1 := by
        unfold s_R_isClient
        rw [if_neg h1, if_neg h2]
      exact g_zreturn d_R_isClient_17 rfl (by decide) (Nat.le_of_ble_eq_true rfl) (Nat.le_of_ble_eq_true rfl) ⟨by rw [hz], rfl⟩

def s_R_isFile (t : tR) (x : Int32) : Int32 :=
  if x < 0 then
    0
  else
    if t.1 1 ≤ x then
      0
    else
      1
set_option maxHeartbeats 4000000 in
set_option maxRecDepth 100000 in
theorem c_R_isFile {E : gE} {w : wd} {ad : Nat → Nat} {t : tR} (hs : SysR E ad t w) (x : Int32) : Cn E y_R_isFile 1 0 0 [.ref (ad 0), .int x] w (fun r w' => r = some (.int (s_R_isFile t x)) ∧ w' = w) := by
  refine Cn.of (by decide) (Nat.le_of_ble_eq_true rfl) (fun A => ?_)
  show G E y_R_isFile _ 0 [(0, .ref (ad 0)), (1, .int x)] [] w 0 0
  refine g_iload_n (j := 1) d_R_isFile_0 rfl ?_
  refine g_if_lt (tgt := 16) d_R_isFile_1 (by decide) (fun h1 => ?_) (fun h1 => ?_)
  · skip
    refine g_iconst (v := 0) d_R_isFile_16 (by decide) ?_
    have hz : s_R_isFile t x = 0 := by
      unfold s_R_isFile
      rw [if_pos h1]
    exact g_zreturn d_R_isFile_17 rfl (by decide) (Nat.le_of_ble_eq_true rfl) (Nat.le_of_ble_eq_true rfl) ⟨by rw [hz], rfl⟩
  · skip
    refine g_iload_n (j := 1) d_R_isFile_4 rfl ?_
    refine g_aload_n (j := 0) d_R_isFile_5 rfl ?_
    refine g_get d_R_isFile_6 f_R_87 hs.obj rfl ?_
    refine g_icmp_ge (tgt := 16) d_R_isFile_9 (by decide) (fun h2 => ?_) (fun h2 => ?_)
    · skip
      refine g_iconst (v := 0) d_R_isFile_16 (by decide) ?_
      have hz : s_R_isFile t x = 0 := by
        unfold s_R_isFile
        rw [if_neg h1, if_pos h2]
      exact g_zreturn d_R_isFile_17 rfl (by decide) (Nat.le_of_ble_eq_true rfl) (Nat.le_of_ble_eq_true rfl) ⟨by rw [hz], rfl⟩
    · skip
      refine g_iconst (v := 1) d_R_isFile_12 (by decide) ?_
      refine g_goto (tgt := 17) d_R_isFile_13 (by decide) ?_
      have hz : s_R_isFile t x = 1 := by
        unfold s_R_isFile
        rw [if_neg h1, if_neg h2]
      exact g_zreturn d_R_isFile_17 rfl (by decide) (Nat.le_of_ble_eq_true rfl) (Nat.le_of_ble_eq_true rfl) ⟨by rw [hz], rfl⟩

def s_R_isMessage (t : tR) (x : Int32) : Int32 :=
  if x < 0 then
    0
  else
    if t.1 9 ≤ x then
      0
    else
      1
set_option maxHeartbeats 4000000 in
set_option maxRecDepth 100000 in
theorem c_R_isMessage {E : gE} {w : wd} {ad : Nat → Nat} {t : tR} (hs : SysR E ad t w) (x : Int32) : Cn E y_R_isMessage 1 0 0 [.ref (ad 0), .int x] w (fun r w' => r = some (.int (s_R_isMessage t x)) ∧ w' = w) := by
  refine Cn.of (by decide) (Nat.le_of_ble_eq_true rfl) (fun A => ?_)
  show G E y_R_isMessage _ 0 [(0, .ref (ad 0)), (1, .int x)] [] w 0 0
  refine g_iload_n (j := 1) d_R_isMessage_0 rfl ?_
  refine g_if_lt (tgt := 16) d_R_isMessage_1 (by decide) (fun h1 => ?_) (fun h1 => ?_)
  · skip
    refine g_iconst (v := 0) d_R_isMessage_16 (by decide) ?_
    have hz : s_R_isMessage t x = 0 := by
      unfold s_R_isMessage
      rw [if_pos h1]
    exact g_zreturn d_R_isMessage_17 rfl (by decide) (Nat.le_of_ble_eq_true rfl) (Nat.le_of_ble_eq_true rfl) ⟨by rw [hz], rfl⟩
  · skip
    refine g_iload_n (j := 1) d_R_isMessage_4 rfl ?_
    refine g_aload_n (j := 0) d_R_isMessage_5 rfl ?_
    refine g_get d_R_isMessage_6 f_R_96 hs.obj rfl ?_
    refine g_icmp_ge (tgt := 16) d_R_isMessage_9 (by decide) (fun h2 => ?_) (fun h2 => ?_)
    · skip
      refine g_iconst (v := 0) d_R_isMessage_16 (by decide) ?_
      have hz : s_R_isMessage t x = 0 := by
        unfold s_R_isMessage
        rw [if_neg h1, if_pos h2]
      exact g_zreturn d_R_isMessage_17 rfl (by decide) (Nat.le_of_ble_eq_true rfl) (Nat.le_of_ble_eq_true rfl) ⟨by rw [hz], rfl⟩
    · skip
      refine g_iconst (v := 1) d_R_isMessage_12 (by decide) ?_
      refine g_goto (tgt := 17) d_R_isMessage_13 (by decide) ?_
      have hz : s_R_isMessage t x = 1 := by
        unfold s_R_isMessage
        rw [if_neg h1, if_neg h2]
      exact g_zreturn d_R_isMessage_17 rfl (by decide) (Nat.le_of_ble_eq_true rfl) (Nat.le_of_ble_eq_true rfl) ⟨by rw [hz], rfl⟩

def s_R_rest (x : Int32) (y : Int32) : Int32 :=
  if x ≤ y then
    0
  else
    x - y
set_option maxHeartbeats 4000000 in
set_option maxRecDepth 100000 in
theorem c_R_rest {E : gE} {w : wd} (x : Int32) (y : Int32) : Cn E y_R_rest 1 0 0 [.int x, .int y] w (fun r w' => r = some (.int (s_R_rest x y)) ∧ w' = w) := by
  refine Cn.of (by decide) (Nat.le_of_ble_eq_true rfl) (fun A => ?_)
  show G E y_R_rest _ 0 [(0, .int x), (1, .int y)] [] w 0 0
  refine g_iload_n (j := 0) d_R_rest_0 rfl ?_
  refine g_iload_n (j := 1) d_R_rest_1 rfl ?_
  refine g_icmp_le (tgt := 11) d_R_rest_2 (by decide) (fun h1 => ?_) (fun h1 => ?_)
  · skip
    refine g_iconst (v := 0) d_R_rest_11 (by decide) ?_
    have hz : s_R_rest x y = 0 := by
      unfold s_R_rest
      rw [if_pos h1]
    exact g_ireturn d_R_rest_12 rfl (Nat.le_of_ble_eq_true rfl) (Nat.le_of_ble_eq_true rfl) ⟨by rw [hz], rfl⟩
  · skip
    refine g_iload_n (j := 0) d_R_rest_5 rfl ?_
    refine g_iload_n (j := 1) d_R_rest_6 rfl ?_
    refine g_isub d_R_rest_7 ?_
    refine g_goto (tgt := 12) d_R_rest_8 (by decide) ?_
    have hz : s_R_rest x y = x - y := by
      unfold s_R_rest
      rw [if_neg h1]
    exact g_ireturn d_R_rest_12 rfl (Nat.le_of_ble_eq_true rfl) (Nat.le_of_ble_eq_true rfl) ⟨by rw [hz], rfl⟩

def s_R_finish (t : tR) (c : Nat) (x : Int32) (y : Int32) : tR :=
  stA (stA (stA t 11 c 1) 17 c x) 18 c y
set_option maxHeartbeats 4000000 in
set_option maxRecDepth 100000 in
theorem c_R_finish {E : gE} {w : wd} {ad : Nat → Nat} {t : tR} (hs : SysR E ad t w) (c : Nat) (x : Int32) (y : Int32) (hc : c < 4) : Cn E y_R_finish 1 0 0 [.ref (ad 0), .int (nI c), .int x, .int y] w (fun r w' => r = none ∧ SysR E ad (s_R_finish t c x y) w') := by
  refine Cn.of (by decide) (Nat.le_of_ble_eq_true rfl) (fun A => ?_)
  show G E y_R_finish _ 0 [(0, .ref (ad 0)), (1, .int (nI c)), (2, .int x), (3, .int y)] [] w 0 0
  refine g_aload_n (j := 0) d_R_finish_0 rfl ?_
  refine g_get d_R_finish_1 f_R_43 hs.obj rfl ?_
  refine g_iload_n (j := 1) d_R_finish_4 rfl ?_
  refine g_iconst (v := 1) d_R_finish_5 (by decide) ?_
  refine r_iast (k := 11) (j := c) d_R_finish_6 hs (by decide) rfl rfl (show c < 4 by omega) (fun w1 hs2 => ?_)
  refine g_aload_n (j := 0) d_R_finish_7 rfl ?_
  refine g_get d_R_finish_8 f_R_62 hs2.obj rfl ?_
  refine g_iload_n (j := 1) d_R_finish_11 rfl ?_
  refine g_iload_n (j := 2) d_R_finish_12 rfl ?_
  refine r_iast (k := 17) (j := c) d_R_finish_13 hs2 (by decide) rfl rfl (show c < 4 by omega) (fun w3 hs4 => ?_)
  refine g_aload_n (j := 0) d_R_finish_14 rfl ?_
  refine g_get d_R_finish_15 f_R_65 hs4.obj rfl ?_
  refine g_iload_n (j := 1) d_R_finish_18 rfl ?_
  refine g_iload_n (j := 3) d_R_finish_19 rfl ?_
  refine r_iast (k := 18) (j := c) d_R_finish_20 hs4 (by decide) rfl rfl (show c < 4 by omega) (fun w5 hs6 => ?_)
  have hz : s_R_finish t c x y = stA (stA (stA t 11 c 1) 17 c x) 18 c y := by
    unfold s_R_finish
    rfl
  exact g_return d_R_finish_21 rfl (Nat.le_of_ble_eq_true rfl) (Nat.le_of_ble_eq_true rfl) ⟨rfl, by rw [hz]; exact hs6⟩

def s_R_begin (t : tR) (c : Nat) (f : Nat) (x : Int32) (y : Int32) : tR :=
  stA (stA (stA (stA (stA (stA (stA t 10 c ((t.2 10 c) + 1)) 11 c 2) 12 c x) 13 c (nI f)) 14 c y) 15 c ((stA (stA (stA (stA (stA t 10 c ((t.2 10 c) + 1)) 11 c 2) 12 c x) 13 c (nI f)) 14 c y).2 9 c)) 16 c 0
set_option maxHeartbeats 4000000 in
set_option maxRecDepth 100000 in
theorem c_R_begin {E : gE} {w : wd} {ad : Nat → Nat} {t : tR} (hs : SysR E ad t w) (c : Nat) (f : Nat) (x : Int32) (y : Int32) (hc : c < 4) (hx : vp_nar .boolean x = x) : Cn E y_R_begin 1 0 0 [.ref (ad 0), .int (nI c), .int (nI f), .int x, .int y] w (fun r w' => r = none ∧ SysR E ad (s_R_begin t c f x y) w') := by
  refine Cn.of (by decide) (Nat.le_of_ble_eq_true rfl) (fun A => ?_)
  show G E y_R_begin _ 0 [(0, .ref (ad 0)), (1, .int (nI c)), (2, .int (nI f)), (3, .int x), (4, .int y)] [] w 0 0
  refine g_aload_n (j := 0) d_R_begin_0 rfl ?_
  refine g_get d_R_begin_1 f_R_40 hs.obj rfl ?_
  refine g_iload_n (j := 1) d_R_begin_4 rfl ?_
  refine g_dup2 d_R_begin_5 rfl rfl ?_
  refine r_iald (k := 10) (j := c) d_R_begin_6 hs (by decide) rfl rfl (show c < 4 by omega) ?_
  refine g_iconst (v := 1) d_R_begin_7 (by decide) ?_
  refine g_iadd d_R_begin_8 ?_
  refine r_iast (k := 10) (j := c) d_R_begin_9 hs (by decide) rfl rfl (show c < 4 by omega) (fun w1 hs2 => ?_)
  refine g_aload_n (j := 0) d_R_begin_10 rfl ?_
  refine g_get d_R_begin_11 f_R_43 hs2.obj rfl ?_
  refine g_iload_n (j := 1) d_R_begin_14 rfl ?_
  refine g_iconst (v := 2) d_R_begin_15 (by decide) ?_
  refine r_iast (k := 11) (j := c) d_R_begin_16 hs2 (by decide) rfl rfl (show c < 4 by omega) (fun w3 hs4 => ?_)
  refine g_aload_n (j := 0) d_R_begin_17 rfl ?_
  refine g_get d_R_begin_18 f_R_46 hs4.obj rfl ?_
  refine g_iload_n (j := 1) d_R_begin_21 rfl ?_
  refine g_iload_n (j := 3) d_R_begin_22 rfl ?_
  refine r_zast (k := 12) (j := c) d_R_begin_23 hs4 (by decide) rfl rfl (show c < 4 by omega) hx (fun w5 hs6 => ?_)
  refine g_aload_n (j := 0) d_R_begin_24 rfl ?_
  refine g_get d_R_begin_25 f_R_50 hs6.obj rfl ?_
  refine g_iload_n (j := 1) d_R_begin_28 rfl ?_
  refine g_iload_n (j := 2) d_R_begin_29 rfl ?_
  refine r_iast (k := 13) (j := c) d_R_begin_30 hs6 (by decide) rfl rfl (show c < 4 by omega) (fun w7 hs8 => ?_)
  refine g_aload_n (j := 0) d_R_begin_31 rfl ?_
  refine g_get d_R_begin_32 f_R_53 hs8.obj rfl ?_
  refine g_iload_n (j := 1) d_R_begin_35 rfl ?_
  refine g_iload (j := 4) d_R_begin_36 rfl ?_
  refine r_iast (k := 14) (j := c) d_R_begin_38 hs8 (by decide) rfl rfl (show c < 4 by omega) (fun w9 hs10 => ?_)
  refine g_aload_n (j := 0) d_R_begin_39 rfl ?_
  refine g_get d_R_begin_40 f_R_56 hs10.obj rfl ?_
  refine g_iload_n (j := 1) d_R_begin_43 rfl ?_
  refine g_aload_n (j := 0) d_R_begin_44 rfl ?_
  refine g_get d_R_begin_45 f_R_37 hs10.obj rfl ?_
  refine g_iload_n (j := 1) d_R_begin_48 rfl ?_
  refine r_iald (k := 9) (j := c) d_R_begin_49 hs10 (by decide) rfl rfl (show c < 4 by omega) ?_
  refine r_iast (k := 15) (j := c) d_R_begin_50 hs10 (by decide) rfl rfl (show c < 4 by omega) (fun w11 hs12 => ?_)
  refine g_aload_n (j := 0) d_R_begin_51 rfl ?_
  refine g_get d_R_begin_52 f_R_59 hs12.obj rfl ?_
  refine g_iload_n (j := 1) d_R_begin_55 rfl ?_
  refine g_iconst (v := 0) d_R_begin_56 (by decide) ?_
  refine r_zast (k := 16) (j := c) d_R_begin_57 hs12 (by decide) rfl rfl (show c < 4 by omega) (by decide) (fun w13 hs14 => ?_)
  have hz : s_R_begin t c f x y = stA (stA (stA (stA (stA (stA (stA t 10 c ((t.2 10 c) + 1)) 11 c 2) 12 c x) 13 c (nI f)) 14 c y) 15 c ((stA (stA (stA (stA (stA t 10 c ((t.2 10 c) + 1)) 11 c 2) 12 c x) 13 c (nI f)) 14 c y).2 9 c)) 16 c 0 := by
    unfold s_R_begin
    rfl
  exact g_return d_R_begin_58 rfl (Nat.le_of_ble_eq_true rfl) (Nat.le_of_ble_eq_true rfl) ⟨rfl, by rw [hz]; exact hs14⟩

def s_R_isLeased (t : tR) (c : Nat) (f : Nat) : Int32 :=
  if t.2 2 ((4 * c) + f) ≤ t.1 4 then
    0
  else
    1
set_option maxHeartbeats 4000000 in
set_option maxRecDepth 100000 in
theorem c_R_isLeased {E : gE} {w : wd} {ad : Nat → Nat} {t : tR} (hs : SysR E ad t w) (c : Nat) (f : Nat) (hc : c < 4) (hf : f < 4) : Cn E y_R_isLeased 1 0 0 [.ref (ad 0), .int (nI c), .int (nI f)] w (fun r w' => r = some (.int (s_R_isLeased t c f)) ∧ w' = w) := by
  refine Cn.of (by decide) (Nat.le_of_ble_eq_true rfl) (fun A => ?_)
  show G E y_R_isLeased _ 0 [(0, .ref (ad 0)), (1, .int (nI c)), (2, .int (nI f))] [] w 0 0
  refine g_aload_n (j := 0) d_R_isLeased_0 rfl ?_
  refine g_get d_R_isLeased_1 f_R_16 hs.obj rfl ?_
  refine g_iconst (v := 4) d_R_isLeased_4 (by decide) ?_
  refine g_iload_n (j := 1) d_R_isLeased_5 rfl ?_
  refine g_imul d_R_isLeased_6 ?_
  refine g_norm (y := nI (4 * c)) (pk_mul 4 c) ?_
  refine g_iload_n (j := 2) d_R_isLeased_7 rfl ?_
  refine g_iadd d_R_isLeased_8 ?_
  refine g_norm (y := nI ((4 * c) + f)) (nI_add (4 * c) f) ?_
  refine r_iald (k := 2) (j := (4 * c) + f) d_R_isLeased_9 hs (by decide) rfl rfl (show (4 * c) + f < 16 by omega) ?_
  refine g_aload_n (j := 0) d_R_isLeased_10 rfl ?_
  refine g_get d_R_isLeased_11 f_R_122 hs.obj rfl ?_
  refine g_icmp_le (tgt := 21) d_R_isLeased_14 (by decide) (fun h1 => ?_) (fun h1 => ?_)
  · skip
    refine g_iconst (v := 0) d_R_isLeased_21 (by decide) ?_
    have hz : s_R_isLeased t c f = 0 := by
      unfold s_R_isLeased
      rw [if_pos h1]
    exact g_zreturn d_R_isLeased_22 rfl (by decide) (Nat.le_of_ble_eq_true rfl) (Nat.le_of_ble_eq_true rfl) ⟨by rw [hz], rfl⟩
  · skip
    refine g_iconst (v := 1) d_R_isLeased_17 (by decide) ?_
    refine g_goto (tgt := 22) d_R_isLeased_18 (by decide) ?_
    have hz : s_R_isLeased t c f = 1 := by
      unfold s_R_isLeased
      rw [if_neg h1]
    exact g_zreturn d_R_isLeased_22 rfl (by decide) (Nat.le_of_ble_eq_true rfl) (Nat.le_of_ble_eq_true rfl) ⟨by rw [hz], rfl⟩

def s_R_stored (t : tR) (c : Nat) (x : Int32) (y : Int32) : tR :=
  if t.2 11 c = 2 then
    if t.2 12 c = 0 then
      t
    else
      if t.2 10 c = x then
        s_R_finish t c y y
      else
        t
  else
    t
set_option maxHeartbeats 4000000 in
set_option maxRecDepth 100000 in
theorem c_R_stored {E : gE} {w : wd} {ad : Nat → Nat} {t : tR} (hs : SysR E ad t w) (c : Nat) (x : Int32) (y : Int32) (hc : c < 4) : Cn E y_R_stored 2 0 0 [.ref (ad 0), .int (nI c), .int x, .int y] w (fun r w' => r = none ∧ SysR E ad (s_R_stored t c x y) w') := by
  refine Cn.of (by decide) (Nat.le_of_ble_eq_true rfl) (fun A => ?_)
  show G E y_R_stored _ 0 [(0, .ref (ad 0)), (1, .int (nI c)), (2, .int x), (3, .int y)] [] w 0 0
  refine g_aload_n (j := 0) d_R_stored_0 rfl ?_
  refine g_get d_R_stored_1 f_R_43 hs.obj rfl ?_
  refine g_iload_n (j := 1) d_R_stored_4 rfl ?_
  refine r_iald (k := 11) (j := c) d_R_stored_5 hs (by decide) rfl rfl (show c < 4 by omega) ?_
  refine g_iconst (v := 2) d_R_stored_6 (by decide) ?_
  refine g_icmp_ne (tgt := 36) d_R_stored_7 (by decide) (fun h1 => ?_) (fun h1 => ?_)
  · skip
    have hz : s_R_stored t c x y = t := by
      unfold s_R_stored
      rw [if_neg h1]
    exact g_return d_R_stored_36 rfl (Nat.le_of_ble_eq_true rfl) (Nat.le_of_ble_eq_true rfl) ⟨rfl, by rw [hz]; exact hs⟩
  · skip
    refine g_aload_n (j := 0) d_R_stored_10 rfl ?_
    refine g_get d_R_stored_11 f_R_46 hs.obj rfl ?_
    refine g_iload_n (j := 1) d_R_stored_14 rfl ?_
    refine r_zald (k := 12) (j := c) d_R_stored_15 hs (by decide) rfl rfl (show c < 4 by omega) ?_
    refine g_if_eq (tgt := 36) d_R_stored_16 (by decide) (fun h2 => ?_) (fun h2 => ?_)
    · skip
      have hz : s_R_stored t c x y = t := by
        unfold s_R_stored
        rw [if_pos h1, if_pos h2]
      exact g_return d_R_stored_36 rfl (Nat.le_of_ble_eq_true rfl) (Nat.le_of_ble_eq_true rfl) ⟨rfl, by rw [hz]; exact hs⟩
    · skip
      refine g_aload_n (j := 0) d_R_stored_19 rfl ?_
      refine g_get d_R_stored_20 f_R_40 hs.obj rfl ?_
      refine g_iload_n (j := 1) d_R_stored_23 rfl ?_
      refine r_iald (k := 10) (j := c) d_R_stored_24 hs (by decide) rfl rfl (show c < 4 by omega) ?_
      refine g_iload_n (j := 2) d_R_stored_25 rfl ?_
      refine g_icmp_ne (tgt := 36) d_R_stored_26 (by decide) (fun h3 => ?_) (fun h3 => ?_)
      · skip
        have hz : s_R_stored t c x y = t := by
          unfold s_R_stored
          rw [if_pos h1, if_neg h2, if_neg h3]
        exact g_return d_R_stored_36 rfl (Nat.le_of_ble_eq_true rfl) (Nat.le_of_ble_eq_true rfl) ⟨rfl, by rw [hz]; exact hs⟩
      · skip
        refine g_aload_n (j := 0) d_R_stored_29 rfl ?_
        refine g_iload_n (j := 1) d_R_stored_30 rfl ?_
        refine g_iload_n (j := 3) d_R_stored_31 rfl ?_
        refine g_iload_n (j := 3) d_R_stored_32 rfl ?_
        refine g_callV (c_R_finish hs c y y (by omega)) ok_R_finish lk_R_114 in_R_finish se_R_finish hs.obj rfl d_R_stored_33 rfl rfl (Nat.le_of_ble_eq_true rfl) ⟨(Nat.le_of_ble_eq_true rfl), (Nat.le_of_ble_eq_true rfl)⟩ (Nat.le_of_ble_eq_true rfl) (Nat.le_of_ble_eq_true rfl) (fun r w' hq => ?_)
        obtain ⟨rfl, hs4⟩ := hq
        have hz : s_R_stored t c x y = s_R_finish t c y y := by
          unfold s_R_stored
          rw [if_pos h1, if_neg h2, if_pos h3]
        exact g_return d_R_stored_36 rfl (Nat.le_of_ble_eq_true rfl) (Nat.le_of_ble_eq_true rfl) ⟨rfl, by rw [hz]; exact hs4⟩
end
section
def s_R_send (t : tR) (k : Int32) (cc : Int32) (ff : Int32) (wo : Int32) (a : Int32) (b : Int32) (d : Int32) : tR :=
  if nI (pN t) = 64 then
    t
  else
    stF (stA (stA (stA (stA (stA (stA (stA t 23 (7 * (pN t)) k) 23 ((7 * (pN t)) + 1) cc) 23 ((7 * (pN t)) + 2) ff) 23 ((7 * (pN t)) + 3) wo) 23 ((7 * (pN t)) + 4) a) 23 ((7 * (pN t)) + 5) b) 23 ((7 * (pN t)) + 6) d) 9 (nI ((pN t) + 1))
set_option maxHeartbeats 4000000 in
set_option maxRecDepth 100000 in
theorem c_R_send {E : gE} {w : wd} {ad : Nat → Nat} {t : tR} (hs : SysR E ad t w) (k : Int32) (cc : Int32) (ff : Int32) (wo : Int32) (a : Int32) (b : Int32) (d : Int32) (hp : okP t) : Cn E y_R_send 1 0 0 [.ref (ad 0), .int k, .int cc, .int ff, .int wo, .int a, .int b, .int d] w (fun r w' => r = none ∧ SysR E ad (s_R_send t k cc ff wo a b d) w') := by
  refine Cn.of (by decide) (Nat.le_of_ble_eq_true rfl) (fun A => ?_)
  show G E y_R_send _ 0 [(0, .ref (ad 0)), (1, .int k), (2, .int cc), (3, .int ff), (4, .int wo), (5, .int a), (6, .int b), (7, .int d)] [] w 0 0
  refine g_aload_n (j := 0) d_R_send_0 rfl ?_
  refine g_get d_R_send_1 f_R_96 hs.obj rfl ?_
  refine g_norm (y := nI (pN t)) hp.1 ?_
  refine g_bipush (v := 64) d_R_send_4 (by decide) ?_
  refine g_icmp_ne (tgt := 10) d_R_send_6 (by decide) (fun h1 => ?_) (fun h1 => ?_)
  · skip
    have hn2 : pN t < 64 := by
      have h9 : pN t ≠ 64 := fun z => h1 (by rw [z]; rfl)
      have := hp.2
      omega
    refine g_bipush (v := 7) d_R_send_10 (by decide) ?_
    refine g_aload_n (j := 0) d_R_send_12 rfl ?_
    refine g_get d_R_send_13 f_R_96 hs.obj rfl ?_
    refine g_norm (y := nI (pN t)) hp.1 ?_
    refine g_imul d_R_send_16 ?_
    refine g_norm (y := nI (7 * (pN t))) (pk_mul 7 (pN t)) ?_
    refine g_istore (lv' := [(8, _), (0, _), (1, _), (2, _), (3, _), (4, _), (5, _), (6, _), (7, _)]) d_R_send_17 (by decide) rfl ?_
    refine g_aload_n (j := 1) d_R_send_19 rfl ?_
    refine g_get d_R_send_20 f_R_80 hs.obj rfl ?_
    refine g_iload (j := 0) d_R_send_23 rfl ?_
    refine g_iload_n (j := 2) d_R_send_25 rfl ?_
    refine r_iast (k := 23) (j := 7 * (pN t)) d_R_send_26 hs (by decide) rfl rfl (show 7 * (pN t) < 448 by omega) (fun w2 hs3 => ?_)
    refine g_aload_n (j := 1) d_R_send_27 rfl ?_
    refine g_get d_R_send_28 f_R_80 hs3.obj rfl ?_
    refine g_iload (j := 0) d_R_send_31 rfl ?_
    refine g_iconst (v := 1) d_R_send_33 (by decide) ?_
    refine g_iadd d_R_send_34 ?_
    refine g_norm (y := nI ((7 * (pN t)) + 1)) (nI_add (7 * (pN t)) 1) ?_
    refine g_iload_n (j := 3) d_R_send_35 rfl ?_
    refine r_iast (k := 23) (j := (7 * (pN t)) + 1) d_R_send_36 hs3 (by decide) rfl rfl (show (7 * (pN t)) + 1 < 448 by omega) (fun w4 hs5 => ?_)
    refine g_aload_n (j := 1) d_R_send_37 rfl ?_
    refine g_get d_R_send_38 f_R_80 hs5.obj rfl ?_
    refine g_iload (j := 0) d_R_send_41 rfl ?_
    refine g_iconst (v := 2) d_R_send_43 (by decide) ?_
    refine g_iadd d_R_send_44 ?_
    refine g_norm (y := nI ((7 * (pN t)) + 2)) (nI_add (7 * (pN t)) 2) ?_
    refine g_iload_n (j := 4) d_R_send_45 rfl ?_
    refine r_iast (k := 23) (j := (7 * (pN t)) + 2) d_R_send_46 hs5 (by decide) rfl rfl (show (7 * (pN t)) + 2 < 448 by omega) (fun w6 hs7 => ?_)
    refine g_aload_n (j := 1) d_R_send_47 rfl ?_
    refine g_get d_R_send_48 f_R_80 hs7.obj rfl ?_
    refine g_iload (j := 0) d_R_send_51 rfl ?_
    refine g_iconst (v := 3) d_R_send_53 (by decide) ?_
    refine g_iadd d_R_send_54 ?_
    refine g_norm (y := nI ((7 * (pN t)) + 3)) (nI_add (7 * (pN t)) 3) ?_
    refine g_iload (j := 5) d_R_send_55 rfl ?_
    refine r_iast (k := 23) (j := (7 * (pN t)) + 3) d_R_send_57 hs7 (by decide) rfl rfl (show (7 * (pN t)) + 3 < 448 by omega) (fun w8 hs9 => ?_)
    refine g_aload_n (j := 1) d_R_send_58 rfl ?_
    refine g_get d_R_send_59 f_R_80 hs9.obj rfl ?_
    refine g_iload (j := 0) d_R_send_62 rfl ?_
    refine g_iconst (v := 4) d_R_send_64 (by decide) ?_
    refine g_iadd d_R_send_65 ?_
    refine g_norm (y := nI ((7 * (pN t)) + 4)) (nI_add (7 * (pN t)) 4) ?_
    refine g_iload (j := 6) d_R_send_66 rfl ?_
    refine r_iast (k := 23) (j := (7 * (pN t)) + 4) d_R_send_68 hs9 (by decide) rfl rfl (show (7 * (pN t)) + 4 < 448 by omega) (fun w10 hs11 => ?_)
    refine g_aload_n (j := 1) d_R_send_69 rfl ?_
    refine g_get d_R_send_70 f_R_80 hs11.obj rfl ?_
    refine g_iload (j := 0) d_R_send_73 rfl ?_
    refine g_iconst (v := 5) d_R_send_75 (by decide) ?_
    refine g_iadd d_R_send_76 ?_
    refine g_norm (y := nI ((7 * (pN t)) + 5)) (nI_add (7 * (pN t)) 5) ?_
    refine g_iload (j := 7) d_R_send_77 rfl ?_
    refine r_iast (k := 23) (j := (7 * (pN t)) + 5) d_R_send_79 hs11 (by decide) rfl rfl (show (7 * (pN t)) + 5 < 448 by omega) (fun w12 hs13 => ?_)
    refine g_aload_n (j := 1) d_R_send_80 rfl ?_
    refine g_get d_R_send_81 f_R_80 hs13.obj rfl ?_
    refine g_iload (j := 0) d_R_send_84 rfl ?_
    refine g_bipush (v := 6) d_R_send_86 (by decide) ?_
    refine g_iadd d_R_send_88 ?_
    refine g_norm (y := nI ((7 * (pN t)) + 6)) (nI_add (7 * (pN t)) 6) ?_
    refine g_iload (j := 8) d_R_send_89 rfl ?_
    refine r_iast (k := 23) (j := (7 * (pN t)) + 6) d_R_send_91 hs13 (by decide) rfl rfl (show (7 * (pN t)) + 6 < 448 by omega) (fun w14 hs15 => ?_)
    refine g_aload_n (j := 1) d_R_send_92 rfl ?_
    refine g_dup d_R_send_93 rfl ?_
    refine g_get d_R_send_94 f_R_96 hs15.obj rfl ?_
    refine g_norm (y := nI (pN t)) hp.1 ?_
    refine g_iconst (v := 1) d_R_send_97 (by decide) ?_
    refine g_iadd d_R_send_98 ?_
    refine g_norm (y := nI ((pN t) + 1)) (nI_add (pN t) 1) ?_
    refine g_put d_R_send_99 fw_R_96 (Or.inl rfl) hs15.obj rfl rfl (Nat.le_of_ble_eq_true rfl) ?_
    have hs17 : SysR E ad (stF (stA (stA (stA (stA (stA (stA (stA t 23 (7 * (pN t)) k) 23 ((7 * (pN t)) + 1) cc) 23 ((7 * (pN t)) + 2) ff) 23 ((7 * (pN t)) + 3) wo) 23 ((7 * (pN t)) + 4) a) 23 ((7 * (pN t)) + 5) b) 23 ((7 * (pN t)) + 6) d) 9 (nI ((pN t) + 1))) _ := hs15.sf (t' := stF (stA (stA (stA (stA (stA (stA (stA t 23 (7 * (pN t)) k) 23 ((7 * (pN t)) + 1) cc) 23 ((7 * (pN t)) + 2) ff) 23 ((7 * (pN t)) + 3) wo) 23 ((7 * (pN t)) + 4) a) 23 ((7 * (pN t)) + 5) b) 23 ((7 * (pN t)) + 6) d) 9 (nI ((pN t) + 1))) (fs := (ceR ad (stA (stA (stA (stA (stA (stA (stA t 23 (7 * (pN t)) k) 23 ((7 * (pN t)) + 1) cc) 23 ((7 * (pN t)) + 2) ff) 23 ((7 * (pN t)) + 3) wo) 23 ((7 * (pN t)) + 4) a) 23 ((7 * (pN t)) + 5) b) 23 ((7 * (pN t)) + 6) d)).set 32 (.int (nI ((pN t) + 1)))) rfl rfl
    generalize wu _ (ad 0) _ = w16 at hs17 ⊢
    have hz : s_R_send t k cc ff wo a b d = stF (stA (stA (stA (stA (stA (stA (stA t 23 (7 * (pN t)) k) 23 ((7 * (pN t)) + 1) cc) 23 ((7 * (pN t)) + 2) ff) 23 ((7 * (pN t)) + 3) wo) 23 ((7 * (pN t)) + 4) a) 23 ((7 * (pN t)) + 5) b) 23 ((7 * (pN t)) + 6) d) 9 (nI ((pN t) + 1)) := by
      unfold s_R_send
      rw [if_neg h1]
    exact g_return d_R_send_102 rfl (Nat.le_of_ble_eq_true rfl) (Nat.le_of_ble_eq_true rfl) ⟨rfl, by rw [hz]; exact hs17⟩
  · skip
    have hz : s_R_send t k cc ff wo a b d = t := by
      unfold s_R_send
      rw [if_pos h1]
    exact g_return d_R_send_9 rfl (Nat.le_of_ble_eq_true rfl) (Nat.le_of_ble_eq_true rfl) ⟨rfl, by rw [hz]; exact hs⟩

def s_R_sendOperation (t : tR) (c : Nat) : tR :=
  if t.2 12 c = 0 then
    s_R_send t 0 (nI c) (t.2 13 c) (t.2 10 c) 0 0 0
  else
    s_R_send t 1 (nI c) (t.2 13 c) (t.2 10 c) (t.2 14 c) 0 0
set_option maxHeartbeats 4000000 in
set_option maxRecDepth 100000 in
theorem c_R_sendOperation {E : gE} {w : wd} {ad : Nat → Nat} {t : tR} (hs : SysR E ad t w) (c : Nat) (hc : c < 4) (hp : okP t) : Cn E y_R_sendOperation 2 0 0 [.ref (ad 0), .int (nI c)] w (fun r w' => r = none ∧ SysR E ad (s_R_sendOperation t c) w') := by
  refine Cn.of (by decide) (Nat.le_of_ble_eq_true rfl) (fun A => ?_)
  show G E y_R_sendOperation _ 0 [(0, .ref (ad 0)), (1, .int (nI c))] [] w 0 0
  refine g_aload_n (j := 0) d_R_sendOperation_0 rfl ?_
  refine g_get d_R_sendOperation_1 f_R_46 hs.obj rfl ?_
  refine g_iload_n (j := 1) d_R_sendOperation_4 rfl ?_
  refine r_zald (k := 12) (j := c) d_R_sendOperation_5 hs (by decide) rfl rfl (show c < 4 by omega) ?_
  refine g_if_eq (tgt := 38) d_R_sendOperation_6 (by decide) (fun h1 => ?_) (fun h1 => ?_)
  · skip
    refine g_aload_n (j := 0) d_R_sendOperation_38 rfl ?_
    refine g_iconst (v := 0) d_R_sendOperation_39 (by decide) ?_
    refine g_iload_n (j := 1) d_R_sendOperation_40 rfl ?_
    refine g_aload_n (j := 0) d_R_sendOperation_41 rfl ?_
    refine g_get d_R_sendOperation_42 f_R_50 hs.obj rfl ?_
    refine g_iload_n (j := 1) d_R_sendOperation_45 rfl ?_
    refine r_iald (k := 13) (j := c) d_R_sendOperation_46 hs (by decide) rfl rfl (show c < 4 by omega) ?_
    refine g_aload_n (j := 0) d_R_sendOperation_47 rfl ?_
    refine g_get d_R_sendOperation_48 f_R_40 hs.obj rfl ?_
    refine g_iload_n (j := 1) d_R_sendOperation_51 rfl ?_
    refine r_iald (k := 10) (j := c) d_R_sendOperation_52 hs (by decide) rfl rfl (show c < 4 by omega) ?_
    refine g_iconst (v := 0) d_R_sendOperation_53 (by decide) ?_
    refine g_iconst (v := 0) d_R_sendOperation_54 (by decide) ?_
    refine g_iconst (v := 0) d_R_sendOperation_55 (by decide) ?_
    refine g_callV (c_R_send hs 0 (nI c) (t.2 13 c) (t.2 10 c) 0 0 0 hp) ok_R_send lk_R_99 in_R_send se_R_send hs.obj rfl d_R_sendOperation_56 rfl rfl (Nat.le_of_ble_eq_true rfl) ⟨(Nat.le_of_ble_eq_true rfl), (Nat.le_of_ble_eq_true rfl)⟩ (Nat.le_of_ble_eq_true rfl) (Nat.le_of_ble_eq_true rfl) (fun r w' hq => ?_)
    obtain ⟨rfl, hs2⟩ := hq
    have hz : s_R_sendOperation t c = s_R_send t 0 (nI c) (t.2 13 c) (t.2 10 c) 0 0 0 := by
      unfold s_R_sendOperation
      rw [if_pos h1]
    exact g_return d_R_sendOperation_59 rfl (Nat.le_of_ble_eq_true rfl) (Nat.le_of_ble_eq_true rfl) ⟨rfl, by rw [hz]; exact hs2⟩
  · skip
    refine g_aload_n (j := 0) d_R_sendOperation_9 rfl ?_
    refine g_iconst (v := 1) d_R_sendOperation_10 (by decide) ?_
    refine g_iload_n (j := 1) d_R_sendOperation_11 rfl ?_
    refine g_aload_n (j := 0) d_R_sendOperation_12 rfl ?_
    refine g_get d_R_sendOperation_13 f_R_50 hs.obj rfl ?_
    refine g_iload_n (j := 1) d_R_sendOperation_16 rfl ?_
    refine r_iald (k := 13) (j := c) d_R_sendOperation_17 hs (by decide) rfl rfl (show c < 4 by omega) ?_
    refine g_aload_n (j := 0) d_R_sendOperation_18 rfl ?_
    refine g_get d_R_sendOperation_19 f_R_40 hs.obj rfl ?_
    refine g_iload_n (j := 1) d_R_sendOperation_22 rfl ?_
    refine r_iald (k := 10) (j := c) d_R_sendOperation_23 hs (by decide) rfl rfl (show c < 4 by omega) ?_
    refine g_aload_n (j := 0) d_R_sendOperation_24 rfl ?_
    refine g_get d_R_sendOperation_25 f_R_53 hs.obj rfl ?_
    refine g_iload_n (j := 1) d_R_sendOperation_28 rfl ?_
    refine r_iald (k := 14) (j := c) d_R_sendOperation_29 hs (by decide) rfl rfl (show c < 4 by omega) ?_
    refine g_iconst (v := 0) d_R_sendOperation_30 (by decide) ?_
    refine g_iconst (v := 0) d_R_sendOperation_31 (by decide) ?_
    refine g_callV (c_R_send hs 1 (nI c) (t.2 13 c) (t.2 10 c) (t.2 14 c) 0 0 hp) ok_R_send lk_R_99 in_R_send se_R_send hs.obj rfl d_R_sendOperation_32 rfl rfl (Nat.le_of_ble_eq_true rfl) ⟨(Nat.le_of_ble_eq_true rfl), (Nat.le_of_ble_eq_true rfl)⟩ (Nat.le_of_ble_eq_true rfl) (Nat.le_of_ble_eq_true rfl) (fun r w' hq => ?_)
    obtain ⟨rfl, hs4⟩ := hq
    refine g_goto (tgt := 59) d_R_sendOperation_35 (by decide) ?_
    have hz : s_R_sendOperation t c = s_R_send t 1 (nI c) (t.2 13 c) (t.2 10 c) (t.2 14 c) 0 0 := by
      unfold s_R_sendOperation
      rw [if_neg h1]
    exact g_return d_R_sendOperation_59 rfl (Nat.le_of_ble_eq_true rfl) (Nat.le_of_ble_eq_true rfl) ⟨rfl, by rw [hz]; exact hs4⟩
end
section
def s_R_read (t : tR) (c : Nat) (f : Nat) : tR × Int32 :=
  if s_R_isClient t (nI c) = 0 then
    (t, (-1))
  else
    if s_R_isFile t (nI f) = 0 then
      (t, (-1))
    else
      if t.2 11 c = 2 then
        (t, 0)
      else
        if (s_R_begin t c f 0 0).2 19 ((4 * c) + f) = 0 then
          (s_R_sendOperation (s_R_begin t c f 0 0) c, 2)
        else
          if (s_R_begin t c f 0 0).2 20 ((4 * c) + f) ≤ (s_R_begin t c f 0 0).2 9 c then
            (s_R_sendOperation (s_R_begin t c f 0 0) c, 2)
          else
            (s_R_finish (s_R_begin t c f 0 0) c ((s_R_begin t c f 0 0).2 21 ((4 * c) + f)) ((s_R_begin t c f 0 0).2 22 ((4 * c) + f)), 1)
set_option maxHeartbeats 4000000 in
set_option maxRecDepth 100000 in
theorem c_R_read {E : gE} {w : wd} {ad : Nat → Nat} {t : tR} (hs : SysR E ad t w) (c : Nat) (f : Nat) (hc : c < 4) (hf : f < 4) (hp : okP t) : Cn E y_R_read 3 0 0 [.ref (ad 0), .int (nI c), .int (nI f)] w (fun r w' => r = some (.int (s_R_read t c f).2) ∧ SysR E ad (s_R_read t c f).1 w') := by
  refine Cn.of (by decide) (Nat.le_of_ble_eq_true rfl) (fun A => ?_)
  show G E y_R_read _ 0 [(0, .ref (ad 0)), (1, .int (nI c)), (2, .int (nI f))] [] w 0 0
  refine g_aload_n (j := 0) d_R_read_0 rfl ?_
  refine g_iload_n (j := 1) d_R_read_1 rfl ?_
  refine g_callV (c_R_isClient hs (nI c)) ok_R_isClient lk_R_103 in_R_isClient se_R_isClient hs.obj rfl d_R_read_2 rfl rfl (Nat.le_of_ble_eq_true rfl) ⟨(Nat.le_of_ble_eq_true rfl), (Nat.le_of_ble_eq_true rfl)⟩ (Nat.le_of_ble_eq_true rfl) (Nat.le_of_ble_eq_true rfl) (fun r w' hq => ?_)
  obtain ⟨rfl, rfl⟩ := hq
  refine g_if_eq (tgt := 16) d_R_read_5 (by decide) (fun h1 => ?_) (fun h1 => ?_)
  · skip
    refine g_iconst (v := (-1)) d_R_read_16 (by decide) ?_
    have hz : s_R_read t c f = (t, (-1)) := by
      unfold s_R_read
      rw [if_pos h1]
    exact g_ireturn d_R_read_17 rfl (Nat.le_of_ble_eq_true rfl) (Nat.le_of_ble_eq_true rfl) ⟨by rw [hz], by rw [hz]; exact hs⟩
  · skip
    refine g_aload_n (j := 0) d_R_read_8 rfl ?_
    refine g_iload_n (j := 2) d_R_read_9 rfl ?_
    refine g_callV (c_R_isFile hs (nI f)) ok_R_isFile lk_R_107 in_R_isFile se_R_isFile hs.obj rfl d_R_read_10 rfl rfl (Nat.le_of_ble_eq_true rfl) ⟨(Nat.le_of_ble_eq_true rfl), (Nat.le_of_ble_eq_true rfl)⟩ (Nat.le_of_ble_eq_true rfl) (Nat.le_of_ble_eq_true rfl) (fun r w' hq => ?_)
    obtain ⟨rfl, rfl⟩ := hq
    refine g_if_ne (tgt := 18) d_R_read_13 (by decide) (fun h2 => ?_) (fun h2 => ?_)
    · skip
      refine g_aload_n (j := 0) d_R_read_18 rfl ?_
      refine g_get d_R_read_19 f_R_43 hs.obj rfl ?_
      refine g_iload_n (j := 1) d_R_read_22 rfl ?_
      refine r_iald (k := 11) (j := c) d_R_read_23 hs (by decide) rfl rfl (show c < 4 by omega) ?_
      refine g_iconst (v := 2) d_R_read_24 (by decide) ?_
      refine g_icmp_ne (tgt := 30) d_R_read_25 (by decide) (fun h3 => ?_) (fun h3 => ?_)
      · skip
        refine g_aload_n (j := 0) d_R_read_30 rfl ?_
        refine g_iload_n (j := 1) d_R_read_31 rfl ?_
        refine g_iload_n (j := 2) d_R_read_32 rfl ?_
        refine g_iconst (v := 0) d_R_read_33 (by decide) ?_
        refine g_iconst (v := 0) d_R_read_34 (by decide) ?_
        refine g_callV (c_R_begin hs c f 0 0 (by omega) (by decide)) ok_R_begin lk_R_110 in_R_begin se_R_begin hs.obj rfl d_R_read_35 rfl rfl (Nat.le_of_ble_eq_true rfl) ⟨(Nat.le_of_ble_eq_true rfl), (Nat.le_of_ble_eq_true rfl)⟩ (Nat.le_of_ble_eq_true rfl) (Nat.le_of_ble_eq_true rfl) (fun r w' hq => ?_)
        obtain ⟨rfl, hs4⟩ := hq
        refine g_iconst (v := 4) d_R_read_38 (by decide) ?_
        refine g_iload_n (j := 1) d_R_read_39 rfl ?_
        refine g_imul d_R_read_40 ?_
        refine g_norm (y := nI (4 * c)) (pk_mul 4 c) ?_
        refine g_iload_n (j := 2) d_R_read_41 rfl ?_
        refine g_iadd d_R_read_42 ?_
        refine g_norm (y := nI ((4 * c) + f)) (nI_add (4 * c) f) ?_
        refine g_istore_n (lv' := [(3, _), (0, _), (1, _), (2, _)]) d_R_read_43 (by decide) rfl ?_
        refine g_aload_n (j := 1) d_R_read_44 rfl ?_
        refine g_get d_R_read_45 f_R_68 hs4.obj rfl ?_
        refine g_iload_n (j := 0) d_R_read_48 rfl ?_
        refine r_zald (k := 19) (j := (4 * c) + f) d_R_read_49 hs4 (by decide) rfl rfl (show (4 * c) + f < 16 by omega) ?_
        refine g_if_eq (tgt := 87) d_R_read_50 (by decide) (fun h6 => ?_) (fun h6 => ?_)
        · skip
          refine g_aload_n (j := 1) d_R_read_87 rfl ?_
          refine g_iload_n (j := 2) d_R_read_88 rfl ?_
          refine g_callV (c_R_sendOperation hs4 c (by omega) hp) ok_R_sendOperation lk_R_118 in_R_sendOperation se_R_sendOperation hs4.obj rfl d_R_read_89 rfl rfl (Nat.le_of_ble_eq_true rfl) ⟨(Nat.le_of_ble_eq_true rfl), (Nat.le_of_ble_eq_true rfl)⟩ (Nat.le_of_ble_eq_true rfl) (Nat.le_of_ble_eq_true rfl) (fun r w' hq => ?_)
          obtain ⟨rfl, hs7⟩ := hq
          refine g_iconst (v := 2) d_R_read_92 (by decide) ?_
          have hz : s_R_read t c f = (s_R_sendOperation (s_R_begin t c f 0 0) c, 2) := by
            unfold s_R_read
            rw [if_neg h1, if_neg h2, if_neg h3, if_pos h6]
          exact g_ireturn d_R_read_93 rfl (Nat.le_of_ble_eq_true rfl) (Nat.le_of_ble_eq_true rfl) ⟨by rw [hz], by rw [hz]; exact hs7⟩
        · skip
          refine g_aload_n (j := 1) d_R_read_53 rfl ?_
          refine g_get d_R_read_54 f_R_71 hs4.obj rfl ?_
          refine g_iload_n (j := 0) d_R_read_57 rfl ?_
          refine r_iald (k := 20) (j := (4 * c) + f) d_R_read_58 hs4 (by decide) rfl rfl (show (4 * c) + f < 16 by omega) ?_
          refine g_aload_n (j := 1) d_R_read_59 rfl ?_
          refine g_get d_R_read_60 f_R_37 hs4.obj rfl ?_
          refine g_iload_n (j := 2) d_R_read_63 rfl ?_
          refine r_iald (k := 9) (j := c) d_R_read_64 hs4 (by decide) rfl rfl (show c < 4 by omega) ?_
          refine g_icmp_le (tgt := 87) d_R_read_65 (by decide) (fun h9 => ?_) (fun h9 => ?_)
          · skip
            refine g_aload_n (j := 1) d_R_read_87 rfl ?_
            refine g_iload_n (j := 2) d_R_read_88 rfl ?_
            refine g_callV (c_R_sendOperation hs4 c (by omega) hp) ok_R_sendOperation lk_R_118 in_R_sendOperation se_R_sendOperation hs4.obj rfl d_R_read_89 rfl rfl (Nat.le_of_ble_eq_true rfl) ⟨(Nat.le_of_ble_eq_true rfl), (Nat.le_of_ble_eq_true rfl)⟩ (Nat.le_of_ble_eq_true rfl) (Nat.le_of_ble_eq_true rfl) (fun r w' hq => ?_)
            obtain ⟨rfl, hs10⟩ := hq
            refine g_iconst (v := 2) d_R_read_92 (by decide) ?_
            have hz : s_R_read t c f = (s_R_sendOperation (s_R_begin t c f 0 0) c, 2) := by
              unfold s_R_read
              rw [if_neg h1, if_neg h2, if_neg h3, if_neg h6, if_pos h9]
            exact g_ireturn d_R_read_93 rfl (Nat.le_of_ble_eq_true rfl) (Nat.le_of_ble_eq_true rfl) ⟨by rw [hz], by rw [hz]; exact hs10⟩
          · skip
            refine g_aload_n (j := 1) d_R_read_68 rfl ?_
            refine g_iload_n (j := 2) d_R_read_69 rfl ?_
            refine g_aload_n (j := 1) d_R_read_70 rfl ?_
            refine g_get d_R_read_71 f_R_74 hs4.obj rfl ?_
            refine g_iload_n (j := 0) d_R_read_74 rfl ?_
            refine r_iald (k := 21) (j := (4 * c) + f) d_R_read_75 hs4 (by decide) rfl rfl (show (4 * c) + f < 16 by omega) ?_
            refine g_aload_n (j := 1) d_R_read_76 rfl ?_
            refine g_get d_R_read_77 f_R_77 hs4.obj rfl ?_
            refine g_iload_n (j := 0) d_R_read_80 rfl ?_
            refine r_iald (k := 22) (j := (4 * c) + f) d_R_read_81 hs4 (by decide) rfl rfl (show (4 * c) + f < 16 by omega) ?_
            refine g_callV (c_R_finish hs4 c ((s_R_begin t c f 0 0).2 21 ((4 * c) + f)) ((s_R_begin t c f 0 0).2 22 ((4 * c) + f)) (by omega)) ok_R_finish lk_R_114 in_R_finish se_R_finish hs4.obj rfl d_R_read_82 rfl rfl (Nat.le_of_ble_eq_true rfl) ⟨(Nat.le_of_ble_eq_true rfl), (Nat.le_of_ble_eq_true rfl)⟩ (Nat.le_of_ble_eq_true rfl) (Nat.le_of_ble_eq_true rfl) (fun r w' hq => ?_)
            obtain ⟨rfl, hs12⟩ := hq
            refine g_iconst (v := 1) d_R_read_85 (by decide) ?_
            have hz : s_R_read t c f = (s_R_finish (s_R_begin t c f 0 0) c ((s_R_begin t c f 0 0).2 21 ((4 * c) + f)) ((s_R_begin t c f 0 0).2 22 ((4 * c) + f)), 1) := by
              unfold s_R_read
              rw [if_neg h1, if_neg h2, if_neg h3, if_neg h6, if_neg h9]
            exact g_ireturn d_R_read_86 rfl (Nat.le_of_ble_eq_true rfl) (Nat.le_of_ble_eq_true rfl) ⟨by rw [hz], by rw [hz]; exact hs12⟩
      · skip
        refine g_iconst (v := 0) d_R_read_28 (by decide) ?_
        have hz : s_R_read t c f = (t, 0) := by
          unfold s_R_read
          rw [if_neg h1, if_neg h2, if_pos h3]
        exact g_ireturn d_R_read_29 rfl (Nat.le_of_ble_eq_true rfl) (Nat.le_of_ble_eq_true rfl) ⟨by rw [hz], by rw [hz]; exact hs⟩
    · skip
      refine g_iconst (v := (-1)) d_R_read_16 (by decide) ?_
      have hz : s_R_read t c f = (t, (-1)) := by
        unfold s_R_read
        rw [if_neg h1, if_pos h2]
      exact g_ireturn d_R_read_17 rfl (Nat.le_of_ble_eq_true rfl) (Nat.le_of_ble_eq_true rfl) ⟨by rw [hz], by rw [hz]; exact hs⟩

def s_R_write (t : tR) (c : Nat) (f : Nat) (x : Int32) : tR × Int32 :=
  if s_R_isClient t (nI c) = 0 then
    (t, (-1))
  else
    if s_R_isFile t (nI f) = 0 then
      (t, (-1))
    else
      if t.2 11 c = 2 then
        (t, 0)
      else
        (s_R_sendOperation (stA (s_R_begin t c f 1 x) 19 ((4 * c) + f) 0) c, 2)
set_option maxHeartbeats 4000000 in
set_option maxRecDepth 100000 in
theorem c_R_write {E : gE} {w : wd} {ad : Nat → Nat} {t : tR} (hs : SysR E ad t w) (c : Nat) (f : Nat) (x : Int32) (hc : c < 4) (hf : f < 4) (hp : okP t) : Cn E y_R_write 3 0 0 [.ref (ad 0), .int (nI c), .int (nI f), .int x] w (fun r w' => r = some (.int (s_R_write t c f x).2) ∧ SysR E ad (s_R_write t c f x).1 w') := by
  refine Cn.of (by decide) (Nat.le_of_ble_eq_true rfl) (fun A => ?_)
  show G E y_R_write _ 0 [(0, .ref (ad 0)), (1, .int (nI c)), (2, .int (nI f)), (3, .int x)] [] w 0 0
  refine g_aload_n (j := 0) d_R_write_0 rfl ?_
  refine g_iload_n (j := 1) d_R_write_1 rfl ?_
  refine g_callV (c_R_isClient hs (nI c)) ok_R_isClient lk_R_103 in_R_isClient se_R_isClient hs.obj rfl d_R_write_2 rfl rfl (Nat.le_of_ble_eq_true rfl) ⟨(Nat.le_of_ble_eq_true rfl), (Nat.le_of_ble_eq_true rfl)⟩ (Nat.le_of_ble_eq_true rfl) (Nat.le_of_ble_eq_true rfl) (fun r w' hq => ?_)
  obtain ⟨rfl, rfl⟩ := hq
  refine g_if_eq (tgt := 16) d_R_write_5 (by decide) (fun h1 => ?_) (fun h1 => ?_)
  · skip
    refine g_iconst (v := (-1)) d_R_write_16 (by decide) ?_
    have hz : s_R_write t c f x = (t, (-1)) := by
      unfold s_R_write
      rw [if_pos h1]
    exact g_ireturn d_R_write_17 rfl (Nat.le_of_ble_eq_true rfl) (Nat.le_of_ble_eq_true rfl) ⟨by rw [hz], by rw [hz]; exact hs⟩
  · skip
    refine g_aload_n (j := 0) d_R_write_8 rfl ?_
    refine g_iload_n (j := 2) d_R_write_9 rfl ?_
    refine g_callV (c_R_isFile hs (nI f)) ok_R_isFile lk_R_107 in_R_isFile se_R_isFile hs.obj rfl d_R_write_10 rfl rfl (Nat.le_of_ble_eq_true rfl) ⟨(Nat.le_of_ble_eq_true rfl), (Nat.le_of_ble_eq_true rfl)⟩ (Nat.le_of_ble_eq_true rfl) (Nat.le_of_ble_eq_true rfl) (fun r w' hq => ?_)
    obtain ⟨rfl, rfl⟩ := hq
    refine g_if_ne (tgt := 18) d_R_write_13 (by decide) (fun h2 => ?_) (fun h2 => ?_)
    · skip
      refine g_aload_n (j := 0) d_R_write_18 rfl ?_
      refine g_get d_R_write_19 f_R_43 hs.obj rfl ?_
      refine g_iload_n (j := 1) d_R_write_22 rfl ?_
      refine r_iald (k := 11) (j := c) d_R_write_23 hs (by decide) rfl rfl (show c < 4 by omega) ?_
      refine g_iconst (v := 2) d_R_write_24 (by decide) ?_
      refine g_icmp_ne (tgt := 30) d_R_write_25 (by decide) (fun h3 => ?_) (fun h3 => ?_)
      · skip
        refine g_aload_n (j := 0) d_R_write_30 rfl ?_
        refine g_iload_n (j := 1) d_R_write_31 rfl ?_
        refine g_iload_n (j := 2) d_R_write_32 rfl ?_
        refine g_iconst (v := 1) d_R_write_33 (by decide) ?_
        refine g_iload_n (j := 3) d_R_write_34 rfl ?_
        refine g_callV (c_R_begin hs c f 1 x (by omega) (by decide)) ok_R_begin lk_R_110 in_R_begin se_R_begin hs.obj rfl d_R_write_35 rfl rfl (Nat.le_of_ble_eq_true rfl) ⟨(Nat.le_of_ble_eq_true rfl), (Nat.le_of_ble_eq_true rfl)⟩ (Nat.le_of_ble_eq_true rfl) (Nat.le_of_ble_eq_true rfl) (fun r w' hq => ?_)
        obtain ⟨rfl, hs4⟩ := hq
        refine g_aload_n (j := 0) d_R_write_38 rfl ?_
        refine g_get d_R_write_39 f_R_68 hs4.obj rfl ?_
        refine g_iconst (v := 4) d_R_write_42 (by decide) ?_
        refine g_iload_n (j := 1) d_R_write_43 rfl ?_
        refine g_imul d_R_write_44 ?_
        refine g_norm (y := nI (4 * c)) (pk_mul 4 c) ?_
        refine g_iload_n (j := 2) d_R_write_45 rfl ?_
        refine g_iadd d_R_write_46 ?_
        refine g_norm (y := nI ((4 * c) + f)) (nI_add (4 * c) f) ?_
        refine g_iconst (v := 0) d_R_write_47 (by decide) ?_
        refine r_zast (k := 19) (j := (4 * c) + f) d_R_write_48 hs4 (by decide) rfl rfl (show (4 * c) + f < 16 by omega) (by decide) (fun w6 hs7 => ?_)
        refine g_aload_n (j := 0) d_R_write_49 rfl ?_
        refine g_iload_n (j := 1) d_R_write_50 rfl ?_
        refine g_callV (c_R_sendOperation hs7 c (by omega) hp) ok_R_sendOperation lk_R_118 in_R_sendOperation se_R_sendOperation hs7.obj rfl d_R_write_51 rfl rfl (Nat.le_of_ble_eq_true rfl) ⟨(Nat.le_of_ble_eq_true rfl), (Nat.le_of_ble_eq_true rfl)⟩ (Nat.le_of_ble_eq_true rfl) (Nat.le_of_ble_eq_true rfl) (fun r w' hq => ?_)
        obtain ⟨rfl, hs8⟩ := hq
        refine g_iconst (v := 2) d_R_write_54 (by decide) ?_
        have hz : s_R_write t c f x = (s_R_sendOperation (stA (s_R_begin t c f 1 x) 19 ((4 * c) + f) 0) c, 2) := by
          unfold s_R_write
          rw [if_neg h1, if_neg h2, if_neg h3]
        exact g_ireturn d_R_write_55 rfl (Nat.le_of_ble_eq_true rfl) (Nat.le_of_ble_eq_true rfl) ⟨by rw [hz], by rw [hz]; exact hs8⟩
      · skip
        refine g_iconst (v := 0) d_R_write_28 (by decide) ?_
        have hz : s_R_write t c f x = (t, 0) := by
          unfold s_R_write
          rw [if_neg h1, if_neg h2, if_pos h3]
        exact g_ireturn d_R_write_29 rfl (Nat.le_of_ble_eq_true rfl) (Nat.le_of_ble_eq_true rfl) ⟨by rw [hz], by rw [hz]; exact hs⟩
    · skip
      refine g_iconst (v := (-1)) d_R_write_16 (by decide) ?_
      have hz : s_R_write t c f x = (t, (-1)) := by
        unfold s_R_write
        rw [if_neg h1, if_pos h2]
      exact g_ireturn d_R_write_17 rfl (Nat.le_of_ble_eq_true rfl) (Nat.le_of_ble_eq_true rfl) ⟨by rw [hz], by rw [hz]; exact hs⟩

def s_R_retry (t : tR) (c : Nat) : tR × Int32 :=
  if s_R_isClient t (nI c) = 0 then
    (t, (-1))
  else
    if t.2 11 c = 2 then
      (s_R_sendOperation t c, (s_R_sendOperation t c).2 10 c)
    else
      (t, 0)
set_option maxHeartbeats 4000000 in
set_option maxRecDepth 100000 in
theorem c_R_retry {E : gE} {w : wd} {ad : Nat → Nat} {t : tR} (hs : SysR E ad t w) (c : Nat) (hc : c < 4) (hp : okP t) : Cn E y_R_retry 3 0 0 [.ref (ad 0), .int (nI c)] w (fun r w' => r = some (.int (s_R_retry t c).2) ∧ SysR E ad (s_R_retry t c).1 w') := by
  refine Cn.of (by decide) (Nat.le_of_ble_eq_true rfl) (fun A => ?_)
  show G E y_R_retry _ 0 [(0, .ref (ad 0)), (1, .int (nI c))] [] w 0 0
  refine g_aload_n (j := 0) d_R_retry_0 rfl ?_
  refine g_iload_n (j := 1) d_R_retry_1 rfl ?_
  refine g_callV (c_R_isClient hs (nI c)) ok_R_isClient lk_R_103 in_R_isClient se_R_isClient hs.obj rfl d_R_retry_2 rfl rfl (Nat.le_of_ble_eq_true rfl) ⟨(Nat.le_of_ble_eq_true rfl), (Nat.le_of_ble_eq_true rfl)⟩ (Nat.le_of_ble_eq_true rfl) (Nat.le_of_ble_eq_true rfl) (fun r w' hq => ?_)
  obtain ⟨rfl, rfl⟩ := hq
  refine g_if_ne (tgt := 10) d_R_retry_5 (by decide) (fun h1 => ?_) (fun h1 => ?_)
  · skip
    refine g_aload_n (j := 0) d_R_retry_10 rfl ?_
    refine g_get d_R_retry_11 f_R_43 hs.obj rfl ?_
    refine g_iload_n (j := 1) d_R_retry_14 rfl ?_
    refine r_iald (k := 11) (j := c) d_R_retry_15 hs (by decide) rfl rfl (show c < 4 by omega) ?_
    refine g_iconst (v := 2) d_R_retry_16 (by decide) ?_
    refine g_icmp_eq (tgt := 22) d_R_retry_17 (by decide) (fun h2 => ?_) (fun h2 => ?_)
    · skip
      refine g_aload_n (j := 0) d_R_retry_22 rfl ?_
      refine g_iload_n (j := 1) d_R_retry_23 rfl ?_
      refine g_callV (c_R_sendOperation hs c (by omega) hp) ok_R_sendOperation lk_R_118 in_R_sendOperation se_R_sendOperation hs.obj rfl d_R_retry_24 rfl rfl (Nat.le_of_ble_eq_true rfl) ⟨(Nat.le_of_ble_eq_true rfl), (Nat.le_of_ble_eq_true rfl)⟩ (Nat.le_of_ble_eq_true rfl) (Nat.le_of_ble_eq_true rfl) (fun r w' hq => ?_)
      obtain ⟨rfl, hs3⟩ := hq
      refine g_aload_n (j := 0) d_R_retry_27 rfl ?_
      refine g_get d_R_retry_28 f_R_40 hs3.obj rfl ?_
      refine g_iload_n (j := 1) d_R_retry_31 rfl ?_
      refine r_iald (k := 10) (j := c) d_R_retry_32 hs3 (by decide) rfl rfl (show c < 4 by omega) ?_
      have hz : s_R_retry t c = (s_R_sendOperation t c, (s_R_sendOperation t c).2 10 c) := by
        unfold s_R_retry
        rw [if_neg h1, if_pos h2]
      exact g_ireturn d_R_retry_33 rfl (Nat.le_of_ble_eq_true rfl) (Nat.le_of_ble_eq_true rfl) ⟨by rw [hz], by rw [hz]; exact hs3⟩
    · skip
      refine g_iconst (v := 0) d_R_retry_20 (by decide) ?_
      have hz : s_R_retry t c = (t, 0) := by
        unfold s_R_retry
        rw [if_neg h1, if_neg h2]
      exact g_ireturn d_R_retry_21 rfl (Nat.le_of_ble_eq_true rfl) (Nat.le_of_ble_eq_true rfl) ⟨by rw [hz], by rw [hz]; exact hs⟩
  · skip
    refine g_iconst (v := (-1)) d_R_retry_8 (by decide) ?_
    have hz : s_R_retry t c = (t, (-1)) := by
      unfold s_R_retry
      rw [if_pos h1]
    exact g_ireturn d_R_retry_9 rfl (Nat.le_of_ble_eq_true rfl) (Nat.le_of_ble_eq_true rfl) ⟨by rw [hz], by rw [hz]; exact hs⟩

def s_R_status (t : tR) (c : Nat) : Int32 :=
  if s_R_isClient t (nI c) = 0 then
    (-1)
  else
    t.2 11 c
set_option maxHeartbeats 4000000 in
set_option maxRecDepth 100000 in
theorem c_R_status {E : gE} {w : wd} {ad : Nat → Nat} {t : tR} (hs : SysR E ad t w) (c : Nat) (hc : c < 4) : Cn E y_R_status 2 0 0 [.ref (ad 0), .int (nI c)] w (fun r w' => r = some (.int (s_R_status t c)) ∧ w' = w) := by
  refine Cn.of (by decide) (Nat.le_of_ble_eq_true rfl) (fun A => ?_)
  show G E y_R_status _ 0 [(0, .ref (ad 0)), (1, .int (nI c))] [] w 0 0
  refine g_aload_n (j := 0) d_R_status_0 rfl ?_
  refine g_iload_n (j := 1) d_R_status_1 rfl ?_
  refine g_callV (c_R_isClient hs (nI c)) ok_R_isClient lk_R_103 in_R_isClient se_R_isClient hs.obj rfl d_R_status_2 rfl rfl (Nat.le_of_ble_eq_true rfl) ⟨(Nat.le_of_ble_eq_true rfl), (Nat.le_of_ble_eq_true rfl)⟩ (Nat.le_of_ble_eq_true rfl) (Nat.le_of_ble_eq_true rfl) (fun r w' hq => ?_)
  obtain ⟨rfl, rfl⟩ := hq
  refine g_if_eq (tgt := 17) d_R_status_5 (by decide) (fun h1 => ?_) (fun h1 => ?_)
  · skip
    refine g_iconst (v := (-1)) d_R_status_17 (by decide) ?_
    have hz : s_R_status t c = (-1) := by
      unfold s_R_status
      rw [if_pos h1]
    exact g_ireturn d_R_status_18 rfl (Nat.le_of_ble_eq_true rfl) (Nat.le_of_ble_eq_true rfl) ⟨by rw [hz], rfl⟩
  · skip
    refine g_aload_n (j := 0) d_R_status_8 rfl ?_
    refine g_get d_R_status_9 f_R_43 hs.obj rfl ?_
    refine g_iload_n (j := 1) d_R_status_12 rfl ?_
    refine r_iald (k := 11) (j := c) d_R_status_13 hs (by decide) rfl rfl (show c < 4 by omega) ?_
    refine g_goto (tgt := 18) d_R_status_14 (by decide) ?_
    have hz : s_R_status t c = t.2 11 c := by
      unfold s_R_status
      rw [if_neg h1]
    exact g_ireturn d_R_status_18 rfl (Nat.le_of_ble_eq_true rfl) (Nat.le_of_ble_eq_true rfl) ⟨by rw [hz], rfl⟩

def s_R_result (t : tR) (c : Nat) : Int32 :=
  if s_R_isClient t (nI c) = 0 then
    0
  else
    if t.2 11 c = 1 then
      t.2 17 c
    else
      0
set_option maxHeartbeats 4000000 in
set_option maxRecDepth 100000 in
theorem c_R_result {E : gE} {w : wd} {ad : Nat → Nat} {t : tR} (hs : SysR E ad t w) (c : Nat) (hc : c < 4) : Cn E y_R_result 2 0 0 [.ref (ad 0), .int (nI c)] w (fun r w' => r = some (.int (s_R_result t c)) ∧ w' = w) := by
  refine Cn.of (by decide) (Nat.le_of_ble_eq_true rfl) (fun A => ?_)
  show G E y_R_result _ 0 [(0, .ref (ad 0)), (1, .int (nI c))] [] w 0 0
  refine g_aload_n (j := 0) d_R_result_0 rfl ?_
  refine g_iload_n (j := 1) d_R_result_1 rfl ?_
  refine g_callV (c_R_isClient hs (nI c)) ok_R_isClient lk_R_103 in_R_isClient se_R_isClient hs.obj rfl d_R_result_2 rfl rfl (Nat.le_of_ble_eq_true rfl) ⟨(Nat.le_of_ble_eq_true rfl), (Nat.le_of_ble_eq_true rfl)⟩ (Nat.le_of_ble_eq_true rfl) (Nat.le_of_ble_eq_true rfl) (fun r w' hq => ?_)
  obtain ⟨rfl, rfl⟩ := hq
  refine g_if_eq (tgt := 27) d_R_result_5 (by decide) (fun h1 => ?_) (fun h1 => ?_)
  · skip
    refine g_iconst (v := 0) d_R_result_27 (by decide) ?_
    have hz : s_R_result t c = 0 := by
      unfold s_R_result
      rw [if_pos h1]
    exact g_ireturn d_R_result_28 rfl (Nat.le_of_ble_eq_true rfl) (Nat.le_of_ble_eq_true rfl) ⟨by rw [hz], rfl⟩
  · skip
    refine g_aload_n (j := 0) d_R_result_8 rfl ?_
    refine g_get d_R_result_9 f_R_43 hs.obj rfl ?_
    refine g_iload_n (j := 1) d_R_result_12 rfl ?_
    refine r_iald (k := 11) (j := c) d_R_result_13 hs (by decide) rfl rfl (show c < 4 by omega) ?_
    refine g_iconst (v := 1) d_R_result_14 (by decide) ?_
    refine g_icmp_ne (tgt := 27) d_R_result_15 (by decide) (fun h2 => ?_) (fun h2 => ?_)
    · skip
      refine g_iconst (v := 0) d_R_result_27 (by decide) ?_
      have hz : s_R_result t c = 0 := by
        unfold s_R_result
        rw [if_neg h1, if_neg h2]
      exact g_ireturn d_R_result_28 rfl (Nat.le_of_ble_eq_true rfl) (Nat.le_of_ble_eq_true rfl) ⟨by rw [hz], rfl⟩
    · skip
      refine g_aload_n (j := 0) d_R_result_18 rfl ?_
      refine g_get d_R_result_19 f_R_62 hs.obj rfl ?_
      refine g_iload_n (j := 1) d_R_result_22 rfl ?_
      refine r_iald (k := 17) (j := c) d_R_result_23 hs (by decide) rfl rfl (show c < 4 by omega) ?_
      refine g_goto (tgt := 28) d_R_result_24 (by decide) ?_
      have hz : s_R_result t c = t.2 17 c := by
        unfold s_R_result
        rw [if_neg h1, if_pos h2]
      exact g_ireturn d_R_result_28 rfl (Nat.le_of_ble_eq_true rfl) (Nat.le_of_ble_eq_true rfl) ⟨by rw [hz], rfl⟩

def s_R_version (t : tR) (c : Nat) : Int32 :=
  if s_R_isClient t (nI c) = 0 then
    (-1)
  else
    if t.2 11 c = 1 then
      t.2 18 c
    else
      (-1)
set_option maxHeartbeats 4000000 in
set_option maxRecDepth 100000 in
theorem c_R_version {E : gE} {w : wd} {ad : Nat → Nat} {t : tR} (hs : SysR E ad t w) (c : Nat) (hc : c < 4) : Cn E y_R_version 2 0 0 [.ref (ad 0), .int (nI c)] w (fun r w' => r = some (.int (s_R_version t c)) ∧ w' = w) := by
  refine Cn.of (by decide) (Nat.le_of_ble_eq_true rfl) (fun A => ?_)
  show G E y_R_version _ 0 [(0, .ref (ad 0)), (1, .int (nI c))] [] w 0 0
  refine g_aload_n (j := 0) d_R_version_0 rfl ?_
  refine g_iload_n (j := 1) d_R_version_1 rfl ?_
  refine g_callV (c_R_isClient hs (nI c)) ok_R_isClient lk_R_103 in_R_isClient se_R_isClient hs.obj rfl d_R_version_2 rfl rfl (Nat.le_of_ble_eq_true rfl) ⟨(Nat.le_of_ble_eq_true rfl), (Nat.le_of_ble_eq_true rfl)⟩ (Nat.le_of_ble_eq_true rfl) (Nat.le_of_ble_eq_true rfl) (fun r w' hq => ?_)
  obtain ⟨rfl, rfl⟩ := hq
  refine g_if_eq (tgt := 27) d_R_version_5 (by decide) (fun h1 => ?_) (fun h1 => ?_)
  · skip
    refine g_iconst (v := (-1)) d_R_version_27 (by decide) ?_
    have hz : s_R_version t c = (-1) := by
      unfold s_R_version
      rw [if_pos h1]
    exact g_ireturn d_R_version_28 rfl (Nat.le_of_ble_eq_true rfl) (Nat.le_of_ble_eq_true rfl) ⟨by rw [hz], rfl⟩
  · skip
    refine g_aload_n (j := 0) d_R_version_8 rfl ?_
    refine g_get d_R_version_9 f_R_43 hs.obj rfl ?_
    refine g_iload_n (j := 1) d_R_version_12 rfl ?_
    refine r_iald (k := 11) (j := c) d_R_version_13 hs (by decide) rfl rfl (show c < 4 by omega) ?_
    refine g_iconst (v := 1) d_R_version_14 (by decide) ?_
    refine g_icmp_ne (tgt := 27) d_R_version_15 (by decide) (fun h2 => ?_) (fun h2 => ?_)
    · skip
      refine g_iconst (v := (-1)) d_R_version_27 (by decide) ?_
      have hz : s_R_version t c = (-1) := by
        unfold s_R_version
        rw [if_neg h1, if_neg h2]
      exact g_ireturn d_R_version_28 rfl (Nat.le_of_ble_eq_true rfl) (Nat.le_of_ble_eq_true rfl) ⟨by rw [hz], rfl⟩
    · skip
      refine g_aload_n (j := 0) d_R_version_18 rfl ?_
      refine g_get d_R_version_19 f_R_65 hs.obj rfl ?_
      refine g_iload_n (j := 1) d_R_version_22 rfl ?_
      refine r_iald (k := 18) (j := c) d_R_version_23 hs (by decide) rfl rfl (show c < 4 by omega) ?_
      refine g_goto (tgt := 28) d_R_version_24 (by decide) ?_
      have hz : s_R_version t c = t.2 18 c := by
        unfold s_R_version
        rw [if_neg h1, if_pos h2]
      exact g_ireturn d_R_version_28 rfl (Nat.le_of_ble_eq_true rfl) (Nat.le_of_ble_eq_true rfl) ⟨by rw [hz], rfl⟩

def s_R_pending (t : tR)  : Int32 :=
  t.1 9
set_option maxHeartbeats 4000000 in
set_option maxRecDepth 100000 in
theorem c_R_pending {E : gE} {w : wd} {ad : Nat → Nat} {t : tR} (hs : SysR E ad t w)  : Cn E y_R_pending 1 0 0 [.ref (ad 0)] w (fun r w' => r = some (.int (s_R_pending t )) ∧ w' = w) := by
  refine Cn.of (by decide) (Nat.le_of_ble_eq_true rfl) (fun A => ?_)
  show G E y_R_pending _ 0 [(0, .ref (ad 0))] [] w 0 0
  refine g_aload_n (j := 0) d_R_pending_0 rfl ?_
  refine g_get d_R_pending_1 f_R_96 hs.obj rfl ?_
  have hz : s_R_pending t = t.1 9 := by
    unfold s_R_pending
    rfl
  exact g_ireturn d_R_pending_4 rfl (Nat.le_of_ble_eq_true rfl) (Nat.le_of_ble_eq_true rfl) ⟨by rw [hz], rfl⟩

def s_R_pass (t : tR) (c : Nat) (x : Int32) : tR × Int32 :=
  if s_R_isClient t (nI c) = 0 then
    (t, (-1))
  else
    if x < 0 then
      (t, (-1))
    else
      if x ≤ 1000 then
        (stA t 9 c ((t.2 9 c) + x), (stA t 9 c ((t.2 9 c) + x)).2 9 c)
      else
        (t, (-1))
set_option maxHeartbeats 4000000 in
set_option maxRecDepth 100000 in
theorem c_R_pass {E : gE} {w : wd} {ad : Nat → Nat} {t : tR} (hs : SysR E ad t w) (c : Nat) (x : Int32) (hc : c < 4) : Cn E y_R_pass 2 0 0 [.ref (ad 0), .int (nI c), .int x] w (fun r w' => r = some (.int (s_R_pass t c x).2) ∧ SysR E ad (s_R_pass t c x).1 w') := by
  refine Cn.of (by decide) (Nat.le_of_ble_eq_true rfl) (fun A => ?_)
  show G E y_R_pass _ 0 [(0, .ref (ad 0)), (1, .int (nI c)), (2, .int x)] [] w 0 0
  refine g_aload_n (j := 0) d_R_pass_0 rfl ?_
  refine g_iload_n (j := 1) d_R_pass_1 rfl ?_
  refine g_callV (c_R_isClient hs (nI c)) ok_R_isClient lk_R_103 in_R_isClient se_R_isClient hs.obj rfl d_R_pass_2 rfl rfl (Nat.le_of_ble_eq_true rfl) ⟨(Nat.le_of_ble_eq_true rfl), (Nat.le_of_ble_eq_true rfl)⟩ (Nat.le_of_ble_eq_true rfl) (Nat.le_of_ble_eq_true rfl) (fun r w' hq => ?_)
  obtain ⟨rfl, rfl⟩ := hq
  refine g_if_eq (tgt := 19) d_R_pass_5 (by decide) (fun h1 => ?_) (fun h1 => ?_)
  · skip
    refine g_iconst (v := (-1)) d_R_pass_19 (by decide) ?_
    have hz : s_R_pass t c x = (t, (-1)) := by
      unfold s_R_pass
      rw [if_pos h1]
    exact g_ireturn d_R_pass_20 rfl (Nat.le_of_ble_eq_true rfl) (Nat.le_of_ble_eq_true rfl) ⟨by rw [hz], by rw [hz]; exact hs⟩
  · skip
    refine g_iload_n (j := 2) d_R_pass_8 rfl ?_
    refine g_if_lt (tgt := 19) d_R_pass_9 (by decide) (fun h2 => ?_) (fun h2 => ?_)
    · skip
      refine g_iconst (v := (-1)) d_R_pass_19 (by decide) ?_
      have hz : s_R_pass t c x = (t, (-1)) := by
        unfold s_R_pass
        rw [if_neg h1, if_pos h2]
      exact g_ireturn d_R_pass_20 rfl (Nat.le_of_ble_eq_true rfl) (Nat.le_of_ble_eq_true rfl) ⟨by rw [hz], by rw [hz]; exact hs⟩
    · skip
      refine g_iload_n (j := 2) d_R_pass_12 rfl ?_
      refine g_sipush (v := 1000) d_R_pass_13 (by decide) ?_
      refine g_icmp_le (tgt := 21) d_R_pass_16 (by decide) (fun h3 => ?_) (fun h3 => ?_)
      · skip
        refine g_aload_n (j := 0) d_R_pass_21 rfl ?_
        refine g_get d_R_pass_22 f_R_37 hs.obj rfl ?_
        refine g_iload_n (j := 1) d_R_pass_25 rfl ?_
        refine g_aload_n (j := 0) d_R_pass_26 rfl ?_
        refine g_get d_R_pass_27 f_R_37 hs.obj rfl ?_
        refine g_iload_n (j := 1) d_R_pass_30 rfl ?_
        refine r_iald (k := 9) (j := c) d_R_pass_31 hs (by decide) rfl rfl (show c < 4 by omega) ?_
        refine g_iload_n (j := 2) d_R_pass_32 rfl ?_
        refine g_iadd d_R_pass_33 ?_
        refine r_iast (k := 9) (j := c) d_R_pass_34 hs (by decide) rfl rfl (show c < 4 by omega) (fun w4 hs5 => ?_)
        refine g_aload_n (j := 0) d_R_pass_35 rfl ?_
        refine g_get d_R_pass_36 f_R_37 hs5.obj rfl ?_
        refine g_iload_n (j := 1) d_R_pass_39 rfl ?_
        refine r_iald (k := 9) (j := c) d_R_pass_40 hs5 (by decide) rfl rfl (show c < 4 by omega) ?_
        have hz : s_R_pass t c x = (stA t 9 c ((t.2 9 c) + x), (stA t 9 c ((t.2 9 c) + x)).2 9 c) := by
          unfold s_R_pass
          rw [if_neg h1, if_neg h2, if_pos h3]
        exact g_ireturn d_R_pass_41 rfl (Nat.le_of_ble_eq_true rfl) (Nat.le_of_ble_eq_true rfl) ⟨by rw [hz], by rw [hz]; exact hs5⟩
      · skip
        refine g_iconst (v := (-1)) d_R_pass_19 (by decide) ?_
        have hz : s_R_pass t c x = (t, (-1)) := by
          unfold s_R_pass
          rw [if_neg h1, if_neg h2, if_neg h3]
        exact g_ireturn d_R_pass_20 rfl (Nat.le_of_ble_eq_true rfl) (Nat.le_of_ble_eq_true rfl) ⟨by rw [hz], by rw [hz]; exact hs⟩

def s_R_restart (t : tR)  : tR × Int32 :=
  if t.1 5 = 0 then
    (t, (-1))
  else
    (stF (stF (stF t 5 0) 6 (((stF t 5 0).1 6) + 1)) 7 (((stF (stF t 5 0) 6 (((stF t 5 0).1 6) + 1)).1 4) + ((stF (stF t 5 0) 6 (((stF t 5 0).1 6) + 1)).1 2)), (stF (stF (stF t 5 0) 6 (((stF t 5 0).1 6) + 1)) 7 (((stF (stF t 5 0) 6 (((stF t 5 0).1 6) + 1)).1 4) + ((stF (stF t 5 0) 6 (((stF t 5 0).1 6) + 1)).1 2))).1 6)
set_option maxHeartbeats 4000000 in
set_option maxRecDepth 100000 in
theorem c_R_restart {E : gE} {w : wd} {ad : Nat → Nat} {t : tR} (hs : SysR E ad t w)  : Cn E y_R_restart 1 0 0 [.ref (ad 0)] w (fun r w' => r = some (.int (s_R_restart t ).2) ∧ SysR E ad (s_R_restart t ).1 w') := by
  refine Cn.of (by decide) (Nat.le_of_ble_eq_true rfl) (fun A => ?_)
  show G E y_R_restart _ 0 [(0, .ref (ad 0))] [] w 0 0
  refine g_aload_n (j := 0) d_R_restart_0 rfl ?_
  refine g_get d_R_restart_1 f_R_165 hs.obj rfl ?_
  refine g_if_ne (tgt := 9) d_R_restart_4 (by decide) (fun h1 => ?_) (fun h1 => ?_)
  · skip
    refine g_aload_n (j := 0) d_R_restart_9 rfl ?_
    refine g_iconst (v := 0) d_R_restart_10 (by decide) ?_
    refine g_put d_R_restart_11 fw_R_165 (Or.inl rfl) hs.obj rfl rfl (Nat.le_of_ble_eq_true rfl) ?_
    have hs3 : SysR E ad (stF t 5 0) _ := hs.sf (t' := stF t 5 0) (fs := (ceR ad t).set 7 (.int 0)) rfl rfl
    generalize wu _ (ad 0) _ = w2 at hs3 ⊢
    refine g_aload_n (j := 0) d_R_restart_14 rfl ?_
    refine g_dup d_R_restart_15 rfl ?_
    refine g_get d_R_restart_16 f_R_136 hs3.obj rfl ?_
    refine g_iconst (v := 1) d_R_restart_19 (by decide) ?_
    refine g_iadd d_R_restart_20 ?_
    refine g_put d_R_restart_21 fw_R_136 (Or.inl rfl) hs3.obj rfl rfl (Nat.le_of_ble_eq_true rfl) ?_
    have hs5 : SysR E ad (stF (stF t 5 0) 6 (((stF t 5 0).1 6) + 1)) _ := hs3.sf (t' := stF (stF t 5 0) 6 (((stF t 5 0).1 6) + 1)) (fs := (ceR ad (stF t 5 0)).set 8 (.int (((stF t 5 0).1 6) + 1))) rfl rfl
    generalize wu _ (ad 0) _ = w4 at hs5 ⊢
    refine g_aload_n (j := 0) d_R_restart_24 rfl ?_
    refine g_aload_n (j := 0) d_R_restart_25 rfl ?_
    refine g_get d_R_restart_26 f_R_122 hs5.obj rfl ?_
    refine g_aload_n (j := 0) d_R_restart_29 rfl ?_
    refine g_get d_R_restart_30 f_R_90 hs5.obj rfl ?_
    refine g_iadd d_R_restart_33 ?_
    refine g_put d_R_restart_34 fw_R_139 (Or.inl rfl) hs5.obj rfl rfl (Nat.le_of_ble_eq_true rfl) ?_
    have hs7 : SysR E ad (stF (stF (stF t 5 0) 6 (((stF t 5 0).1 6) + 1)) 7 (((stF (stF t 5 0) 6 (((stF t 5 0).1 6) + 1)).1 4) + ((stF (stF t 5 0) 6 (((stF t 5 0).1 6) + 1)).1 2))) _ := hs5.sf (t' := stF (stF (stF t 5 0) 6 (((stF t 5 0).1 6) + 1)) 7 (((stF (stF t 5 0) 6 (((stF t 5 0).1 6) + 1)).1 4) + ((stF (stF t 5 0) 6 (((stF t 5 0).1 6) + 1)).1 2))) (fs := (ceR ad (stF (stF t 5 0) 6 (((stF t 5 0).1 6) + 1))).set 9 (.int (((stF (stF t 5 0) 6 (((stF t 5 0).1 6) + 1)).1 4) + ((stF (stF t 5 0) 6 (((stF t 5 0).1 6) + 1)).1 2)))) rfl rfl
    generalize wu _ (ad 0) _ = w6 at hs7 ⊢
    refine g_aload_n (j := 0) d_R_restart_37 rfl ?_
    refine g_get d_R_restart_38 f_R_136 hs7.obj rfl ?_
    have hz : s_R_restart t = (stF (stF (stF t 5 0) 6 (((stF t 5 0).1 6) + 1)) 7 (((stF (stF t 5 0) 6 (((stF t 5 0).1 6) + 1)).1 4) + ((stF (stF t 5 0) 6 (((stF t 5 0).1 6) + 1)).1 2)), (stF (stF (stF t 5 0) 6 (((stF t 5 0).1 6) + 1)) 7 (((stF (stF t 5 0) 6 (((stF t 5 0).1 6) + 1)).1 4) + ((stF (stF t 5 0) 6 (((stF t 5 0).1 6) + 1)).1 2))).1 6) := by
      unfold s_R_restart
      rw [if_neg h1]
    exact g_ireturn d_R_restart_41 rfl (Nat.le_of_ble_eq_true rfl) (Nat.le_of_ble_eq_true rfl) ⟨by rw [hz], by rw [hz]; exact hs7⟩
  · skip
    refine g_iconst (v := (-1)) d_R_restart_7 (by decide) ?_
    have hz : s_R_restart t = (t, (-1)) := by
      unfold s_R_restart
      rw [if_pos h1]
    exact g_ireturn d_R_restart_8 rfl (Nat.le_of_ble_eq_true rfl) (Nat.le_of_ble_eq_true rfl) ⟨by rw [hz], by rw [hz]; exact hs⟩

def s_R_copy (t : tR) (c : Nat) (f : Nat) (x : Int32) : Int32 :=
  if s_R_isClient t (nI c) = 0 then
    (-1)
  else
    if s_R_isFile t (nI f) = 0 then
      (-1)
    else
      if t.2 19 ((4 * c) + f) = 0 then
        (-1)
      else
        if x < 0 then
          (-1)
        else
          if x ≤ 2 then
            if x = 0 then
              s_R_rest (t.2 20 ((4 * c) + f)) (t.2 9 c)
            else
              if x = 1 then
                t.2 21 ((4 * c) + f)
              else
                t.2 22 ((4 * c) + f)
          else
            (-1)
set_option maxHeartbeats 4000000 in
set_option maxRecDepth 100000 in
theorem c_R_copy {E : gE} {w : wd} {ad : Nat → Nat} {t : tR} (hs : SysR E ad t w) (c : Nat) (f : Nat) (x : Int32) (hc : c < 4) (hf : f < 4) : Cn E y_R_copy 2 0 0 [.ref (ad 0), .int (nI c), .int (nI f), .int x] w (fun r w' => r = some (.int (s_R_copy t c f x)) ∧ w' = w) := by
  refine Cn.of (by decide) (Nat.le_of_ble_eq_true rfl) (fun A => ?_)
  show G E y_R_copy _ 0 [(0, .ref (ad 0)), (1, .int (nI c)), (2, .int (nI f)), (3, .int x)] [] w 0 0
  refine g_aload_n (j := 0) d_R_copy_0 rfl ?_
  refine g_iload_n (j := 1) d_R_copy_1 rfl ?_
  refine g_callV (c_R_isClient hs (nI c)) ok_R_isClient lk_R_103 in_R_isClient se_R_isClient hs.obj rfl d_R_copy_2 rfl rfl (Nat.le_of_ble_eq_true rfl) ⟨(Nat.le_of_ble_eq_true rfl), (Nat.le_of_ble_eq_true rfl)⟩ (Nat.le_of_ble_eq_true rfl) (Nat.le_of_ble_eq_true rfl) (fun r w' hq => ?_)
  obtain ⟨rfl, rfl⟩ := hq
  refine g_if_eq (tgt := 38) d_R_copy_5 (by decide) (fun h1 => ?_) (fun h1 => ?_)
  · skip
    refine g_iconst (v := (-1)) d_R_copy_38 (by decide) ?_
    have hz : s_R_copy t c f x = (-1) := by
      unfold s_R_copy
      rw [if_pos h1]
    exact g_ireturn d_R_copy_39 rfl (Nat.le_of_ble_eq_true rfl) (Nat.le_of_ble_eq_true rfl) ⟨by rw [hz], rfl⟩
  · skip
    refine g_aload_n (j := 0) d_R_copy_8 rfl ?_
    refine g_iload_n (j := 2) d_R_copy_9 rfl ?_
    refine g_callV (c_R_isFile hs (nI f)) ok_R_isFile lk_R_107 in_R_isFile se_R_isFile hs.obj rfl d_R_copy_10 rfl rfl (Nat.le_of_ble_eq_true rfl) ⟨(Nat.le_of_ble_eq_true rfl), (Nat.le_of_ble_eq_true rfl)⟩ (Nat.le_of_ble_eq_true rfl) (Nat.le_of_ble_eq_true rfl) (fun r w' hq => ?_)
    obtain ⟨rfl, rfl⟩ := hq
    refine g_if_eq (tgt := 38) d_R_copy_13 (by decide) (fun h2 => ?_) (fun h2 => ?_)
    · skip
      refine g_iconst (v := (-1)) d_R_copy_38 (by decide) ?_
      have hz : s_R_copy t c f x = (-1) := by
        unfold s_R_copy
        rw [if_neg h1, if_pos h2]
      exact g_ireturn d_R_copy_39 rfl (Nat.le_of_ble_eq_true rfl) (Nat.le_of_ble_eq_true rfl) ⟨by rw [hz], rfl⟩
    · skip
      refine g_aload_n (j := 0) d_R_copy_16 rfl ?_
      refine g_get d_R_copy_17 f_R_68 hs.obj rfl ?_
      refine g_iconst (v := 4) d_R_copy_20 (by decide) ?_
      refine g_iload_n (j := 1) d_R_copy_21 rfl ?_
      refine g_imul d_R_copy_22 ?_
      refine g_norm (y := nI (4 * c)) (pk_mul 4 c) ?_
      refine g_iload_n (j := 2) d_R_copy_23 rfl ?_
      refine g_iadd d_R_copy_24 ?_
      refine g_norm (y := nI ((4 * c) + f)) (nI_add (4 * c) f) ?_
      refine r_zald (k := 19) (j := (4 * c) + f) d_R_copy_25 hs (by decide) rfl rfl (show (4 * c) + f < 16 by omega) ?_
      refine g_if_eq (tgt := 38) d_R_copy_26 (by decide) (fun h3 => ?_) (fun h3 => ?_)
      · skip
        refine g_iconst (v := (-1)) d_R_copy_38 (by decide) ?_
        have hz : s_R_copy t c f x = (-1) := by
          unfold s_R_copy
          rw [if_neg h1, if_neg h2, if_pos h3]
        exact g_ireturn d_R_copy_39 rfl (Nat.le_of_ble_eq_true rfl) (Nat.le_of_ble_eq_true rfl) ⟨by rw [hz], rfl⟩
      · skip
        refine g_iload_n (j := 3) d_R_copy_29 rfl ?_
        refine g_if_lt (tgt := 38) d_R_copy_30 (by decide) (fun h4 => ?_) (fun h4 => ?_)
        · skip
          refine g_iconst (v := (-1)) d_R_copy_38 (by decide) ?_
          have hz : s_R_copy t c f x = (-1) := by
            unfold s_R_copy
            rw [if_neg h1, if_neg h2, if_neg h3, if_pos h4]
          exact g_ireturn d_R_copy_39 rfl (Nat.le_of_ble_eq_true rfl) (Nat.le_of_ble_eq_true rfl) ⟨by rw [hz], rfl⟩
        · skip
          refine g_iload_n (j := 3) d_R_copy_33 rfl ?_
          refine g_iconst (v := 2) d_R_copy_34 (by decide) ?_
          refine g_icmp_le (tgt := 40) d_R_copy_35 (by decide) (fun h5 => ?_) (fun h5 => ?_)
          · skip
            refine g_iconst (v := 4) d_R_copy_40 (by decide) ?_
            refine g_iload_n (j := 1) d_R_copy_41 rfl ?_
            refine g_imul d_R_copy_42 ?_
            refine g_norm (y := nI (4 * c)) (pk_mul 4 c) ?_
            refine g_iload_n (j := 2) d_R_copy_43 rfl ?_
            refine g_iadd d_R_copy_44 ?_
            refine g_norm (y := nI ((4 * c) + f)) (nI_add (4 * c) f) ?_
            refine g_istore (lv' := [(4, _), (0, _), (1, _), (2, _), (3, _)]) d_R_copy_45 (by decide) rfl ?_
            refine g_iload_n (j := 4) d_R_copy_47 rfl ?_
            refine g_if_ne (tgt := 70) d_R_copy_48 (by decide) (fun h6 => ?_) (fun h6 => ?_)
            · skip
              refine g_iload_n (j := 4) d_R_copy_70 rfl ?_
              refine g_iconst (v := 1) d_R_copy_71 (by decide) ?_
              refine g_icmp_ne (tgt := 85) d_R_copy_72 (by decide) (fun h7 => ?_) (fun h7 => ?_)
              · skip
                refine g_aload_n (j := 1) d_R_copy_85 rfl ?_
                refine g_get d_R_copy_86 f_R_77 hs.obj rfl ?_
                refine g_iload (j := 0) d_R_copy_89 rfl ?_
                refine r_iald (k := 22) (j := (4 * c) + f) d_R_copy_91 hs (by decide) rfl rfl (show (4 * c) + f < 16 by omega) ?_
                have hz : s_R_copy t c f x = t.2 22 ((4 * c) + f) := by
                  unfold s_R_copy
                  rw [if_neg h1, if_neg h2, if_neg h3, if_neg h4, if_pos h5, if_neg h6, if_neg h7]
                exact g_ireturn d_R_copy_92 rfl (Nat.le_of_ble_eq_true rfl) (Nat.le_of_ble_eq_true rfl) ⟨by rw [hz], rfl⟩
              · skip
                refine g_aload_n (j := 1) d_R_copy_75 rfl ?_
                refine g_get d_R_copy_76 f_R_74 hs.obj rfl ?_
                refine g_iload (j := 0) d_R_copy_79 rfl ?_
                refine r_iald (k := 21) (j := (4 * c) + f) d_R_copy_81 hs (by decide) rfl rfl (show (4 * c) + f < 16 by omega) ?_
                refine g_goto (tgt := 92) d_R_copy_82 (by decide) ?_
                have hz : s_R_copy t c f x = t.2 21 ((4 * c) + f) := by
                  unfold s_R_copy
                  rw [if_neg h1, if_neg h2, if_neg h3, if_neg h4, if_pos h5, if_neg h6, if_pos h7]
                exact g_ireturn d_R_copy_92 rfl (Nat.le_of_ble_eq_true rfl) (Nat.le_of_ble_eq_true rfl) ⟨by rw [hz], rfl⟩
            · skip
              refine g_aload_n (j := 1) d_R_copy_51 rfl ?_
              refine g_get d_R_copy_52 f_R_71 hs.obj rfl ?_
              refine g_iload (j := 0) d_R_copy_55 rfl ?_
              refine r_iald (k := 20) (j := (4 * c) + f) d_R_copy_57 hs (by decide) rfl rfl (show (4 * c) + f < 16 by omega) ?_
              refine g_aload_n (j := 1) d_R_copy_58 rfl ?_
              refine g_get d_R_copy_59 f_R_37 hs.obj rfl ?_
              refine g_iload_n (j := 2) d_R_copy_62 rfl ?_
              refine r_iald (k := 9) (j := c) d_R_copy_63 hs (by decide) rfl rfl (show c < 4 by omega) ?_
              refine g_callS (c_R_rest (t.2 20 ((4 * c) + f)) (t.2 9 c)) ok_R_rest lk_R_183 st_R_rest d_R_copy_64 rfl rfl (Nat.le_of_ble_eq_true rfl) ⟨(Nat.le_of_ble_eq_true rfl), (Nat.le_of_ble_eq_true rfl)⟩ (Nat.le_of_ble_eq_true rfl) (Nat.le_of_ble_eq_true rfl) (fun r w' hq => ?_)
              obtain ⟨rfl, rfl⟩ := hq
              refine g_goto (tgt := 92) d_R_copy_67 (by decide) ?_
              have hz : s_R_copy t c f x = s_R_rest (t.2 20 ((4 * c) + f)) (t.2 9 c) := by
                unfold s_R_copy
                rw [if_neg h1, if_neg h2, if_neg h3, if_neg h4, if_pos h5, if_pos h6]
              exact g_ireturn d_R_copy_92 rfl (Nat.le_of_ble_eq_true rfl) (Nat.le_of_ble_eq_true rfl) ⟨by rw [hz], rfl⟩
          · skip
            refine g_iconst (v := (-1)) d_R_copy_38 (by decide) ?_
            have hz : s_R_copy t c f x = (-1) := by
              unfold s_R_copy
              rw [if_neg h1, if_neg h2, if_neg h3, if_neg h4, if_neg h5]
            exact g_ireturn d_R_copy_39 rfl (Nat.le_of_ble_eq_true rfl) (Nat.le_of_ble_eq_true rfl) ⟨by rw [hz], rfl⟩

def s_R_lease (t : tR) (c : Nat) (f : Nat) : Int32 :=
  if s_R_isClient t (nI c) = 0 then
    (-1)
  else
    if s_R_isFile t (nI f) = 0 then
      (-1)
    else
      s_R_rest (t.2 2 ((4 * c) + f)) (t.1 4)
set_option maxHeartbeats 4000000 in
set_option maxRecDepth 100000 in
theorem c_R_lease {E : gE} {w : wd} {ad : Nat → Nat} {t : tR} (hs : SysR E ad t w) (c : Nat) (f : Nat) (hc : c < 4) (hf : f < 4) : Cn E y_R_lease 2 0 0 [.ref (ad 0), .int (nI c), .int (nI f)] w (fun r w' => r = some (.int (s_R_lease t c f)) ∧ w' = w) := by
  refine Cn.of (by decide) (Nat.le_of_ble_eq_true rfl) (fun A => ?_)
  show G E y_R_lease _ 0 [(0, .ref (ad 0)), (1, .int (nI c)), (2, .int (nI f))] [] w 0 0
  refine g_aload_n (j := 0) d_R_lease_0 rfl ?_
  refine g_iload_n (j := 1) d_R_lease_1 rfl ?_
  refine g_callV (c_R_isClient hs (nI c)) ok_R_isClient lk_R_103 in_R_isClient se_R_isClient hs.obj rfl d_R_lease_2 rfl rfl (Nat.le_of_ble_eq_true rfl) ⟨(Nat.le_of_ble_eq_true rfl), (Nat.le_of_ble_eq_true rfl)⟩ (Nat.le_of_ble_eq_true rfl) (Nat.le_of_ble_eq_true rfl) (fun r w' hq => ?_)
  obtain ⟨rfl, rfl⟩ := hq
  refine g_if_eq (tgt := 36) d_R_lease_5 (by decide) (fun h1 => ?_) (fun h1 => ?_)
  · skip
    refine g_iconst (v := (-1)) d_R_lease_36 (by decide) ?_
    have hz : s_R_lease t c f = (-1) := by
      unfold s_R_lease
      rw [if_pos h1]
    exact g_ireturn d_R_lease_37 rfl (Nat.le_of_ble_eq_true rfl) (Nat.le_of_ble_eq_true rfl) ⟨by rw [hz], rfl⟩
  · skip
    refine g_aload_n (j := 0) d_R_lease_8 rfl ?_
    refine g_iload_n (j := 2) d_R_lease_9 rfl ?_
    refine g_callV (c_R_isFile hs (nI f)) ok_R_isFile lk_R_107 in_R_isFile se_R_isFile hs.obj rfl d_R_lease_10 rfl rfl (Nat.le_of_ble_eq_true rfl) ⟨(Nat.le_of_ble_eq_true rfl), (Nat.le_of_ble_eq_true rfl)⟩ (Nat.le_of_ble_eq_true rfl) (Nat.le_of_ble_eq_true rfl) (fun r w' hq => ?_)
    obtain ⟨rfl, rfl⟩ := hq
    refine g_if_eq (tgt := 36) d_R_lease_13 (by decide) (fun h2 => ?_) (fun h2 => ?_)
    · skip
      refine g_iconst (v := (-1)) d_R_lease_36 (by decide) ?_
      have hz : s_R_lease t c f = (-1) := by
        unfold s_R_lease
        rw [if_neg h1, if_pos h2]
      exact g_ireturn d_R_lease_37 rfl (Nat.le_of_ble_eq_true rfl) (Nat.le_of_ble_eq_true rfl) ⟨by rw [hz], rfl⟩
    · skip
      refine g_aload_n (j := 0) d_R_lease_16 rfl ?_
      refine g_get d_R_lease_17 f_R_16 hs.obj rfl ?_
      refine g_iconst (v := 4) d_R_lease_20 (by decide) ?_
      refine g_iload_n (j := 1) d_R_lease_21 rfl ?_
      refine g_imul d_R_lease_22 ?_
      refine g_norm (y := nI (4 * c)) (pk_mul 4 c) ?_
      refine g_iload_n (j := 2) d_R_lease_23 rfl ?_
      refine g_iadd d_R_lease_24 ?_
      refine g_norm (y := nI ((4 * c) + f)) (nI_add (4 * c) f) ?_
      refine r_iald (k := 2) (j := (4 * c) + f) d_R_lease_25 hs (by decide) rfl rfl (show (4 * c) + f < 16 by omega) ?_
      refine g_aload_n (j := 0) d_R_lease_26 rfl ?_
      refine g_get d_R_lease_27 f_R_122 hs.obj rfl ?_
      refine g_callS (c_R_rest (t.2 2 ((4 * c) + f)) (t.1 4)) ok_R_rest lk_R_183 st_R_rest d_R_lease_30 rfl rfl (Nat.le_of_ble_eq_true rfl) ⟨(Nat.le_of_ble_eq_true rfl), (Nat.le_of_ble_eq_true rfl)⟩ (Nat.le_of_ble_eq_true rfl) (Nat.le_of_ble_eq_true rfl) (fun r w' hq => ?_)
      obtain ⟨rfl, rfl⟩ := hq
      refine g_goto (tgt := 37) d_R_lease_33 (by decide) ?_
      have hz : s_R_lease t c f = s_R_rest (t.2 2 ((4 * c) + f)) (t.1 4) := by
        unfold s_R_lease
        rw [if_neg h1, if_neg h2]
      exact g_ireturn d_R_lease_37 rfl (Nat.le_of_ble_eq_true rfl) (Nat.le_of_ble_eq_true rfl) ⟨by rw [hz], rfl⟩

def s_R_server (t : tR) (x : Int32) : Int32 :=
  if x = 0 then
    t.1 4
  else
    if x = 1 then
      if t.1 5 = 0 then
        1
      else
        0
    else
      if x = 2 then
        t.1 6
      else
        if x = 3 then
          s_R_rest (t.1 7) (t.1 4)
        else
          (-1)
set_option maxHeartbeats 4000000 in
set_option maxRecDepth 100000 in
theorem c_R_server {E : gE} {w : wd} {ad : Nat → Nat} {t : tR} (hs : SysR E ad t w) (x : Int32) : Cn E y_R_server 2 0 0 [.ref (ad 0), .int x] w (fun r w' => r = some (.int (s_R_server t x)) ∧ w' = w) := by
  refine Cn.of (by decide) (Nat.le_of_ble_eq_true rfl) (fun A => ?_)
  show G E y_R_server _ 0 [(0, .ref (ad 0)), (1, .int x)] [] w 0 0
  refine g_iload_n (j := 1) d_R_server_0 rfl ?_
  refine g_if_ne (tgt := 11) d_R_server_1 (by decide) (fun h1 => ?_) (fun h1 => ?_)
  · skip
    refine g_iload_n (j := 1) d_R_server_11 rfl ?_
    refine g_iconst (v := 1) d_R_server_12 (by decide) ?_
    refine g_icmp_ne (tgt := 31) d_R_server_13 (by decide) (fun h2 => ?_) (fun h2 => ?_)
    · skip
      refine g_iload_n (j := 1) d_R_server_31 rfl ?_
      refine g_iconst (v := 2) d_R_server_32 (by decide) ?_
      refine g_icmp_ne (tgt := 43) d_R_server_33 (by decide) (fun h3 => ?_) (fun h3 => ?_)
      · skip
        refine g_iload_n (j := 1) d_R_server_43 rfl ?_
        refine g_iconst (v := 3) d_R_server_44 (by decide) ?_
        refine g_icmp_ne (tgt := 62) d_R_server_45 (by decide) (fun h4 => ?_) (fun h4 => ?_)
        · skip
          refine g_iconst (v := (-1)) d_R_server_62 (by decide) ?_
          have hz : s_R_server t x = (-1) := by
            unfold s_R_server
            rw [if_neg h1, if_neg h2, if_neg h3, if_neg h4]
          exact g_ireturn d_R_server_63 rfl (Nat.le_of_ble_eq_true rfl) (Nat.le_of_ble_eq_true rfl) ⟨by rw [hz], rfl⟩
        · skip
          refine g_aload_n (j := 0) d_R_server_48 rfl ?_
          refine g_get d_R_server_49 f_R_139 hs.obj rfl ?_
          refine g_aload_n (j := 0) d_R_server_52 rfl ?_
          refine g_get d_R_server_53 f_R_122 hs.obj rfl ?_
          refine g_callS (c_R_rest (t.1 7) (t.1 4)) ok_R_rest lk_R_183 st_R_rest d_R_server_56 rfl rfl (Nat.le_of_ble_eq_true rfl) ⟨(Nat.le_of_ble_eq_true rfl), (Nat.le_of_ble_eq_true rfl)⟩ (Nat.le_of_ble_eq_true rfl) (Nat.le_of_ble_eq_true rfl) (fun r w' hq => ?_)
          obtain ⟨rfl, rfl⟩ := hq
          refine g_goto (tgt := 63) d_R_server_59 (by decide) ?_
          have hz : s_R_server t x = s_R_rest (t.1 7) (t.1 4) := by
            unfold s_R_server
            rw [if_neg h1, if_neg h2, if_neg h3, if_pos h4]
          exact g_ireturn d_R_server_63 rfl (Nat.le_of_ble_eq_true rfl) (Nat.le_of_ble_eq_true rfl) ⟨by rw [hz], rfl⟩
      · skip
        refine g_aload_n (j := 0) d_R_server_36 rfl ?_
        refine g_get d_R_server_37 f_R_136 hs.obj rfl ?_
        refine g_goto (tgt := 63) d_R_server_40 (by decide) ?_
        have hz : s_R_server t x = t.1 6 := by
          unfold s_R_server
          rw [if_neg h1, if_neg h2, if_pos h3]
        exact g_ireturn d_R_server_63 rfl (Nat.le_of_ble_eq_true rfl) (Nat.le_of_ble_eq_true rfl) ⟨by rw [hz], rfl⟩
    · skip
      refine g_aload_n (j := 0) d_R_server_16 rfl ?_
      refine g_get d_R_server_17 f_R_165 hs.obj rfl ?_
      refine g_if_eq (tgt := 27) d_R_server_20 (by decide) (fun h5 => ?_) (fun h5 => ?_)
      · skip
        refine g_iconst (v := 1) d_R_server_27 (by decide) ?_
        refine g_goto (tgt := 63) d_R_server_28 (by decide) ?_
        have hz : s_R_server t x = 1 := by
          unfold s_R_server
          rw [if_neg h1, if_pos h2, if_pos h5]
        exact g_ireturn d_R_server_63 rfl (Nat.le_of_ble_eq_true rfl) (Nat.le_of_ble_eq_true rfl) ⟨by rw [hz], rfl⟩
      · skip
        refine g_iconst (v := 0) d_R_server_23 (by decide) ?_
        refine g_goto (tgt := 63) d_R_server_24 (by decide) ?_
        have hz : s_R_server t x = 0 := by
          unfold s_R_server
          rw [if_neg h1, if_pos h2, if_neg h5]
        exact g_ireturn d_R_server_63 rfl (Nat.le_of_ble_eq_true rfl) (Nat.le_of_ble_eq_true rfl) ⟨by rw [hz], rfl⟩
  · skip
    refine g_aload_n (j := 0) d_R_server_4 rfl ?_
    refine g_get d_R_server_5 f_R_122 hs.obj rfl ?_
    refine g_goto (tgt := 63) d_R_server_8 (by decide) ?_
    have hz : s_R_server t x = t.1 4 := by
      unfold s_R_server
      rw [if_pos h1]
    exact g_ireturn d_R_server_63 rfl (Nat.le_of_ble_eq_true rfl) (Nat.le_of_ble_eq_true rfl) ⟨by rw [hz], rfl⟩

def s_R_client (t : tR) (c : Nat) (x : Int32) : Int32 :=
  if s_R_isClient t (nI c) = 0 then
    (-1)
  else
    if t.2 11 c = 2 then
      if t.2 12 c = 0 then
        if t.2 16 c = 0 then
          if x = 0 then
            t.2 10 c
          else
            if x = 1 then
              if (0 : Int32) = 0 then
                0
              else
                1
            else
              t.2 9 c
        else
          if x = 0 then
            t.2 10 c
          else
            if x = 1 then
              if (1 : Int32) = 0 then
                0
              else
                1
            else
              t.2 9 c
      else
        if x = 0 then
          t.2 10 c
        else
          if x = 1 then
            if (0 : Int32) = 0 then
              0
            else
              1
          else
            t.2 9 c
    else
      if x = 0 then
        t.2 10 c
      else
        if x = 1 then
          if (0 : Int32) = 0 then
            0
          else
            1
        else
          t.2 9 c
set_option maxHeartbeats 4000000 in
set_option maxRecDepth 100000 in
theorem c_R_client {E : gE} {w : wd} {ad : Nat → Nat} {t : tR} (hs : SysR E ad t w) (c : Nat) (x : Int32) (hc : c < 4) : Cn E y_R_client 2 0 0 [.ref (ad 0), .int (nI c), .int x] w (fun r w' => r = some (.int (s_R_client t c x)) ∧ w' = w) := by
  refine Cn.of (by decide) (Nat.le_of_ble_eq_true rfl) (fun A => ?_)
  show G E y_R_client _ 0 [(0, .ref (ad 0)), (1, .int (nI c)), (2, .int x)] [] w 0 0
  refine g_aload_n (j := 0) d_R_client_0 rfl ?_
  refine g_iload_n (j := 1) d_R_client_1 rfl ?_
  refine g_callV (c_R_isClient hs (nI c)) ok_R_isClient lk_R_103 in_R_isClient se_R_isClient hs.obj rfl d_R_client_2 rfl rfl (Nat.le_of_ble_eq_true rfl) ⟨(Nat.le_of_ble_eq_true rfl), (Nat.le_of_ble_eq_true rfl)⟩ (Nat.le_of_ble_eq_true rfl) (Nat.le_of_ble_eq_true rfl) (fun r w' hq => ?_)
  obtain ⟨rfl, rfl⟩ := hq
  refine g_if_ne (tgt := 10) d_R_client_5 (by decide) (fun h1 => ?_) (fun h1 => ?_)
  · skip
    refine g_aload_n (j := 0) d_R_client_10 rfl ?_
    refine g_get d_R_client_11 f_R_43 hs.obj rfl ?_
    refine g_iload_n (j := 1) d_R_client_14 rfl ?_
    refine r_iald (k := 11) (j := c) d_R_client_15 hs (by decide) rfl rfl (show c < 4 by omega) ?_
    refine g_iconst (v := 2) d_R_client_16 (by decide) ?_
    refine g_icmp_ne (tgt := 42) d_R_client_17 (by decide) (fun h2 => ?_) (fun h2 => ?_)
    · skip
      refine g_iconst (v := 0) d_R_client_42 (by decide) ?_
      refine g_istore_n (lv' := [(3, _), (0, _), (1, _), (2, _)]) d_R_client_43 (by decide) rfl ?_
      refine g_iload_n (j := 3) d_R_client_44 rfl ?_
      refine g_if_ne (tgt := 57) d_R_client_45 (by decide) (fun h3 => ?_) (fun h3 => ?_)
      · skip
        refine g_iload_n (j := 3) d_R_client_57 rfl ?_
        refine g_iconst (v := 1) d_R_client_58 (by decide) ?_
        refine g_icmp_ne (tgt := 74) d_R_client_59 (by decide) (fun h4 => ?_) (fun h4 => ?_)
        · skip
          refine g_aload_n (j := 1) d_R_client_74 rfl ?_
          refine g_get d_R_client_75 f_R_37 hs.obj rfl ?_
          refine g_iload_n (j := 2) d_R_client_78 rfl ?_
          refine r_iald (k := 9) (j := c) d_R_client_79 hs (by decide) rfl rfl (show c < 4 by omega) ?_
          have hz : s_R_client t c x = t.2 9 c := by
            unfold s_R_client
            rw [if_neg h1, if_neg h2, if_neg h3, if_neg h4]
          exact g_ireturn d_R_client_80 rfl (Nat.le_of_ble_eq_true rfl) (Nat.le_of_ble_eq_true rfl) ⟨by rw [hz], rfl⟩
        · skip
          refine g_iload_n (j := 0) d_R_client_62 rfl ?_
          refine g_if_eq (tgt := 70) d_R_client_63 (by decide) (fun h5 => ?_) (fun h5 => ?_)
          · skip
            refine g_iconst (v := 0) d_R_client_70 (by decide) ?_
            refine g_goto (tgt := 80) d_R_client_71 (by decide) ?_
            have hz : s_R_client t c x = 0 := by
              unfold s_R_client
              rw [if_neg h1, if_neg h2, if_neg h3, if_pos h4, if_pos h5]
            exact g_ireturn d_R_client_80 rfl (Nat.le_of_ble_eq_true rfl) (Nat.le_of_ble_eq_true rfl) ⟨by rw [hz], rfl⟩
          · skip
            refine g_iconst (v := 1) d_R_client_66 (by decide) ?_
            refine g_goto (tgt := 80) d_R_client_67 (by decide) ?_
            have hz : s_R_client t c x = 1 := by
              unfold s_R_client
              rw [if_neg h1, if_neg h2, if_neg h3, if_pos h4, if_neg h5]
            exact g_ireturn d_R_client_80 rfl (Nat.le_of_ble_eq_true rfl) (Nat.le_of_ble_eq_true rfl) ⟨by rw [hz], rfl⟩
      · skip
        refine g_aload_n (j := 1) d_R_client_48 rfl ?_
        refine g_get d_R_client_49 f_R_40 hs.obj rfl ?_
        refine g_iload_n (j := 2) d_R_client_52 rfl ?_
        refine r_iald (k := 10) (j := c) d_R_client_53 hs (by decide) rfl rfl (show c < 4 by omega) ?_
        refine g_goto (tgt := 80) d_R_client_54 (by decide) ?_
        have hz : s_R_client t c x = t.2 10 c := by
          unfold s_R_client
          rw [if_neg h1, if_neg h2, if_pos h3]
        exact g_ireturn d_R_client_80 rfl (Nat.le_of_ble_eq_true rfl) (Nat.le_of_ble_eq_true rfl) ⟨by rw [hz], rfl⟩
    · skip
      refine g_aload_n (j := 0) d_R_client_20 rfl ?_
      refine g_get d_R_client_21 f_R_46 hs.obj rfl ?_
      refine g_iload_n (j := 1) d_R_client_24 rfl ?_
      refine r_zald (k := 12) (j := c) d_R_client_25 hs (by decide) rfl rfl (show c < 4 by omega) ?_
      refine g_if_ne (tgt := 42) d_R_client_26 (by decide) (fun h6 => ?_) (fun h6 => ?_)
      · skip
        refine g_iconst (v := 0) d_R_client_42 (by decide) ?_
        refine g_istore_n (lv' := [(3, _), (0, _), (1, _), (2, _)]) d_R_client_43 (by decide) rfl ?_
        refine g_iload_n (j := 3) d_R_client_44 rfl ?_
        refine g_if_ne (tgt := 57) d_R_client_45 (by decide) (fun h7 => ?_) (fun h7 => ?_)
        · skip
          refine g_iload_n (j := 3) d_R_client_57 rfl ?_
          refine g_iconst (v := 1) d_R_client_58 (by decide) ?_
          refine g_icmp_ne (tgt := 74) d_R_client_59 (by decide) (fun h8 => ?_) (fun h8 => ?_)
          · skip
            refine g_aload_n (j := 1) d_R_client_74 rfl ?_
            refine g_get d_R_client_75 f_R_37 hs.obj rfl ?_
            refine g_iload_n (j := 2) d_R_client_78 rfl ?_
            refine r_iald (k := 9) (j := c) d_R_client_79 hs (by decide) rfl rfl (show c < 4 by omega) ?_
            have hz : s_R_client t c x = t.2 9 c := by
              unfold s_R_client
              rw [if_neg h1, if_pos h2, if_neg h6, if_neg h7, if_neg h8]
            exact g_ireturn d_R_client_80 rfl (Nat.le_of_ble_eq_true rfl) (Nat.le_of_ble_eq_true rfl) ⟨by rw [hz], rfl⟩
          · skip
            refine g_iload_n (j := 0) d_R_client_62 rfl ?_
            refine g_if_eq (tgt := 70) d_R_client_63 (by decide) (fun h9 => ?_) (fun h9 => ?_)
            · skip
              refine g_iconst (v := 0) d_R_client_70 (by decide) ?_
              refine g_goto (tgt := 80) d_R_client_71 (by decide) ?_
              have hz : s_R_client t c x = 0 := by
                unfold s_R_client
                rw [if_neg h1, if_pos h2, if_neg h6, if_neg h7, if_pos h8, if_pos h9]
              exact g_ireturn d_R_client_80 rfl (Nat.le_of_ble_eq_true rfl) (Nat.le_of_ble_eq_true rfl) ⟨by rw [hz], rfl⟩
            · skip
              refine g_iconst (v := 1) d_R_client_66 (by decide) ?_
              refine g_goto (tgt := 80) d_R_client_67 (by decide) ?_
              have hz : s_R_client t c x = 1 := by
                unfold s_R_client
                rw [if_neg h1, if_pos h2, if_neg h6, if_neg h7, if_pos h8, if_neg h9]
              exact g_ireturn d_R_client_80 rfl (Nat.le_of_ble_eq_true rfl) (Nat.le_of_ble_eq_true rfl) ⟨by rw [hz], rfl⟩
        · skip
          refine g_aload_n (j := 1) d_R_client_48 rfl ?_
          refine g_get d_R_client_49 f_R_40 hs.obj rfl ?_
          refine g_iload_n (j := 2) d_R_client_52 rfl ?_
          refine r_iald (k := 10) (j := c) d_R_client_53 hs (by decide) rfl rfl (show c < 4 by omega) ?_
          refine g_goto (tgt := 80) d_R_client_54 (by decide) ?_
          have hz : s_R_client t c x = t.2 10 c := by
            unfold s_R_client
            rw [if_neg h1, if_pos h2, if_neg h6, if_pos h7]
          exact g_ireturn d_R_client_80 rfl (Nat.le_of_ble_eq_true rfl) (Nat.le_of_ble_eq_true rfl) ⟨by rw [hz], rfl⟩
      · skip
        refine g_aload_n (j := 0) d_R_client_29 rfl ?_
        refine g_get d_R_client_30 f_R_59 hs.obj rfl ?_
        refine g_iload_n (j := 1) d_R_client_33 rfl ?_
        refine r_zald (k := 16) (j := c) d_R_client_34 hs (by decide) rfl rfl (show c < 4 by omega) ?_
        refine g_if_eq (tgt := 42) d_R_client_35 (by decide) (fun h10 => ?_) (fun h10 => ?_)
        · skip
          refine g_iconst (v := 0) d_R_client_42 (by decide) ?_
          refine g_istore_n (lv' := [(3, _), (0, _), (1, _), (2, _)]) d_R_client_43 (by decide) rfl ?_
          refine g_iload_n (j := 3) d_R_client_44 rfl ?_
          refine g_if_ne (tgt := 57) d_R_client_45 (by decide) (fun h11 => ?_) (fun h11 => ?_)
          · skip
            refine g_iload_n (j := 3) d_R_client_57 rfl ?_
            refine g_iconst (v := 1) d_R_client_58 (by decide) ?_
            refine g_icmp_ne (tgt := 74) d_R_client_59 (by decide) (fun h12 => ?_) (fun h12 => ?_)
            · skip
              refine g_aload_n (j := 1) d_R_client_74 rfl ?_
              refine g_get d_R_client_75 f_R_37 hs.obj rfl ?_
              refine g_iload_n (j := 2) d_R_client_78 rfl ?_
              refine r_iald (k := 9) (j := c) d_R_client_79 hs (by decide) rfl rfl (show c < 4 by omega) ?_
              have hz : s_R_client t c x = t.2 9 c := by
                unfold s_R_client
                rw [if_neg h1, if_pos h2, if_pos h6, if_pos h10, if_neg h11, if_neg h12]
              exact g_ireturn d_R_client_80 rfl (Nat.le_of_ble_eq_true rfl) (Nat.le_of_ble_eq_true rfl) ⟨by rw [hz], rfl⟩
            · skip
              refine g_iload_n (j := 0) d_R_client_62 rfl ?_
              refine g_if_eq (tgt := 70) d_R_client_63 (by decide) (fun h13 => ?_) (fun h13 => ?_)
              · skip
                refine g_iconst (v := 0) d_R_client_70 (by decide) ?_
                refine g_goto (tgt := 80) d_R_client_71 (by decide) ?_
                have hz : s_R_client t c x = 0 := by
                  unfold s_R_client
                  rw [if_neg h1, if_pos h2, if_pos h6, if_pos h10, if_neg h11, if_pos h12, if_pos h13]
                exact g_ireturn d_R_client_80 rfl (Nat.le_of_ble_eq_true rfl) (Nat.le_of_ble_eq_true rfl) ⟨by rw [hz], rfl⟩
              · skip
                refine g_iconst (v := 1) d_R_client_66 (by decide) ?_
                refine g_goto (tgt := 80) d_R_client_67 (by decide) ?_
                have hz : s_R_client t c x = 1 := by
                  unfold s_R_client
                  rw [if_neg h1, if_pos h2, if_pos h6, if_pos h10, if_neg h11, if_pos h12, if_neg h13]
                exact g_ireturn d_R_client_80 rfl (Nat.le_of_ble_eq_true rfl) (Nat.le_of_ble_eq_true rfl) ⟨by rw [hz], rfl⟩
          · skip
            refine g_aload_n (j := 1) d_R_client_48 rfl ?_
            refine g_get d_R_client_49 f_R_40 hs.obj rfl ?_
            refine g_iload_n (j := 2) d_R_client_52 rfl ?_
            refine r_iald (k := 10) (j := c) d_R_client_53 hs (by decide) rfl rfl (show c < 4 by omega) ?_
            refine g_goto (tgt := 80) d_R_client_54 (by decide) ?_
            have hz : s_R_client t c x = t.2 10 c := by
              unfold s_R_client
              rw [if_neg h1, if_pos h2, if_pos h6, if_pos h10, if_pos h11]
            exact g_ireturn d_R_client_80 rfl (Nat.le_of_ble_eq_true rfl) (Nat.le_of_ble_eq_true rfl) ⟨by rw [hz], rfl⟩
        · skip
          refine g_iconst (v := 1) d_R_client_38 (by decide) ?_
          refine g_goto (tgt := 43) d_R_client_39 (by decide) ?_
          refine g_istore_n (lv' := [(3, _), (0, _), (1, _), (2, _)]) d_R_client_43 (by decide) rfl ?_
          refine g_iload_n (j := 3) d_R_client_44 rfl ?_
          refine g_if_ne (tgt := 57) d_R_client_45 (by decide) (fun h14 => ?_) (fun h14 => ?_)
          · skip
            refine g_iload_n (j := 3) d_R_client_57 rfl ?_
            refine g_iconst (v := 1) d_R_client_58 (by decide) ?_
            refine g_icmp_ne (tgt := 74) d_R_client_59 (by decide) (fun h15 => ?_) (fun h15 => ?_)
            · skip
              refine g_aload_n (j := 1) d_R_client_74 rfl ?_
              refine g_get d_R_client_75 f_R_37 hs.obj rfl ?_
              refine g_iload_n (j := 2) d_R_client_78 rfl ?_
              refine r_iald (k := 9) (j := c) d_R_client_79 hs (by decide) rfl rfl (show c < 4 by omega) ?_
              have hz : s_R_client t c x = t.2 9 c := by
                unfold s_R_client
                rw [if_neg h1, if_pos h2, if_pos h6, if_neg h10, if_neg h14, if_neg h15]
              exact g_ireturn d_R_client_80 rfl (Nat.le_of_ble_eq_true rfl) (Nat.le_of_ble_eq_true rfl) ⟨by rw [hz], rfl⟩
            · skip
              refine g_iload_n (j := 0) d_R_client_62 rfl ?_
              refine g_if_eq (tgt := 70) d_R_client_63 (by decide) (fun h16 => ?_) (fun h16 => ?_)
              · skip
                refine g_iconst (v := 0) d_R_client_70 (by decide) ?_
                refine g_goto (tgt := 80) d_R_client_71 (by decide) ?_
                have hz : s_R_client t c x = 0 := by
                  unfold s_R_client
                  rw [if_neg h1, if_pos h2, if_pos h6, if_neg h10, if_neg h14, if_pos h15, if_pos h16]
                exact g_ireturn d_R_client_80 rfl (Nat.le_of_ble_eq_true rfl) (Nat.le_of_ble_eq_true rfl) ⟨by rw [hz], rfl⟩
              · skip
                refine g_iconst (v := 1) d_R_client_66 (by decide) ?_
                refine g_goto (tgt := 80) d_R_client_67 (by decide) ?_
                have hz : s_R_client t c x = 1 := by
                  unfold s_R_client
                  rw [if_neg h1, if_pos h2, if_pos h6, if_neg h10, if_neg h14, if_pos h15, if_neg h16]
                exact g_ireturn d_R_client_80 rfl (Nat.le_of_ble_eq_true rfl) (Nat.le_of_ble_eq_true rfl) ⟨by rw [hz], rfl⟩
          · skip
            refine g_aload_n (j := 1) d_R_client_48 rfl ?_
            refine g_get d_R_client_49 f_R_40 hs.obj rfl ?_
            refine g_iload_n (j := 2) d_R_client_52 rfl ?_
            refine r_iald (k := 10) (j := c) d_R_client_53 hs (by decide) rfl rfl (show c < 4 by omega) ?_
            refine g_goto (tgt := 80) d_R_client_54 (by decide) ?_
            have hz : s_R_client t c x = t.2 10 c := by
              unfold s_R_client
              rw [if_neg h1, if_pos h2, if_pos h6, if_neg h10, if_pos h14]
            exact g_ireturn d_R_client_80 rfl (Nat.le_of_ble_eq_true rfl) (Nat.le_of_ble_eq_true rfl) ⟨by rw [hz], rfl⟩
  · skip
    refine g_iconst (v := (-1)) d_R_client_8 (by decide) ?_
    have hz : s_R_client t c x = (-1) := by
      unfold s_R_client
      rw [if_pos h1]
    exact g_ireturn d_R_client_9 rfl (Nat.le_of_ble_eq_true rfl) (Nat.le_of_ble_eq_true rfl) ⟨by rw [hz], rfl⟩

def s_R_message (t : tR) (k : Nat) (j : Nat) : Int32 :=
  if s_R_isMessage t (nI k) = 0 then
    (-1)
  else
    if nI j < 0 then
      (-1)
    else
      if 6 < nI j then
        (-1)
      else
        t.2 23 ((7 * k) + j)
set_option maxHeartbeats 4000000 in
set_option maxRecDepth 100000 in
theorem c_R_message {E : gE} {w : wd} {ad : Nat → Nat} {t : tR} (hs : SysR E ad t w) (k : Nat) (j : Nat) (hk : k < 64) (hj : j ≤ 6) : Cn E y_R_message 2 0 0 [.ref (ad 0), .int (nI k), .int (nI j)] w (fun r w' => r = some (.int (s_R_message t k j)) ∧ w' = w) := by
  refine Cn.of (by decide) (Nat.le_of_ble_eq_true rfl) (fun A => ?_)
  show G E y_R_message _ 0 [(0, .ref (ad 0)), (1, .int (nI k)), (2, .int (nI j))] [] w 0 0
  refine g_aload_n (j := 0) d_R_message_0 rfl ?_
  refine g_iload_n (j := 1) d_R_message_1 rfl ?_
  refine g_callV (c_R_isMessage hs (nI k)) ok_R_isMessage lk_R_148 in_R_isMessage se_R_isMessage hs.obj rfl d_R_message_2 rfl rfl (Nat.le_of_ble_eq_true rfl) ⟨(Nat.le_of_ble_eq_true rfl), (Nat.le_of_ble_eq_true rfl)⟩ (Nat.le_of_ble_eq_true rfl) (Nat.le_of_ble_eq_true rfl) (fun r w' hq => ?_)
  obtain ⟨rfl, rfl⟩ := hq
  refine g_if_eq (tgt := 32) d_R_message_5 (by decide) (fun h1 => ?_) (fun h1 => ?_)
  · skip
    refine g_iconst (v := (-1)) d_R_message_32 (by decide) ?_
    have hz : s_R_message t k j = (-1) := by
      unfold s_R_message
      rw [if_pos h1]
    exact g_ireturn d_R_message_33 rfl (Nat.le_of_ble_eq_true rfl) (Nat.le_of_ble_eq_true rfl) ⟨by rw [hz], rfl⟩
  · skip
    refine g_iload_n (j := 2) d_R_message_8 rfl ?_
    refine g_if_lt (tgt := 32) d_R_message_9 (by decide) (fun h2 => ?_) (fun h2 => ?_)
    · skip
      refine g_iconst (v := (-1)) d_R_message_32 (by decide) ?_
      have hz : s_R_message t k j = (-1) := by
        unfold s_R_message
        rw [if_neg h1, if_pos h2]
      exact g_ireturn d_R_message_33 rfl (Nat.le_of_ble_eq_true rfl) (Nat.le_of_ble_eq_true rfl) ⟨by rw [hz], rfl⟩
    · skip
      refine g_iload_n (j := 2) d_R_message_12 rfl ?_
      refine g_bipush (v := 6) d_R_message_13 (by decide) ?_
      refine g_icmp_gt (tgt := 32) d_R_message_15 (by decide) (fun h3 => ?_) (fun h3 => ?_)
      · skip
        refine g_iconst (v := (-1)) d_R_message_32 (by decide) ?_
        have hz : s_R_message t k j = (-1) := by
          unfold s_R_message
          rw [if_neg h1, if_neg h2, if_pos h3]
        exact g_ireturn d_R_message_33 rfl (Nat.le_of_ble_eq_true rfl) (Nat.le_of_ble_eq_true rfl) ⟨by rw [hz], rfl⟩
      · skip
        refine g_aload_n (j := 0) d_R_message_18 rfl ?_
        refine g_get d_R_message_19 f_R_80 hs.obj rfl ?_
        refine g_bipush (v := 7) d_R_message_22 (by decide) ?_
        refine g_iload_n (j := 1) d_R_message_24 rfl ?_
        refine g_imul d_R_message_25 ?_
        refine g_norm (y := nI (7 * k)) (pk_mul 7 k) ?_
        refine g_iload_n (j := 2) d_R_message_26 rfl ?_
        refine g_iadd d_R_message_27 ?_
        refine g_norm (y := nI ((7 * k) + j)) (nI_add (7 * k) j) ?_
        refine r_iald (k := 23) (j := (7 * k) + j) d_R_message_28 hs (by decide) rfl rfl (show (7 * k) + j < 448 by omega) ?_
        refine g_goto (tgt := 33) d_R_message_29 (by decide) ?_
        have hz : s_R_message t k j = t.2 23 ((7 * k) + j) := by
          unfold s_R_message
          rw [if_neg h1, if_neg h2, if_neg h3]
        exact g_ireturn d_R_message_33 rfl (Nat.le_of_ble_eq_true rfl) (Nat.le_of_ble_eq_true rfl) ⟨by rw [hz], rfl⟩
end
section
set_option maxHeartbeats 4000000 in
set_option maxRecDepth 100000 in
theorem c_R_read_bad {E : gE} {w : wd} {ad : Nat → Nat} {t : tR} (hs : SysR E ad t w) (x y : Int32) (hbad : s_R_isClient t x = 0 ∨ s_R_isFile t y = 0) : Cn E y_R_read 3 0 0 [.ref (ad 0), .int x, .int y] w (fun r w' => r = some (.int (-1)) ∧ w' = w) := by
  refine Cn.of (by decide) (Nat.le_of_ble_eq_true rfl) (fun A => ?_)
  show G E y_R_read _ 0 [(0, .ref (ad 0)), (1, .int x), (2, .int y)] [] w 0 0
  refine g_aload_n (j := 0) d_R_read_0 rfl ?_
  refine g_iload_n (j := 1) d_R_read_1 rfl ?_
  refine g_callV (c_R_isClient hs x) ok_R_isClient lk_R_103 in_R_isClient se_R_isClient hs.obj rfl d_R_read_2 rfl rfl (Nat.le_of_ble_eq_true rfl) ⟨(Nat.le_of_ble_eq_true rfl), (Nat.le_of_ble_eq_true rfl)⟩ (Nat.le_of_ble_eq_true rfl) (Nat.le_of_ble_eq_true rfl) (fun r w' hq => ?_)
  obtain ⟨rfl, rfl⟩ := hq
  refine g_if_eq (tgt := 16) d_R_read_5 (by decide) (fun h1 => ?_) (fun h1 => ?_)
  · skip
    refine g_iconst (v := (-1)) d_R_read_16 (by decide) ?_
    exact g_ireturn d_R_read_17 rfl (Nat.le_of_ble_eq_true rfl) (Nat.le_of_ble_eq_true rfl) ⟨rfl, rfl⟩
  · skip
    refine g_aload_n (j := 0) d_R_read_8 rfl ?_
    refine g_iload_n (j := 2) d_R_read_9 rfl ?_
    refine g_callV (c_R_isFile hs y) ok_R_isFile lk_R_107 in_R_isFile se_R_isFile hs.obj rfl d_R_read_10 rfl rfl (Nat.le_of_ble_eq_true rfl) ⟨(Nat.le_of_ble_eq_true rfl), (Nat.le_of_ble_eq_true rfl)⟩ (Nat.le_of_ble_eq_true rfl) (Nat.le_of_ble_eq_true rfl) (fun r w' hq => ?_)
    obtain ⟨rfl, rfl⟩ := hq
    refine g_if_ne (tgt := 18) d_R_read_13 (by decide) (fun h2 => ?_) (fun h2 => ?_)
    · skip
      rcases hbad with z | z
      · exact absurd z h1
      · exact absurd z h2
    · skip
      refine g_iconst (v := (-1)) d_R_read_16 (by decide) ?_
      exact g_ireturn d_R_read_17 rfl (Nat.le_of_ble_eq_true rfl) (Nat.le_of_ble_eq_true rfl) ⟨rfl, rfl⟩

set_option maxHeartbeats 4000000 in
set_option maxRecDepth 100000 in
theorem c_R_write_bad {E : gE} {w : wd} {ad : Nat → Nat} {t : tR} (hs : SysR E ad t w) (x y z0 : Int32) (hbad : s_R_isClient t x = 0 ∨ s_R_isFile t y = 0) : Cn E y_R_write 3 0 0 [.ref (ad 0), .int x, .int y, .int z0] w (fun r w' => r = some (.int (-1)) ∧ w' = w) := by
  refine Cn.of (by decide) (Nat.le_of_ble_eq_true rfl) (fun A => ?_)
  show G E y_R_write _ 0 [(0, .ref (ad 0)), (1, .int x), (2, .int y), (3, .int z0)] [] w 0 0
  refine g_aload_n (j := 0) d_R_write_0 rfl ?_
  refine g_iload_n (j := 1) d_R_write_1 rfl ?_
  refine g_callV (c_R_isClient hs x) ok_R_isClient lk_R_103 in_R_isClient se_R_isClient hs.obj rfl d_R_write_2 rfl rfl (Nat.le_of_ble_eq_true rfl) ⟨(Nat.le_of_ble_eq_true rfl), (Nat.le_of_ble_eq_true rfl)⟩ (Nat.le_of_ble_eq_true rfl) (Nat.le_of_ble_eq_true rfl) (fun r w' hq => ?_)
  obtain ⟨rfl, rfl⟩ := hq
  refine g_if_eq (tgt := 16) d_R_write_5 (by decide) (fun h1 => ?_) (fun h1 => ?_)
  · skip
    refine g_iconst (v := (-1)) d_R_write_16 (by decide) ?_
    exact g_ireturn d_R_write_17 rfl (Nat.le_of_ble_eq_true rfl) (Nat.le_of_ble_eq_true rfl) ⟨rfl, rfl⟩
  · skip
    refine g_aload_n (j := 0) d_R_write_8 rfl ?_
    refine g_iload_n (j := 2) d_R_write_9 rfl ?_
    refine g_callV (c_R_isFile hs y) ok_R_isFile lk_R_107 in_R_isFile se_R_isFile hs.obj rfl d_R_write_10 rfl rfl (Nat.le_of_ble_eq_true rfl) ⟨(Nat.le_of_ble_eq_true rfl), (Nat.le_of_ble_eq_true rfl)⟩ (Nat.le_of_ble_eq_true rfl) (Nat.le_of_ble_eq_true rfl) (fun r w' hq => ?_)
    obtain ⟨rfl, rfl⟩ := hq
    refine g_if_ne (tgt := 18) d_R_write_13 (by decide) (fun h2 => ?_) (fun h2 => ?_)
    · skip
      rcases hbad with z | z
      · exact absurd z h1
      · exact absurd z h2
    · skip
      refine g_iconst (v := (-1)) d_R_write_16 (by decide) ?_
      exact g_ireturn d_R_write_17 rfl (Nat.le_of_ble_eq_true rfl) (Nat.le_of_ble_eq_true rfl) ⟨rfl, rfl⟩

set_option maxHeartbeats 4000000 in
set_option maxRecDepth 100000 in
theorem c_R_retry_bad {E : gE} {w : wd} {ad : Nat → Nat} {t : tR} (hs : SysR E ad t w) (x : Int32) (hbad : s_R_isClient t x = 0) : Cn E y_R_retry 3 0 0 [.ref (ad 0), .int x] w (fun r w' => r = some (.int (-1)) ∧ w' = w) := by
  refine Cn.of (by decide) (Nat.le_of_ble_eq_true rfl) (fun A => ?_)
  show G E y_R_retry _ 0 [(0, .ref (ad 0)), (1, .int x)] [] w 0 0
  refine g_aload_n (j := 0) d_R_retry_0 rfl ?_
  refine g_iload_n (j := 1) d_R_retry_1 rfl ?_
  refine g_callV (c_R_isClient hs x) ok_R_isClient lk_R_103 in_R_isClient se_R_isClient hs.obj rfl d_R_retry_2 rfl rfl (Nat.le_of_ble_eq_true rfl) ⟨(Nat.le_of_ble_eq_true rfl), (Nat.le_of_ble_eq_true rfl)⟩ (Nat.le_of_ble_eq_true rfl) (Nat.le_of_ble_eq_true rfl) (fun r w' hq => ?_)
  obtain ⟨rfl, rfl⟩ := hq
  refine g_if_ne (tgt := 10) d_R_retry_5 (by decide) (fun h1 => ?_) (fun h1 => ?_)
  · skip
    exact absurd hbad h1
  · skip
    refine g_iconst (v := (-1)) d_R_retry_8 (by decide) ?_
    exact g_ireturn d_R_retry_9 rfl (Nat.le_of_ble_eq_true rfl) (Nat.le_of_ble_eq_true rfl) ⟨rfl, rfl⟩

set_option maxHeartbeats 4000000 in
set_option maxRecDepth 100000 in
theorem c_R_status_bad {E : gE} {w : wd} {ad : Nat → Nat} {t : tR} (hs : SysR E ad t w) (x : Int32) (hbad : s_R_isClient t x = 0) : Cn E y_R_status 3 0 0 [.ref (ad 0), .int x] w (fun r w' => r = some (.int (-1)) ∧ w' = w) := by
  refine Cn.of (by decide) (Nat.le_of_ble_eq_true rfl) (fun A => ?_)
  show G E y_R_status _ 0 [(0, .ref (ad 0)), (1, .int x)] [] w 0 0
  refine g_aload_n (j := 0) d_R_status_0 rfl ?_
  refine g_iload_n (j := 1) d_R_status_1 rfl ?_
  refine g_callV (c_R_isClient hs x) ok_R_isClient lk_R_103 in_R_isClient se_R_isClient hs.obj rfl d_R_status_2 rfl rfl (Nat.le_of_ble_eq_true rfl) ⟨(Nat.le_of_ble_eq_true rfl), (Nat.le_of_ble_eq_true rfl)⟩ (Nat.le_of_ble_eq_true rfl) (Nat.le_of_ble_eq_true rfl) (fun r w' hq => ?_)
  obtain ⟨rfl, rfl⟩ := hq
  refine g_if_eq (tgt := 17) d_R_status_5 (by decide) (fun h1 => ?_) (fun h1 => ?_)
  · skip
    refine g_iconst (v := (-1)) d_R_status_17 (by decide) ?_
    exact g_ireturn d_R_status_18 rfl (Nat.le_of_ble_eq_true rfl) (Nat.le_of_ble_eq_true rfl) ⟨rfl, rfl⟩
  · skip
    exact absurd hbad h1

set_option maxHeartbeats 4000000 in
set_option maxRecDepth 100000 in
theorem c_R_result_bad {E : gE} {w : wd} {ad : Nat → Nat} {t : tR} (hs : SysR E ad t w) (x : Int32) (hbad : s_R_isClient t x = 0) : Cn E y_R_result 3 0 0 [.ref (ad 0), .int x] w (fun r w' => r = some (.int 0) ∧ w' = w) := by
  refine Cn.of (by decide) (Nat.le_of_ble_eq_true rfl) (fun A => ?_)
  show G E y_R_result _ 0 [(0, .ref (ad 0)), (1, .int x)] [] w 0 0
  refine g_aload_n (j := 0) d_R_result_0 rfl ?_
  refine g_iload_n (j := 1) d_R_result_1 rfl ?_
  refine g_callV (c_R_isClient hs x) ok_R_isClient lk_R_103 in_R_isClient se_R_isClient hs.obj rfl d_R_result_2 rfl rfl (Nat.le_of_ble_eq_true rfl) ⟨(Nat.le_of_ble_eq_true rfl), (Nat.le_of_ble_eq_true rfl)⟩ (Nat.le_of_ble_eq_true rfl) (Nat.le_of_ble_eq_true rfl) (fun r w' hq => ?_)
  obtain ⟨rfl, rfl⟩ := hq
  refine g_if_eq (tgt := 27) d_R_result_5 (by decide) (fun h1 => ?_) (fun h1 => ?_)
  · skip
    refine g_iconst (v := 0) d_R_result_27 (by decide) ?_
    exact g_ireturn d_R_result_28 rfl (Nat.le_of_ble_eq_true rfl) (Nat.le_of_ble_eq_true rfl) ⟨rfl, rfl⟩
  · skip
    exact absurd hbad h1

set_option maxHeartbeats 4000000 in
set_option maxRecDepth 100000 in
theorem c_R_version_bad {E : gE} {w : wd} {ad : Nat → Nat} {t : tR} (hs : SysR E ad t w) (x : Int32) (hbad : s_R_isClient t x = 0) : Cn E y_R_version 3 0 0 [.ref (ad 0), .int x] w (fun r w' => r = some (.int (-1)) ∧ w' = w) := by
  refine Cn.of (by decide) (Nat.le_of_ble_eq_true rfl) (fun A => ?_)
  show G E y_R_version _ 0 [(0, .ref (ad 0)), (1, .int x)] [] w 0 0
  refine g_aload_n (j := 0) d_R_version_0 rfl ?_
  refine g_iload_n (j := 1) d_R_version_1 rfl ?_
  refine g_callV (c_R_isClient hs x) ok_R_isClient lk_R_103 in_R_isClient se_R_isClient hs.obj rfl d_R_version_2 rfl rfl (Nat.le_of_ble_eq_true rfl) ⟨(Nat.le_of_ble_eq_true rfl), (Nat.le_of_ble_eq_true rfl)⟩ (Nat.le_of_ble_eq_true rfl) (Nat.le_of_ble_eq_true rfl) (fun r w' hq => ?_)
  obtain ⟨rfl, rfl⟩ := hq
  refine g_if_eq (tgt := 27) d_R_version_5 (by decide) (fun h1 => ?_) (fun h1 => ?_)
  · skip
    refine g_iconst (v := (-1)) d_R_version_27 (by decide) ?_
    exact g_ireturn d_R_version_28 rfl (Nat.le_of_ble_eq_true rfl) (Nat.le_of_ble_eq_true rfl) ⟨rfl, rfl⟩
  · skip
    exact absurd hbad h1

set_option maxHeartbeats 4000000 in
set_option maxRecDepth 100000 in
theorem c_R_pass_bad {E : gE} {w : wd} {ad : Nat → Nat} {t : tR} (hs : SysR E ad t w) (x y : Int32) (hbad : s_R_isClient t x = 0) : Cn E y_R_pass 3 0 0 [.ref (ad 0), .int x, .int y] w (fun r w' => r = some (.int (-1)) ∧ w' = w) := by
  refine Cn.of (by decide) (Nat.le_of_ble_eq_true rfl) (fun A => ?_)
  show G E y_R_pass _ 0 [(0, .ref (ad 0)), (1, .int x), (2, .int y)] [] w 0 0
  refine g_aload_n (j := 0) d_R_pass_0 rfl ?_
  refine g_iload_n (j := 1) d_R_pass_1 rfl ?_
  refine g_callV (c_R_isClient hs x) ok_R_isClient lk_R_103 in_R_isClient se_R_isClient hs.obj rfl d_R_pass_2 rfl rfl (Nat.le_of_ble_eq_true rfl) ⟨(Nat.le_of_ble_eq_true rfl), (Nat.le_of_ble_eq_true rfl)⟩ (Nat.le_of_ble_eq_true rfl) (Nat.le_of_ble_eq_true rfl) (fun r w' hq => ?_)
  obtain ⟨rfl, rfl⟩ := hq
  refine g_if_eq (tgt := 19) d_R_pass_5 (by decide) (fun h1 => ?_) (fun h1 => ?_)
  · skip
    refine g_iconst (v := (-1)) d_R_pass_19 (by decide) ?_
    exact g_ireturn d_R_pass_20 rfl (Nat.le_of_ble_eq_true rfl) (Nat.le_of_ble_eq_true rfl) ⟨rfl, rfl⟩
  · skip
    exact absurd hbad h1

set_option maxHeartbeats 4000000 in
set_option maxRecDepth 100000 in
theorem c_R_copy_bad {E : gE} {w : wd} {ad : Nat → Nat} {t : tR} (hs : SysR E ad t w) (x y z0 : Int32) (hbad : s_R_isClient t x = 0 ∨ s_R_isFile t y = 0) : Cn E y_R_copy 3 0 0 [.ref (ad 0), .int x, .int y, .int z0] w (fun r w' => r = some (.int (-1)) ∧ w' = w) := by
  refine Cn.of (by decide) (Nat.le_of_ble_eq_true rfl) (fun A => ?_)
  show G E y_R_copy _ 0 [(0, .ref (ad 0)), (1, .int x), (2, .int y), (3, .int z0)] [] w 0 0
  refine g_aload_n (j := 0) d_R_copy_0 rfl ?_
  refine g_iload_n (j := 1) d_R_copy_1 rfl ?_
  refine g_callV (c_R_isClient hs x) ok_R_isClient lk_R_103 in_R_isClient se_R_isClient hs.obj rfl d_R_copy_2 rfl rfl (Nat.le_of_ble_eq_true rfl) ⟨(Nat.le_of_ble_eq_true rfl), (Nat.le_of_ble_eq_true rfl)⟩ (Nat.le_of_ble_eq_true rfl) (Nat.le_of_ble_eq_true rfl) (fun r w' hq => ?_)
  obtain ⟨rfl, rfl⟩ := hq
  refine g_if_eq (tgt := 38) d_R_copy_5 (by decide) (fun h1 => ?_) (fun h1 => ?_)
  · skip
    refine g_iconst (v := (-1)) d_R_copy_38 (by decide) ?_
    exact g_ireturn d_R_copy_39 rfl (Nat.le_of_ble_eq_true rfl) (Nat.le_of_ble_eq_true rfl) ⟨rfl, rfl⟩
  · skip
    refine g_aload_n (j := 0) d_R_copy_8 rfl ?_
    refine g_iload_n (j := 2) d_R_copy_9 rfl ?_
    refine g_callV (c_R_isFile hs y) ok_R_isFile lk_R_107 in_R_isFile se_R_isFile hs.obj rfl d_R_copy_10 rfl rfl (Nat.le_of_ble_eq_true rfl) ⟨(Nat.le_of_ble_eq_true rfl), (Nat.le_of_ble_eq_true rfl)⟩ (Nat.le_of_ble_eq_true rfl) (Nat.le_of_ble_eq_true rfl) (fun r w' hq => ?_)
    obtain ⟨rfl, rfl⟩ := hq
    refine g_if_eq (tgt := 38) d_R_copy_13 (by decide) (fun h2 => ?_) (fun h2 => ?_)
    · skip
      refine g_iconst (v := (-1)) d_R_copy_38 (by decide) ?_
      exact g_ireturn d_R_copy_39 rfl (Nat.le_of_ble_eq_true rfl) (Nat.le_of_ble_eq_true rfl) ⟨rfl, rfl⟩
    · skip
      rcases hbad with z | z
      · exact absurd z h1
      · exact absurd z h2

set_option maxHeartbeats 4000000 in
set_option maxRecDepth 100000 in
theorem c_R_lease_bad {E : gE} {w : wd} {ad : Nat → Nat} {t : tR} (hs : SysR E ad t w) (x y : Int32) (hbad : s_R_isClient t x = 0 ∨ s_R_isFile t y = 0) : Cn E y_R_lease 3 0 0 [.ref (ad 0), .int x, .int y] w (fun r w' => r = some (.int (-1)) ∧ w' = w) := by
  refine Cn.of (by decide) (Nat.le_of_ble_eq_true rfl) (fun A => ?_)
  show G E y_R_lease _ 0 [(0, .ref (ad 0)), (1, .int x), (2, .int y)] [] w 0 0
  refine g_aload_n (j := 0) d_R_lease_0 rfl ?_
  refine g_iload_n (j := 1) d_R_lease_1 rfl ?_
  refine g_callV (c_R_isClient hs x) ok_R_isClient lk_R_103 in_R_isClient se_R_isClient hs.obj rfl d_R_lease_2 rfl rfl (Nat.le_of_ble_eq_true rfl) ⟨(Nat.le_of_ble_eq_true rfl), (Nat.le_of_ble_eq_true rfl)⟩ (Nat.le_of_ble_eq_true rfl) (Nat.le_of_ble_eq_true rfl) (fun r w' hq => ?_)
  obtain ⟨rfl, rfl⟩ := hq
  refine g_if_eq (tgt := 36) d_R_lease_5 (by decide) (fun h1 => ?_) (fun h1 => ?_)
  · skip
    refine g_iconst (v := (-1)) d_R_lease_36 (by decide) ?_
    exact g_ireturn d_R_lease_37 rfl (Nat.le_of_ble_eq_true rfl) (Nat.le_of_ble_eq_true rfl) ⟨rfl, rfl⟩
  · skip
    refine g_aload_n (j := 0) d_R_lease_8 rfl ?_
    refine g_iload_n (j := 2) d_R_lease_9 rfl ?_
    refine g_callV (c_R_isFile hs y) ok_R_isFile lk_R_107 in_R_isFile se_R_isFile hs.obj rfl d_R_lease_10 rfl rfl (Nat.le_of_ble_eq_true rfl) ⟨(Nat.le_of_ble_eq_true rfl), (Nat.le_of_ble_eq_true rfl)⟩ (Nat.le_of_ble_eq_true rfl) (Nat.le_of_ble_eq_true rfl) (fun r w' hq => ?_)
    obtain ⟨rfl, rfl⟩ := hq
    refine g_if_eq (tgt := 36) d_R_lease_13 (by decide) (fun h2 => ?_) (fun h2 => ?_)
    · skip
      refine g_iconst (v := (-1)) d_R_lease_36 (by decide) ?_
      exact g_ireturn d_R_lease_37 rfl (Nat.le_of_ble_eq_true rfl) (Nat.le_of_ble_eq_true rfl) ⟨rfl, rfl⟩
    · skip
      rcases hbad with z | z
      · exact absurd z h1
      · exact absurd z h2

set_option maxHeartbeats 4000000 in
set_option maxRecDepth 100000 in
theorem c_R_client_bad {E : gE} {w : wd} {ad : Nat → Nat} {t : tR} (hs : SysR E ad t w) (x y : Int32) (hbad : s_R_isClient t x = 0) : Cn E y_R_client 3 0 0 [.ref (ad 0), .int x, .int y] w (fun r w' => r = some (.int (-1)) ∧ w' = w) := by
  refine Cn.of (by decide) (Nat.le_of_ble_eq_true rfl) (fun A => ?_)
  show G E y_R_client _ 0 [(0, .ref (ad 0)), (1, .int x), (2, .int y)] [] w 0 0
  refine g_aload_n (j := 0) d_R_client_0 rfl ?_
  refine g_iload_n (j := 1) d_R_client_1 rfl ?_
  refine g_callV (c_R_isClient hs x) ok_R_isClient lk_R_103 in_R_isClient se_R_isClient hs.obj rfl d_R_client_2 rfl rfl (Nat.le_of_ble_eq_true rfl) ⟨(Nat.le_of_ble_eq_true rfl), (Nat.le_of_ble_eq_true rfl)⟩ (Nat.le_of_ble_eq_true rfl) (Nat.le_of_ble_eq_true rfl) (fun r w' hq => ?_)
  obtain ⟨rfl, rfl⟩ := hq
  refine g_if_ne (tgt := 10) d_R_client_5 (by decide) (fun h1 => ?_) (fun h1 => ?_)
  · skip
    exact absurd hbad h1
  · skip
    refine g_iconst (v := (-1)) d_R_client_8 (by decide) ?_
    exact g_ireturn d_R_client_9 rfl (Nat.le_of_ble_eq_true rfl) (Nat.le_of_ble_eq_true rfl) ⟨rfl, rfl⟩

set_option maxHeartbeats 4000000 in
set_option maxRecDepth 100000 in
theorem c_R_crash_bad {E : gE} {w : wd} {ad : Nat → Nat} {t : tR} (hs : SysR E ad t w) (x : Int32) (hbad : s_R_isClient t x = 0) : Cn E y_R_crash 3 0 0 [.ref (ad 0), .int x] w (fun r w' => r = some (.int (-1)) ∧ w' = w) := by
  refine Cn.of (by decide) (Nat.le_of_ble_eq_true rfl) (fun A => ?_)
  show G E y_R_crash _ 0 [(0, .ref (ad 0)), (1, .int x)] [] w 0 0
  refine g_aload_n (j := 0) d_R_crash_0 rfl ?_
  refine g_iload_n (j := 1) d_R_crash_1 rfl ?_
  refine g_callV (c_R_isClient hs x) ok_R_isClient lk_R_103 in_R_isClient se_R_isClient hs.obj rfl d_R_crash_2 rfl rfl (Nat.le_of_ble_eq_true rfl) ⟨(Nat.le_of_ble_eq_true rfl), (Nat.le_of_ble_eq_true rfl)⟩ (Nat.le_of_ble_eq_true rfl) (Nat.le_of_ble_eq_true rfl) (fun r w' hq => ?_)
  obtain ⟨rfl, rfl⟩ := hq
  refine g_if_ne (tgt := 10) d_R_crash_5 (by decide) (fun h1 => ?_) (fun h1 => ?_)
  · skip
    exact absurd hbad h1
  · skip
    refine g_iconst (v := (-1)) d_R_crash_8 (by decide) ?_
    exact g_ireturn d_R_crash_9 rfl (Nat.le_of_ble_eq_true rfl) (Nat.le_of_ble_eq_true rfl) ⟨rfl, rfl⟩

set_option maxHeartbeats 4000000 in
set_option maxRecDepth 100000 in
theorem c_R_file_bad {E : gE} {w : wd} {ad : Nat → Nat} {t : tR} (hs : SysR E ad t w) (x y : Int32) (hbad : s_R_isFile t x = 0) : Cn E y_R_file 3 0 0 [.ref (ad 0), .int x, .int y] w (fun r w' => r = some (.int (-1)) ∧ w' = w) := by
  refine Cn.of (by decide) (Nat.le_of_ble_eq_true rfl) (fun A => ?_)
  show G E y_R_file _ 0 [(0, .ref (ad 0)), (1, .int x), (2, .int y)] [] w 0 0
  refine g_aload_n (j := 0) d_R_file_0 rfl ?_
  refine g_iload_n (j := 1) d_R_file_1 rfl ?_
  refine g_callV (c_R_isFile hs x) ok_R_isFile lk_R_107 in_R_isFile se_R_isFile hs.obj rfl d_R_file_2 rfl rfl (Nat.le_of_ble_eq_true rfl) ⟨(Nat.le_of_ble_eq_true rfl), (Nat.le_of_ble_eq_true rfl)⟩ (Nat.le_of_ble_eq_true rfl) (Nat.le_of_ble_eq_true rfl) (fun r w' hq => ?_)
  obtain ⟨rfl, rfl⟩ := hq
  refine g_if_eq (tgt := 17) d_R_file_5 (by decide) (fun h1 => ?_) (fun h1 => ?_)
  · skip
    refine g_iconst (v := (-1)) d_R_file_17 (by decide) ?_
    exact g_ireturn d_R_file_18 rfl (Nat.le_of_ble_eq_true rfl) (Nat.le_of_ble_eq_true rfl) ⟨rfl, rfl⟩
  · skip
    exact absurd hbad h1

set_option maxHeartbeats 4000000 in
set_option maxRecDepth 100000 in
theorem c_R_message_bad {E : gE} {w : wd} {ad : Nat → Nat} {t : tR} (hs : SysR E ad t w) (x y : Int32) (hbad : s_R_isMessage t x = 0 ∨ y < 0 ∨ 6 < y) : Cn E y_R_message 3 0 0 [.ref (ad 0), .int x, .int y] w (fun r w' => r = some (.int (-1)) ∧ w' = w) := by
  refine Cn.of (by decide) (Nat.le_of_ble_eq_true rfl) (fun A => ?_)
  show G E y_R_message _ 0 [(0, .ref (ad 0)), (1, .int x), (2, .int y)] [] w 0 0
  refine g_aload_n (j := 0) d_R_message_0 rfl ?_
  refine g_iload_n (j := 1) d_R_message_1 rfl ?_
  refine g_callV (c_R_isMessage hs x) ok_R_isMessage lk_R_148 in_R_isMessage se_R_isMessage hs.obj rfl d_R_message_2 rfl rfl (Nat.le_of_ble_eq_true rfl) ⟨(Nat.le_of_ble_eq_true rfl), (Nat.le_of_ble_eq_true rfl)⟩ (Nat.le_of_ble_eq_true rfl) (Nat.le_of_ble_eq_true rfl) (fun r w' hq => ?_)
  obtain ⟨rfl, rfl⟩ := hq
  refine g_if_eq (tgt := 32) d_R_message_5 (by decide) (fun h1 => ?_) (fun h1 => ?_)
  · skip
    refine g_iconst (v := (-1)) d_R_message_32 (by decide) ?_
    exact g_ireturn d_R_message_33 rfl (Nat.le_of_ble_eq_true rfl) (Nat.le_of_ble_eq_true rfl) ⟨rfl, rfl⟩
  · skip
    refine g_iload_n (j := 2) d_R_message_8 rfl ?_
    refine g_if_lt (tgt := 32) d_R_message_9 (by decide) (fun h2 => ?_) (fun h2 => ?_)
    · skip
      refine g_iconst (v := (-1)) d_R_message_32 (by decide) ?_
      exact g_ireturn d_R_message_33 rfl (Nat.le_of_ble_eq_true rfl) (Nat.le_of_ble_eq_true rfl) ⟨rfl, rfl⟩
    · skip
      refine g_iload_n (j := 2) d_R_message_12 rfl ?_
      refine g_bipush (v := 6) d_R_message_13 (by decide) ?_
      refine g_icmp_gt (tgt := 32) d_R_message_15 (by decide) (fun h3 => ?_) (fun h3 => ?_)
      · skip
        refine g_iconst (v := (-1)) d_R_message_32 (by decide) ?_
        exact g_ireturn d_R_message_33 rfl (Nat.le_of_ble_eq_true rfl) (Nat.le_of_ble_eq_true rfl) ⟨rfl, rfl⟩
      · skip
        rcases hbad with z | z | z
        · exact absurd z h1
        · exact absurd z h2
        · exact absurd z h3

set_option maxHeartbeats 4000000 in
set_option maxRecDepth 100000 in
theorem c_R_lose_bad {E : gE} {w : wd} {ad : Nat → Nat} {t : tR} (hs : SysR E ad t w) (x : Int32) (hbad : s_R_isMessage t x = 0) : Cn E y_R_lose 3 0 0 [.ref (ad 0), .int x] w (fun r w' => r = some (.int 0) ∧ w' = w) := by
  refine Cn.of (by decide) (Nat.le_of_ble_eq_true rfl) (fun A => ?_)
  show G E y_R_lose _ 0 [(0, .ref (ad 0)), (1, .int x)] [] w 0 0
  refine g_aload_n (j := 0) d_R_lose_0 rfl ?_
  refine g_iload_n (j := 1) d_R_lose_1 rfl ?_
  refine g_callV (c_R_isMessage hs x) ok_R_isMessage lk_R_148 in_R_isMessage se_R_isMessage hs.obj rfl d_R_lose_2 rfl rfl (Nat.le_of_ble_eq_true rfl) ⟨(Nat.le_of_ble_eq_true rfl), (Nat.le_of_ble_eq_true rfl)⟩ (Nat.le_of_ble_eq_true rfl) (Nat.le_of_ble_eq_true rfl) (fun r w' hq => ?_)
  obtain ⟨rfl, rfl⟩ := hq
  refine g_if_ne (tgt := 10) d_R_lose_5 (by decide) (fun h1 => ?_) (fun h1 => ?_)
  · skip
    exact absurd hbad h1
  · skip
    refine g_iconst (v := 0) d_R_lose_8 (by decide) ?_
    exact g_zreturn d_R_lose_9 rfl (by decide) (Nat.le_of_ble_eq_true rfl) (Nat.le_of_ble_eq_true rfl) ⟨rfl, rfl⟩

set_option maxHeartbeats 4000000 in
set_option maxRecDepth 100000 in
theorem c_R_deliver_bad {E : gE} {w : wd} {ad : Nat → Nat} {t : tR} (hs : SysR E ad t w) (x : Int32) (hbad : s_R_isMessage t x = 0) : Cn E y_R_deliver 9 0 0 [.ref (ad 0), .int x] w (fun r w' => r = some (.int (-1)) ∧ w' = w) := by
  refine Cn.of (by decide) (Nat.le_of_ble_eq_true rfl) (fun A => ?_)
  show G E y_R_deliver _ 0 [(0, .ref (ad 0)), (1, .int x)] [] w 0 0
  refine g_aload_n (j := 0) d_R_deliver_0 rfl ?_
  refine g_iload_n (j := 1) d_R_deliver_1 rfl ?_
  refine g_callV (c_R_isMessage hs x) ok_R_isMessage lk_R_148 in_R_isMessage se_R_isMessage hs.obj rfl d_R_deliver_2 rfl rfl (Nat.le_of_ble_eq_true rfl) ⟨(Nat.le_of_ble_eq_true rfl), (Nat.le_of_ble_eq_true rfl)⟩ (Nat.le_of_ble_eq_true rfl) (Nat.le_of_ble_eq_true rfl) (fun r w' hq => ?_)
  obtain ⟨rfl, rfl⟩ := hq
  refine g_if_ne (tgt := 10) d_R_deliver_5 (by decide) (fun h1 => ?_) (fun h1 => ?_)
  · skip
    exact absurd hbad h1
  · skip
    refine g_iconst (v := (-1)) d_R_deliver_8 (by decide) ?_
    exact g_ireturn d_R_deliver_9 rfl (Nat.le_of_ble_eq_true rfl) (Nat.le_of_ble_eq_true rfl) ⟨rfl, rfl⟩
end
section
/-- the loop of firstOf: from the last to the first -/
def foL (g : Nat → Int32) (x : Int32) : Nat → Int32 → Int32
  | 0, a => a
  | k + 1, a => foL g x k (if g k = x then nI k else a)
def s_R_firstOf (t : tR) (f : Nat) : Int32 := foL (t.2 6) (nI f) (wN t) (-1)

set_option maxHeartbeats 4000000 in
set_option maxRecDepth 100000 in
theorem l_R_firstOf {E : gE} {w : wd} {ad : Nat → Nat} {t : tR} (hs : SysR E ad t w) (f : Nat) {A : Nat → Prop} {V : Int32} : ∀ (k : Nat) (a : Int32), foL (t.2 6) (nI f) k a = V → k ≤ 519 → G E y_R_firstOf (rmD 1 0 0, A, (fun r w' => r = some (.int V) ∧ w' = w), fun _ => True) 9 [(3, .int (nI k - 1)), (2, .int a), (0, .ref (ad 0)), (1, .int (nI f))] [] w 0 0 := by
  intro k
  induction k with
  | zero =>
    intro a hV _
    refine g_iload_n (j := 0) d_R_firstOf_9 rfl ?_
    refine g_if_lt (tgt := 35) d_R_firstOf_10 (by decide) (fun h1 => ?_) (fun h => absurd (by decide) h)
    refine g_iload_n (j := 1) d_R_firstOf_35 rfl ?_
    exact g_ireturn d_R_firstOf_36 rfl (Nat.le_of_ble_eq_true rfl) (Nat.le_of_ble_eq_true rfl) ⟨by rw [← hV, foL], rfl⟩
  | succ k ih =>
    intro a hV hk
    rw [show nI (k + 1) - 1 = nI k from nI_pred k]
    refine g_iload_n (j := 0) d_R_firstOf_9 rfl ?_
    refine g_if_lt (tgt := 35) d_R_firstOf_10 (by decide) (fun h => absurd h (nI_pos (by omega))) (fun h1 => ?_)
    refine g_aload_n (j := 2) d_R_firstOf_13 rfl ?_
    refine g_get d_R_firstOf_14 f_R_28 hs.obj rfl ?_
    refine g_iload_n (j := 0) d_R_firstOf_17 rfl ?_
    refine r_iald (k := 6) (j := k) d_R_firstOf_18 hs (by decide) rfl rfl (show k < 520 by omega) ?_
    refine g_iload_n (j := 3) d_R_firstOf_19 rfl ?_
    refine g_icmp_ne (tgt := 27) d_R_firstOf_20 (by decide) (fun h2 => ?_) (fun h2 => ?_)
    · skip
      refine g_iload_n (j := 1) d_R_firstOf_27 rfl ?_
      refine g_istore_n (lv' := [(2, _), (3, _), (0, _), (1, _)]) d_R_firstOf_28 (by decide) rfl ?_
      refine g_iinc (j := 1) (v := nI k - 1) (lv' := [(3, _), (2, _), (0, _), (1, _)]) d_R_firstOf_29 rfl (nI_dec k) (by decide) rfl ?_
      refine g_goto (tgt := 9) d_R_firstOf_32 (by decide) ?_
      refine ih _ ?_ (by omega)
      rw [← hV, foL, if_neg h2]
    · skip
      refine g_iload_n (j := 0) d_R_firstOf_23 rfl ?_
      refine g_goto (tgt := 28) d_R_firstOf_24 (by decide) ?_
      refine g_istore_n (lv' := [(2, _), (3, _), (0, _), (1, _)]) d_R_firstOf_28 (by decide) rfl ?_
      refine g_iinc (j := 1) (v := nI k - 1) (lv' := [(3, _), (2, _), (0, _), (1, _)]) d_R_firstOf_29 rfl (nI_dec k) (by decide) rfl ?_
      refine g_goto (tgt := 9) d_R_firstOf_32 (by decide) ?_
      refine ih _ ?_ (by omega)
      rw [← hV, foL, if_pos h2]

set_option maxHeartbeats 4000000 in
set_option maxRecDepth 100000 in
theorem c_R_firstOf {E : gE} {w : wd} {ad : Nat → Nat} {t : tR} (hs : SysR E ad t w) (f : Nat) (hw : okW t) : Cn E y_R_firstOf 1 0 0 [.ref (ad 0), .int (nI f)] w (fun r w' => r = some (.int (s_R_firstOf t f)) ∧ w' = w) := by
  refine Cn.of (by decide) (Nat.le_of_ble_eq_true rfl) (fun A => ?_)
  show G E y_R_firstOf _ 0 [(0, .ref (ad 0)), (1, .int (nI f))] [] w 0 0
  refine g_iconst (v := (-1)) d_R_firstOf_0 (by decide) ?_
  refine g_istore_n (lv' := [(2, _), (0, _), (1, _)]) d_R_firstOf_1 (by decide) rfl ?_
  refine g_aload_n (j := 1) d_R_firstOf_2 rfl ?_
  refine g_get d_R_firstOf_3 f_R_125 hs.obj rfl ?_
  refine g_norm (y := nI (wN t)) hw.1 ?_
  refine g_iconst (v := 1) d_R_firstOf_6 (by decide) ?_
  refine g_isub d_R_firstOf_7 ?_
  refine g_istore_n (lv' := [(3, _), (2, _), (0, _), (1, _)]) d_R_firstOf_8 (by decide) rfl ?_
  exact l_R_firstOf hs f _ _ rfl hw.2

/-- numbers moved down by seven, from lo up to i -/
def shR (g : Nat → Int32) (lo i : Nat) : Nat → Int32 := fun j => if lo ≤ j ∧ j < i then g (j + 7) else g j
theorem shR_0 (g : Nat → Int32) (lo : Nat) : shR g lo lo = g := by
  funext j
  exact if_neg (fun h => by omega)
theorem shR_s (g : Nat → Int32) {lo i : Nat} (h : lo ≤ i) : upd (shR g lo i) i (shR g lo i (i + 7)) = shR g lo (i + 1) := by
  funext j
  by_cases hj : j = i
  · subst hj
    have e1 : upd (shR g lo j) j (shR g lo j (j + 7)) j = shR g lo j (j + 7) := if_pos rfl
    have e2 : shR g lo j (j + 7) = g (j + 7) := if_neg (fun h => by omega)
    have e3 : shR g lo (j + 1) j = g (j + 7) := if_pos (by omega)
    rw [e1, e2, e3]
  · have e1 : upd (shR g lo i) i (shR g lo i (i + 7)) j = shR g lo i j := if_neg hj
    rw [e1]
    unfold shR
    by_cases hc : lo ≤ j ∧ j < i
    · rw [if_pos hc, if_pos (by omega)]
    · rw [if_neg hc, if_neg (by omega)]
def s_R_takeOut (t : tR) (k : Nat) : tR := saA (stF t 9 (nI (pN t - 1))) 23 (shR (t.2 23) (7 * k) (7 * (pN t - 1)))

set_option maxHeartbeats 4000000 in
set_option maxRecDepth 100000 in
theorem l_R_takeOut {E : gE} {ad : Nat → Nat} (t1 : tR) (g : Nat → Int32) (k m : Nat) (hm : t1.1 9 = nI m) (hm2 : m ≤ 63) {A : Nat → Prop} : ∀ (r i : Nat) {w : wd}, SysR E ad (saA t1 23 (shR g (7 * k) i)) w → 7 * k ≤ i → i ≤ 7 * m → r + i = 7 * m → G E y_R_takeOut (rmD 1 0 0, A, (fun r w' => r = none ∧ SysR E ad (saA t1 23 (shR g (7 * k) (7 * m))) w'), fun _ => True) 15 [(2, .int (nI i)), (0, .ref (ad 0)), (1, .int (nI k))] [] w 0 0 := by
  intro r
  induction r with
  | zero =>
    intro i w hs hlo hi hr
    have he : i = 7 * m := by omega
    subst he
    refine g_iload_n (j := 0) d_R_takeOut_15 rfl ?_
    refine g_bipush (v := 7) d_R_takeOut_16 (by decide) ?_
    refine g_aload_n (j := 1) d_R_takeOut_18 rfl ?_
    refine g_get d_R_takeOut_19 f_R_96 hs.obj rfl ?_
    refine g_norm (y := nI m) hm ?_
    refine g_imul d_R_takeOut_22 ?_
    refine g_norm (y := nI (7 * m)) (pk_mul 7 m) ?_
    refine g_icmp_ge (tgt := 47) d_R_takeOut_23 (by decide) (fun h1 => ?_) (fun h => absurd ((nI_leI (by omega) (by omega)).mpr (by omega)) h)
    exact g_return d_R_takeOut_47 rfl (Nat.le_of_ble_eq_true rfl) (Nat.le_of_ble_eq_true rfl) ⟨rfl, hs⟩
  | succ r ih =>
    intro i w hs hlo hi hr
    refine g_iload_n (j := 0) d_R_takeOut_15 rfl ?_
    refine g_bipush (v := 7) d_R_takeOut_16 (by decide) ?_
    refine g_aload_n (j := 1) d_R_takeOut_18 rfl ?_
    refine g_get d_R_takeOut_19 f_R_96 hs.obj rfl ?_
    refine g_norm (y := nI m) hm ?_
    refine g_imul d_R_takeOut_22 ?_
    refine g_norm (y := nI (7 * m)) (pk_mul 7 m) ?_
    refine g_icmp_ge (tgt := 47) d_R_takeOut_23 (by decide) (fun h => absurd h (fun z => absurd ((nI_leI (by omega) (by omega)).mp z) (by omega))) (fun h1 => ?_)
    refine g_aload_n (j := 1) d_R_takeOut_26 rfl ?_
    refine g_get d_R_takeOut_27 f_R_80 hs.obj rfl ?_
    refine g_iload_n (j := 0) d_R_takeOut_30 rfl ?_
    refine g_aload_n (j := 1) d_R_takeOut_31 rfl ?_
    refine g_get d_R_takeOut_32 f_R_80 hs.obj rfl ?_
    refine g_iload_n (j := 0) d_R_takeOut_35 rfl ?_
    refine g_bipush (v := 7) d_R_takeOut_36 (by decide) ?_
    refine g_iadd d_R_takeOut_38 ?_
    refine g_norm (y := nI (i + 7)) (nI_add i 7) ?_
    refine r_iald (k := 23) (j := i + 7) d_R_takeOut_39 hs (by decide) rfl rfl (show i + 7 < 448 by omega) ?_
    refine r_iast (k := 23) (j := i) d_R_takeOut_40 hs (by decide) rfl rfl (show i < 448 by omega) (fun w2 hs3 => ?_)
    refine g_iinc (j := 0) (v := nI (i + 1)) (lv' := [(2, _), (0, _), (1, _)]) d_R_takeOut_41 rfl (nI_1 i) (by decide) rfl ?_
    refine g_goto (tgt := 15) d_R_takeOut_44 (by decide) ?_
    rw [saA_at, stA_saA, shR_s _ hlo] at hs3
    exact ih _ hs3 (by omega) (by omega) (by omega)

set_option maxHeartbeats 4000000 in
set_option maxRecDepth 100000 in
theorem c_R_takeOut {E : gE} {w : wd} {ad : Nat → Nat} {t : tR} (hs : SysR E ad t w) (k : Nat) (hp : okP t) (hk : k < pN t) : Cn E y_R_takeOut 1 0 0 [.ref (ad 0), .int (nI k)] w (fun r w' => r = none ∧ SysR E ad (s_R_takeOut t k) w') := by
  obtain ⟨hp1, hp2⟩ := hp
  unfold s_R_takeOut
  obtain ⟨m, hm⟩ : ∃ m, pN t = m + 1 := ⟨pN t - 1, by omega⟩
  rw [hm] at hp1 hp2 hk ⊢
  rw [Nat.add_sub_cancel]
  refine Cn.of (by decide) (Nat.le_of_ble_eq_true rfl) (fun A => ?_)
  show G E y_R_takeOut _ 0 [(0, .ref (ad 0)), (1, .int (nI k))] [] w 0 0
  refine g_aload_n (j := 0) d_R_takeOut_0 rfl ?_
  refine g_dup d_R_takeOut_1 rfl ?_
  refine g_get d_R_takeOut_2 f_R_96 hs.obj rfl ?_
  refine g_norm (y := nI (m + 1)) hp1 ?_
  refine g_iconst (v := 1) d_R_takeOut_5 (by decide) ?_
  refine g_isub d_R_takeOut_6 ?_
  refine g_norm (y := nI m) (nI_pred m) ?_
  refine g_put d_R_takeOut_7 fw_R_96 (Or.inl rfl) hs.obj rfl rfl (Nat.le_of_ble_eq_true rfl) ?_
  have hs2 : SysR E ad (stF t 9 (nI m)) _ := hs.sf (t' := stF t 9 (nI m)) (fs := (ceR ad t).set 32 (.int (nI m))) rfl rfl
  generalize wu _ (ad 0) _ = w1 at hs2 ⊢
  refine g_bipush (v := 7) d_R_takeOut_10 (by decide) ?_
  refine g_iload_n (j := 1) d_R_takeOut_12 rfl ?_
  refine g_imul d_R_takeOut_13 ?_
  refine g_norm (y := nI (7 * k)) (pk_mul 7 k) ?_
  refine g_istore_n (lv' := [(2, _), (0, _), (1, _)]) d_R_takeOut_14 (by decide) rfl ?_
  have hs9 : SysR E ad (saA (stF t 9 (nI m)) 23 (shR (t.2 23) (7 * k) (7 * k))) w1 := by
    rw [shR_0]
    rw [show saA (stF t 9 (nI m)) 23 (t.2 23) = stF t 9 (nI m) from saA_self (stF t 9 (nI m)) 23]
    exact hs2
  exact l_R_takeOut (stF t 9 (nI m)) (t.2 23) k m rfl (by omega) (7 * m - 7 * k) (7 * k) hs9 (by omega) (by omega) (by omega)
end
section
theorem foL_none (g : Nat → Int32) (x : Int32) : ∀ (k : Nat) (a : Int32), (∀ j, j < k → g j ≠ x) → foL g x k a = a := by
  intro k
  induction k with
  | zero => intro a _; rfl
  | succ k ih =>
    intro a h
    rw [foL, if_neg (h k (by omega))]
    exact ih a (fun j hj => h j (by omega))
theorem foL_some (g : Nat → Int32) (x : Int32) : ∀ (k : Nat) (a : Int32), (∃ j, j < k ∧ g j = x) → ∃ j, j < k ∧ g j = x ∧ (∀ i, i < j → g i ≠ x) ∧ foL g x k a = nI j := by
  intro k
  induction k with
  | zero => intro a h; obtain ⟨j, hj, _⟩ := h; omega
  | succ k ih =>
    intro a h
    rw [foL]
    by_cases hk : ∃ j, j < k ∧ g j = x
    · obtain ⟨j, h1, h2, h3, h4⟩ := ih (if g k = x then nI k else a) hk
      exact ⟨j, by omega, h2, h3, h4⟩
    · have hn : ∀ j, j < k → g j ≠ x := fun j hj hx => hk ⟨j, hj, hx⟩
      obtain ⟨j, h1, h2⟩ := h
      have hjk : j = k := by
        by_cases hc : j < k
        · exact absurd h2 (hn j hc)
        · omega
      subst hjk
      rw [if_pos h2]
      exact ⟨j, h1, h2, hn, foL_none g x j _ hn⟩
/-- the place that firstOf tells -/
def foN (t : tR) (f : Nat) : Nat := (s_R_firstOf t f).toNatClampNeg
theorem foN_ok {t : tR} {f : Nat} (hw : okW t) (h : ¬ s_R_firstOf t f < 0) : s_R_firstOf t f = nI (foN t f) ∧ foN t f < wN t ∧ wN t ≤ 519 := by
  have h2 := hw.2
  by_cases hx : ∃ j, j < wN t ∧ t.2 6 j = nI f
  · obtain ⟨j, h1, _, _, h4⟩ := foL_some (t.2 6) (nI f) (wN t) (-1) hx
    have e : s_R_firstOf t f = nI j := h4
    have e2 : foN t f = j := by unfold foN; rw [e]; exact nI_clamp (by omega)
    rw [e2]
    exact ⟨e, h1, h2⟩
  · have e : s_R_firstOf t f = -1 := foL_none _ _ _ _ (fun j hj hz => hx ⟨j, hj, hz⟩)
    rw [e] at h
    exact absurd (by decide) h
theorem foN_has {t : tR} {f j : Nat} (hj : j < wN t) (h : t.2 6 j = nI f) (hw : wN t ≤ 519) : ¬ s_R_firstOf t f < 0 := by
  obtain ⟨i, h1, _, _, h4⟩ := foL_some (t.2 6) (nI f) (wN t) (-1) ⟨j, hj, h⟩
  have e : s_R_firstOf t f = nI i := h4
  rw [e]
  exact nI_pos (by omega)
theorem isM_lt {t : tR} {k : Nat} (hp : okP t) (hk : k < 2 ^ 31) (h : ¬ s_R_isMessage t (nI k) = 0) : k < pN t := by
  have h2 := hp.2
  unfold s_R_isMessage at h
  rw [if_neg (nI_pos hk), hp.1] at h
  by_cases hc : nI (pN t) ≤ nI k
  · rw [if_pos hc] at h
    exact absurd rfl h
  · exact Nat.lt_of_not_le (fun z => hc ((nI_leI (by omega) hk).mpr z))

def s_R_given (t : tR) (c : Nat) (f : Nat) (wo : Int32) (a : Int32) (b : Int32) (d : Int32) : tR :=
  if t.2 11 c = 2 then
    if t.2 12 c = 0 then
      if t.2 10 c = wo then
        if d = 1 then
          if (s_R_finish t c a b).2 16 c = 0 then
            stA (stA (stA (stA (s_R_finish t c a b) 19 ((4 * c) + f) 1) 20 ((4 * c) + f) (((stA (s_R_finish t c a b) 19 ((4 * c) + f) 1).2 15 c) + ((stA (s_R_finish t c a b) 19 ((4 * c) + f) 1).1 3))) 21 ((4 * c) + f) a) 22 ((4 * c) + f) b
          else
            s_R_finish t c a b
        else
          s_R_finish t c a b
      else
        t
    else
      t
  else
    t
set_option maxHeartbeats 4000000 in
set_option maxRecDepth 100000 in
theorem c_R_given {E : gE} {w : wd} {ad : Nat → Nat} {t : tR} (hs : SysR E ad t w) (c : Nat) (f : Nat) (wo : Int32) (a : Int32) (b : Int32) (d : Int32) (hc : c < 4) (hf : f < 4) : Cn E y_R_given 2 0 0 [.ref (ad 0), .int (nI c), .int (nI f), .int wo, .int a, .int b, .int d] w (fun r w' => r = none ∧ SysR E ad (s_R_given t c f wo a b d) w') := by
  refine Cn.of (by decide) (Nat.le_of_ble_eq_true rfl) (fun A => ?_)
  show G E y_R_given _ 0 [(0, .ref (ad 0)), (1, .int (nI c)), (2, .int (nI f)), (3, .int wo), (4, .int a), (5, .int b), (6, .int d)] [] w 0 0
  refine g_aload_n (j := 0) d_R_given_0 rfl ?_
  refine g_get d_R_given_1 f_R_43 hs.obj rfl ?_
  refine g_iload_n (j := 1) d_R_given_4 rfl ?_
  refine r_iald (k := 11) (j := c) d_R_given_5 hs (by decide) rfl rfl (show c < 4 by omega) ?_
  refine g_iconst (v := 2) d_R_given_6 (by decide) ?_
  refine g_icmp_ne (tgt := 29) d_R_given_7 (by decide) (fun h1 => ?_) (fun h1 => ?_)
  · skip
    have hz : s_R_given t c f wo a b d = t := by
      unfold s_R_given
      rw [if_neg h1]
    exact g_return d_R_given_29 rfl (Nat.le_of_ble_eq_true rfl) (Nat.le_of_ble_eq_true rfl) ⟨rfl, by rw [hz]; exact hs⟩
  · skip
    refine g_aload_n (j := 0) d_R_given_10 rfl ?_
    refine g_get d_R_given_11 f_R_46 hs.obj rfl ?_
    refine g_iload_n (j := 1) d_R_given_14 rfl ?_
    refine r_zald (k := 12) (j := c) d_R_given_15 hs (by decide) rfl rfl (show c < 4 by omega) ?_
    refine g_if_ne (tgt := 29) d_R_given_16 (by decide) (fun h2 => ?_) (fun h2 => ?_)
    · skip
      have hz : s_R_given t c f wo a b d = t := by
        unfold s_R_given
        rw [if_pos h1, if_neg h2]
      exact g_return d_R_given_29 rfl (Nat.le_of_ble_eq_true rfl) (Nat.le_of_ble_eq_true rfl) ⟨rfl, by rw [hz]; exact hs⟩
    · skip
      refine g_aload_n (j := 0) d_R_given_19 rfl ?_
      refine g_get d_R_given_20 f_R_40 hs.obj rfl ?_
      refine g_iload_n (j := 1) d_R_given_23 rfl ?_
      refine r_iald (k := 10) (j := c) d_R_given_24 hs (by decide) rfl rfl (show c < 4 by omega) ?_
      refine g_iload_n (j := 3) d_R_given_25 rfl ?_
      refine g_icmp_eq (tgt := 30) d_R_given_26 (by decide) (fun h3 => ?_) (fun h3 => ?_)
      · skip
        refine g_aload_n (j := 0) d_R_given_30 rfl ?_
        refine g_iload_n (j := 1) d_R_given_31 rfl ?_
        refine g_iload (j := 4) d_R_given_32 rfl ?_
        refine g_iload (j := 5) d_R_given_34 rfl ?_
        refine g_callV (c_R_finish hs c a b (by omega)) ok_R_finish lk_R_114 in_R_finish se_R_finish hs.obj rfl d_R_given_36 rfl rfl (Nat.le_of_ble_eq_true rfl) ⟨(Nat.le_of_ble_eq_true rfl), (Nat.le_of_ble_eq_true rfl)⟩ (Nat.le_of_ble_eq_true rfl) (Nat.le_of_ble_eq_true rfl) (fun r w' hq => ?_)
        obtain ⟨rfl, hs4⟩ := hq
        refine g_iload (j := 6) d_R_given_39 rfl ?_
        refine g_iconst (v := 1) d_R_given_41 (by decide) ?_
        refine g_icmp_ne (tgt := 105) d_R_given_42 (by decide) (fun h6 => ?_) (fun h6 => ?_)
        · skip
          have hz : s_R_given t c f wo a b d = s_R_finish t c a b := by
            unfold s_R_given
            rw [if_pos h1, if_pos h2, if_pos h3, if_neg h6]
          exact g_return d_R_given_105 rfl (Nat.le_of_ble_eq_true rfl) (Nat.le_of_ble_eq_true rfl) ⟨rfl, by rw [hz]; exact hs4⟩
        · skip
          refine g_aload_n (j := 0) d_R_given_45 rfl ?_
          refine g_get d_R_given_46 f_R_59 hs4.obj rfl ?_
          refine g_iload_n (j := 1) d_R_given_49 rfl ?_
          refine r_zald (k := 16) (j := c) d_R_given_50 hs4 (by decide) rfl rfl (show c < 4 by omega) ?_
          refine g_if_ne (tgt := 105) d_R_given_51 (by decide) (fun h7 => ?_) (fun h7 => ?_)
          · skip
            have hz : s_R_given t c f wo a b d = s_R_finish t c a b := by
              unfold s_R_given
              rw [if_pos h1, if_pos h2, if_pos h3, if_pos h6, if_neg h7]
            exact g_return d_R_given_105 rfl (Nat.le_of_ble_eq_true rfl) (Nat.le_of_ble_eq_true rfl) ⟨rfl, by rw [hz]; exact hs4⟩
          · skip
            refine g_iconst (v := 4) d_R_given_54 (by decide) ?_
            refine g_iload_n (j := 1) d_R_given_55 rfl ?_
            refine g_imul d_R_given_56 ?_
            refine g_norm (y := nI (4 * c)) (pk_mul 4 c) ?_
            refine g_iload_n (j := 2) d_R_given_57 rfl ?_
            refine g_iadd d_R_given_58 ?_
            refine g_norm (y := nI ((4 * c) + f)) (nI_add (4 * c) f) ?_
            refine g_istore (lv' := [(7, _), (0, _), (1, _), (2, _), (3, _), (4, _), (5, _), (6, _)]) d_R_given_59 (by decide) rfl ?_
            refine g_aload_n (j := 1) d_R_given_61 rfl ?_
            refine g_get d_R_given_62 f_R_68 hs4.obj rfl ?_
            refine g_iload (j := 0) d_R_given_65 rfl ?_
            refine g_iconst (v := 1) d_R_given_67 (by decide) ?_
            refine r_zast (k := 19) (j := (4 * c) + f) d_R_given_68 hs4 (by decide) rfl rfl (show (4 * c) + f < 16 by omega) (by decide) (fun w8 hs9 => ?_)
            refine g_aload_n (j := 1) d_R_given_69 rfl ?_
            refine g_get d_R_given_70 f_R_71 hs9.obj rfl ?_
            refine g_iload (j := 0) d_R_given_73 rfl ?_
            refine g_aload_n (j := 1) d_R_given_75 rfl ?_
            refine g_get d_R_given_76 f_R_56 hs9.obj rfl ?_
            refine g_iload_n (j := 2) d_R_given_79 rfl ?_
            refine r_iald (k := 15) (j := c) d_R_given_80 hs9 (by decide) rfl rfl (show c < 4 by omega) ?_
            refine g_aload_n (j := 1) d_R_given_81 rfl ?_
            refine g_get d_R_given_82 f_R_93 hs9.obj rfl ?_
            refine g_iadd d_R_given_85 ?_
            refine r_iast (k := 20) (j := (4 * c) + f) d_R_given_86 hs9 (by decide) rfl rfl (show (4 * c) + f < 16 by omega) (fun w10 hs11 => ?_)
            refine g_aload_n (j := 1) d_R_given_87 rfl ?_
            refine g_get d_R_given_88 f_R_74 hs11.obj rfl ?_
            refine g_iload (j := 0) d_R_given_91 rfl ?_
            refine g_iload (j := 5) d_R_given_93 rfl ?_
            refine r_iast (k := 21) (j := (4 * c) + f) d_R_given_95 hs11 (by decide) rfl rfl (show (4 * c) + f < 16 by omega) (fun w12 hs13 => ?_)
            refine g_aload_n (j := 1) d_R_given_96 rfl ?_
            refine g_get d_R_given_97 f_R_77 hs13.obj rfl ?_
            refine g_iload (j := 0) d_R_given_100 rfl ?_
            refine g_iload (j := 6) d_R_given_102 rfl ?_
            refine r_iast (k := 22) (j := (4 * c) + f) d_R_given_104 hs13 (by decide) rfl rfl (show (4 * c) + f < 16 by omega) (fun w14 hs15 => ?_)
            have hz : s_R_given t c f wo a b d = stA (stA (stA (stA (s_R_finish t c a b) 19 ((4 * c) + f) 1) 20 ((4 * c) + f) (((stA (s_R_finish t c a b) 19 ((4 * c) + f) 1).2 15 c) + ((stA (s_R_finish t c a b) 19 ((4 * c) + f) 1).1 3))) 21 ((4 * c) + f) a) 22 ((4 * c) + f) b := by
              unfold s_R_given
              rw [if_pos h1, if_pos h2, if_pos h3, if_pos h6, if_pos h7]
            exact g_return d_R_given_105 rfl (Nat.le_of_ble_eq_true rfl) (Nat.le_of_ble_eq_true rfl) ⟨rfl, by rw [hz]; exact hs15⟩
      · skip
        have hz : s_R_given t c f wo a b d = t := by
          unfold s_R_given
          rw [if_pos h1, if_pos h2, if_neg h3]
        exact g_return d_R_given_29 rfl (Nat.le_of_ble_eq_true rfl) (Nat.le_of_ble_eq_true rfl) ⟨rfl, by rw [hz]; exact hs⟩

def s_R_recalled (t : tR) (c : Nat) (f : Nat) (wo : Int32) (a : Int32) (b : Int32) : tR :=
  if (stA t 19 ((4 * c) + f) 0).2 11 c = 2 then
    if (stA t 19 ((4 * c) + f) 0).2 12 c = 0 then
      if (stA t 19 ((4 * c) + f) 0).2 13 c = nI f then
        s_R_send (stA (stA t 19 ((4 * c) + f) 0) 16 c 1) 5 (nI c) (nI f) wo a b 0
      else
        s_R_send (stA t 19 ((4 * c) + f) 0) 5 (nI c) (nI f) wo a b 0
    else
      s_R_send (stA t 19 ((4 * c) + f) 0) 5 (nI c) (nI f) wo a b 0
  else
    s_R_send (stA t 19 ((4 * c) + f) 0) 5 (nI c) (nI f) wo a b 0
set_option maxHeartbeats 4000000 in
set_option maxRecDepth 100000 in
theorem c_R_recalled {E : gE} {w : wd} {ad : Nat → Nat} {t : tR} (hs : SysR E ad t w) (c : Nat) (f : Nat) (wo : Int32) (a : Int32) (b : Int32) (hc : c < 4) (hf : f < 4) (hp : okP t) : Cn E y_R_recalled 2 0 0 [.ref (ad 0), .int (nI c), .int (nI f), .int wo, .int a, .int b] w (fun r w' => r = none ∧ SysR E ad (s_R_recalled t c f wo a b) w') := by
  refine Cn.of (by decide) (Nat.le_of_ble_eq_true rfl) (fun A => ?_)
  show G E y_R_recalled _ 0 [(0, .ref (ad 0)), (1, .int (nI c)), (2, .int (nI f)), (3, .int wo), (4, .int a), (5, .int b)] [] w 0 0
  refine g_aload_n (j := 0) d_R_recalled_0 rfl ?_
  refine g_get d_R_recalled_1 f_R_68 hs.obj rfl ?_
  refine g_iconst (v := 4) d_R_recalled_4 (by decide) ?_
  refine g_iload_n (j := 1) d_R_recalled_5 rfl ?_
  refine g_imul d_R_recalled_6 ?_
  refine g_norm (y := nI (4 * c)) (pk_mul 4 c) ?_
  refine g_iload_n (j := 2) d_R_recalled_7 rfl ?_
  refine g_iadd d_R_recalled_8 ?_
  refine g_norm (y := nI ((4 * c) + f)) (nI_add (4 * c) f) ?_
  refine g_iconst (v := 0) d_R_recalled_9 (by decide) ?_
  refine r_zast (k := 19) (j := (4 * c) + f) d_R_recalled_10 hs (by decide) rfl rfl (show (4 * c) + f < 16 by omega) (by decide) (fun w1 hs2 => ?_)
  refine g_aload_n (j := 0) d_R_recalled_11 rfl ?_
  refine g_get d_R_recalled_12 f_R_43 hs2.obj rfl ?_
  refine g_iload_n (j := 1) d_R_recalled_15 rfl ?_
  refine r_iald (k := 11) (j := c) d_R_recalled_16 hs2 (by decide) rfl rfl (show c < 4 by omega) ?_
  refine g_iconst (v := 2) d_R_recalled_17 (by decide) ?_
  refine g_icmp_ne (tgt := 47) d_R_recalled_18 (by decide) (fun h3 => ?_) (fun h3 => ?_)
  · skip
    refine g_aload_n (j := 0) d_R_recalled_47 rfl ?_
    refine g_iconst (v := 5) d_R_recalled_48 (by decide) ?_
    refine g_iload_n (j := 1) d_R_recalled_49 rfl ?_
    refine g_iload_n (j := 2) d_R_recalled_50 rfl ?_
    refine g_iload_n (j := 3) d_R_recalled_51 rfl ?_
    refine g_iload (j := 4) d_R_recalled_52 rfl ?_
    refine g_iload (j := 5) d_R_recalled_54 rfl ?_
    refine g_iconst (v := 0) d_R_recalled_56 (by decide) ?_
    refine g_callV (c_R_send hs2 5 (nI c) (nI f) wo a b 0 hp) ok_R_send lk_R_99 in_R_send se_R_send hs2.obj rfl d_R_recalled_57 rfl rfl (Nat.le_of_ble_eq_true rfl) ⟨(Nat.le_of_ble_eq_true rfl), (Nat.le_of_ble_eq_true rfl)⟩ (Nat.le_of_ble_eq_true rfl) (Nat.le_of_ble_eq_true rfl) (fun r w' hq => ?_)
    obtain ⟨rfl, hs4⟩ := hq
    have hz : s_R_recalled t c f wo a b = s_R_send (stA t 19 ((4 * c) + f) 0) 5 (nI c) (nI f) wo a b 0 := by
      unfold s_R_recalled
      rw [if_neg h3]
    exact g_return d_R_recalled_60 rfl (Nat.le_of_ble_eq_true rfl) (Nat.le_of_ble_eq_true rfl) ⟨rfl, by rw [hz]; exact hs4⟩
  · skip
    refine g_aload_n (j := 0) d_R_recalled_21 rfl ?_
    refine g_get d_R_recalled_22 f_R_46 hs2.obj rfl ?_
    refine g_iload_n (j := 1) d_R_recalled_25 rfl ?_
    refine r_zald (k := 12) (j := c) d_R_recalled_26 hs2 (by decide) rfl rfl (show c < 4 by omega) ?_
    refine g_if_ne (tgt := 47) d_R_recalled_27 (by decide) (fun h6 => ?_) (fun h6 => ?_)
    · skip
      refine g_aload_n (j := 0) d_R_recalled_47 rfl ?_
      refine g_iconst (v := 5) d_R_recalled_48 (by decide) ?_
      refine g_iload_n (j := 1) d_R_recalled_49 rfl ?_
      refine g_iload_n (j := 2) d_R_recalled_50 rfl ?_
      refine g_iload_n (j := 3) d_R_recalled_51 rfl ?_
      refine g_iload (j := 4) d_R_recalled_52 rfl ?_
      refine g_iload (j := 5) d_R_recalled_54 rfl ?_
      refine g_iconst (v := 0) d_R_recalled_56 (by decide) ?_
      refine g_callV (c_R_send hs2 5 (nI c) (nI f) wo a b 0 hp) ok_R_send lk_R_99 in_R_send se_R_send hs2.obj rfl d_R_recalled_57 rfl rfl (Nat.le_of_ble_eq_true rfl) ⟨(Nat.le_of_ble_eq_true rfl), (Nat.le_of_ble_eq_true rfl)⟩ (Nat.le_of_ble_eq_true rfl) (Nat.le_of_ble_eq_true rfl) (fun r w' hq => ?_)
      obtain ⟨rfl, hs7⟩ := hq
      have hz : s_R_recalled t c f wo a b = s_R_send (stA t 19 ((4 * c) + f) 0) 5 (nI c) (nI f) wo a b 0 := by
        unfold s_R_recalled
        rw [if_pos h3, if_neg h6]
      exact g_return d_R_recalled_60 rfl (Nat.le_of_ble_eq_true rfl) (Nat.le_of_ble_eq_true rfl) ⟨rfl, by rw [hz]; exact hs7⟩
    · skip
      refine g_aload_n (j := 0) d_R_recalled_30 rfl ?_
      refine g_get d_R_recalled_31 f_R_50 hs2.obj rfl ?_
      refine g_iload_n (j := 1) d_R_recalled_34 rfl ?_
      refine r_iald (k := 13) (j := c) d_R_recalled_35 hs2 (by decide) rfl rfl (show c < 4 by omega) ?_
      refine g_iload_n (j := 2) d_R_recalled_36 rfl ?_
      refine g_icmp_ne (tgt := 47) d_R_recalled_37 (by decide) (fun h9 => ?_) (fun h9 => ?_)
      · skip
        refine g_aload_n (j := 0) d_R_recalled_47 rfl ?_
        refine g_iconst (v := 5) d_R_recalled_48 (by decide) ?_
        refine g_iload_n (j := 1) d_R_recalled_49 rfl ?_
        refine g_iload_n (j := 2) d_R_recalled_50 rfl ?_
        refine g_iload_n (j := 3) d_R_recalled_51 rfl ?_
        refine g_iload (j := 4) d_R_recalled_52 rfl ?_
        refine g_iload (j := 5) d_R_recalled_54 rfl ?_
        refine g_iconst (v := 0) d_R_recalled_56 (by decide) ?_
        refine g_callV (c_R_send hs2 5 (nI c) (nI f) wo a b 0 hp) ok_R_send lk_R_99 in_R_send se_R_send hs2.obj rfl d_R_recalled_57 rfl rfl (Nat.le_of_ble_eq_true rfl) ⟨(Nat.le_of_ble_eq_true rfl), (Nat.le_of_ble_eq_true rfl)⟩ (Nat.le_of_ble_eq_true rfl) (Nat.le_of_ble_eq_true rfl) (fun r w' hq => ?_)
        obtain ⟨rfl, hs10⟩ := hq
        have hz : s_R_recalled t c f wo a b = s_R_send (stA t 19 ((4 * c) + f) 0) 5 (nI c) (nI f) wo a b 0 := by
          unfold s_R_recalled
          rw [if_pos h3, if_pos h6, if_neg h9]
        exact g_return d_R_recalled_60 rfl (Nat.le_of_ble_eq_true rfl) (Nat.le_of_ble_eq_true rfl) ⟨rfl, by rw [hz]; exact hs10⟩
      · skip
        refine g_aload_n (j := 0) d_R_recalled_40 rfl ?_
        refine g_get d_R_recalled_41 f_R_59 hs2.obj rfl ?_
        refine g_iload_n (j := 1) d_R_recalled_44 rfl ?_
        refine g_iconst (v := 1) d_R_recalled_45 (by decide) ?_
        refine r_zast (k := 16) (j := c) d_R_recalled_46 hs2 (by decide) rfl rfl (show c < 4 by omega) (by decide) (fun w12 hs13 => ?_)
        refine g_aload_n (j := 0) d_R_recalled_47 rfl ?_
        refine g_iconst (v := 5) d_R_recalled_48 (by decide) ?_
        refine g_iload_n (j := 1) d_R_recalled_49 rfl ?_
        refine g_iload_n (j := 2) d_R_recalled_50 rfl ?_
        refine g_iload_n (j := 3) d_R_recalled_51 rfl ?_
        refine g_iload (j := 4) d_R_recalled_52 rfl ?_
        refine g_iload (j := 5) d_R_recalled_54 rfl ?_
        refine g_iconst (v := 0) d_R_recalled_56 (by decide) ?_
        refine g_callV (c_R_send hs13 5 (nI c) (nI f) wo a b 0 hp) ok_R_send lk_R_99 in_R_send se_R_send hs13.obj rfl d_R_recalled_57 rfl rfl (Nat.le_of_ble_eq_true rfl) ⟨(Nat.le_of_ble_eq_true rfl), (Nat.le_of_ble_eq_true rfl)⟩ (Nat.le_of_ble_eq_true rfl) (Nat.le_of_ble_eq_true rfl) (fun r w' hq => ?_)
        obtain ⟨rfl, hs14⟩ := hq
        have hz : s_R_recalled t c f wo a b = s_R_send (stA (stA t 19 ((4 * c) + f) 0) 16 c 1) 5 (nI c) (nI f) wo a b 0 := by
          unfold s_R_recalled
          rw [if_pos h3, if_pos h6, if_pos h9]
        exact g_return d_R_recalled_60 rfl (Nat.le_of_ble_eq_true rfl) (Nat.le_of_ble_eq_true rfl) ⟨rfl, by rw [hz]; exact hs14⟩

def s_R_asked (t : tR) (c : Nat) (f : Nat) (wo : Int32) : tR :=
  if 0 ≤ s_R_firstOf t f then
    if (0 : Int32) = 0 then
      if (0 : Int32) = 0 then
        s_R_send t 2 (nI c) (nI f) wo (t.2 0 f) (t.2 1 f) 0
      else
        stA (s_R_send t 2 (nI c) (nI f) wo (t.2 0 f) (t.2 1 f) 0) 2 ((4 * c) + f) (((s_R_send t 2 (nI c) (nI f) wo (t.2 0 f) (t.2 1 f) 0).1 4) + ((s_R_send t 2 (nI c) (nI f) wo (t.2 0 f) (t.2 1 f) 0).1 2))
    else
      if (0 : Int32) = 0 then
        s_R_send t 2 (nI c) (nI f) wo (t.2 0 f) (t.2 1 f) 1
      else
        stA (s_R_send t 2 (nI c) (nI f) wo (t.2 0 f) (t.2 1 f) 1) 2 ((4 * c) + f) (((s_R_send t 2 (nI c) (nI f) wo (t.2 0 f) (t.2 1 f) 1).1 4) + ((s_R_send t 2 (nI c) (nI f) wo (t.2 0 f) (t.2 1 f) 1).1 2))
  else
    if (1 : Int32) = 0 then
      if (1 : Int32) = 0 then
        s_R_send t 2 (nI c) (nI f) wo (t.2 0 f) (t.2 1 f) 0
      else
        stA (s_R_send t 2 (nI c) (nI f) wo (t.2 0 f) (t.2 1 f) 0) 2 ((4 * c) + f) (((s_R_send t 2 (nI c) (nI f) wo (t.2 0 f) (t.2 1 f) 0).1 4) + ((s_R_send t 2 (nI c) (nI f) wo (t.2 0 f) (t.2 1 f) 0).1 2))
    else
      if (1 : Int32) = 0 then
        s_R_send t 2 (nI c) (nI f) wo (t.2 0 f) (t.2 1 f) 1
      else
        stA (s_R_send t 2 (nI c) (nI f) wo (t.2 0 f) (t.2 1 f) 1) 2 ((4 * c) + f) (((s_R_send t 2 (nI c) (nI f) wo (t.2 0 f) (t.2 1 f) 1).1 4) + ((s_R_send t 2 (nI c) (nI f) wo (t.2 0 f) (t.2 1 f) 1).1 2))
set_option maxHeartbeats 4000000 in
set_option maxRecDepth 100000 in
theorem c_R_asked {E : gE} {w : wd} {ad : Nat → Nat} {t : tR} (hs : SysR E ad t w) (c : Nat) (f : Nat) (wo : Int32) (hc : c < 4) (hf : f < 4) (hp : okP t) (hw : okW t) : Cn E y_R_asked 2 0 0 [.ref (ad 0), .int (nI c), .int (nI f), .int wo] w (fun r w' => r = none ∧ SysR E ad (s_R_asked t c f wo) w') := by
  refine Cn.of (by decide) (Nat.le_of_ble_eq_true rfl) (fun A => ?_)
  show G E y_R_asked _ 0 [(0, .ref (ad 0)), (1, .int (nI c)), (2, .int (nI f)), (3, .int wo)] [] w 0 0
  refine g_aload_n (j := 0) d_R_asked_0 rfl ?_
  refine g_iload_n (j := 2) d_R_asked_1 rfl ?_
  refine g_callV (c_R_firstOf hs f hw) ok_R_firstOf lk_R_128 in_R_firstOf se_R_firstOf hs.obj rfl d_R_asked_2 rfl rfl (Nat.le_of_ble_eq_true rfl) ⟨(Nat.le_of_ble_eq_true rfl), (Nat.le_of_ble_eq_true rfl)⟩ (Nat.le_of_ble_eq_true rfl) (Nat.le_of_ble_eq_true rfl) (fun r w' hq => ?_)
  obtain ⟨rfl, rfl⟩ := hq
  refine g_if_ge (tgt := 12) d_R_asked_5 (by decide) (fun h1 => ?_) (fun h1 => ?_)
  · skip
    refine g_iconst (v := 0) d_R_asked_12 (by decide) ?_
    refine g_istore (lv' := [(4, _), (0, _), (1, _), (2, _), (3, _)]) d_R_asked_13 (by decide) rfl ?_
    refine g_aload_n (j := 1) d_R_asked_15 rfl ?_
    refine g_iconst (v := 2) d_R_asked_16 (by decide) ?_
    refine g_iload_n (j := 2) d_R_asked_17 rfl ?_
    refine g_iload_n (j := 3) d_R_asked_18 rfl ?_
    refine g_iload_n (j := 4) d_R_asked_19 rfl ?_
    refine g_aload_n (j := 1) d_R_asked_20 rfl ?_
    refine g_get d_R_asked_21 f_R_7 hs.obj rfl ?_
    refine g_iload_n (j := 3) d_R_asked_24 rfl ?_
    refine r_iald (k := 0) (j := f) d_R_asked_25 hs (by decide) rfl rfl (show f < 4 by omega) ?_
    refine g_aload_n (j := 1) d_R_asked_26 rfl ?_
    refine g_get d_R_asked_27 f_R_13 hs.obj rfl ?_
    refine g_iload_n (j := 3) d_R_asked_30 rfl ?_
    refine r_iald (k := 1) (j := f) d_R_asked_31 hs (by decide) rfl rfl (show f < 4 by omega) ?_
    refine g_iload (j := 0) d_R_asked_32 rfl ?_
    refine g_if_eq (tgt := 41) d_R_asked_34 (by decide) (fun h2 => ?_) (fun h2 => ?_)
    · skip
      refine g_iconst (v := 0) d_R_asked_41 (by decide) ?_
      refine g_callV (c_R_send hs 2 (nI c) (nI f) wo (t.2 0 f) (t.2 1 f) 0 hp) ok_R_send lk_R_99 in_R_send se_R_send hs.obj rfl d_R_asked_42 rfl rfl (Nat.le_of_ble_eq_true rfl) ⟨(Nat.le_of_ble_eq_true rfl), (Nat.le_of_ble_eq_true rfl)⟩ (Nat.le_of_ble_eq_true rfl) (Nat.le_of_ble_eq_true rfl) (fun r w' hq => ?_)
      obtain ⟨rfl, hs3⟩ := hq
      refine g_iload (j := 0) d_R_asked_45 rfl ?_
      refine g_if_eq (tgt := 69) d_R_asked_47 (by decide) (fun h5 => ?_) (fun h5 => ?_)
      · skip
        have hz : s_R_asked t c f wo = s_R_send t 2 (nI c) (nI f) wo (t.2 0 f) (t.2 1 f) 0 := by
          unfold s_R_asked
          rw [if_pos h1, if_pos h2, if_pos h5]
        exact g_return d_R_asked_69 rfl (Nat.le_of_ble_eq_true rfl) (Nat.le_of_ble_eq_true rfl) ⟨rfl, by rw [hz]; exact hs3⟩
      · skip
        refine g_aload_n (j := 1) d_R_asked_50 rfl ?_
        refine g_get d_R_asked_51 f_R_16 hs3.obj rfl ?_
        refine g_iconst (v := 4) d_R_asked_54 (by decide) ?_
        refine g_iload_n (j := 2) d_R_asked_55 rfl ?_
        refine g_imul d_R_asked_56 ?_
        refine g_norm (y := nI (4 * c)) (pk_mul 4 c) ?_
        refine g_iload_n (j := 3) d_R_asked_57 rfl ?_
        refine g_iadd d_R_asked_58 ?_
        refine g_norm (y := nI ((4 * c) + f)) (nI_add (4 * c) f) ?_
        refine g_aload_n (j := 1) d_R_asked_59 rfl ?_
        refine g_get d_R_asked_60 f_R_122 hs3.obj rfl ?_
        refine g_aload_n (j := 1) d_R_asked_63 rfl ?_
        refine g_get d_R_asked_64 f_R_90 hs3.obj rfl ?_
        refine g_iadd d_R_asked_67 ?_
        refine r_iast (k := 2) (j := (4 * c) + f) d_R_asked_68 hs3 (by decide) rfl rfl (show (4 * c) + f < 16 by omega) (fun w6 hs7 => ?_)
        have hz : s_R_asked t c f wo = stA (s_R_send t 2 (nI c) (nI f) wo (t.2 0 f) (t.2 1 f) 0) 2 ((4 * c) + f) (((s_R_send t 2 (nI c) (nI f) wo (t.2 0 f) (t.2 1 f) 0).1 4) + ((s_R_send t 2 (nI c) (nI f) wo (t.2 0 f) (t.2 1 f) 0).1 2)) := by
          unfold s_R_asked
          rw [if_pos h1, if_pos h2, if_neg h5]
        exact g_return d_R_asked_69 rfl (Nat.le_of_ble_eq_true rfl) (Nat.le_of_ble_eq_true rfl) ⟨rfl, by rw [hz]; exact hs7⟩
    · skip
      refine g_iconst (v := 1) d_R_asked_37 (by decide) ?_
      refine g_goto (tgt := 42) d_R_asked_38 (by decide) ?_
      refine g_callV (c_R_send hs 2 (nI c) (nI f) wo (t.2 0 f) (t.2 1 f) 1 hp) ok_R_send lk_R_99 in_R_send se_R_send hs.obj rfl d_R_asked_42 rfl rfl (Nat.le_of_ble_eq_true rfl) ⟨(Nat.le_of_ble_eq_true rfl), (Nat.le_of_ble_eq_true rfl)⟩ (Nat.le_of_ble_eq_true rfl) (Nat.le_of_ble_eq_true rfl) (fun r w' hq => ?_)
      obtain ⟨rfl, hs8⟩ := hq
      refine g_iload (j := 0) d_R_asked_45 rfl ?_
      refine g_if_eq (tgt := 69) d_R_asked_47 (by decide) (fun h10 => ?_) (fun h10 => ?_)
      · skip
        have hz : s_R_asked t c f wo = s_R_send t 2 (nI c) (nI f) wo (t.2 0 f) (t.2 1 f) 1 := by
          unfold s_R_asked
          rw [if_pos h1, if_neg h2, if_pos h10]
        exact g_return d_R_asked_69 rfl (Nat.le_of_ble_eq_true rfl) (Nat.le_of_ble_eq_true rfl) ⟨rfl, by rw [hz]; exact hs8⟩
      · skip
        refine g_aload_n (j := 1) d_R_asked_50 rfl ?_
        refine g_get d_R_asked_51 f_R_16 hs8.obj rfl ?_
        refine g_iconst (v := 4) d_R_asked_54 (by decide) ?_
        refine g_iload_n (j := 2) d_R_asked_55 rfl ?_
        refine g_imul d_R_asked_56 ?_
        refine g_norm (y := nI (4 * c)) (pk_mul 4 c) ?_
        refine g_iload_n (j := 3) d_R_asked_57 rfl ?_
        refine g_iadd d_R_asked_58 ?_
        refine g_norm (y := nI ((4 * c) + f)) (nI_add (4 * c) f) ?_
        refine g_aload_n (j := 1) d_R_asked_59 rfl ?_
        refine g_get d_R_asked_60 f_R_122 hs8.obj rfl ?_
        refine g_aload_n (j := 1) d_R_asked_63 rfl ?_
        refine g_get d_R_asked_64 f_R_90 hs8.obj rfl ?_
        refine g_iadd d_R_asked_67 ?_
        refine r_iast (k := 2) (j := (4 * c) + f) d_R_asked_68 hs8 (by decide) rfl rfl (show (4 * c) + f < 16 by omega) (fun w11 hs12 => ?_)
        have hz : s_R_asked t c f wo = stA (s_R_send t 2 (nI c) (nI f) wo (t.2 0 f) (t.2 1 f) 1) 2 ((4 * c) + f) (((s_R_send t 2 (nI c) (nI f) wo (t.2 0 f) (t.2 1 f) 1).1 4) + ((s_R_send t 2 (nI c) (nI f) wo (t.2 0 f) (t.2 1 f) 1).1 2)) := by
          unfold s_R_asked
          rw [if_pos h1, if_neg h2, if_neg h10]
        exact g_return d_R_asked_69 rfl (Nat.le_of_ble_eq_true rfl) (Nat.le_of_ble_eq_true rfl) ⟨rfl, by rw [hz]; exact hs12⟩
  · skip
    refine g_iconst (v := 1) d_R_asked_8 (by decide) ?_
    refine g_goto (tgt := 13) d_R_asked_9 (by decide) ?_
    refine g_istore (lv' := [(4, _), (0, _), (1, _), (2, _), (3, _)]) d_R_asked_13 (by decide) rfl ?_
    refine g_aload_n (j := 1) d_R_asked_15 rfl ?_
    refine g_iconst (v := 2) d_R_asked_16 (by decide) ?_
    refine g_iload_n (j := 2) d_R_asked_17 rfl ?_
    refine g_iload_n (j := 3) d_R_asked_18 rfl ?_
    refine g_iload_n (j := 4) d_R_asked_19 rfl ?_
    refine g_aload_n (j := 1) d_R_asked_20 rfl ?_
    refine g_get d_R_asked_21 f_R_7 hs.obj rfl ?_
    refine g_iload_n (j := 3) d_R_asked_24 rfl ?_
    refine r_iald (k := 0) (j := f) d_R_asked_25 hs (by decide) rfl rfl (show f < 4 by omega) ?_
    refine g_aload_n (j := 1) d_R_asked_26 rfl ?_
    refine g_get d_R_asked_27 f_R_13 hs.obj rfl ?_
    refine g_iload_n (j := 3) d_R_asked_30 rfl ?_
    refine r_iald (k := 1) (j := f) d_R_asked_31 hs (by decide) rfl rfl (show f < 4 by omega) ?_
    refine g_iload (j := 0) d_R_asked_32 rfl ?_
    refine g_if_eq (tgt := 41) d_R_asked_34 (by decide) (fun h13 => ?_) (fun h13 => ?_)
    · skip
      refine g_iconst (v := 0) d_R_asked_41 (by decide) ?_
      refine g_callV (c_R_send hs 2 (nI c) (nI f) wo (t.2 0 f) (t.2 1 f) 0 hp) ok_R_send lk_R_99 in_R_send se_R_send hs.obj rfl d_R_asked_42 rfl rfl (Nat.le_of_ble_eq_true rfl) ⟨(Nat.le_of_ble_eq_true rfl), (Nat.le_of_ble_eq_true rfl)⟩ (Nat.le_of_ble_eq_true rfl) (Nat.le_of_ble_eq_true rfl) (fun r w' hq => ?_)
      obtain ⟨rfl, hs14⟩ := hq
      refine g_iload (j := 0) d_R_asked_45 rfl ?_
      refine g_if_eq (tgt := 69) d_R_asked_47 (by decide) (fun h16 => ?_) (fun h16 => ?_)
      · skip
        have hz : s_R_asked t c f wo = s_R_send t 2 (nI c) (nI f) wo (t.2 0 f) (t.2 1 f) 0 := by
          unfold s_R_asked
          rw [if_neg h1, if_pos h13, if_pos h16]
        exact g_return d_R_asked_69 rfl (Nat.le_of_ble_eq_true rfl) (Nat.le_of_ble_eq_true rfl) ⟨rfl, by rw [hz]; exact hs14⟩
      · skip
        refine g_aload_n (j := 1) d_R_asked_50 rfl ?_
        refine g_get d_R_asked_51 f_R_16 hs14.obj rfl ?_
        refine g_iconst (v := 4) d_R_asked_54 (by decide) ?_
        refine g_iload_n (j := 2) d_R_asked_55 rfl ?_
        refine g_imul d_R_asked_56 ?_
        refine g_norm (y := nI (4 * c)) (pk_mul 4 c) ?_
        refine g_iload_n (j := 3) d_R_asked_57 rfl ?_
        refine g_iadd d_R_asked_58 ?_
        refine g_norm (y := nI ((4 * c) + f)) (nI_add (4 * c) f) ?_
        refine g_aload_n (j := 1) d_R_asked_59 rfl ?_
        refine g_get d_R_asked_60 f_R_122 hs14.obj rfl ?_
        refine g_aload_n (j := 1) d_R_asked_63 rfl ?_
        refine g_get d_R_asked_64 f_R_90 hs14.obj rfl ?_
        refine g_iadd d_R_asked_67 ?_
        refine r_iast (k := 2) (j := (4 * c) + f) d_R_asked_68 hs14 (by decide) rfl rfl (show (4 * c) + f < 16 by omega) (fun w17 hs18 => ?_)
        have hz : s_R_asked t c f wo = stA (s_R_send t 2 (nI c) (nI f) wo (t.2 0 f) (t.2 1 f) 0) 2 ((4 * c) + f) (((s_R_send t 2 (nI c) (nI f) wo (t.2 0 f) (t.2 1 f) 0).1 4) + ((s_R_send t 2 (nI c) (nI f) wo (t.2 0 f) (t.2 1 f) 0).1 2)) := by
          unfold s_R_asked
          rw [if_neg h1, if_pos h13, if_neg h16]
        exact g_return d_R_asked_69 rfl (Nat.le_of_ble_eq_true rfl) (Nat.le_of_ble_eq_true rfl) ⟨rfl, by rw [hz]; exact hs18⟩
    · skip
      refine g_iconst (v := 1) d_R_asked_37 (by decide) ?_
      refine g_goto (tgt := 42) d_R_asked_38 (by decide) ?_
      refine g_callV (c_R_send hs 2 (nI c) (nI f) wo (t.2 0 f) (t.2 1 f) 1 hp) ok_R_send lk_R_99 in_R_send se_R_send hs.obj rfl d_R_asked_42 rfl rfl (Nat.le_of_ble_eq_true rfl) ⟨(Nat.le_of_ble_eq_true rfl), (Nat.le_of_ble_eq_true rfl)⟩ (Nat.le_of_ble_eq_true rfl) (Nat.le_of_ble_eq_true rfl) (fun r w' hq => ?_)
      obtain ⟨rfl, hs19⟩ := hq
      refine g_iload (j := 0) d_R_asked_45 rfl ?_
      refine g_if_eq (tgt := 69) d_R_asked_47 (by decide) (fun h21 => ?_) (fun h21 => ?_)
      · skip
        have hz : s_R_asked t c f wo = s_R_send t 2 (nI c) (nI f) wo (t.2 0 f) (t.2 1 f) 1 := by
          unfold s_R_asked
          rw [if_neg h1, if_neg h13, if_pos h21]
        exact g_return d_R_asked_69 rfl (Nat.le_of_ble_eq_true rfl) (Nat.le_of_ble_eq_true rfl) ⟨rfl, by rw [hz]; exact hs19⟩
      · skip
        refine g_aload_n (j := 1) d_R_asked_50 rfl ?_
        refine g_get d_R_asked_51 f_R_16 hs19.obj rfl ?_
        refine g_iconst (v := 4) d_R_asked_54 (by decide) ?_
        refine g_iload_n (j := 2) d_R_asked_55 rfl ?_
        refine g_imul d_R_asked_56 ?_
        refine g_norm (y := nI (4 * c)) (pk_mul 4 c) ?_
        refine g_iload_n (j := 3) d_R_asked_57 rfl ?_
        refine g_iadd d_R_asked_58 ?_
        refine g_norm (y := nI ((4 * c) + f)) (nI_add (4 * c) f) ?_
        refine g_aload_n (j := 1) d_R_asked_59 rfl ?_
        refine g_get d_R_asked_60 f_R_122 hs19.obj rfl ?_
        refine g_aload_n (j := 1) d_R_asked_63 rfl ?_
        refine g_get d_R_asked_64 f_R_90 hs19.obj rfl ?_
        refine g_iadd d_R_asked_67 ?_
        refine r_iast (k := 2) (j := (4 * c) + f) d_R_asked_68 hs19 (by decide) rfl rfl (show (4 * c) + f < 16 by omega) (fun w22 hs23 => ?_)
        have hz : s_R_asked t c f wo = stA (s_R_send t 2 (nI c) (nI f) wo (t.2 0 f) (t.2 1 f) 1) 2 ((4 * c) + f) (((s_R_send t 2 (nI c) (nI f) wo (t.2 0 f) (t.2 1 f) 1).1 4) + ((s_R_send t 2 (nI c) (nI f) wo (t.2 0 f) (t.2 1 f) 1).1 2)) := by
          unfold s_R_asked
          rw [if_neg h1, if_neg h13, if_neg h21]
        exact g_return d_R_asked_69 rfl (Nat.le_of_ble_eq_true rfl) (Nat.le_of_ble_eq_true rfl) ⟨rfl, by rw [hz]; exact hs23⟩

def s_R_freed (t : tR) (c : Nat) (f : Nat) (wo : Int32) (a : Int32) (b : Int32) : tR :=
  if b = t.1 6 then
    if s_R_firstOf t f < 0 then
      t
    else
      if t.2 5 (foN t f) = a then
        if t.2 7 (foN t f) = wo then
          if s_R_isLeased t c f = 0 then
            stA t 2 ((4 * c) + f) (t.2 2 ((4 * c) + f))
          else
            stA t 2 ((4 * c) + f) (t.1 4)
        else
          t
      else
        t
  else
    t
set_option maxHeartbeats 4000000 in
set_option maxRecDepth 100000 in
theorem c_R_freed {E : gE} {w : wd} {ad : Nat → Nat} {t : tR} (hs : SysR E ad t w) (c : Nat) (f : Nat) (wo : Int32) (a : Int32) (b : Int32) (hc : c < 4) (hf : f < 4) (hw : okW t) : Cn E y_R_freed 2 0 0 [.ref (ad 0), .int (nI c), .int (nI f), .int wo, .int a, .int b] w (fun r w' => r = none ∧ SysR E ad (s_R_freed t c f wo a b) w') := by
  refine Cn.of (by decide) (Nat.le_of_ble_eq_true rfl) (fun A => ?_)
  show G E y_R_freed _ 0 [(0, .ref (ad 0)), (1, .int (nI c)), (2, .int (nI f)), (3, .int wo), (4, .int a), (5, .int b)] [] w 0 0
  refine g_aload_n (j := 0) d_R_freed_0 rfl ?_
  refine g_iload_n (j := 2) d_R_freed_1 rfl ?_
  refine g_callV (c_R_firstOf hs f hw) ok_R_firstOf lk_R_128 in_R_firstOf se_R_firstOf hs.obj rfl d_R_freed_2 rfl rfl (Nat.le_of_ble_eq_true rfl) ⟨(Nat.le_of_ble_eq_true rfl), (Nat.le_of_ble_eq_true rfl)⟩ (Nat.le_of_ble_eq_true rfl) (Nat.le_of_ble_eq_true rfl) (fun r w' hq => ?_)
  obtain ⟨rfl, rfl⟩ := hq
  refine g_istore (lv' := [(6, _), (0, _), (1, _), (2, _), (3, _), (4, _), (5, _)]) d_R_freed_5 (by decide) rfl ?_
  refine g_iload (j := 6) d_R_freed_7 rfl ?_
  refine g_aload_n (j := 1) d_R_freed_9 rfl ?_
  refine g_get d_R_freed_10 f_R_136 hs.obj rfl ?_
  refine g_icmp_ne (tgt := 80) d_R_freed_13 (by decide) (fun h1 => ?_) (fun h1 => ?_)
  · skip
    have hz : s_R_freed t c f wo a b = t := by
      unfold s_R_freed
      rw [if_neg h1]
    exact g_return d_R_freed_80 rfl (Nat.le_of_ble_eq_true rfl) (Nat.le_of_ble_eq_true rfl) ⟨rfl, by rw [hz]; exact hs⟩
  · skip
    refine g_iload (j := 0) d_R_freed_16 rfl ?_
    refine g_if_lt (tgt := 80) d_R_freed_18 (by decide) (fun h2 => ?_) (fun h2 => ?_)
    · skip
      have hz : s_R_freed t c f wo a b = t := by
        unfold s_R_freed
        rw [if_pos h1, if_pos h2]
      exact g_return d_R_freed_80 rfl (Nat.le_of_ble_eq_true rfl) (Nat.le_of_ble_eq_true rfl) ⟨rfl, by rw [hz]; exact hs⟩
    · skip
      obtain ⟨hfo1, hfo2, hfo3⟩ := foN_ok hw h2
      refine g_aload_n (j := 1) d_R_freed_21 rfl ?_
      refine g_get d_R_freed_22 f_R_25 hs.obj rfl ?_
      refine g_iload (j := 0) d_R_freed_25 rfl ?_
      refine r_iald (k := 5) (j := foN t f) d_R_freed_27 hs (by decide) rfl hfo1 (show foN t f < 520 by omega) ?_
      refine g_iload (j := 5) d_R_freed_28 rfl ?_
      refine g_icmp_ne (tgt := 80) d_R_freed_30 (by decide) (fun h3 => ?_) (fun h3 => ?_)
      · skip
        have hz : s_R_freed t c f wo a b = t := by
          unfold s_R_freed
          rw [if_pos h1, if_neg h2, if_neg h3]
        exact g_return d_R_freed_80 rfl (Nat.le_of_ble_eq_true rfl) (Nat.le_of_ble_eq_true rfl) ⟨rfl, by rw [hz]; exact hs⟩
      · skip
        refine g_aload_n (j := 1) d_R_freed_33 rfl ?_
        refine g_get d_R_freed_34 f_R_31 hs.obj rfl ?_
        refine g_iload (j := 0) d_R_freed_37 rfl ?_
        refine r_iald (k := 7) (j := foN t f) d_R_freed_39 hs (by decide) rfl hfo1 (show foN t f < 520 by omega) ?_
        refine g_iload_n (j := 4) d_R_freed_40 rfl ?_
        refine g_icmp_ne (tgt := 80) d_R_freed_41 (by decide) (fun h4 => ?_) (fun h4 => ?_)
        · skip
          have hz : s_R_freed t c f wo a b = t := by
            unfold s_R_freed
            rw [if_pos h1, if_neg h2, if_pos h3, if_neg h4]
          exact g_return d_R_freed_80 rfl (Nat.le_of_ble_eq_true rfl) (Nat.le_of_ble_eq_true rfl) ⟨rfl, by rw [hz]; exact hs⟩
        · skip
          refine g_aload_n (j := 1) d_R_freed_44 rfl ?_
          refine g_get d_R_freed_45 f_R_16 hs.obj rfl ?_
          refine g_iconst (v := 4) d_R_freed_48 (by decide) ?_
          refine g_iload_n (j := 2) d_R_freed_49 rfl ?_
          refine g_imul d_R_freed_50 ?_
          refine g_norm (y := nI (4 * c)) (pk_mul 4 c) ?_
          refine g_iload_n (j := 3) d_R_freed_51 rfl ?_
          refine g_iadd d_R_freed_52 ?_
          refine g_norm (y := nI ((4 * c) + f)) (nI_add (4 * c) f) ?_
          refine g_aload_n (j := 1) d_R_freed_53 rfl ?_
          refine g_iload_n (j := 2) d_R_freed_54 rfl ?_
          refine g_iload_n (j := 3) d_R_freed_55 rfl ?_
          refine g_callV (c_R_isLeased hs c f (by omega) (by omega)) ok_R_isLeased lk_R_132 in_R_isLeased se_R_isLeased hs.obj rfl d_R_freed_56 rfl rfl (Nat.le_of_ble_eq_true rfl) ⟨(Nat.le_of_ble_eq_true rfl), (Nat.le_of_ble_eq_true rfl)⟩ (Nat.le_of_ble_eq_true rfl) (Nat.le_of_ble_eq_true rfl) (fun r w' hq => ?_)
          obtain ⟨rfl, rfl⟩ := hq
          refine g_if_eq (tgt := 69) d_R_freed_59 (by decide) (fun h5 => ?_) (fun h5 => ?_)
          · skip
            refine g_aload_n (j := 1) d_R_freed_69 rfl ?_
            refine g_get d_R_freed_70 f_R_16 hs.obj rfl ?_
            refine g_iconst (v := 4) d_R_freed_73 (by decide) ?_
            refine g_iload_n (j := 2) d_R_freed_74 rfl ?_
            refine g_imul d_R_freed_75 ?_
            refine g_norm (y := nI (4 * c)) (pk_mul 4 c) ?_
            refine g_iload_n (j := 3) d_R_freed_76 rfl ?_
            refine g_iadd d_R_freed_77 ?_
            refine g_norm (y := nI ((4 * c) + f)) (nI_add (4 * c) f) ?_
            refine r_iald (k := 2) (j := (4 * c) + f) d_R_freed_78 hs (by decide) rfl rfl (show (4 * c) + f < 16 by omega) ?_
            refine r_iast (k := 2) (j := (4 * c) + f) d_R_freed_79 hs (by decide) rfl rfl (show (4 * c) + f < 16 by omega) (fun w6 hs7 => ?_)
            have hz : s_R_freed t c f wo a b = stA t 2 ((4 * c) + f) (t.2 2 ((4 * c) + f)) := by
              unfold s_R_freed
              rw [if_pos h1, if_neg h2, if_pos h3, if_pos h4, if_pos h5]
            exact g_return d_R_freed_80 rfl (Nat.le_of_ble_eq_true rfl) (Nat.le_of_ble_eq_true rfl) ⟨rfl, by rw [hz]; exact hs7⟩
          · skip
            refine g_aload_n (j := 1) d_R_freed_62 rfl ?_
            refine g_get d_R_freed_63 f_R_122 hs.obj rfl ?_
            refine g_goto (tgt := 79) d_R_freed_66 (by decide) ?_
            refine r_iast (k := 2) (j := (4 * c) + f) d_R_freed_79 hs (by decide) rfl rfl (show (4 * c) + f < 16 by omega) (fun w8 hs9 => ?_)
            have hz : s_R_freed t c f wo a b = stA t 2 ((4 * c) + f) (t.1 4) := by
              unfold s_R_freed
              rw [if_pos h1, if_neg h2, if_pos h3, if_pos h4, if_neg h5]
            exact g_return d_R_freed_80 rfl (Nat.le_of_ble_eq_true rfl) (Nat.le_of_ble_eq_true rfl) ⟨rfl, by rw [hz]; exact hs9⟩

def s_R_lose (t : tR) (k : Nat) : tR × Int32 :=
  if s_R_isMessage t (nI k) = 0 then
    (t, 0)
  else
    (s_R_takeOut t k, 1)
set_option maxHeartbeats 4000000 in
set_option maxRecDepth 100000 in
theorem c_R_lose {E : gE} {w : wd} {ad : Nat → Nat} {t : tR} (hs : SysR E ad t w) (k : Nat) (hk0 : k < 64) (hp : okP t) : Cn E y_R_lose 2 0 0 [.ref (ad 0), .int (nI k)] w (fun r w' => r = some (.int (s_R_lose t k).2) ∧ SysR E ad (s_R_lose t k).1 w') := by
  refine Cn.of (by decide) (Nat.le_of_ble_eq_true rfl) (fun A => ?_)
  show G E y_R_lose _ 0 [(0, .ref (ad 0)), (1, .int (nI k))] [] w 0 0
  refine g_aload_n (j := 0) d_R_lose_0 rfl ?_
  refine g_iload_n (j := 1) d_R_lose_1 rfl ?_
  refine g_callV (c_R_isMessage hs (nI k)) ok_R_isMessage lk_R_148 in_R_isMessage se_R_isMessage hs.obj rfl d_R_lose_2 rfl rfl (Nat.le_of_ble_eq_true rfl) ⟨(Nat.le_of_ble_eq_true rfl), (Nat.le_of_ble_eq_true rfl)⟩ (Nat.le_of_ble_eq_true rfl) (Nat.le_of_ble_eq_true rfl) (fun r w' hq => ?_)
  obtain ⟨rfl, rfl⟩ := hq
  refine g_if_ne (tgt := 10) d_R_lose_5 (by decide) (fun h1 => ?_) (fun h1 => ?_)
  · skip
    have hk := isM_lt hp (by omega) h1
    refine g_aload_n (j := 0) d_R_lose_10 rfl ?_
    refine g_iload_n (j := 1) d_R_lose_11 rfl ?_
    refine g_callV (c_R_takeOut hs k hp hk) ok_R_takeOut lk_R_151 in_R_takeOut se_R_takeOut hs.obj rfl d_R_lose_12 rfl rfl (Nat.le_of_ble_eq_true rfl) ⟨(Nat.le_of_ble_eq_true rfl), (Nat.le_of_ble_eq_true rfl)⟩ (Nat.le_of_ble_eq_true rfl) (Nat.le_of_ble_eq_true rfl) (fun r w' hq => ?_)
    obtain ⟨rfl, hs2⟩ := hq
    refine g_iconst (v := 1) d_R_lose_15 (by decide) ?_
    have hz : s_R_lose t k = (s_R_takeOut t k, 1) := by
      unfold s_R_lose
      rw [if_neg h1]
    exact g_zreturn d_R_lose_16 rfl (by decide) (Nat.le_of_ble_eq_true rfl) (Nat.le_of_ble_eq_true rfl) ⟨by rw [hz], by rw [hz]; exact hs2⟩
  · skip
    refine g_iconst (v := 0) d_R_lose_8 (by decide) ?_
    have hz : s_R_lose t k = (t, 0) := by
      unfold s_R_lose
      rw [if_pos h1]
    exact g_zreturn d_R_lose_9 rfl (by decide) (Nat.le_of_ble_eq_true rfl) (Nat.le_of_ble_eq_true rfl) ⟨by rw [hz], by rw [hz]; exact hs⟩
end
section
/-- clients and files, by their numbers -/
def cN (t : tR) : Nat := (t.1 0).toNatClampNeg
def fN (t : tR) : Nat := (t.1 1).toNatClampNeg
def okC (t : tR) : Prop := t.1 0 = nI (cN t) ∧ cN t ≤ 4
def okF (t : tR) : Prop := t.1 1 = nI (fN t) ∧ fN t ≤ 4
/-- isFree, client by client -/
def frL (t : tR) (f : Nat) : Nat → Int32
  | 0 => if t.1 4 < t.1 7 then 0 else 1
  | c + 1 => if frL t f c = 0 then 0 else if s_R_isLeased t c f = 0 then 1 else 0
def s_R_isFree (t : tR) (f : Nat) : Int32 := frL t f (cN t)
theorem frL_b (t : tR) (f : Nat) : ∀ c, frL t f c = 0 ∨ frL t f c = 1 := by
  intro c
  induction c with
  | zero =>
    unfold frL
    split
    · exact Or.inl rfl
    · exact Or.inr rfl
  | succ c ih =>
    unfold frL
    split
    · exact Or.inl rfl
    · split
      · exact Or.inr rfl
      · exact Or.inl rfl

set_option maxHeartbeats 4000000 in
set_option maxRecDepth 100000 in
theorem l_R_isFree {E : gE} {w : wd} {ad : Nat → Nat} {t : tR} (hs : SysR E ad t w) (f : Nat) (hf : f < 4) (hc : okC t) {A : Nat → Prop} : ∀ (r n : Nat) (b : Int32), frL t f n = b → r + n = cN t → G E y_R_isFree (rmD 2 0 0, A, (fun r w' => r = some (.int (s_R_isFree t f)) ∧ w' = w), fun _ => True) 19 [(3, .int (nI n)), (2, .int b), (0, .ref (ad 0)), (1, .int (nI f))] [] w 0 0 := by
  have hc2 := hc.2
  intro r
  induction r with
  | zero =>
    intro n b hv hr
    refine g_iload_n (j := 0) d_R_isFree_19 rfl ?_
    refine g_aload_n (j := 2) d_R_isFree_20 rfl ?_
    refine g_get d_R_isFree_21 f_R_83 hs.obj rfl ?_
    refine g_norm (y := nI (cN t)) hc.1 ?_
    refine g_icmp_ge (tgt := 52) d_R_isFree_24 (by decide) (fun h1 => ?_) (fun h => absurd ((nI_leI (by omega) (by omega)).mpr (by omega)) h)
    refine g_iload_n (j := 1) d_R_isFree_52 rfl ?_
    have he : n = cN t := by omega
    subst he
    exact g_zreturn d_R_isFree_53 rfl (by rcases frL_b t f (cN t) with z | z <;> rw [← hv, z] <;> rfl) (Nat.le_of_ble_eq_true rfl) (Nat.le_of_ble_eq_true rfl) ⟨by rw [← hv]; rfl, rfl⟩
  | succ r ih =>
    intro n b hv hr
    refine g_iload_n (j := 0) d_R_isFree_19 rfl ?_
    refine g_aload_n (j := 2) d_R_isFree_20 rfl ?_
    refine g_get d_R_isFree_21 f_R_83 hs.obj rfl ?_
    refine g_norm (y := nI (cN t)) hc.1 ?_
    refine g_icmp_ge (tgt := 52) d_R_isFree_24 (by decide) (fun h => absurd h (fun z => absurd ((nI_leI (by omega) (by omega)).mp z) (by omega))) (fun h1 => ?_)
    refine g_iload_n (j := 1) d_R_isFree_27 rfl ?_
    refine g_if_eq (tgt := 44) d_R_isFree_28 (by decide) (fun h2 => ?_) (fun h2 => ?_)
    · skip
      refine g_iconst (v := 0) d_R_isFree_44 (by decide) ?_
      refine g_istore_n (lv' := [(2, _), (3, _), (0, _), (1, _)]) d_R_isFree_45 (by decide) rfl ?_
      refine g_iinc (j := 1) (v := nI (n + 1)) (lv' := [(3, _), (2, _), (0, _), (1, _)]) d_R_isFree_46 rfl (nI_1 n) (by decide) rfl ?_
      refine g_goto (tgt := 19) d_R_isFree_49 (by decide) ?_
      exact ih (n + 1) _ (by rw [frL, hv, if_pos h2]) (by omega)
    · skip
      refine g_aload_n (j := 2) d_R_isFree_31 rfl ?_
      refine g_iload_n (j := 0) d_R_isFree_32 rfl ?_
      refine g_iload_n (j := 3) d_R_isFree_33 rfl ?_
      refine g_callV (c_R_isLeased hs n f (by omega) (by omega)) ok_R_isLeased lk_R_132 in_R_isLeased se_R_isLeased hs.obj rfl d_R_isFree_34 rfl rfl (Nat.le_of_ble_eq_true rfl) ⟨(Nat.le_of_ble_eq_true rfl), (Nat.le_of_ble_eq_true rfl)⟩ (Nat.le_of_ble_eq_true rfl) (Nat.le_of_ble_eq_true rfl) (fun r w' hq => ?_)
      obtain ⟨rfl, rfl⟩ := hq
      refine g_if_ne (tgt := 44) d_R_isFree_37 (by decide) (fun h3 => ?_) (fun h3 => ?_)
      · skip
        refine g_iconst (v := 0) d_R_isFree_44 (by decide) ?_
        refine g_istore_n (lv' := [(2, _), (3, _), (0, _), (1, _)]) d_R_isFree_45 (by decide) rfl ?_
        refine g_iinc (j := 1) (v := nI (n + 1)) (lv' := [(3, _), (2, _), (0, _), (1, _)]) d_R_isFree_46 rfl (nI_1 n) (by decide) rfl ?_
        refine g_goto (tgt := 19) d_R_isFree_49 (by decide) ?_
        exact ih (n + 1) _ (by rw [frL, hv, if_neg h2, if_neg h3]) (by omega)
      · skip
        refine g_iconst (v := 1) d_R_isFree_40 (by decide) ?_
        refine g_goto (tgt := 45) d_R_isFree_41 (by decide) ?_
        refine g_istore_n (lv' := [(2, _), (3, _), (0, _), (1, _)]) d_R_isFree_45 (by decide) rfl ?_
        refine g_iinc (j := 1) (v := nI (n + 1)) (lv' := [(3, _), (2, _), (0, _), (1, _)]) d_R_isFree_46 rfl (nI_1 n) (by decide) rfl ?_
        refine g_goto (tgt := 19) d_R_isFree_49 (by decide) ?_
        exact ih (n + 1) _ (by rw [frL, hv, if_neg h2, if_pos h3]) (by omega)

set_option maxHeartbeats 4000000 in
set_option maxRecDepth 100000 in
theorem c_R_isFree {E : gE} {w : wd} {ad : Nat → Nat} {t : tR} (hs : SysR E ad t w) (f : Nat) (hf : f < 4) (hc : okC t) : Cn E y_R_isFree 2 0 0 [.ref (ad 0), .int (nI f)] w (fun r w' => r = some (.int (s_R_isFree t f)) ∧ w' = w) := by
  refine Cn.of (by decide) (Nat.le_of_ble_eq_true rfl) (fun A => ?_)
  show G E y_R_isFree _ 0 [(0, .ref (ad 0)), (1, .int (nI f))] [] w 0 0
  refine g_aload_n (j := 0) d_R_isFree_0 rfl ?_
  refine g_get d_R_isFree_1 f_R_139 hs.obj rfl ?_
  refine g_aload_n (j := 0) d_R_isFree_4 rfl ?_
  refine g_get d_R_isFree_5 f_R_122 hs.obj rfl ?_
  refine g_icmp_gt (tgt := 15) d_R_isFree_8 (by decide) (fun h1 => ?_) (fun h1 => ?_)
  · skip
    refine g_iconst (v := 0) d_R_isFree_15 (by decide) ?_
    refine g_istore_n (lv' := [(2, _), (0, _), (1, _)]) d_R_isFree_16 (by decide) rfl ?_
    refine g_iconst (v := 0) d_R_isFree_17 (by decide) ?_
    refine g_istore_n (lv' := [(3, _), (2, _), (0, _), (1, _)]) d_R_isFree_18 (by decide) rfl ?_
    exact l_R_isFree hs f hf hc (cN t) 0 _ (by rw [frL, if_pos h1]) (by omega)
  · skip
    refine g_iconst (v := 1) d_R_isFree_11 (by decide) ?_
    refine g_goto (tgt := 16) d_R_isFree_12 (by decide) ?_
    refine g_istore_n (lv' := [(2, _), (0, _), (1, _)]) d_R_isFree_16 (by decide) rfl ?_
    refine g_iconst (v := 0) d_R_isFree_17 (by decide) ?_
    refine g_istore_n (lv' := [(3, _), (2, _), (0, _), (1, _)]) d_R_isFree_18 (by decide) rfl ?_
    exact l_R_isFree hs f hf hc (cN t) 0 _ (by rw [frL, if_neg h1]) (by omega)

/-- crash, file by file: what is dropped, how many there were -/
def crT (t : tR) (c : Nat) : Nat → tR
  | 0 => t
  | f + 1 => stA (crT t c f) 19 (4 * c + f) 0
def crN (t : tR) (c : Nat) : Nat → Int32
  | 0 => 0
  | f + 1 => if (crT t c f).2 19 (4 * c + f) = 0 then crN t c f else crN t c f + 1
theorem crT_1 (t : tR) (c : Nat) : ∀ f, (crT t c f).1 = t.1 := by
  intro f
  induction f with
  | zero => rfl
  | succ f ih => exact ih
def s_R_crash (t : tR) (c : Nat) : tR × Int32 := if s_R_isClient t (nI c) = 0 then (t, -1) else (stA (stA (crT t c (fN t)) 11 c 0) 16 c 0, crN t c (fN t))

set_option maxHeartbeats 4000000 in
set_option maxRecDepth 100000 in
theorem l_R_crash {E : gE} {ad : Nat → Nat} {t : tR} (c : Nat) (hc : c < 4) (hF : okF t) {A : Nat → Prop} : ∀ (r n : Nat) (b : Int32) {w : wd}, crN t c n = b → SysR E ad (crT t c n) w → r + n = fN t → G E y_R_crash (rmD 2 0 0, A, (fun r w' => r = some (.int (crN t c (fN t))) ∧ SysR E ad (stA (stA (crT t c (fN t)) 11 c 0) 16 c 0) w'), fun _ => True) 14 [(3, .int (nI n)), (2, .int b), (0, .ref (ad 0)), (1, .int (nI c))] [] w 0 0 := by
  have hc2 := hF.2
  intro r
  induction r with
  | zero =>
    intro n b w hv hs hr
    have hz : (crT t c n).1 1 = nI (fN t) := (congrFun (crT_1 t c n) 1).trans hF.1
    refine g_iload_n (j := 0) d_R_crash_14 rfl ?_
    refine g_aload_n (j := 2) d_R_crash_15 rfl ?_
    refine g_get d_R_crash_16 f_R_87 hs.obj rfl ?_
    refine g_norm (y := nI (fN t)) hz ?_
    refine g_icmp_ge (tgt := 60) d_R_crash_19 (by decide) (fun h1 => ?_) (fun h => absurd ((nI_leI (by omega) (by omega)).mpr (by omega)) h)
    have he : n = fN t := by omega
    subst he
    subst hv
    refine g_aload_n (j := 2) d_R_crash_60 rfl ?_
    refine g_get d_R_crash_61 f_R_43 hs.obj rfl ?_
    refine g_iload_n (j := 3) d_R_crash_64 rfl ?_
    refine g_iconst (v := 0) d_R_crash_65 (by decide) ?_
    refine r_iast (k := 11) (j := c) d_R_crash_66 hs (by decide) rfl rfl (show c < 4 by omega) (fun w2 hs3 => ?_)
    refine g_aload_n (j := 2) d_R_crash_67 rfl ?_
    refine g_get d_R_crash_68 f_R_59 hs3.obj rfl ?_
    refine g_iload_n (j := 3) d_R_crash_71 rfl ?_
    refine g_iconst (v := 0) d_R_crash_72 (by decide) ?_
    refine r_zast (k := 16) (j := c) d_R_crash_73 hs3 (by decide) rfl rfl (show c < 4 by omega) (by decide) (fun w4 hs5 => ?_)
    refine g_iload_n (j := 1) d_R_crash_74 rfl ?_
    exact g_ireturn d_R_crash_75 rfl (Nat.le_of_ble_eq_true rfl) (Nat.le_of_ble_eq_true rfl) ⟨rfl, hs5⟩
  | succ r ih =>
    intro n b w hv hs hr
    have hz : (crT t c n).1 1 = nI (fN t) := (congrFun (crT_1 t c n) 1).trans hF.1
    refine g_iload_n (j := 0) d_R_crash_14 rfl ?_
    refine g_aload_n (j := 2) d_R_crash_15 rfl ?_
    refine g_get d_R_crash_16 f_R_87 hs.obj rfl ?_
    refine g_norm (y := nI (fN t)) hz ?_
    refine g_icmp_ge (tgt := 60) d_R_crash_19 (by decide) (fun h => absurd h (fun z => absurd ((nI_leI (by omega) (by omega)).mp z) (by omega))) (fun h1 => ?_)
    refine g_aload_n (j := 2) d_R_crash_22 rfl ?_
    refine g_get d_R_crash_23 f_R_68 hs.obj rfl ?_
    refine g_iconst (v := 4) d_R_crash_26 (by decide) ?_
    refine g_iload_n (j := 3) d_R_crash_27 rfl ?_
    refine g_imul d_R_crash_28 ?_
    refine g_norm (y := nI (4 * c)) (pk_mul 4 c) ?_
    refine g_iload_n (j := 0) d_R_crash_29 rfl ?_
    refine g_iadd d_R_crash_30 ?_
    refine g_norm (y := nI ((4 * c) + n)) (nI_add (4 * c) n) ?_
    refine r_zald (k := 19) (j := (4 * c) + n) d_R_crash_31 hs (by decide) rfl rfl (show (4 * c) + n < 16 by omega) ?_
    refine g_if_eq (tgt := 41) d_R_crash_32 (by decide) (fun h2 => ?_) (fun h2 => ?_)
    · skip
      refine g_iload_n (j := 1) d_R_crash_41 rfl ?_
      refine g_istore_n (lv' := [(2, _), (3, _), (0, _), (1, _)]) d_R_crash_42 (by decide) rfl ?_
      refine g_aload_n (j := 2) d_R_crash_43 rfl ?_
      refine g_get d_R_crash_44 f_R_68 hs.obj rfl ?_
      refine g_iconst (v := 4) d_R_crash_47 (by decide) ?_
      refine g_iload_n (j := 3) d_R_crash_48 rfl ?_
      refine g_imul d_R_crash_49 ?_
      refine g_norm (y := nI (4 * c)) (pk_mul 4 c) ?_
      refine g_iload_n (j := 1) d_R_crash_50 rfl ?_
      refine g_iadd d_R_crash_51 ?_
      refine g_norm (y := nI ((4 * c) + n)) (nI_add (4 * c) n) ?_
      refine g_iconst (v := 0) d_R_crash_52 (by decide) ?_
      refine r_zast (k := 19) (j := (4 * c) + n) d_R_crash_53 hs (by decide) rfl rfl (show (4 * c) + n < 16 by omega) (by decide) (fun w3 hs4 => ?_)
      refine g_iinc (j := 1) (v := nI (n + 1)) (lv' := [(3, _), (2, _), (0, _), (1, _)]) d_R_crash_54 rfl (nI_1 n) (by decide) rfl ?_
      refine g_goto (tgt := 14) d_R_crash_57 (by decide) ?_
      exact ih (n + 1) _ (by rw [crN, hv, if_pos h2]) hs4 (by omega)
    · skip
      refine g_iload_n (j := 1) d_R_crash_35 rfl ?_
      refine g_iconst (v := 1) d_R_crash_36 (by decide) ?_
      refine g_iadd d_R_crash_37 ?_
      refine g_goto (tgt := 42) d_R_crash_38 (by decide) ?_
      refine g_istore_n (lv' := [(2, _), (3, _), (0, _), (1, _)]) d_R_crash_42 (by decide) rfl ?_
      refine g_aload_n (j := 2) d_R_crash_43 rfl ?_
      refine g_get d_R_crash_44 f_R_68 hs.obj rfl ?_
      refine g_iconst (v := 4) d_R_crash_47 (by decide) ?_
      refine g_iload_n (j := 3) d_R_crash_48 rfl ?_
      refine g_imul d_R_crash_49 ?_
      refine g_norm (y := nI (4 * c)) (pk_mul 4 c) ?_
      refine g_iload_n (j := 1) d_R_crash_50 rfl ?_
      refine g_iadd d_R_crash_51 ?_
      refine g_norm (y := nI ((4 * c) + n)) (nI_add (4 * c) n) ?_
      refine g_iconst (v := 0) d_R_crash_52 (by decide) ?_
      refine r_zast (k := 19) (j := (4 * c) + n) d_R_crash_53 hs (by decide) rfl rfl (show (4 * c) + n < 16 by omega) (by decide) (fun w5 hs6 => ?_)
      refine g_iinc (j := 1) (v := nI (n + 1)) (lv' := [(3, _), (2, _), (0, _), (1, _)]) d_R_crash_54 rfl (nI_1 n) (by decide) rfl ?_
      refine g_goto (tgt := 14) d_R_crash_57 (by decide) ?_
      exact ih (n + 1) _ (by rw [crN, hv, if_neg h2]) hs6 (by omega)

set_option maxHeartbeats 4000000 in
set_option maxRecDepth 100000 in
theorem c_R_crash {E : gE} {w : wd} {ad : Nat → Nat} {t : tR} (hs : SysR E ad t w) (c : Nat) (hc : c < 4) (hF : okF t) : Cn E y_R_crash 2 0 0 [.ref (ad 0), .int (nI c)] w (fun r w' => r = some (.int (s_R_crash t c).2) ∧ SysR E ad (s_R_crash t c).1 w') := by
  refine Cn.of (by decide) (Nat.le_of_ble_eq_true rfl) (fun A => ?_)
  show G E y_R_crash _ 0 [(0, .ref (ad 0)), (1, .int (nI c))] [] w 0 0
  refine g_aload_n (j := 0) d_R_crash_0 rfl ?_
  refine g_iload_n (j := 1) d_R_crash_1 rfl ?_
  refine g_callV (c_R_isClient hs (nI c)) ok_R_isClient lk_R_103 in_R_isClient se_R_isClient hs.obj rfl d_R_crash_2 rfl rfl (Nat.le_of_ble_eq_true rfl) ⟨(Nat.le_of_ble_eq_true rfl), (Nat.le_of_ble_eq_true rfl)⟩ (Nat.le_of_ble_eq_true rfl) (Nat.le_of_ble_eq_true rfl) (fun r w' hq => ?_)
  obtain ⟨rfl, rfl⟩ := hq
  refine g_if_ne (tgt := 10) d_R_crash_5 (by decide) (fun h1 => ?_) (fun h1 => ?_)
  · skip
    refine g_iconst (v := 0) d_R_crash_10 (by decide) ?_
    refine g_istore_n (lv' := [(2, _), (0, _), (1, _)]) d_R_crash_11 (by decide) rfl ?_
    refine g_iconst (v := 0) d_R_crash_12 (by decide) ?_
    refine g_istore_n (lv' := [(3, _), (2, _), (0, _), (1, _)]) d_R_crash_13 (by decide) rfl ?_
    have e9 : s_R_crash t c = (stA (stA (crT t c (fN t)) 11 c 0) 16 c 0, crN t c (fN t)) := if_neg h1
    rw [e9]
    exact l_R_crash c hc hF (fN t) 0 0 rfl hs (by omega)
  · skip
    refine g_iconst (v := (-1)) d_R_crash_8 (by decide) ?_
    have e9 : s_R_crash t c = (t, -1) := if_pos h1
    rw [e9]
    exact g_ireturn d_R_crash_9 rfl (Nat.le_of_ble_eq_true rfl) (Nat.le_of_ble_eq_true rfl) ⟨rfl, hs⟩

def haT (t : tR) : Nat → tR
  | 0 => t
  | k + 1 => stA (haT t k) 2 k 0
def s_R_halt (t : tR) : tR × Int32 := if t.1 5 = 0 then (haT (stF (stF t 5 1) 8 0) 16, t.1 8) else (t, -1)

set_option maxHeartbeats 4000000 in
set_option maxRecDepth 100000 in
theorem l_R_halt {E : gE} {ad : Nat → Nat} {t : tR} (v : Int32) {A : Nat → Prop} : ∀ (r n : Nat) {w : wd}, SysR E ad (haT t n) w → r + n = 16 → G E y_R_halt (rmD 1 0 0, A, (fun r w' => r = some (.int v) ∧ SysR E ad (haT t 16) w'), fun _ => True) 26 [(2, .int (nI n)), (1, .int v), (0, .ref (ad 0))] [] w 0 0 := by
  intro r
  induction r with
  | zero =>
    intro n w hs hr
    refine g_iload_n (j := 0) d_R_halt_26 rfl ?_
    refine g_bipush (v := 16) d_R_halt_27 (by decide) ?_
    refine g_icmp_ge (tgt := 45) d_R_halt_29 (by decide) (fun h1 => ?_) (fun h => absurd ((nI_leI (a := 16) (by omega) (by omega)).mpr (by omega)) h)
    have he : n = 16 := by omega
    subst he
    refine g_iload_n (j := 1) d_R_halt_45 rfl ?_
    exact g_ireturn d_R_halt_46 rfl (Nat.le_of_ble_eq_true rfl) (Nat.le_of_ble_eq_true rfl) ⟨rfl, hs⟩
  | succ r ih =>
    intro n w hs hr
    refine g_iload_n (j := 0) d_R_halt_26 rfl ?_
    refine g_bipush (v := 16) d_R_halt_27 (by decide) ?_
    refine g_icmp_ge (tgt := 45) d_R_halt_29 (by decide) (fun h => absurd h (fun z => absurd ((nI_leI (a := 16) (by omega) (by omega)).mp z) (by omega))) (fun h1 => ?_)
    refine g_aload_n (j := 2) d_R_halt_32 rfl ?_
    refine g_get d_R_halt_33 f_R_16 hs.obj rfl ?_
    refine g_iload_n (j := 0) d_R_halt_36 rfl ?_
    refine g_iconst (v := 0) d_R_halt_37 (by decide) ?_
    refine r_iast (k := 2) (j := n) d_R_halt_38 hs (by decide) rfl rfl (show n < 16 by omega) (fun w2 hs3 => ?_)
    refine g_iinc (j := 0) (v := nI (n + 1)) (lv' := [(2, _), (1, _), (0, _)]) d_R_halt_39 rfl (nI_1 n) (by decide) rfl ?_
    refine g_goto (tgt := 26) d_R_halt_42 (by decide) ?_
    exact ih (n + 1) hs3 (by omega)

set_option maxHeartbeats 4000000 in
set_option maxRecDepth 100000 in
theorem c_R_halt {E : gE} {w : wd} {ad : Nat → Nat} {t : tR} (hs : SysR E ad t w) : Cn E y_R_halt 1 0 0 [.ref (ad 0)] w (fun r w' => r = some (.int (s_R_halt t).2) ∧ SysR E ad (s_R_halt t).1 w') := by
  refine Cn.of (by decide) (Nat.le_of_ble_eq_true rfl) (fun A => ?_)
  show G E y_R_halt _ 0 [(0, .ref (ad 0))] [] w 0 0
  refine g_aload_n (j := 0) d_R_halt_0 rfl ?_
  refine g_get d_R_halt_1 f_R_165 hs.obj rfl ?_
  refine g_if_eq (tgt := 9) d_R_halt_4 (by decide) (fun h1 => ?_) (fun h1 => ?_)
  · skip
    refine g_aload_n (j := 0) d_R_halt_9 rfl ?_
    refine g_get d_R_halt_10 f_R_125 hs.obj rfl ?_
    refine g_istore_n (lv' := [(1, _), (0, _)]) d_R_halt_13 (by decide) rfl ?_
    refine g_aload_n (j := 1) d_R_halt_14 rfl ?_
    refine g_iconst (v := 1) d_R_halt_15 (by decide) ?_
    refine g_put d_R_halt_16 fw_R_165 (Or.inl rfl) hs.obj rfl rfl (Nat.le_of_ble_eq_true rfl) ?_
    have hs3 : SysR E ad (stF t 5 1) _ := hs.sf (t' := stF t 5 1) (fs := (ceR ad t).set 7 (.int 1)) rfl rfl
    generalize wu _ (ad 0) _ = w2 at hs3 ⊢
    refine g_aload_n (j := 1) d_R_halt_19 rfl ?_
    refine g_iconst (v := 0) d_R_halt_20 (by decide) ?_
    refine g_put d_R_halt_21 fw_R_125 (Or.inl rfl) hs3.obj rfl rfl (Nat.le_of_ble_eq_true rfl) ?_
    have hs5 : SysR E ad (stF (stF t 5 1) 8 0) _ := hs3.sf (t' := stF (stF t 5 1) 8 0) (fs := (ceR ad (stF t 5 1)).set 13 (.int 0)) rfl rfl
    generalize wu _ (ad 0) _ = w4 at hs5 ⊢
    refine g_iconst (v := 0) d_R_halt_24 (by decide) ?_
    refine g_istore_n (lv' := [(2, _), (1, _), (0, _)]) d_R_halt_25 (by decide) rfl ?_
    have e9 : s_R_halt t = (haT (stF (stF t 5 1) 8 0) 16, t.1 8) := if_pos h1
    rw [e9]
    exact l_R_halt _ 16 0 hs5 (by omega)
  · skip
    refine g_iconst (v := (-1)) d_R_halt_7 (by decide) ?_
    have e9 : s_R_halt t = (t, -1) := if_neg h1
    rw [e9]
    exact g_ireturn d_R_halt_8 rfl (Nat.le_of_ble_eq_true rfl) (Nat.le_of_ble_eq_true rfl) ⟨rfl, hs⟩
end
section
/-- how many of the first k are of x -/
def cnL (g : Nat → Int32) (x : Int32) : Nat → Int32
  | 0 => 0
  | k + 1 => if g k = x then cnL g x k + 1 else cnL g x k
theorem foN_ok' {t : tR} {f : Nat} (hw : okW t) (h : 0 ≤ s_R_firstOf t f) : s_R_firstOf t f = nI (foN t f) ∧ foN t f < wN t ∧ wN t ≤ 519 := foN_ok hw (Int32.not_lt.mpr h)

set_option maxHeartbeats 4000000 in
set_option maxRecDepth 100000 in
theorem l_R_file {E : gE} {w : wd} {ad : Nat → Nat} {t : tR} (hs : SysR E ad t w) (f : Nat) (x : Int32) (hw : okW t) {Z : gZ} (hK : G E y_R_file Z 58 [(4, .int (nI (wN t))), (3, .int (cnL (t.2 6) (nI f) (wN t))), (0, .ref (ad 0)), (1, .int (nI f)), (2, .int x)] [] w 0 0) : ∀ (r n : Nat) (b : Int32), cnL (t.2 6) (nI f) n = b → r + n = wN t → G E y_R_file Z 24 [(4, .int (nI n)), (3, .int b), (0, .ref (ad 0)), (1, .int (nI f)), (2, .int x)] [] w 0 0 := by
  have hw2 := hw.2
  intro r
  induction r with
  | zero =>
    intro n b hv hr
    refine g_iload (j := 0) d_R_file_24 rfl ?_
    refine g_aload_n (j := 2) d_R_file_26 rfl ?_
    refine g_get d_R_file_27 f_R_125 hs.obj rfl ?_
    refine g_norm (y := nI (wN t)) hw.1 ?_
    refine g_icmp_ge (tgt := 58) d_R_file_30 (by decide) (fun h1 => ?_) (fun h => absurd ((nI_leI (by omega) (by omega)).mpr (by omega)) h)
    have he : n = wN t := by omega
    subst he
    subst hv
    exact hK
  | succ r ih =>
    intro n b hv hr
    refine g_iload (j := 0) d_R_file_24 rfl ?_
    refine g_aload_n (j := 2) d_R_file_26 rfl ?_
    refine g_get d_R_file_27 f_R_125 hs.obj rfl ?_
    refine g_norm (y := nI (wN t)) hw.1 ?_
    refine g_icmp_ge (tgt := 58) d_R_file_30 (by decide) (fun h => absurd h (fun z => absurd ((nI_leI (by omega) (by omega)).mp z) (by omega))) (fun h1 => ?_)
    refine g_aload_n (j := 2) d_R_file_33 rfl ?_
    refine g_get d_R_file_34 f_R_28 hs.obj rfl ?_
    refine g_iload (j := 0) d_R_file_37 rfl ?_
    refine r_iald (k := 6) (j := n) d_R_file_39 hs (by decide) rfl rfl (show n < 520 by omega) ?_
    refine g_iload_n (j := 3) d_R_file_40 rfl ?_
    refine g_icmp_ne (tgt := 50) d_R_file_41 (by decide) (fun h2 => ?_) (fun h2 => ?_)
    · skip
      refine g_iload_n (j := 1) d_R_file_50 rfl ?_
      refine g_istore_n (lv' := [(3, _), (4, _), (0, _), (1, _), (2, _)]) d_R_file_51 (by decide) rfl ?_
      refine g_iinc (j := 1) (v := nI (n + 1)) (lv' := [(4, _), (3, _), (0, _), (1, _), (2, _)]) d_R_file_52 rfl (nI_1 n) (by decide) rfl ?_
      refine g_goto (tgt := 24) d_R_file_55 (by decide) ?_
      exact ih (n + 1) _ (by rw [cnL, hv, if_neg h2]) (by omega)
    · skip
      refine g_iload_n (j := 1) d_R_file_44 rfl ?_
      refine g_iconst (v := 1) d_R_file_45 (by decide) ?_
      refine g_iadd d_R_file_46 ?_
      refine g_goto (tgt := 51) d_R_file_47 (by decide) ?_
      refine g_istore_n (lv' := [(3, _), (4, _), (0, _), (1, _), (2, _)]) d_R_file_51 (by decide) rfl ?_
      refine g_iinc (j := 1) (v := nI (n + 1)) (lv' := [(4, _), (3, _), (0, _), (1, _), (2, _)]) d_R_file_52 rfl (nI_1 n) (by decide) rfl ?_
      refine g_goto (tgt := 24) d_R_file_55 (by decide) ?_
      exact ih (n + 1) _ (by rw [cnL, hv, if_pos h2]) (by omega)

def s_R_file (t : tR) (f : Nat) (x : Int32) : Int32 :=
  if s_R_isFile t (nI f) = 0 then
    (-1)
  else
    if x < 0 then
      (-1)
    else
      if x ≤ 3 then
        if x = 0 then
          t.2 0 f
        else
          if x = 1 then
            t.2 1 f
          else
            if x = 2 then
              cnL (t.2 6) (nI f) (wN t)
            else
              if 0 ≤ s_R_firstOf t f then
                t.2 5 (foN t f)
              else
                (-1)
      else
        (-1)
set_option maxHeartbeats 4000000 in
set_option maxRecDepth 100000 in
theorem c_R_file {E : gE} {w : wd} {ad : Nat → Nat} {t : tR} (hs : SysR E ad t w) (f : Nat) (x : Int32) (hf : f < 4) (hw : okW t) : Cn E y_R_file 2 0 0 [.ref (ad 0), .int (nI f), .int x] w (fun r w' => r = some (.int (s_R_file t f x)) ∧ w' = w) := by
  refine Cn.of (by decide) (Nat.le_of_ble_eq_true rfl) (fun A => ?_)
  show G E y_R_file _ 0 [(0, .ref (ad 0)), (1, .int (nI f)), (2, .int x)] [] w 0 0
  refine g_aload_n (j := 0) d_R_file_0 rfl ?_
  refine g_iload_n (j := 1) d_R_file_1 rfl ?_
  refine g_callV (c_R_isFile hs (nI f)) ok_R_isFile lk_R_107 in_R_isFile se_R_isFile hs.obj rfl d_R_file_2 rfl rfl (Nat.le_of_ble_eq_true rfl) ⟨(Nat.le_of_ble_eq_true rfl), (Nat.le_of_ble_eq_true rfl)⟩ (Nat.le_of_ble_eq_true rfl) (Nat.le_of_ble_eq_true rfl) (fun r w' hq => ?_)
  obtain ⟨rfl, rfl⟩ := hq
  refine g_if_eq (tgt := 17) d_R_file_5 (by decide) (fun h1 => ?_) (fun h1 => ?_)
  · skip
    refine g_iconst (v := (-1)) d_R_file_17 (by decide) ?_
    have hz : s_R_file t f x = (-1) := by
      unfold s_R_file
      rw [if_pos h1]
    exact g_ireturn d_R_file_18 rfl (Nat.le_of_ble_eq_true rfl) (Nat.le_of_ble_eq_true rfl) ⟨by rw [hz], rfl⟩
  · skip
    refine g_iload_n (j := 2) d_R_file_8 rfl ?_
    refine g_if_lt (tgt := 17) d_R_file_9 (by decide) (fun h2 => ?_) (fun h2 => ?_)
    · skip
      refine g_iconst (v := (-1)) d_R_file_17 (by decide) ?_
      have hz : s_R_file t f x = (-1) := by
        unfold s_R_file
        rw [if_neg h1, if_pos h2]
      exact g_ireturn d_R_file_18 rfl (Nat.le_of_ble_eq_true rfl) (Nat.le_of_ble_eq_true rfl) ⟨by rw [hz], rfl⟩
    · skip
      refine g_iload_n (j := 2) d_R_file_12 rfl ?_
      refine g_iconst (v := 3) d_R_file_13 (by decide) ?_
      refine g_icmp_le (tgt := 19) d_R_file_14 (by decide) (fun h3 => ?_) (fun h3 => ?_)
      · skip
        refine g_iconst (v := 0) d_R_file_19 (by decide) ?_
        refine g_istore_n (lv' := [(3, _), (0, _), (1, _), (2, _)]) d_R_file_20 (by decide) rfl ?_
        refine g_iconst (v := 0) d_R_file_21 (by decide) ?_
        refine g_istore (lv' := [(4, _), (3, _), (0, _), (1, _), (2, _)]) d_R_file_22 (by decide) rfl ?_
        refine l_R_file hs f x hw ?_ (wN t) 0 0 rfl (by omega)
        refine g_aload_n (j := 2) d_R_file_58 rfl ?_
        refine g_iload_n (j := 3) d_R_file_59 rfl ?_
        refine g_callV (c_R_firstOf hs f hw) ok_R_firstOf lk_R_128 in_R_firstOf se_R_firstOf hs.obj rfl d_R_file_60 rfl rfl (Nat.le_of_ble_eq_true rfl) ⟨(Nat.le_of_ble_eq_true rfl), (Nat.le_of_ble_eq_true rfl)⟩ (Nat.le_of_ble_eq_true rfl) (Nat.le_of_ble_eq_true rfl) (fun r w' hq => ?_)
        obtain ⟨rfl, rfl⟩ := hq
        refine g_istore (lv' := [(4, _), (3, _), (0, _), (1, _), (2, _)]) d_R_file_63 (by decide) rfl ?_
        refine g_iload_n (j := 4) d_R_file_65 rfl ?_
        refine g_if_ne (tgt := 78) d_R_file_66 (by decide) (fun h4 => ?_) (fun h4 => ?_)
        · skip
          refine g_iload_n (j := 4) d_R_file_78 rfl ?_
          refine g_iconst (v := 1) d_R_file_79 (by decide) ?_
          refine g_icmp_ne (tgt := 92) d_R_file_80 (by decide) (fun h5 => ?_) (fun h5 => ?_)
          · skip
            refine g_iload_n (j := 4) d_R_file_92 rfl ?_
            refine g_iconst (v := 2) d_R_file_93 (by decide) ?_
            refine g_icmp_ne (tgt := 101) d_R_file_94 (by decide) (fun h6 => ?_) (fun h6 => ?_)
            · skip
              refine g_iload (j := 0) d_R_file_101 rfl ?_
              refine g_if_ge (tgt := 110) d_R_file_103 (by decide) (fun h7 => ?_) (fun h7 => ?_)
              · skip
                obtain ⟨hfo1, hfo2, hfo3⟩ := foN_ok' hw h7
                refine g_aload_n (j := 2) d_R_file_110 rfl ?_
                refine g_get d_R_file_111 f_R_25 hs.obj rfl ?_
                refine g_iload (j := 0) d_R_file_114 rfl ?_
                refine r_iald (k := 5) (j := foN t f) d_R_file_116 hs (by decide) rfl hfo1 (show foN t f < 520 by omega) ?_
                have hz : s_R_file t f x = t.2 5 (foN t f) := by
                  unfold s_R_file
                  rw [if_neg h1, if_neg h2, if_pos h3, if_neg h4, if_neg h5, if_neg h6, if_pos h7]
                exact g_ireturn d_R_file_117 rfl (Nat.le_of_ble_eq_true rfl) (Nat.le_of_ble_eq_true rfl) ⟨by rw [hz], rfl⟩
              · skip
                refine g_iconst (v := (-1)) d_R_file_106 (by decide) ?_
                refine g_goto (tgt := 117) d_R_file_107 (by decide) ?_
                have hz : s_R_file t f x = (-1) := by
                  unfold s_R_file
                  rw [if_neg h1, if_neg h2, if_pos h3, if_neg h4, if_neg h5, if_neg h6, if_neg h7]
                exact g_ireturn d_R_file_117 rfl (Nat.le_of_ble_eq_true rfl) (Nat.le_of_ble_eq_true rfl) ⟨by rw [hz], rfl⟩
            · skip
              refine g_iload_n (j := 1) d_R_file_97 rfl ?_
              refine g_goto (tgt := 117) d_R_file_98 (by decide) ?_
              have hz : s_R_file t f x = cnL (t.2 6) (nI f) (wN t) := by
                unfold s_R_file
                rw [if_neg h1, if_neg h2, if_pos h3, if_neg h4, if_neg h5, if_pos h6]
              exact g_ireturn d_R_file_117 rfl (Nat.le_of_ble_eq_true rfl) (Nat.le_of_ble_eq_true rfl) ⟨by rw [hz], rfl⟩
          · skip
            refine g_aload_n (j := 2) d_R_file_83 rfl ?_
            refine g_get d_R_file_84 f_R_13 hs.obj rfl ?_
            refine g_iload_n (j := 3) d_R_file_87 rfl ?_
            refine r_iald (k := 1) (j := f) d_R_file_88 hs (by decide) rfl rfl (show f < 4 by omega) ?_
            refine g_goto (tgt := 117) d_R_file_89 (by decide) ?_
            have hz : s_R_file t f x = t.2 1 f := by
              unfold s_R_file
              rw [if_neg h1, if_neg h2, if_pos h3, if_neg h4, if_pos h5]
            exact g_ireturn d_R_file_117 rfl (Nat.le_of_ble_eq_true rfl) (Nat.le_of_ble_eq_true rfl) ⟨by rw [hz], rfl⟩
        · skip
          refine g_aload_n (j := 2) d_R_file_69 rfl ?_
          refine g_get d_R_file_70 f_R_7 hs.obj rfl ?_
          refine g_iload_n (j := 3) d_R_file_73 rfl ?_
          refine r_iald (k := 0) (j := f) d_R_file_74 hs (by decide) rfl rfl (show f < 4 by omega) ?_
          refine g_goto (tgt := 117) d_R_file_75 (by decide) ?_
          have hz : s_R_file t f x = t.2 0 f := by
            unfold s_R_file
            rw [if_neg h1, if_neg h2, if_pos h3, if_pos h4]
          exact g_ireturn d_R_file_117 rfl (Nat.le_of_ble_eq_true rfl) (Nat.le_of_ble_eq_true rfl) ⟨by rw [hz], rfl⟩
      · skip
        refine g_iconst (v := (-1)) d_R_file_17 (by decide) ?_
        have hz : s_R_file t f x = (-1) := by
          unfold s_R_file
          rw [if_neg h1, if_neg h2, if_neg h3]
        exact g_ireturn d_R_file_18 rfl (Nat.le_of_ble_eq_true rfl) (Nat.le_of_ble_eq_true rfl) ⟨by rw [hz], rfl⟩

/-- rows moved down by one, from lo up to i -/
def sh1 (g : Nat → Int32) (lo i : Nat) : Nat → Int32 := fun j => if lo ≤ j ∧ j < i then g (j + 1) else g j
theorem sh1_0 (g : Nat → Int32) (lo : Nat) : sh1 g lo lo = g := by
  funext j
  exact if_neg (fun h => by omega)
theorem sh1_s (g : Nat → Int32) {lo i : Nat} (h : lo ≤ i) : upd (sh1 g lo i) i (sh1 g lo i (i + 1)) = sh1 g lo (i + 1) := by
  funext j
  by_cases hj : j = i
  · subst hj
    have e1 : upd (sh1 g lo j) j (sh1 g lo j (j + 1)) j = sh1 g lo j (j + 1) := if_pos rfl
    have e2 : sh1 g lo j (j + 1) = g (j + 1) := if_neg (fun h => by omega)
    have e3 : sh1 g lo (j + 1) j = g (j + 1) := if_pos (by omega)
    rw [e1, e2, e3]
  · have e1 : upd (sh1 g lo i) i (sh1 g lo i (i + 1)) j = sh1 g lo i j := if_neg hj
    rw [e1]
    unfold sh1
    by_cases hc : lo ≤ j ∧ j < i
    · rw [if_pos hc, if_pos (by omega)]
    · rw [if_neg hc, if_neg (by omega)]
/-- the four rows of the waiting writes, moved down -/
def s4R (t : tR) (lo i : Nat) : tR := (t.1, fun k => if k = 5 ∨ k = 6 ∨ k = 7 ∨ k = 8 then sh1 (t.2 k) lo i else t.2 k)
theorem s4R_0 (t : tR) (lo : Nat) : s4R t lo lo = t := by
  refine Prod.ext rfl (funext fun k => ?_)
  show (if k = 5 ∨ k = 6 ∨ k = 7 ∨ k = 8 then sh1 (t.2 k) lo lo else t.2 k) = t.2 k
  split
  · exact sh1_0 _ _
  · rfl
theorem s4R_s (t : tR) {lo i : Nat} (h : lo ≤ i) : stA (stA (stA (stA (s4R t lo i) 5 i (sh1 (t.2 5) lo i (i + 1))) 6 i (sh1 (t.2 6) lo i (i + 1))) 7 i (sh1 (t.2 7) lo i (i + 1))) 8 i (sh1 (t.2 8) lo i (i + 1)) = s4R t lo (i + 1) := by
  refine Prod.ext rfl (funext fun k => ?_)
  by_cases h8 : k = 8
  · subst h8
    show upd (sh1 (t.2 8) lo i) i _ = sh1 (t.2 8) lo (i + 1)
    exact sh1_s _ h
  by_cases h7 : k = 7
  · subst h7
    show upd (sh1 (t.2 7) lo i) i _ = sh1 (t.2 7) lo (i + 1)
    exact sh1_s _ h
  by_cases h6 : k = 6
  · subst h6
    show upd (sh1 (t.2 6) lo i) i _ = sh1 (t.2 6) lo (i + 1)
    exact sh1_s _ h
  by_cases h5 : k = 5
  · subst h5
    show upd (sh1 (t.2 5) lo i) i _ = sh1 (t.2 5) lo (i + 1)
    exact sh1_s _ h
  · have e1 : ∀ j, (s4R t lo j).2 k = t.2 k := fun j => if_neg (by omega)
    show (if k = 8 then _ else if k = 7 then _ else if k = 6 then _ else if k = 5 then _ else (s4R t lo i).2 k) = _
    rw [if_neg h8, if_neg h7, if_neg h6, if_neg h5, e1, e1]
def clN (t : tR) (k : Nat) : Nat := (t.2 5 k).toNatClampNeg
def flN (t : tR) (k : Nat) : Nat := (t.2 6 k).toNatClampNeg
def okE (t : tR) (k : Nat) : Prop := t.2 5 k = nI (clN t k) ∧ clN t k < 4 ∧ t.2 6 k = nI (flN t k) ∧ flN t k < 4

set_option maxHeartbeats 4000000 in
set_option maxRecDepth 100000 in
theorem l_R_store {E : gE} {ad : Nat → Nat} {t : tR} (k f m : Nat) (x2 x4 : Int32) (hm : t.1 8 = nI m) (hm2 : m ≤ 518) {Z : gZ} (hK : ∀ w : wd, SysR E ad (s4R t k m) w → G E y_R_store Z 167 [(5, .int (nI m)), (0, .ref (ad 0)), (1, .int (nI k)), (2, .int x2), (3, .int (nI f)), (4, .int x4)] [] w 0 0) : ∀ (r i : Nat) {w : wd}, SysR E ad (s4R t k i) w → k ≤ i → r + i = m → G E y_R_store Z 88 [(5, .int (nI i)), (0, .ref (ad 0)), (1, .int (nI k)), (2, .int x2), (3, .int (nI f)), (4, .int x4)] [] w 0 0 := by
  intro r
  induction r with
  | zero =>
    intro i w hs hlo hr
    have hz : (s4R t k i).1 8 = nI m := hm
    refine g_iload (j := 0) d_R_store_88 rfl ?_
    refine g_aload_n (j := 1) d_R_store_90 rfl ?_
    refine g_get d_R_store_91 f_R_125 hs.obj rfl ?_
    refine g_norm (y := nI m) hz ?_
    refine g_icmp_ge (tgt := 167) d_R_store_94 (by decide) (fun h1 => ?_) (fun h => absurd ((nI_leI (by omega) (by omega)).mpr (by omega)) h)
    have he : i = m := by omega
    subst he
    exact hK _ hs
  | succ r ih =>
    intro i w hs hlo hr
    have hz : (s4R t k i).1 8 = nI m := hm
    refine g_iload (j := 0) d_R_store_88 rfl ?_
    refine g_aload_n (j := 1) d_R_store_90 rfl ?_
    refine g_get d_R_store_91 f_R_125 hs.obj rfl ?_
    refine g_norm (y := nI m) hz ?_
    refine g_icmp_ge (tgt := 167) d_R_store_94 (by decide) (fun h => absurd h (fun z => absurd ((nI_leI (by omega) (by omega)).mp z) (by omega))) (fun h1 => ?_)
    refine g_aload_n (j := 1) d_R_store_97 rfl ?_
    refine g_get d_R_store_98 f_R_25 hs.obj rfl ?_
    refine g_iload (j := 0) d_R_store_101 rfl ?_
    refine g_aload_n (j := 1) d_R_store_103 rfl ?_
    refine g_get d_R_store_104 f_R_25 hs.obj rfl ?_
    refine g_iload (j := 0) d_R_store_107 rfl ?_
    refine g_iconst (v := 1) d_R_store_109 (by decide) ?_
    refine g_iadd d_R_store_110 ?_
    refine g_norm (y := nI (i + 1)) (nI_add i 1) ?_
    refine r_iald (k := 5) (j := i + 1) d_R_store_111 hs (by decide) rfl rfl (show i + 1 < 520 by omega) ?_
    refine r_iast (k := 5) (j := i) d_R_store_112 hs (by decide) rfl rfl (show i < 520 by omega) (fun w2 hs3 => ?_)
    refine g_aload_n (j := 1) d_R_store_113 rfl ?_
    refine g_get d_R_store_114 f_R_28 hs3.obj rfl ?_
    refine g_iload (j := 0) d_R_store_117 rfl ?_
    refine g_aload_n (j := 1) d_R_store_119 rfl ?_
    refine g_get d_R_store_120 f_R_28 hs3.obj rfl ?_
    refine g_iload (j := 0) d_R_store_123 rfl ?_
    refine g_iconst (v := 1) d_R_store_125 (by decide) ?_
    refine g_iadd d_R_store_126 ?_
    refine g_norm (y := nI (i + 1)) (nI_add i 1) ?_
    refine r_iald (k := 6) (j := i + 1) d_R_store_127 hs3 (by decide) rfl rfl (show i + 1 < 520 by omega) ?_
    refine r_iast (k := 6) (j := i) d_R_store_128 hs3 (by decide) rfl rfl (show i < 520 by omega) (fun w4 hs5 => ?_)
    refine g_aload_n (j := 1) d_R_store_129 rfl ?_
    refine g_get d_R_store_130 f_R_31 hs5.obj rfl ?_
    refine g_iload (j := 0) d_R_store_133 rfl ?_
    refine g_aload_n (j := 1) d_R_store_135 rfl ?_
    refine g_get d_R_store_136 f_R_31 hs5.obj rfl ?_
    refine g_iload (j := 0) d_R_store_139 rfl ?_
    refine g_iconst (v := 1) d_R_store_141 (by decide) ?_
    refine g_iadd d_R_store_142 ?_
    refine g_norm (y := nI (i + 1)) (nI_add i 1) ?_
    refine r_iald (k := 7) (j := i + 1) d_R_store_143 hs5 (by decide) rfl rfl (show i + 1 < 520 by omega) ?_
    refine r_iast (k := 7) (j := i) d_R_store_144 hs5 (by decide) rfl rfl (show i < 520 by omega) (fun w6 hs7 => ?_)
    refine g_aload_n (j := 1) d_R_store_145 rfl ?_
    refine g_get d_R_store_146 f_R_34 hs7.obj rfl ?_
    refine g_iload (j := 0) d_R_store_149 rfl ?_
    refine g_aload_n (j := 1) d_R_store_151 rfl ?_
    refine g_get d_R_store_152 f_R_34 hs7.obj rfl ?_
    refine g_iload (j := 0) d_R_store_155 rfl ?_
    refine g_iconst (v := 1) d_R_store_157 (by decide) ?_
    refine g_iadd d_R_store_158 ?_
    refine g_norm (y := nI (i + 1)) (nI_add i 1) ?_
    refine r_iald (k := 8) (j := i + 1) d_R_store_159 hs7 (by decide) rfl rfl (show i + 1 < 520 by omega) ?_
    refine r_iast (k := 8) (j := i) d_R_store_160 hs7 (by decide) rfl rfl (show i < 520 by omega) (fun w8 hs9 => ?_)
    refine g_iinc (j := 0) (v := nI (i + 1)) (lv' := [(5, _), (0, _), (1, _), (2, _), (3, _), (4, _)]) d_R_store_161 rfl (nI_1 i) (by decide) rfl ?_
    refine g_goto (tgt := 88) d_R_store_164 (by decide) ?_
    have e9 := s4R_s t hlo
    exact ih (i + 1) (show SysR E ad (s4R t k (i + 1)) _ from e9 ▸ hs9) (by omega) (by omega)

def s_R_store (t : tR) (m : Nat) (k : Nat) : tR :=
  if t.2 7 k ≤ (stA (stA t 0 ((flN t k)) (t.2 8 k)) 1 ((flN t k)) (((stA t 0 ((flN t k)) (t.2 8 k)).2 1 ((flN t k))) + 1)).2 3 ((clN t k)) then
    s_R_send (s4R (stF (stA (stA t 0 ((flN t k)) (t.2 8 k)) 1 ((flN t k)) (((stA t 0 ((flN t k)) (t.2 8 k)).2 1 ((flN t k))) + 1)) 8 (nI m)) k m) 3 (nI (clN t k)) (nI (flN t k)) (t.2 7 k) ((s4R (stF (stA (stA t 0 ((flN t k)) (t.2 8 k)) 1 ((flN t k)) (((stA t 0 ((flN t k)) (t.2 8 k)).2 1 ((flN t k))) + 1)) 8 (nI m)) k m).2 1 (flN t k)) 0 0
  else
    s_R_send (s4R (stF (stA (stA (stA (stA t 0 ((flN t k)) (t.2 8 k)) 1 ((flN t k)) (((stA t 0 ((flN t k)) (t.2 8 k)).2 1 ((flN t k))) + 1)) 3 ((clN t k)) (t.2 7 k)) 4 ((clN t k)) ((stA (stA (stA t 0 ((flN t k)) (t.2 8 k)) 1 ((flN t k)) (((stA t 0 ((flN t k)) (t.2 8 k)).2 1 ((flN t k))) + 1)) 3 ((clN t k)) (t.2 7 k)).2 1 ((flN t k)))) 8 (nI m)) k m) 3 (nI (clN t k)) (nI (flN t k)) (t.2 7 k) ((s4R (stF (stA (stA (stA (stA t 0 ((flN t k)) (t.2 8 k)) 1 ((flN t k)) (((stA t 0 ((flN t k)) (t.2 8 k)).2 1 ((flN t k))) + 1)) 3 ((clN t k)) (t.2 7 k)) 4 ((clN t k)) ((stA (stA (stA t 0 ((flN t k)) (t.2 8 k)) 1 ((flN t k)) (((stA t 0 ((flN t k)) (t.2 8 k)).2 1 ((flN t k))) + 1)) 3 ((clN t k)) (t.2 7 k)).2 1 ((flN t k)))) 8 (nI m)) k m).2 1 (flN t k)) 0 0
set_option maxHeartbeats 4000000 in
set_option maxRecDepth 100000 in
theorem c_R_store {E : gE} {w : wd} {ad : Nat → Nat} {t : tR} (hs : SysR E ad t w) (m : Nat) (k : Nat) (hm : t.1 8 = nI (m + 1)) (hm2 : m ≤ 518) (hk : k < m + 1) (hE : okE t k) (hp : okP t) : Cn E y_R_store 2 0 0 [.ref (ad 0), .int (nI k)] w (fun r w' => r = none ∧ SysR E ad (s_R_store t m k) w') := by
  refine Cn.of (by decide) (Nat.le_of_ble_eq_true rfl) (fun A => ?_)
  show G E y_R_store _ 0 [(0, .ref (ad 0)), (1, .int (nI k))] [] w 0 0
  have hE2 := hE.2.1
  have hE4 := hE.2.2.2
  refine g_aload_n (j := 0) d_R_store_0 rfl ?_
  refine g_get d_R_store_1 f_R_25 hs.obj rfl ?_
  refine g_iload_n (j := 1) d_R_store_4 rfl ?_
  refine r_iald (k := 5) (j := k) d_R_store_5 hs (by decide) rfl rfl (show k < 520 by omega) ?_
  refine g_norm (y := nI (clN t k)) hE.1 ?_
  refine g_istore_n (lv' := [(2, _), (0, _), (1, _)]) d_R_store_6 (by decide) rfl ?_
  refine g_aload_n (j := 1) d_R_store_7 rfl ?_
  refine g_get d_R_store_8 f_R_28 hs.obj rfl ?_
  refine g_iload_n (j := 2) d_R_store_11 rfl ?_
  refine r_iald (k := 6) (j := k) d_R_store_12 hs (by decide) rfl rfl (show k < 520 by omega) ?_
  refine g_norm (y := nI (flN t k)) hE.2.2.1 ?_
  refine g_istore_n (lv' := [(3, _), (2, _), (0, _), (1, _)]) d_R_store_13 (by decide) rfl ?_
  refine g_aload_n (j := 2) d_R_store_14 rfl ?_
  refine g_get d_R_store_15 f_R_31 hs.obj rfl ?_
  refine g_iload_n (j := 3) d_R_store_18 rfl ?_
  refine r_iald (k := 7) (j := k) d_R_store_19 hs (by decide) rfl rfl (show k < 520 by omega) ?_
  refine g_istore (lv' := [(4, _), (3, _), (2, _), (0, _), (1, _)]) d_R_store_20 (by decide) rfl ?_
  refine g_aload_n (j := 3) d_R_store_22 rfl ?_
  refine g_get d_R_store_23 f_R_7 hs.obj rfl ?_
  refine g_iload_n (j := 1) d_R_store_26 rfl ?_
  refine g_aload_n (j := 3) d_R_store_27 rfl ?_
  refine g_get d_R_store_28 f_R_34 hs.obj rfl ?_
  refine g_iload_n (j := 4) d_R_store_31 rfl ?_
  refine r_iald (k := 8) (j := k) d_R_store_32 hs (by decide) rfl rfl (show k < 520 by omega) ?_
  refine r_iast (k := 0) (j := (flN t k)) d_R_store_33 hs (by decide) rfl rfl (show (flN t k) < 4 by omega) (fun w1 hs2 => ?_)
  refine g_aload_n (j := 3) d_R_store_34 rfl ?_
  refine g_get d_R_store_35 f_R_13 hs2.obj rfl ?_
  refine g_iload_n (j := 1) d_R_store_38 rfl ?_
  refine g_dup2 d_R_store_39 rfl rfl ?_
  refine r_iald (k := 1) (j := (flN t k)) d_R_store_40 hs2 (by decide) rfl rfl (show (flN t k) < 4 by omega) ?_
  refine g_iconst (v := 1) d_R_store_41 (by decide) ?_
  refine g_iadd d_R_store_42 ?_
  refine r_iast (k := 1) (j := (flN t k)) d_R_store_43 hs2 (by decide) rfl rfl (show (flN t k) < 4 by omega) (fun w3 hs4 => ?_)
  refine g_iload (j := 0) d_R_store_44 rfl ?_
  refine g_aload_n (j := 3) d_R_store_46 rfl ?_
  refine g_get d_R_store_47 f_R_19 hs4.obj rfl ?_
  refine g_iload_n (j := 2) d_R_store_50 rfl ?_
  refine r_iald (k := 3) (j := (clN t k)) d_R_store_51 hs4 (by decide) rfl rfl (show (clN t k) < 4 by omega) ?_
  refine g_icmp_le (tgt := 75) d_R_store_52 (by decide) (fun h5 => ?_) (fun h5 => ?_)
  · skip
    refine g_aload_n (j := 3) d_R_store_75 rfl ?_
    refine g_dup d_R_store_76 rfl ?_
    refine g_get d_R_store_77 f_R_125 hs4.obj rfl ?_
    refine g_norm (y := nI (m + 1)) hm ?_
    refine g_iconst (v := 1) d_R_store_80 (by decide) ?_
    refine g_isub d_R_store_81 ?_
    refine g_norm (y := nI m) (nI_pred m) ?_
    refine g_put d_R_store_82 fw_R_125 (Or.inl rfl) hs4.obj rfl rfl (Nat.le_of_ble_eq_true rfl) ?_
    have hs7 : SysR E ad (stF (stA (stA t 0 ((flN t k)) (t.2 8 k)) 1 ((flN t k)) (((stA t 0 ((flN t k)) (t.2 8 k)).2 1 ((flN t k))) + 1)) 8 (nI m)) _ := hs4.sf (t' := stF (stA (stA t 0 ((flN t k)) (t.2 8 k)) 1 ((flN t k)) (((stA t 0 ((flN t k)) (t.2 8 k)).2 1 ((flN t k))) + 1)) 8 (nI m)) (fs := (ceR ad (stA (stA t 0 ((flN t k)) (t.2 8 k)) 1 ((flN t k)) (((stA t 0 ((flN t k)) (t.2 8 k)).2 1 ((flN t k))) + 1))).set 13 (.int (nI m))) rfl rfl
    generalize wu _ (ad 0) _ = w6 at hs7 ⊢
    refine g_iload_n (j := 4) d_R_store_85 rfl ?_
    refine g_istore (lv' := [(5, _), (4, _), (3, _), (2, _), (0, _), (1, _)]) d_R_store_86 (by decide) rfl ?_
    refine g_lv [0, 4, 5, 3, 2, 1] rfl ?_
    refine l_R_store (t := stF (stA (stA t 0 ((flN t k)) (t.2 8 k)) 1 ((flN t k)) (((stA t 0 ((flN t k)) (t.2 8 k)).2 1 ((flN t k))) + 1)) 8 (nI m)) k (flN t k) m _ _ rfl hm2 (fun w8 hs8 => ?_) (m - k) k (show SysR E ad (s4R (stF (stA (stA t 0 ((flN t k)) (t.2 8 k)) 1 ((flN t k)) (((stA t 0 ((flN t k)) (t.2 8 k)).2 1 ((flN t k))) + 1)) 8 (nI m)) k k) _ from (s4R_0 (stF (stA (stA t 0 ((flN t k)) (t.2 8 k)) 1 ((flN t k)) (((stA t 0 ((flN t k)) (t.2 8 k)).2 1 ((flN t k))) + 1)) 8 (nI m)) k).symm ▸ hs7) (by omega) (by omega)
    refine g_aload_n (j := 1) d_R_store_167 rfl ?_
    refine g_iconst (v := 3) d_R_store_168 (by decide) ?_
    refine g_iload_n (j := 3) d_R_store_169 rfl ?_
    refine g_iload_n (j := 4) d_R_store_170 rfl ?_
    refine g_iload (j := 5) d_R_store_171 rfl ?_
    refine g_aload_n (j := 1) d_R_store_173 rfl ?_
    refine g_get d_R_store_174 f_R_13 hs8.obj rfl ?_
    refine g_iload_n (j := 4) d_R_store_177 rfl ?_
    refine r_iald (k := 1) (j := flN t k) d_R_store_178 hs8 (by decide) rfl rfl (show flN t k < 4 by omega) ?_
    refine g_iconst (v := 0) d_R_store_179 (by decide) ?_
    refine g_iconst (v := 0) d_R_store_180 (by decide) ?_
    refine g_callV (c_R_send hs8 3 (nI (clN t k)) (nI (flN t k)) (t.2 7 k) ((s4R (stF (stA (stA t 0 ((flN t k)) (t.2 8 k)) 1 ((flN t k)) (((stA t 0 ((flN t k)) (t.2 8 k)).2 1 ((flN t k))) + 1)) 8 (nI m)) k m).2 1 (flN t k)) 0 0 hp) ok_R_send lk_R_99 in_R_send se_R_send hs8.obj rfl d_R_store_181 rfl rfl (Nat.le_of_ble_eq_true rfl) ⟨(Nat.le_of_ble_eq_true rfl), (Nat.le_of_ble_eq_true rfl)⟩ (Nat.le_of_ble_eq_true rfl) (Nat.le_of_ble_eq_true rfl) (fun r w' hq => ?_)
    obtain ⟨rfl, hs8⟩ := hq
    have hz : s_R_store t m k = s_R_send (s4R (stF (stA (stA t 0 ((flN t k)) (t.2 8 k)) 1 ((flN t k)) (((stA t 0 ((flN t k)) (t.2 8 k)).2 1 ((flN t k))) + 1)) 8 (nI m)) k m) 3 (nI (clN t k)) (nI (flN t k)) (t.2 7 k) ((s4R (stF (stA (stA t 0 ((flN t k)) (t.2 8 k)) 1 ((flN t k)) (((stA t 0 ((flN t k)) (t.2 8 k)).2 1 ((flN t k))) + 1)) 8 (nI m)) k m).2 1 (flN t k)) 0 0 := by
      unfold s_R_store
      rw [if_pos h5]
    exact g_return d_R_store_184 rfl (Nat.le_of_ble_eq_true rfl) (Nat.le_of_ble_eq_true rfl) ⟨rfl, by rw [hz]; exact hs8⟩
  · skip
    refine g_aload_n (j := 3) d_R_store_55 rfl ?_
    refine g_get d_R_store_56 f_R_19 hs4.obj rfl ?_
    refine g_iload_n (j := 2) d_R_store_59 rfl ?_
    refine g_iload (j := 0) d_R_store_60 rfl ?_
    refine r_iast (k := 3) (j := (clN t k)) d_R_store_62 hs4 (by decide) rfl rfl (show (clN t k) < 4 by omega) (fun w10 hs11 => ?_)
    refine g_aload_n (j := 3) d_R_store_63 rfl ?_
    refine g_get d_R_store_64 f_R_22 hs11.obj rfl ?_
    refine g_iload_n (j := 2) d_R_store_67 rfl ?_
    refine g_aload_n (j := 3) d_R_store_68 rfl ?_
    refine g_get d_R_store_69 f_R_13 hs11.obj rfl ?_
    refine g_iload_n (j := 1) d_R_store_72 rfl ?_
    refine r_iald (k := 1) (j := (flN t k)) d_R_store_73 hs11 (by decide) rfl rfl (show (flN t k) < 4 by omega) ?_
    refine r_iast (k := 4) (j := (clN t k)) d_R_store_74 hs11 (by decide) rfl rfl (show (clN t k) < 4 by omega) (fun w12 hs13 => ?_)
    refine g_aload_n (j := 3) d_R_store_75 rfl ?_
    refine g_dup d_R_store_76 rfl ?_
    refine g_get d_R_store_77 f_R_125 hs13.obj rfl ?_
    refine g_norm (y := nI (m + 1)) hm ?_
    refine g_iconst (v := 1) d_R_store_80 (by decide) ?_
    refine g_isub d_R_store_81 ?_
    refine g_norm (y := nI m) (nI_pred m) ?_
    refine g_put d_R_store_82 fw_R_125 (Or.inl rfl) hs13.obj rfl rfl (Nat.le_of_ble_eq_true rfl) ?_
    have hs15 : SysR E ad (stF (stA (stA (stA (stA t 0 ((flN t k)) (t.2 8 k)) 1 ((flN t k)) (((stA t 0 ((flN t k)) (t.2 8 k)).2 1 ((flN t k))) + 1)) 3 ((clN t k)) (t.2 7 k)) 4 ((clN t k)) ((stA (stA (stA t 0 ((flN t k)) (t.2 8 k)) 1 ((flN t k)) (((stA t 0 ((flN t k)) (t.2 8 k)).2 1 ((flN t k))) + 1)) 3 ((clN t k)) (t.2 7 k)).2 1 ((flN t k)))) 8 (nI m)) _ := hs13.sf (t' := stF (stA (stA (stA (stA t 0 ((flN t k)) (t.2 8 k)) 1 ((flN t k)) (((stA t 0 ((flN t k)) (t.2 8 k)).2 1 ((flN t k))) + 1)) 3 ((clN t k)) (t.2 7 k)) 4 ((clN t k)) ((stA (stA (stA t 0 ((flN t k)) (t.2 8 k)) 1 ((flN t k)) (((stA t 0 ((flN t k)) (t.2 8 k)).2 1 ((flN t k))) + 1)) 3 ((clN t k)) (t.2 7 k)).2 1 ((flN t k)))) 8 (nI m)) (fs := (ceR ad (stA (stA (stA (stA t 0 ((flN t k)) (t.2 8 k)) 1 ((flN t k)) (((stA t 0 ((flN t k)) (t.2 8 k)).2 1 ((flN t k))) + 1)) 3 ((clN t k)) (t.2 7 k)) 4 ((clN t k)) ((stA (stA (stA t 0 ((flN t k)) (t.2 8 k)) 1 ((flN t k)) (((stA t 0 ((flN t k)) (t.2 8 k)).2 1 ((flN t k))) + 1)) 3 ((clN t k)) (t.2 7 k)).2 1 ((flN t k))))).set 13 (.int (nI m))) rfl rfl
    generalize wu _ (ad 0) _ = w14 at hs15 ⊢
    refine g_iload_n (j := 4) d_R_store_85 rfl ?_
    refine g_istore (lv' := [(5, _), (4, _), (3, _), (2, _), (0, _), (1, _)]) d_R_store_86 (by decide) rfl ?_
    refine g_lv [0, 4, 5, 3, 2, 1] rfl ?_
    refine l_R_store (t := stF (stA (stA (stA (stA t 0 ((flN t k)) (t.2 8 k)) 1 ((flN t k)) (((stA t 0 ((flN t k)) (t.2 8 k)).2 1 ((flN t k))) + 1)) 3 ((clN t k)) (t.2 7 k)) 4 ((clN t k)) ((stA (stA (stA t 0 ((flN t k)) (t.2 8 k)) 1 ((flN t k)) (((stA t 0 ((flN t k)) (t.2 8 k)).2 1 ((flN t k))) + 1)) 3 ((clN t k)) (t.2 7 k)).2 1 ((flN t k)))) 8 (nI m)) k (flN t k) m _ _ rfl hm2 (fun w8 hs8 => ?_) (m - k) k (show SysR E ad (s4R (stF (stA (stA (stA (stA t 0 ((flN t k)) (t.2 8 k)) 1 ((flN t k)) (((stA t 0 ((flN t k)) (t.2 8 k)).2 1 ((flN t k))) + 1)) 3 ((clN t k)) (t.2 7 k)) 4 ((clN t k)) ((stA (stA (stA t 0 ((flN t k)) (t.2 8 k)) 1 ((flN t k)) (((stA t 0 ((flN t k)) (t.2 8 k)).2 1 ((flN t k))) + 1)) 3 ((clN t k)) (t.2 7 k)).2 1 ((flN t k)))) 8 (nI m)) k k) _ from (s4R_0 (stF (stA (stA (stA (stA t 0 ((flN t k)) (t.2 8 k)) 1 ((flN t k)) (((stA t 0 ((flN t k)) (t.2 8 k)).2 1 ((flN t k))) + 1)) 3 ((clN t k)) (t.2 7 k)) 4 ((clN t k)) ((stA (stA (stA t 0 ((flN t k)) (t.2 8 k)) 1 ((flN t k)) (((stA t 0 ((flN t k)) (t.2 8 k)).2 1 ((flN t k))) + 1)) 3 ((clN t k)) (t.2 7 k)).2 1 ((flN t k)))) 8 (nI m)) k).symm ▸ hs15) (by omega) (by omega)
    refine g_aload_n (j := 1) d_R_store_167 rfl ?_
    refine g_iconst (v := 3) d_R_store_168 (by decide) ?_
    refine g_iload_n (j := 3) d_R_store_169 rfl ?_
    refine g_iload_n (j := 4) d_R_store_170 rfl ?_
    refine g_iload (j := 5) d_R_store_171 rfl ?_
    refine g_aload_n (j := 1) d_R_store_173 rfl ?_
    refine g_get d_R_store_174 f_R_13 hs8.obj rfl ?_
    refine g_iload_n (j := 4) d_R_store_177 rfl ?_
    refine r_iald (k := 1) (j := flN t k) d_R_store_178 hs8 (by decide) rfl rfl (show flN t k < 4 by omega) ?_
    refine g_iconst (v := 0) d_R_store_179 (by decide) ?_
    refine g_iconst (v := 0) d_R_store_180 (by decide) ?_
    refine g_callV (c_R_send hs8 3 (nI (clN t k)) (nI (flN t k)) (t.2 7 k) ((s4R (stF (stA (stA (stA (stA t 0 ((flN t k)) (t.2 8 k)) 1 ((flN t k)) (((stA t 0 ((flN t k)) (t.2 8 k)).2 1 ((flN t k))) + 1)) 3 ((clN t k)) (t.2 7 k)) 4 ((clN t k)) ((stA (stA (stA t 0 ((flN t k)) (t.2 8 k)) 1 ((flN t k)) (((stA t 0 ((flN t k)) (t.2 8 k)).2 1 ((flN t k))) + 1)) 3 ((clN t k)) (t.2 7 k)).2 1 ((flN t k)))) 8 (nI m)) k m).2 1 (flN t k)) 0 0 hp) ok_R_send lk_R_99 in_R_send se_R_send hs8.obj rfl d_R_store_181 rfl rfl (Nat.le_of_ble_eq_true rfl) ⟨(Nat.le_of_ble_eq_true rfl), (Nat.le_of_ble_eq_true rfl)⟩ (Nat.le_of_ble_eq_true rfl) (Nat.le_of_ble_eq_true rfl) (fun r w' hq => ?_)
    obtain ⟨rfl, hs16⟩ := hq
    have hz : s_R_store t m k = s_R_send (s4R (stF (stA (stA (stA (stA t 0 ((flN t k)) (t.2 8 k)) 1 ((flN t k)) (((stA t 0 ((flN t k)) (t.2 8 k)).2 1 ((flN t k))) + 1)) 3 ((clN t k)) (t.2 7 k)) 4 ((clN t k)) ((stA (stA (stA t 0 ((flN t k)) (t.2 8 k)) 1 ((flN t k)) (((stA t 0 ((flN t k)) (t.2 8 k)).2 1 ((flN t k))) + 1)) 3 ((clN t k)) (t.2 7 k)).2 1 ((flN t k)))) 8 (nI m)) k m) 3 (nI (clN t k)) (nI (flN t k)) (t.2 7 k) ((s4R (stF (stA (stA (stA (stA t 0 ((flN t k)) (t.2 8 k)) 1 ((flN t k)) (((stA t 0 ((flN t k)) (t.2 8 k)).2 1 ((flN t k))) + 1)) 3 ((clN t k)) (t.2 7 k)) 4 ((clN t k)) ((stA (stA (stA t 0 ((flN t k)) (t.2 8 k)) 1 ((flN t k)) (((stA t 0 ((flN t k)) (t.2 8 k)).2 1 ((flN t k))) + 1)) 3 ((clN t k)) (t.2 7 k)).2 1 ((flN t k)))) 8 (nI m)) k m).2 1 (flN t k)) 0 0 := by
      unfold s_R_store
      rw [if_neg h5]
    exact g_return d_R_store_184 rfl (Nat.le_of_ble_eq_true rfl) (Nat.le_of_ble_eq_true rfl) ⟨rfl, by rw [hz]; exact hs16⟩
end
section
theorem send_f (t : tR) (k cc ff wo a b d : Int32) {i : Nat} (h : i ≠ 9) : (s_R_send t k cc ff wo a b d).1 i = t.1 i := by
  unfold s_R_send
  split
  · rfl
  · exact if_neg h
theorem send_a (t : tR) (k cc ff wo a b d : Int32) {i : Nat} (h : i ≠ 23) : (s_R_send t k cc ff wo a b d).2 i = t.2 i := by
  unfold s_R_send
  split
  · rfl
  · show (if i = 23 then _ else if i = 23 then _ else if i = 23 then _ else if i = 23 then _ else if i = 23 then _ else if i = 23 then _ else if i = 23 then _ else t.2 i) = t.2 i
    simp only [if_neg h]
theorem send_p {t : tR} (hp : okP t) (k cc ff wo a b d : Int32) : okP (s_R_send t k cc ff wo a b d) := by
  have h2 := hp.2
  unfold s_R_send
  split
  · exact hp
  · rename_i hne
    have h3 : pN t < 64 := by
      have h9 : pN t ≠ 64 := fun z => hne (by rw [z]; rfl)
      omega
    have e : ∀ x : tR, pN (stF x 9 (nI (pN t + 1))) = pN t + 1 := fun x => nI_clamp (by omega)
    unfold okP
    rw [e]
    exact ⟨rfl, by omega⟩
theorem okW.to {t t' : tR} (h : okW t) (e : t'.1 8 = t.1 8) : okW t' := by
  have e2 : wN t' = wN t := by unfold wN; rw [e]
  unfold okW
  rw [e2, e]
  exact h
theorem okC.to {t t' : tR} (h : okC t) (e : t'.1 0 = t.1 0) : okC t' := by
  have e2 : cN t' = cN t := by unfold cN; rw [e]
  unfold okC
  rw [e2, e]
  exact h
theorem okF.to {t t' : tR} (h : okF t) (e : t'.1 1 = t.1 1) : okF t' := by
  have e2 : fN t' = fN t := by unfold fN; rw [e]
  unfold okF
  rw [e2, e]
  exact h
theorem okE.to {t t' : tR} {k k' : Nat} (h : okE t k) (e5 : t'.2 5 k' = t.2 5 k) (e6 : t'.2 6 k' = t.2 6 k) : okE t' k' := by
  have h5 : clN t' k' = clN t k := by unfold clN; rw [e5]
  have h6 : flN t' k' = flN t k := by unfold flN; rw [e6]
  unfold okE
  rw [h5, h6, e5, e6]
  exact h
/-- what the reference's numbers keep -/
def wfR (t : tR) : Prop := okP t ∧ okW t ∧ okC t ∧ okF t ∧ ∀ k, k < wN t → okE t k
theorem wfR_send {t : tR} (h : wfR t) (k cc ff wo a b d : Int32) : wfR (s_R_send t k cc ff wo a b d) := by
  obtain ⟨h1, h2, h3, h4, h5⟩ := h
  have e8 := send_f t k cc ff wo a b d (i := 8) (by decide)
  have ew : wN (s_R_send t k cc ff wo a b d) = wN t := by unfold wN; rw [e8]
  refine ⟨send_p h1 .., h2.to e8, h3.to (send_f t k cc ff wo a b d (by decide)), h4.to (send_f t k cc ff wo a b d (by decide)), fun j hj => ?_⟩
  rw [ew] at hj
  exact (h5 j hj).to (by rw [send_a t k cc ff wo a b d (by decide)]) (by rw [send_a t k cc ff wo a b d (by decide)])
/-- the recalls, client by client -/
def rcL (t : tR) (c f : Nat) (wo : Int32) : Nat → tR
  | 0 => t
  | n + 1 => if s_R_isLeased (rcL t c f wo n) n f = 0 then rcL t c f wo n else s_R_send (rcL t c f wo n) 4 (nI n) (nI f) wo (nI c) ((rcL t c f wo n).1 6) 0
theorem rcL_f (t : tR) (c f : Nat) (wo : Int32) {i : Nat} (hi : i ≠ 9) : ∀ n, (rcL t c f wo n).1 i = t.1 i := by
  intro n
  induction n with
  | zero => rfl
  | succ n ih =>
    unfold rcL
    split
    · exact ih
    · rw [send_f _ _ _ _ _ _ _ _ hi]
      exact ih
theorem rcL_wf {t : tR} (h : wfR t) (c f : Nat) (wo : Int32) : ∀ n, wfR (rcL t c f wo n) := by
  intro n
  induction n with
  | zero => exact h
  | succ n ih =>
    unfold rcL
    split
    · exact ih
    · exact wfR_send ih ..
def s_R_put160 (t : tR) (c f : Nat) (wo : Int32) : tR := if t.2 5 (foN t f) = nI c then (if t.2 7 (foN t f) = wo then rcL t c f wo (cN t) else t) else t

set_option maxHeartbeats 4000000 in
set_option maxRecDepth 100000 in
theorem l_R_rec {E : gE} {ad : Nat → Nat} {t : tR} (c f : Nat) (wo : Int32) (hf : f < 4) (hwf : wfR t) {A : Nat → Prop} : ∀ (r n : Nat) {w : wd}, SysR E ad (rcL t c f wo n) w → r + n = cN t → G E y_R_putCame (rmD 2 0 0, A, (fun r w' => r = none ∧ SysR E ad (rcL t c f wo (cN t)) w'), fun _ => True) 192 [(7, .int (nI n)), (0, .ref (ad 0)), (1, .int (nI c)), (2, .int (nI f)), (3, .int wo)] [] w 0 0 := by
  have hc4 := hwf.2.2.1.2
  intro r
  induction r with
  | zero =>
    intro n w hs hr
    have hz : (rcL t c f wo n).1 0 = nI (cN t) := (rcL_f t c f wo (by decide) n).trans hwf.2.2.1.1
    have hp9 := (rcL_wf hwf c f wo n).1
    refine g_iload (j := 0) d_R_putCame_192 rfl ?_
    refine g_aload_n (j := 1) d_R_putCame_194 rfl ?_
    refine g_get d_R_putCame_195 f_R_83 hs.obj rfl ?_
    refine g_norm (y := nI (cN t)) hz ?_
    refine g_icmp_ge (tgt := 232) d_R_putCame_198 (by decide) (fun h1 => ?_) (fun h => absurd ((nI_leI (by omega) (by omega)).mpr (by omega)) h)
    have he : n = cN t := by omega
    subst he
    exact g_return d_R_putCame_232 rfl (Nat.le_of_ble_eq_true rfl) (Nat.le_of_ble_eq_true rfl) ⟨rfl, hs⟩
  | succ r ih =>
    intro n w hs hr
    have hz : (rcL t c f wo n).1 0 = nI (cN t) := (rcL_f t c f wo (by decide) n).trans hwf.2.2.1.1
    have hp9 := (rcL_wf hwf c f wo n).1
    refine g_iload (j := 0) d_R_putCame_192 rfl ?_
    refine g_aload_n (j := 1) d_R_putCame_194 rfl ?_
    refine g_get d_R_putCame_195 f_R_83 hs.obj rfl ?_
    refine g_norm (y := nI (cN t)) hz ?_
    refine g_icmp_ge (tgt := 232) d_R_putCame_198 (by decide) (fun h => absurd h (fun z => absurd ((nI_leI (by omega) (by omega)).mp z) (by omega))) (fun h1 => ?_)
    refine g_aload_n (j := 1) d_R_putCame_201 rfl ?_
    refine g_iload (j := 0) d_R_putCame_202 rfl ?_
    refine g_iload_n (j := 3) d_R_putCame_204 rfl ?_
    refine g_callV (c_R_isLeased hs n f (by omega) (by omega)) ok_R_isLeased lk_R_132 in_R_isLeased se_R_isLeased hs.obj rfl d_R_putCame_205 rfl rfl (Nat.le_of_ble_eq_true rfl) ⟨(Nat.le_of_ble_eq_true rfl), (Nat.le_of_ble_eq_true rfl)⟩ (Nat.le_of_ble_eq_true rfl) (Nat.le_of_ble_eq_true rfl) (fun r w' hq => ?_)
    obtain ⟨rfl, rfl⟩ := hq
    refine g_if_eq (tgt := 226) d_R_putCame_208 (by decide) (fun h2 => ?_) (fun h2 => ?_)
    · skip
      refine g_iinc (j := 0) (v := nI (n + 1)) (lv' := [(7, _), (0, _), (1, _), (2, _), (3, _)]) d_R_putCame_226 rfl (nI_1 n) (by decide) rfl ?_
      refine g_goto (tgt := 192) d_R_putCame_229 (by decide) ?_
      exact ih (n + 1) (show SysR E ad (rcL t c f wo (n + 1)) _ from (by unfold rcL; rw [if_pos h2]; exact hs)) (by omega)
    · skip
      refine g_aload_n (j := 1) d_R_putCame_211 rfl ?_
      refine g_iconst (v := 4) d_R_putCame_212 (by decide) ?_
      refine g_iload (j := 0) d_R_putCame_213 rfl ?_
      refine g_iload_n (j := 3) d_R_putCame_215 rfl ?_
      refine g_iload_n (j := 4) d_R_putCame_216 rfl ?_
      refine g_iload_n (j := 2) d_R_putCame_217 rfl ?_
      refine g_aload_n (j := 1) d_R_putCame_218 rfl ?_
      refine g_get d_R_putCame_219 f_R_136 hs.obj rfl ?_
      refine g_iconst (v := 0) d_R_putCame_222 (by decide) ?_
      refine g_callV (c_R_send hs 4 (nI n) (nI f) wo (nI c) ((rcL t c f wo n).1 6) 0 hp9) ok_R_send lk_R_99 in_R_send se_R_send hs.obj rfl d_R_putCame_223 rfl rfl (Nat.le_of_ble_eq_true rfl) ⟨(Nat.le_of_ble_eq_true rfl), (Nat.le_of_ble_eq_true rfl)⟩ (Nat.le_of_ble_eq_true rfl) (Nat.le_of_ble_eq_true rfl) (fun r w' hq => ?_)
      obtain ⟨rfl, hs3⟩ := hq
      refine g_iinc (j := 0) (v := nI (n + 1)) (lv' := [(7, _), (0, _), (1, _), (2, _), (3, _)]) d_R_putCame_226 rfl (nI_1 n) (by decide) rfl ?_
      refine g_goto (tgt := 192) d_R_putCame_229 (by decide) ?_
      exact ih (n + 1) (show SysR E ad (rcL t c f wo (n + 1)) _ from (by unfold rcL; rw [if_neg h2]; exact hs3)) (by omega)

set_option maxHeartbeats 4000000 in
set_option maxRecDepth 100000 in
theorem l_R_put160 {E : gE} {w : wd} {ad : Nat → Nat} {t : tR} (hs : SysR E ad t w) (c f : Nat) (wo : Int32) (hc : c < 4) (hf : f < 4) (hwf : wfR t) (hfo : ¬ s_R_firstOf t f < 0) {A : Nat → Prop} : G E y_R_putCame (rmD 2 0 0, A, (fun r w' => r = none ∧ SysR E ad (s_R_put160 t c f wo) w'), fun _ => True) 160 [(0, .ref (ad 0)), (1, .int (nI c)), (2, .int (nI f)), (3, .int wo)] [] w 0 0 := by
  obtain ⟨hfo1, hfo2, hfo3⟩ := foN_ok hwf.2.1 hfo
  have hw := hwf.2.1
  refine g_aload_n (j := 0) d_R_putCame_160 rfl ?_
  refine g_iload_n (j := 2) d_R_putCame_161 rfl ?_
  refine g_callV (c_R_firstOf hs f hw) ok_R_firstOf lk_R_128 in_R_firstOf se_R_firstOf hs.obj rfl d_R_putCame_162 rfl rfl (Nat.le_of_ble_eq_true rfl) ⟨(Nat.le_of_ble_eq_true rfl), (Nat.le_of_ble_eq_true rfl)⟩ (Nat.le_of_ble_eq_true rfl) (Nat.le_of_ble_eq_true rfl) (fun r w' hq => ?_)
  obtain ⟨rfl, rfl⟩ := hq
  refine g_istore (lv' := [(6, _), (0, _), (1, _), (2, _), (3, _)]) d_R_putCame_165 (by decide) rfl ?_
  refine g_aload_n (j := 1) d_R_putCame_167 rfl ?_
  refine g_get d_R_putCame_168 f_R_25 hs.obj rfl ?_
  refine g_iload (j := 0) d_R_putCame_171 rfl ?_
  refine r_iald (k := 5) (j := foN t f) d_R_putCame_173 hs (by decide) rfl hfo1 (show foN t f < 520 by omega) ?_
  refine g_iload_n (j := 2) d_R_putCame_174 rfl ?_
  refine g_icmp_ne (tgt := 232) d_R_putCame_175 (by decide) (fun h1 => ?_) (fun h1 => ?_)
  · skip
    have hz : s_R_put160 t c f wo = t := by
      unfold s_R_put160
      rw [if_neg h1]
    rw [hz]
    exact g_return d_R_putCame_232 rfl (Nat.le_of_ble_eq_true rfl) (Nat.le_of_ble_eq_true rfl) ⟨rfl, hs⟩
  · skip
    refine g_aload_n (j := 1) d_R_putCame_178 rfl ?_
    refine g_get d_R_putCame_179 f_R_31 hs.obj rfl ?_
    refine g_iload (j := 0) d_R_putCame_182 rfl ?_
    refine r_iald (k := 7) (j := foN t f) d_R_putCame_184 hs (by decide) rfl hfo1 (show foN t f < 520 by omega) ?_
    refine g_iload_n (j := 4) d_R_putCame_185 rfl ?_
    refine g_icmp_ne (tgt := 232) d_R_putCame_186 (by decide) (fun h2 => ?_) (fun h2 => ?_)
    · skip
      have hz : s_R_put160 t c f wo = t := by
        unfold s_R_put160
        rw [if_pos h1, if_neg h2]
      rw [hz]
      exact g_return d_R_putCame_232 rfl (Nat.le_of_ble_eq_true rfl) (Nat.le_of_ble_eq_true rfl) ⟨rfl, hs⟩
    · skip
      refine g_iconst (v := 0) d_R_putCame_189 (by decide) ?_
      refine g_istore (lv' := [(7, _), (6, _), (0, _), (1, _), (2, _), (3, _)]) d_R_putCame_190 (by decide) rfl ?_
      refine g_lv [0, 2, 3, 4, 5] rfl ?_
      have hz : s_R_put160 t c f wo = rcL t c f wo (cN t) := by
        unfold s_R_put160
        rw [if_pos h1, if_pos h2]
      rw [hz]
      exact l_R_rec c f wo hf hwf (cN t) 0 hs (by omega)

/-- does such a write wait: among the first k -/
def anL (t : tR) (c f : Nat) (wo : Int32) : Nat → Int32
  | 0 => 0
  | k + 1 => if anL t c f wo k = 0 then (if t.2 5 k = nI c then (if t.2 6 k = nI f then (if t.2 7 k = wo then 1 else 0) else 0) else 0) else 1
theorem anL_has {t : tR} {c f : Nat} {wo : Int32} : ∀ k, ¬ anL t c f wo k = 0 → ∃ j, j < k ∧ t.2 5 j = nI c ∧ t.2 6 j = nI f ∧ t.2 7 j = wo := by
  intro k
  induction k with
  | zero => intro h; exact absurd rfl h
  | succ k ih =>
    intro h
    by_cases h0 : anL t c f wo k = 0
    · rw [anL, if_pos h0] at h
      by_cases h1 : t.2 5 k = nI c
      · by_cases h2 : t.2 6 k = nI f
        · by_cases h3 : t.2 7 k = wo
          · exact ⟨k, by omega, h1, h2, h3⟩
          · rw [if_pos h1, if_pos h2, if_neg h3] at h
            exact absurd rfl h
        · rw [if_pos h1, if_neg h2] at h
          exact absurd rfl h
      · rw [if_neg h1] at h
        exact absurd rfl h
    · obtain ⟨j, hj, hr⟩ := ih h0
      exact ⟨j, by omega, hr⟩

set_option maxHeartbeats 4000000 in
set_option maxRecDepth 100000 in
theorem l_R_put44 {E : gE} {w : wd} {ad : Nat → Nat} {t : tR} (hs : SysR E ad t w) (c f : Nat) (wo v : Int32) (hw : okW t) {Z : gZ} (hK : G E y_R_putCame Z 104 [(6, .int (nI (wN t))), (5, .int (anL t c f wo (wN t))), (0, .ref (ad 0)), (1, .int (nI c)), (2, .int (nI f)), (3, .int wo), (4, .int v)] [] w 0 0) : ∀ (r n : Nat) (b : Int32), anL t c f wo n = b → r + n = wN t → G E y_R_putCame Z 44 [(6, .int (nI n)), (5, .int b), (0, .ref (ad 0)), (1, .int (nI c)), (2, .int (nI f)), (3, .int wo), (4, .int v)] [] w 0 0 := by
  have hw2 := hw.2
  intro r
  induction r with
  | zero =>
    intro n b hv hr
    refine g_iload (j := 0) d_R_putCame_44 rfl ?_
    refine g_aload_n (j := 2) d_R_putCame_46 rfl ?_
    refine g_get d_R_putCame_47 f_R_125 hs.obj rfl ?_
    refine g_norm (y := nI (wN t)) hw.1 ?_
    refine g_icmp_ge (tgt := 104) d_R_putCame_50 (by decide) (fun h1 => ?_) (fun h => absurd ((nI_leI (by omega) (by omega)).mpr (by omega)) h)
    have he : n = wN t := by omega
    subst he
    subst hv
    exact hK
  | succ r ih =>
    intro n b hv hr
    refine g_iload (j := 0) d_R_putCame_44 rfl ?_
    refine g_aload_n (j := 2) d_R_putCame_46 rfl ?_
    refine g_get d_R_putCame_47 f_R_125 hs.obj rfl ?_
    refine g_norm (y := nI (wN t)) hw.1 ?_
    refine g_icmp_ge (tgt := 104) d_R_putCame_50 (by decide) (fun h => absurd h (fun z => absurd ((nI_leI (by omega) (by omega)).mp z) (by omega))) (fun h1 => ?_)
    refine g_iload (j := 1) d_R_putCame_53 rfl ?_
    refine g_if_ne (tgt := 91) d_R_putCame_55 (by decide) (fun h2 => ?_) (fun h2 => ?_)
    · skip
      refine g_iconst (v := 1) d_R_putCame_91 (by decide) ?_
      refine g_goto (tgt := 96) d_R_putCame_92 (by decide) ?_
      refine g_istore (lv' := [(5, _), (6, _), (0, _), (1, _), (2, _), (3, _), (4, _)]) d_R_putCame_96 (by decide) rfl ?_
      refine g_iinc (j := 1) (v := nI (n + 1)) (lv' := [(6, _), (5, _), (0, _), (1, _), (2, _), (3, _), (4, _)]) d_R_putCame_98 rfl (nI_1 n) (by decide) rfl ?_
      refine g_goto (tgt := 44) d_R_putCame_101 (by decide) ?_
      exact ih (n + 1) _ (by rw [anL, hv, if_neg h2]) (by omega)
    · skip
      refine g_aload_n (j := 2) d_R_putCame_58 rfl ?_
      refine g_get d_R_putCame_59 f_R_25 hs.obj rfl ?_
      refine g_iload (j := 0) d_R_putCame_62 rfl ?_
      refine r_iald (k := 5) (j := n) d_R_putCame_64 hs (by decide) rfl rfl (show n < 520 by omega) ?_
      refine g_iload_n (j := 3) d_R_putCame_65 rfl ?_
      refine g_icmp_ne (tgt := 95) d_R_putCame_66 (by decide) (fun h3 => ?_) (fun h3 => ?_)
      · skip
        refine g_iconst (v := 0) d_R_putCame_95 (by decide) ?_
        refine g_istore (lv' := [(5, _), (6, _), (0, _), (1, _), (2, _), (3, _), (4, _)]) d_R_putCame_96 (by decide) rfl ?_
        refine g_iinc (j := 1) (v := nI (n + 1)) (lv' := [(6, _), (5, _), (0, _), (1, _), (2, _), (3, _), (4, _)]) d_R_putCame_98 rfl (nI_1 n) (by decide) rfl ?_
        refine g_goto (tgt := 44) d_R_putCame_101 (by decide) ?_
        exact ih (n + 1) _ (by rw [anL, hv, if_pos h2, if_neg h3]) (by omega)
      · skip
        refine g_aload_n (j := 2) d_R_putCame_69 rfl ?_
        refine g_get d_R_putCame_70 f_R_28 hs.obj rfl ?_
        refine g_iload (j := 0) d_R_putCame_73 rfl ?_
        refine r_iald (k := 6) (j := n) d_R_putCame_75 hs (by decide) rfl rfl (show n < 520 by omega) ?_
        refine g_iload_n (j := 4) d_R_putCame_76 rfl ?_
        refine g_icmp_ne (tgt := 95) d_R_putCame_77 (by decide) (fun h4 => ?_) (fun h4 => ?_)
        · skip
          refine g_iconst (v := 0) d_R_putCame_95 (by decide) ?_
          refine g_istore (lv' := [(5, _), (6, _), (0, _), (1, _), (2, _), (3, _), (4, _)]) d_R_putCame_96 (by decide) rfl ?_
          refine g_iinc (j := 1) (v := nI (n + 1)) (lv' := [(6, _), (5, _), (0, _), (1, _), (2, _), (3, _), (4, _)]) d_R_putCame_98 rfl (nI_1 n) (by decide) rfl ?_
          refine g_goto (tgt := 44) d_R_putCame_101 (by decide) ?_
          exact ih (n + 1) _ (by rw [anL, hv, if_pos h2, if_pos h3, if_neg h4]) (by omega)
        · skip
          refine g_aload_n (j := 2) d_R_putCame_80 rfl ?_
          refine g_get d_R_putCame_81 f_R_31 hs.obj rfl ?_
          refine g_iload (j := 0) d_R_putCame_84 rfl ?_
          refine r_iald (k := 7) (j := n) d_R_putCame_86 hs (by decide) rfl rfl (show n < 520 by omega) ?_
          refine g_iload_n (j := 5) d_R_putCame_87 rfl ?_
          refine g_icmp_ne (tgt := 95) d_R_putCame_88 (by decide) (fun h5 => ?_) (fun h5 => ?_)
          · skip
            refine g_iconst (v := 0) d_R_putCame_95 (by decide) ?_
            refine g_istore (lv' := [(5, _), (6, _), (0, _), (1, _), (2, _), (3, _), (4, _)]) d_R_putCame_96 (by decide) rfl ?_
            refine g_iinc (j := 1) (v := nI (n + 1)) (lv' := [(6, _), (5, _), (0, _), (1, _), (2, _), (3, _), (4, _)]) d_R_putCame_98 rfl (nI_1 n) (by decide) rfl ?_
            refine g_goto (tgt := 44) d_R_putCame_101 (by decide) ?_
            exact ih (n + 1) _ (by rw [anL, hv, if_pos h2, if_pos h3, if_pos h4, if_neg h5]) (by omega)
          · skip
            refine g_iconst (v := 1) d_R_putCame_91 (by decide) ?_
            refine g_goto (tgt := 96) d_R_putCame_92 (by decide) ?_
            refine g_istore (lv' := [(5, _), (6, _), (0, _), (1, _), (2, _), (3, _), (4, _)]) d_R_putCame_96 (by decide) rfl ?_
            refine g_iinc (j := 1) (v := nI (n + 1)) (lv' := [(6, _), (5, _), (0, _), (1, _), (2, _), (3, _), (4, _)]) d_R_putCame_98 rfl (nI_1 n) (by decide) rfl ?_
            refine g_goto (tgt := 44) d_R_putCame_101 (by decide) ?_
            exact ih (n + 1) _ (by rw [anL, hv, if_pos h2, if_pos h3, if_pos h4, if_pos h5]) (by omega)

theorem add_wN (t : tR) (c f : Nat) (wo v : Int32) (hw : wN t ≤ 518) : wN (stF (stA (stA (stA (stA t 5 (wN t) (nI c)) 6 (wN t) (nI f)) 7 (wN t) wo) 8 (wN t) v) 8 (nI (wN t + 1))) = wN t + 1 := nI_clamp (by omega)
theorem wfR_add {t : tR} (h : wfR t) (c f : Nat) (wo v : Int32) (hc : c < 4) (hf : f < 4) (hw : wN t ≤ 518) : wfR (stF (stA (stA (stA (stA t 5 (wN t) (nI c)) 6 (wN t) (nI f)) 7 (wN t) wo) 8 (wN t) v) 8 (nI (wN t + 1))) := by
  obtain ⟨h1, h2, h3, h4, h5⟩ := h
  have e := add_wN t c f wo v hw
  refine ⟨h1, ⟨by rw [e]; rfl, by omega⟩, h3, h4, fun k hk => ?_⟩
  rw [e] at hk
  by_cases hkw : k = wN t
  · subst hkw
    have e5 : (stF (stA (stA (stA (stA t 5 (wN t) (nI c)) 6 (wN t) (nI f)) 7 (wN t) wo) 8 (wN t) v) 8 (nI (wN t + 1))).2 5 (wN t) = nI c := if_pos rfl
    have e6 : (stF (stA (stA (stA (stA t 5 (wN t) (nI c)) 6 (wN t) (nI f)) 7 (wN t) wo) 8 (wN t) v) 8 (nI (wN t + 1))).2 6 (wN t) = nI f := if_pos rfl
    have c5 : clN (stF (stA (stA (stA (stA t 5 (wN t) (nI c)) 6 (wN t) (nI f)) 7 (wN t) wo) 8 (wN t) v) 8 (nI (wN t + 1))) (wN t) = c := by unfold clN; rw [e5]; exact nI_clamp (by omega)
    have c6 : flN (stF (stA (stA (stA (stA t 5 (wN t) (nI c)) 6 (wN t) (nI f)) 7 (wN t) wo) 8 (wN t) v) 8 (nI (wN t + 1))) (wN t) = f := by unfold flN; rw [e6]; exact nI_clamp (by omega)
    unfold okE
    rw [c5, c6]
    exact ⟨e5, hc, e6, hf⟩
  · exact (h5 k (by omega)).to (if_neg hkw) (if_neg hkw)
theorem add_fo {t : tR} (h : wfR t) (c f : Nat) (wo v : Int32) (hw : wN t ≤ 518) : ¬ s_R_firstOf (stF (stA (stA (stA (stA t 5 (wN t) (nI c)) 6 (wN t) (nI f)) 7 (wN t) wo) 8 (wN t) v) 8 (nI (wN t + 1))) f < 0 := by
  have e := add_wN t c f wo v hw
  exact foN_has (j := wN t) (by rw [e]; omega) (if_pos rfl) (by rw [e]; omega)

def s_R_putCame (t : tR) (c : Nat) (f : Nat) (wo : Int32) (v : Int32) : tR :=
  if wo = t.2 3 c then
    s_R_send t 3 (nI c) (nI f) wo (t.2 4 c) 0 0
  else
    if t.2 3 c ≤ wo then
      if anL t c f wo (wN t) = 0 then
        s_R_put160 (stF (stA (stA (stA (stA t 5 (wN t) (nI c)) 6 (wN t) (nI f)) 7 (wN t) wo) 8 (wN t) v) 8 (nI ((wN t) + 1))) c f wo
      else
        s_R_put160 t c f wo
    else
      t
set_option maxHeartbeats 4000000 in
set_option maxRecDepth 100000 in
theorem c_R_putCame {E : gE} {w : wd} {ad : Nat → Nat} {t : tR} (hs : SysR E ad t w) (c : Nat) (f : Nat) (wo : Int32) (v : Int32) (hc : c < 4) (hf : f < 4) (hwf : wfR t) (hw8 : wN t ≤ 518) : Cn E y_R_putCame 2 0 0 [.ref (ad 0), .int (nI c), .int (nI f), .int wo, .int v] w (fun r w' => r = none ∧ SysR E ad (s_R_putCame t c f wo v) w') := by
  refine Cn.of (by decide) (Nat.le_of_ble_eq_true rfl) (fun A => ?_)
  show G E y_R_putCame _ 0 [(0, .ref (ad 0)), (1, .int (nI c)), (2, .int (nI f)), (3, .int wo), (4, .int v)] [] w 0 0
  have hw := hwf.2.1
  have hp := hwf.1
  refine g_iload_n (j := 3) d_R_putCame_0 rfl ?_
  refine g_aload_n (j := 0) d_R_putCame_1 rfl ?_
  refine g_get d_R_putCame_2 f_R_19 hs.obj rfl ?_
  refine g_iload_n (j := 1) d_R_putCame_5 rfl ?_
  refine r_iald (k := 3) (j := c) d_R_putCame_6 hs (by decide) rfl rfl (show c < 4 by omega) ?_
  refine g_icmp_ne (tgt := 27) d_R_putCame_7 (by decide) (fun h1 => ?_) (fun h1 => ?_)
  · skip
    refine g_iload_n (j := 3) d_R_putCame_27 rfl ?_
    refine g_aload_n (j := 0) d_R_putCame_28 rfl ?_
    refine g_get d_R_putCame_29 f_R_19 hs.obj rfl ?_
    refine g_iload_n (j := 1) d_R_putCame_32 rfl ?_
    refine r_iald (k := 3) (j := c) d_R_putCame_33 hs (by decide) rfl rfl (show c < 4 by omega) ?_
    refine g_icmp_ge (tgt := 38) d_R_putCame_34 (by decide) (fun h2 => ?_) (fun h2 => ?_)
    · skip
      refine g_iconst (v := 0) d_R_putCame_38 (by decide) ?_
      refine g_istore (lv' := [(5, _), (0, _), (1, _), (2, _), (3, _), (4, _)]) d_R_putCame_39 (by decide) rfl ?_
      refine g_iconst (v := 0) d_R_putCame_41 (by decide) ?_
      refine g_istore (lv' := [(6, _), (5, _), (0, _), (1, _), (2, _), (3, _), (4, _)]) d_R_putCame_42 (by decide) rfl ?_
      refine l_R_put44 hs c f wo v hw ?_ (wN t) 0 0 rfl (by omega)
      refine g_iload (j := 1) d_R_putCame_104 rfl ?_
      refine g_if_ne (tgt := 160) d_R_putCame_106 (by decide) (fun h3 => ?_) (fun h3 => ?_)
      · skip
        refine g_lv [2, 3, 4, 5] rfl ?_
        have hz : s_R_putCame t c f wo v = s_R_put160 t c f wo := by
          unfold s_R_putCame
          rw [if_neg h1, if_pos h2, if_neg h3]
        rw [hz]
        obtain ⟨j, hj, _, hj6, _⟩ := anL_has _ h3
        exact l_R_put160 hs c f wo hc hf hwf (foN_has hj hj6 hw.2)
      · skip
        refine g_aload_n (j := 2) d_R_putCame_109 rfl ?_
        refine g_get d_R_putCame_110 f_R_25 hs.obj rfl ?_
        refine g_aload_n (j := 2) d_R_putCame_113 rfl ?_
        refine g_get d_R_putCame_114 f_R_125 hs.obj rfl ?_
        refine g_norm (y := nI (wN t)) hw.1 ?_
        refine g_iload_n (j := 3) d_R_putCame_117 rfl ?_
        refine r_iast (k := 5) (j := wN t) d_R_putCame_118 hs (by decide) rfl rfl (show wN t < 520 by omega) (fun w4 hs5 => ?_)
        refine g_aload_n (j := 2) d_R_putCame_119 rfl ?_
        refine g_get d_R_putCame_120 f_R_28 hs5.obj rfl ?_
        refine g_aload_n (j := 2) d_R_putCame_123 rfl ?_
        refine g_get d_R_putCame_124 f_R_125 hs5.obj rfl ?_
        refine g_norm (y := nI (wN t)) hw.1 ?_
        refine g_iload_n (j := 4) d_R_putCame_127 rfl ?_
        refine r_iast (k := 6) (j := wN t) d_R_putCame_128 hs5 (by decide) rfl rfl (show wN t < 520 by omega) (fun w6 hs7 => ?_)
        refine g_aload_n (j := 2) d_R_putCame_129 rfl ?_
        refine g_get d_R_putCame_130 f_R_31 hs7.obj rfl ?_
        refine g_aload_n (j := 2) d_R_putCame_133 rfl ?_
        refine g_get d_R_putCame_134 f_R_125 hs7.obj rfl ?_
        refine g_norm (y := nI (wN t)) hw.1 ?_
        refine g_iload_n (j := 5) d_R_putCame_137 rfl ?_
        refine r_iast (k := 7) (j := wN t) d_R_putCame_138 hs7 (by decide) rfl rfl (show wN t < 520 by omega) (fun w8 hs9 => ?_)
        refine g_aload_n (j := 2) d_R_putCame_139 rfl ?_
        refine g_get d_R_putCame_140 f_R_34 hs9.obj rfl ?_
        refine g_aload_n (j := 2) d_R_putCame_143 rfl ?_
        refine g_get d_R_putCame_144 f_R_125 hs9.obj rfl ?_
        refine g_norm (y := nI (wN t)) hw.1 ?_
        refine g_iload (j := 6) d_R_putCame_147 rfl ?_
        refine r_iast (k := 8) (j := wN t) d_R_putCame_149 hs9 (by decide) rfl rfl (show wN t < 520 by omega) (fun w10 hs11 => ?_)
        refine g_aload_n (j := 2) d_R_putCame_150 rfl ?_
        refine g_dup d_R_putCame_151 rfl ?_
        refine g_get d_R_putCame_152 f_R_125 hs11.obj rfl ?_
        refine g_norm (y := nI (wN t)) hw.1 ?_
        refine g_iconst (v := 1) d_R_putCame_155 (by decide) ?_
        refine g_iadd d_R_putCame_156 ?_
        refine g_norm (y := nI ((wN t) + 1)) (nI_add (wN t) 1) ?_
        refine g_put d_R_putCame_157 fw_R_125 (Or.inl rfl) hs11.obj rfl rfl (Nat.le_of_ble_eq_true rfl) ?_
        have hs13 : SysR E ad (stF (stA (stA (stA (stA t 5 (wN t) (nI c)) 6 (wN t) (nI f)) 7 (wN t) wo) 8 (wN t) v) 8 (nI ((wN t) + 1))) _ := hs11.sf (t' := stF (stA (stA (stA (stA t 5 (wN t) (nI c)) 6 (wN t) (nI f)) 7 (wN t) wo) 8 (wN t) v) 8 (nI ((wN t) + 1))) (fs := (ceR ad (stA (stA (stA (stA t 5 (wN t) (nI c)) 6 (wN t) (nI f)) 7 (wN t) wo) 8 (wN t) v)).set 13 (.int (nI ((wN t) + 1)))) rfl rfl
        generalize wu _ (ad 0) _ = w12 at hs13 ⊢
        refine g_lv [2, 3, 4, 5] rfl ?_
        have hz : s_R_putCame t c f wo v = s_R_put160 (stF (stA (stA (stA (stA t 5 (wN t) (nI c)) 6 (wN t) (nI f)) 7 (wN t) wo) 8 (wN t) v) 8 (nI ((wN t) + 1))) c f wo := by
          unfold s_R_putCame
          rw [if_neg h1, if_pos h2, if_pos h3]
        rw [hz]
        exact l_R_put160 hs13 c f wo hc hf (wfR_add hwf c f wo v hc hf hw8) (add_fo hwf c f wo v hw8)
    · skip
      have hz : s_R_putCame t c f wo v = t := by
        unfold s_R_putCame
        rw [if_neg h1, if_neg h2]
      exact g_return d_R_putCame_37 rfl (Nat.le_of_ble_eq_true rfl) (Nat.le_of_ble_eq_true rfl) ⟨rfl, by rw [hz]; exact hs⟩
  · skip
    refine g_aload_n (j := 0) d_R_putCame_10 rfl ?_
    refine g_iconst (v := 3) d_R_putCame_11 (by decide) ?_
    refine g_iload_n (j := 1) d_R_putCame_12 rfl ?_
    refine g_iload_n (j := 2) d_R_putCame_13 rfl ?_
    refine g_iload_n (j := 3) d_R_putCame_14 rfl ?_
    refine g_aload_n (j := 0) d_R_putCame_15 rfl ?_
    refine g_get d_R_putCame_16 f_R_22 hs.obj rfl ?_
    refine g_iload_n (j := 1) d_R_putCame_19 rfl ?_
    refine r_iald (k := 4) (j := c) d_R_putCame_20 hs (by decide) rfl rfl (show c < 4 by omega) ?_
    refine g_iconst (v := 0) d_R_putCame_21 (by decide) ?_
    refine g_iconst (v := 0) d_R_putCame_22 (by decide) ?_
    refine g_callV (c_R_send hs 3 (nI c) (nI f) wo (t.2 4 c) 0 0 hp) ok_R_send lk_R_99 in_R_send se_R_send hs.obj rfl d_R_putCame_23 rfl rfl (Nat.le_of_ble_eq_true rfl) ⟨(Nat.le_of_ble_eq_true rfl), (Nat.le_of_ble_eq_true rfl)⟩ (Nat.le_of_ble_eq_true rfl) (Nat.le_of_ble_eq_true rfl) (fun r w' hq => ?_)
    obtain ⟨rfl, hs14⟩ := hq
    have hz : s_R_putCame t c f wo v = s_R_send t 3 (nI c) (nI f) wo (t.2 4 c) 0 0 := by
      unfold s_R_putCame
      rw [if_pos h1]
    exact g_return d_R_putCame_26 rfl (Nat.le_of_ble_eq_true rfl) (Nat.le_of_ble_eq_true rfl) ⟨rfl, by rw [hz]; exact hs14⟩
end
section
theorem wfR_stA {t : tR} (h : wfR t) {k : Nat} (j : Nat) (x : Int32) (h5 : k ≠ 5) (h6 : k ≠ 6) : wfR (stA t k j x) := by
  obtain ⟨a1, a2, a3, a4, a5⟩ := h
  refine ⟨a1, a2, a3, a4, fun i hi => (a5 i hi).to ?_ ?_⟩
  · show (if 5 = k then _ else t.2 5) i = _
    rw [if_neg (fun z => h5 z.symm)]
  · show (if 6 = k then _ else t.2 6) i = _
    rw [if_neg (fun z => h6 z.symm)]
theorem wfR_s4 {t X : tR} {m k : Nat} (h : wfR t) (e1 : X.1 = t.1) (e5 : X.2 5 = t.2 5) (e6 : X.2 6 = t.2 6) (hm : wN t = m + 1) (hk : k ≤ m) : wfR (s4R (stF X 8 (nI m)) k m) ∧ wN (s4R (stF X 8 (nI m)) k m) = m := by
  obtain ⟨a1, a2, a3, a4, a5⟩ := h
  have hw2 := a2.2
  have ew : wN (s4R (stF X 8 (nI m)) k m) = m := nI_clamp (by omega)
  have z : ∀ i, i ≠ 8 → (s4R (stF X 8 (nI m)) k m).1 i = t.1 i := fun i hi => (if_neg hi : upd X.1 8 (nI m) i = X.1 i).trans (congrFun e1 i)
  refine ⟨⟨?_, ⟨by rw [ew]; rfl, by omega⟩, a3.to (z 0 (by decide)), a4.to (z 1 (by decide)), fun i hi => ?_⟩, ew⟩
  · have e9 := z 9 (by decide)
    have ep : pN (s4R (stF X 8 (nI m)) k m) = pN t := by unfold pN; rw [e9]
    unfold okP
    rw [ep, e9]
    exact a1
  · rw [ew] at hi
    have q5 : (s4R (stF X 8 (nI m)) k m).2 5 i = sh1 (t.2 5) k m i := by
      show sh1 (X.2 5) k m i = _
      rw [e5]
    have q6 : (s4R (stF X 8 (nI m)) k m).2 6 i = sh1 (t.2 6) k m i := by
      show sh1 (X.2 6) k m i = _
      rw [e6]
    by_cases hc : k ≤ i ∧ i < m
    · exact (a5 (i + 1) (by omega)).to (q5.trans (if_pos hc)) (q6.trans (if_pos hc))
    · exact (a5 i (by omega)).to (q5.trans (if_neg hc)) (q6.trans (if_neg hc))
theorem send_w (t : tR) (k cc ff wo a b d : Int32) : wN (s_R_send t k cc ff wo a b d) = wN t := by
  unfold wN
  rw [send_f t k cc ff wo a b d (by decide)]
theorem wfR_store {t : tR} {m k : Nat} (h : wfR t) (hm : wN t = m + 1) (hk : k ≤ m) : wfR (s_R_store t m k) ∧ wN (s_R_store t m k) = m := by
  have key : ∀ (X : tR) (k' cc ff wo a b d : Int32), X.1 = t.1 → X.2 5 = t.2 5 → X.2 6 = t.2 6 → wfR (s_R_send (s4R (stF X 8 (nI m)) k m) k' cc ff wo a b d) ∧ wN (s_R_send (s4R (stF X 8 (nI m)) k m) k' cc ff wo a b d) = m := by
    intro X k' cc ff wo a b d e1 e5 e6
    rw [send_w]
    obtain ⟨g1, g2⟩ := wfR_s4 h e1 e5 e6 hm hk
    exact ⟨wfR_send g1 .., g2⟩
  unfold s_R_store
  split
  · refine key _ _ _ _ _ _ _ _ ?_ ?_ ?_ <;> rfl
  · refine key _ _ _ _ _ _ _ _ ?_ ?_ ?_ <;> rfl
/-- one file's writes, as long as they may be stored -/
def inL (f : Nat) : Nat → tR → tR × Nat
  | 0, t => (t, 0)
  | n + 1, t => if s_R_firstOf t f < 0 then (t, 0) else if s_R_isFree t f = 0 then (t, 0) else ((inL f n (s_R_store t (wN t - 1) (foN t f))).1, (inL f n (s_R_store t (wN t - 1) (foN t f))).2 + 1)
/-- file by file -/
def saL (t : tR) : Nat → tR × Nat
  | 0 => (t, 0)
  | n + 1 => ((inL n (wN (saL t n).1) (saL t n).1).1, (saL t n).2 + (inL n (wN (saL t n).1) (saL t n).1).2)
def s_R_storeAll (t : tR) : tR × Int32 := ((saL t (fN t)).1, nI (saL t (fN t)).2)
theorem store_0 (t : tR) (m k : Nat) {i : Nat} (h8 : i ≠ 8) (h9 : i ≠ 9) : (s_R_store t m k).1 i = t.1 i := by
  unfold s_R_store
  split
  · rw [send_f _ _ _ _ _ _ _ _ h9]
    exact if_neg h8
  · rw [send_f _ _ _ _ _ _ _ _ h9]
    exact if_neg h8
theorem inL_wf (f : Nat) : ∀ (n : Nat) (t : tR), wfR t → wfR (inL f n t).1 ∧ (∀ i, i ≠ 8 → i ≠ 9 → (inL f n t).1.1 i = t.1 i) := by
  intro n
  induction n with
  | zero => intro t h; exact ⟨h, fun _ _ _ => rfl⟩
  | succ n ih =>
    intro t h
    unfold inL
    split
    · exact ⟨h, fun _ _ _ => rfl⟩
    · rename_i hfo
      split
      · exact ⟨h, fun _ _ _ => rfl⟩
      · obtain ⟨-, g2, -⟩ := foN_ok h.2.1 hfo
        have hs := wfR_store (k := foN t f) (m := wN t - 1) h (by omega) (by omega)
        obtain ⟨i1, i2⟩ := ih _ hs.1
        exact ⟨i1, fun i h8 h9 => (i2 i h8 h9).trans (store_0 t _ _ h8 h9)⟩
theorem saL_wf {t : tR} (h : wfR t) : ∀ n, wfR (saL t n).1 ∧ (∀ i, i ≠ 8 → i ≠ 9 → (saL t n).1.1 i = t.1 i) := by
  intro n
  induction n with
  | zero => exact ⟨h, fun _ _ _ => rfl⟩
  | succ n ih =>
    obtain ⟨i1, i2⟩ := inL_wf n (wN (saL t n).1) _ ih.1
    exact ⟨i1, fun i h8 h9 => (i2 i h8 h9).trans (ih.2 i h8 h9)⟩

set_option maxHeartbeats 4000000 in
set_option maxRecDepth 100000 in
theorem l_R_in {E : gE} {ad : Nat → Nat} (f : Nat) (hf : f < 4) {Z : gZ} (hZ : Z.1 = rmD 3 0 0) : ∀ (N : Nat) (t : tR) (n : Nat) {w : wd}, wN t ≤ N → wfR t → SysR E ad t w → (∀ w' : wd, SysR E ad (inL f N t).1 w' → ∀ v3 : Int32, G E y_R_storeAll Z 47 [(3, .int v3), (1, .int (nI (n + (inL f N t).2))), (0, .ref (ad 0)), (2, .int (nI f))] [] w' 0 0) → G E y_R_storeAll Z 18 [(3, .int (s_R_firstOf t f)), (1, .int (nI n)), (0, .ref (ad 0)), (2, .int (nI f))] [] w 0 0 := by
  obtain ⟨R0, A, Q, X⟩ := Z
  dsimp only at hZ
  subst hZ
  intro N
  induction N with
  | zero =>
    intro t n w hN hwf hs hK
    have hz : s_R_firstOf t f < 0 := by
      refine Decidable.byContradiction fun hc => ?_
      obtain ⟨-, g2, -⟩ := foN_ok hwf.2.1 hc
      omega
    refine g_iload_n (j := 0) d_R_storeAll_18 rfl ?_
    refine g_if_lt (tgt := 47) d_R_storeAll_19 (by decide) (fun h1 => ?_) (fun h => absurd (hz) h)
    exact hK _ hs _
  | succ N ih =>
    intro t n w hN hwf hs hK
    refine g_iload_n (j := 0) d_R_storeAll_18 rfl ?_
    refine g_if_lt (tgt := 47) d_R_storeAll_19 (by decide) (fun h1 => ?_) (fun h1 => ?_)
    · skip
      have e9 : inL f (N + 1) t = (t, 0) := by
        rw [inL, if_pos h1]
      rw [e9] at hK
      exact hK _ hs _
    · skip
      obtain ⟨hfo1, hfo2, hfo3⟩ := foN_ok hwf.2.1 h1
      have hm : t.1 8 = nI (wN t - 1 + 1) := by
        rw [Nat.sub_add_cancel (by omega)]
        exact hwf.2.1.1
      have hst := wfR_store (k := foN t f) (m := wN t - 1) hwf (by omega) (by omega)
      refine g_aload_n (j := 2) d_R_storeAll_22 rfl ?_
      refine g_iload_n (j := 3) d_R_storeAll_23 rfl ?_
      refine g_callV (c_R_isFree hs f (by omega) hwf.2.2.1) ok_R_isFree lk_R_142 in_R_isFree se_R_isFree hs.obj rfl d_R_storeAll_24 rfl rfl (Nat.le_of_ble_eq_true rfl) ⟨(Nat.le_of_ble_eq_true rfl), (Nat.le_of_ble_eq_true rfl)⟩ (Nat.le_of_ble_eq_true rfl) (Nat.le_of_ble_eq_true rfl) (fun r w' hq => ?_)
      obtain ⟨rfl, rfl⟩ := hq
      refine g_if_eq (tgt := 47) d_R_storeAll_27 (by decide) (fun h2 => ?_) (fun h2 => ?_)
      · skip
        have e9 : inL f (N + 1) t = (t, 0) := by
          rw [inL, if_neg h1, if_pos h2]
        rw [e9] at hK
        exact hK _ hs _
      · skip
        refine g_aload_n (j := 2) d_R_storeAll_30 rfl ?_
        refine g_iload_n (j := 0) d_R_storeAll_31 rfl ?_
        refine g_norm (y := nI (foN t f)) hfo1 ?_
        refine g_callV (c_R_store hs (wN t - 1) (foN t f) hm (by omega) (by omega) (hwf.2.2.2.2 _ hfo2) hwf.1) ok_R_store lk_R_145 in_R_store se_R_store hs.obj rfl d_R_storeAll_32 rfl rfl (Nat.le_of_ble_eq_true rfl) ⟨(Nat.le_of_ble_eq_true rfl), (Nat.le_of_ble_eq_true rfl)⟩ (Nat.le_of_ble_eq_true rfl) (Nat.le_of_ble_eq_true rfl) (fun r w' hq => ?_)
        obtain ⟨rfl, hs3⟩ := hq
        refine g_iinc (j := 1) (v := nI (n + 1)) (lv' := [(1, _), (3, _), (0, _), (2, _)]) d_R_storeAll_35 rfl (nI_1 n) (by decide) rfl ?_
        refine g_aload_n (j := 2) d_R_storeAll_38 rfl ?_
        refine g_iload_n (j := 3) d_R_storeAll_39 rfl ?_
        refine g_callV (c_R_firstOf hs3 f hst.1.2.1) ok_R_firstOf lk_R_128 in_R_firstOf se_R_firstOf hs3.obj rfl d_R_storeAll_40 rfl rfl (Nat.le_of_ble_eq_true rfl) ⟨(Nat.le_of_ble_eq_true rfl), (Nat.le_of_ble_eq_true rfl)⟩ (Nat.le_of_ble_eq_true rfl) (Nat.le_of_ble_eq_true rfl) (fun r w' hq => ?_)
        obtain ⟨rfl, rfl⟩ := hq
        refine g_istore_n (lv' := [(3, _), (1, _), (0, _), (2, _)]) d_R_storeAll_43 (by decide) rfl ?_
        refine g_goto (tgt := 18) d_R_storeAll_44 (by decide) ?_
        have e9 : inL f (N + 1) t = ((inL f N (s_R_store t (wN t - 1) (foN t f))).1, (inL f N (s_R_store t (wN t - 1) (foN t f))).2 + 1) := by
          rw [inL, if_neg h1, if_neg h2]
        rw [e9] at hK
        refine ih (s_R_store t (wN t - 1) (foN t f)) (n + 1) (by rw [hst.2]; omega) hst.1 hs3 (fun w8 hs8 v3 => ?_)
        have h7 := hK w8 hs8 v3
        rw [show n + ((inL f N (s_R_store t (wN t - 1) (foN t f))).2 + 1) = n + 1 + (inL f N (s_R_store t (wN t - 1) (foN t f))).2 by omega] at h7
        exact h7

set_option maxHeartbeats 4000000 in
set_option maxRecDepth 100000 in
theorem l_R_storeAll {E : gE} {ad : Nat → Nat} {t : tR} (hwf : wfR t) {A : Nat → Prop} : ∀ (r n : Nat) {w : wd}, SysR E ad (saL t n).1 w → r + n = fN t → G E y_R_storeAll (rmD 3 0 0, A, (fun r w' => r = some (.int (s_R_storeAll t).2) ∧ SysR E ad (s_R_storeAll t).1 w'), fun _ => True) 4 [(2, .int (nI n)), (1, .int (nI (saL t n).2)), (0, .ref (ad 0))] [] w 0 0 := by
  have hf4 := hwf.2.2.2.1.2
  intro r
  induction r with
  | zero =>
    intro n w hs hr
    have hw9 := saL_wf hwf n
    have hz : (saL t n).1.1 1 = nI (fN t) := (hw9.2 1 (by decide) (by decide)).trans hwf.2.2.2.1.1
    refine g_iload_n (j := 0) d_R_storeAll_4 rfl ?_
    refine g_aload_n (j := 2) d_R_storeAll_5 rfl ?_
    refine g_get d_R_storeAll_6 f_R_87 hs.obj rfl ?_
    refine g_norm (y := nI (fN t)) hz ?_
    refine g_icmp_ge (tgt := 53) d_R_storeAll_9 (by decide) (fun h1 => ?_) (fun h => absurd ((nI_leI (by omega) (by omega)).mpr (by omega)) h)
    have he : n = fN t := by omega
    subst he
    refine g_iload_n (j := 1) d_R_storeAll_53 rfl ?_
    exact g_ireturn d_R_storeAll_54 rfl (Nat.le_of_ble_eq_true rfl) (Nat.le_of_ble_eq_true rfl) ⟨rfl, hs⟩
  | succ r ih =>
    intro n w hs hr
    have hw9 := saL_wf hwf n
    have hz : (saL t n).1.1 1 = nI (fN t) := (hw9.2 1 (by decide) (by decide)).trans hwf.2.2.2.1.1
    refine g_iload_n (j := 0) d_R_storeAll_4 rfl ?_
    refine g_aload_n (j := 2) d_R_storeAll_5 rfl ?_
    refine g_get d_R_storeAll_6 f_R_87 hs.obj rfl ?_
    refine g_norm (y := nI (fN t)) hz ?_
    refine g_icmp_ge (tgt := 53) d_R_storeAll_9 (by decide) (fun h => absurd h (fun z => absurd ((nI_leI (by omega) (by omega)).mp z) (by omega))) (fun h1 => ?_)
    refine g_aload_n (j := 2) d_R_storeAll_12 rfl ?_
    refine g_iload_n (j := 0) d_R_storeAll_13 rfl ?_
    refine g_callV (c_R_firstOf hs n hw9.1.2.1) ok_R_firstOf lk_R_128 in_R_firstOf se_R_firstOf hs.obj rfl d_R_storeAll_14 rfl rfl (Nat.le_of_ble_eq_true rfl) ⟨(Nat.le_of_ble_eq_true rfl), (Nat.le_of_ble_eq_true rfl)⟩ (Nat.le_of_ble_eq_true rfl) (Nat.le_of_ble_eq_true rfl) (fun r w' hq => ?_)
    obtain ⟨rfl, rfl⟩ := hq
    refine g_istore_n (lv' := [(3, _), (2, _), (1, _), (0, _)]) d_R_storeAll_17 (by decide) rfl ?_
    refine g_lv [0, 2, 3, 1] rfl ?_
    refine l_R_in n (by omega) rfl (wN (saL t n).1) _ _ (Nat.le_refl _) hw9.1 hs (fun w8 hs8 v3 => ?_)
    refine g_iinc (j := 3) (v := nI (n + 1)) (lv' := [(2, _), (3, _), (1, _), (0, _)]) d_R_storeAll_47 rfl (nI_1 n) (by decide) rfl ?_
    refine g_goto (tgt := 4) d_R_storeAll_50 (by decide) ?_
    refine g_lv [0, 2, 3] rfl ?_
    exact ih (n + 1) hs8 (by omega)

set_option maxHeartbeats 4000000 in
set_option maxRecDepth 100000 in
theorem c_R_storeAll {E : gE} {w : wd} {ad : Nat → Nat} {t : tR} (hs : SysR E ad t w) (hwf : wfR t) : Cn E y_R_storeAll 3 0 0 [.ref (ad 0)] w (fun r w' => r = some (.int (s_R_storeAll t).2) ∧ SysR E ad (s_R_storeAll t).1 w') := by
  refine Cn.of (by decide) (Nat.le_of_ble_eq_true rfl) (fun A => ?_)
  show G E y_R_storeAll _ 0 [(0, .ref (ad 0))] [] w 0 0
  refine g_iconst (v := 0) d_R_storeAll_0 (by decide) ?_
  refine g_istore_n (lv' := [(1, _), (0, _)]) d_R_storeAll_1 (by decide) rfl ?_
  refine g_iconst (v := 0) d_R_storeAll_2 (by decide) ?_
  refine g_istore_n (lv' := [(2, _), (1, _), (0, _)]) d_R_storeAll_3 (by decide) rfl ?_
  exact l_R_storeAll hwf (fN t) 0 hs (by omega)
end
section
theorem wfR_stF {t : tR} (h : wfR t) {i : Nat} (x : Int32) (h0 : i ≠ 0) (h1 : i ≠ 1) (h8 : i ≠ 8) (h9 : i ≠ 9) : wfR (stF t i x) := by
  obtain ⟨a1, a2, a3, a4, a5⟩ := h
  have e : ∀ j, j ≠ i → (stF t i x).1 j = t.1 j := fun j hj => if_neg hj
  have ep : pN (stF t i x) = pN t := by unfold pN; rw [e 9 (Ne.symm h9)]
  have ew : wN (stF t i x) = wN t := by unfold wN; rw [e 8 (Ne.symm h8)]
  refine ⟨?_, a2.to (e 8 (Ne.symm h8)), a3.to (e 0 (Ne.symm h0)), a4.to (e 1 (Ne.symm h1)), fun k hk => (a5 k (by rw [ew] at hk; exact hk)).to rfl rfl⟩
  unfold okP
  rw [ep, e 9 (Ne.symm h9)]
  exact a1
theorem wfR_takeOut {t : tR} (h : wfR t) {k : Nat} (hk : k < pN t) : wfR (s_R_takeOut t k) := by
  obtain ⟨a1, a2, a3, a4, a5⟩ := h
  have h2 := a1.2
  have ep : pN (s_R_takeOut t k) = pN t - 1 := nI_clamp (by omega)
  refine ⟨⟨by rw [ep]; rfl, by omega⟩, a2, a3, a4, fun i hi => (a5 i hi).to rfl rfl⟩
theorem wfR_asked {t : tR} (h : wfR t) (c f : Nat) (wo : Int32) : wfR (s_R_asked t c f wo) := by
  unfold s_R_asked
  repeat' split
  all_goals first | exact wfR_send h .. | exact wfR_stA (wfR_send h ..) _ _ (by decide) (by decide)
theorem wfR_freed {t : tR} (h : wfR t) (c f : Nat) (wo a b : Int32) : wfR (s_R_freed t c f wo a b) := by
  unfold s_R_freed
  repeat' split
  all_goals first | exact h | exact wfR_stA h _ _ (by decide) (by decide)
theorem wfR_put160 {t : tR} (h : wfR t) (c f : Nat) (wo : Int32) : wfR (s_R_put160 t c f wo) := by
  unfold s_R_put160
  repeat' split
  all_goals first | exact h | exact rcL_wf h _ _ _ _
theorem wfR_putCame {t : tR} (h : wfR t) (c f : Nat) (wo v : Int32) (hc : c < 4) (hf : f < 4) (hw : wN t ≤ 518) : wfR (s_R_putCame t c f wo v) := by
  unfold s_R_putCame
  split
  · exact wfR_send h ..
  · split
    · split
      · exact wfR_put160 (wfR_add h c f wo v hc hf hw) ..
      · exact wfR_put160 h ..
    · exact h
def mcN (t : tR) (k : Nat) : Nat := (t.2 23 (7 * k + 1)).toNatClampNeg
def mfN (t : tR) (k : Nat) : Nat := (t.2 23 (7 * k + 2)).toNatClampNeg
/-- a message's client and file -/
def okM (t : tR) (k : Nat) : Prop := t.2 23 (7 * k + 1) = nI (mcN t k) ∧ mcN t k < 4 ∧ t.2 23 (7 * k + 2) = nI (mfN t k) ∧ mfN t k < 4

def s_R_tick (t : tR) (x : Int32) : tR × Int32 :=
  if x < 0 then
    (t, (-1))
  else
    if x ≤ 1000 then
      if (stF t 4 ((t.1 4) + x)).1 5 = 0 then
        ((s_R_storeAll (stF t 4 ((t.1 4) + x)) ).1, (s_R_storeAll (stF t 4 ((t.1 4) + x)) ).2)
      else
        (stF t 4 ((t.1 4) + x), 0)
    else
      (t, (-1))
set_option maxHeartbeats 4000000 in
set_option maxRecDepth 100000 in
theorem c_R_tick {E : gE} {w : wd} {ad : Nat → Nat} {t : tR} (hs : SysR E ad t w) (x : Int32) (hwf : wfR t) : Cn E y_R_tick 4 0 0 [.ref (ad 0), .int x] w (fun r w' => r = some (.int (s_R_tick t x).2) ∧ SysR E ad (s_R_tick t x).1 w') := by
  refine Cn.of (by decide) (Nat.le_of_ble_eq_true rfl) (fun A => ?_)
  show G E y_R_tick _ 0 [(0, .ref (ad 0)), (1, .int x)] [] w 0 0
  refine g_iload_n (j := 1) d_R_tick_0 rfl ?_
  refine g_if_lt (tgt := 11) d_R_tick_1 (by decide) (fun h1 => ?_) (fun h1 => ?_)
  · skip
    refine g_iconst (v := (-1)) d_R_tick_11 (by decide) ?_
    have hz : s_R_tick t x = (t, (-1)) := by
      unfold s_R_tick
      rw [if_pos h1]
    exact g_ireturn d_R_tick_12 rfl (Nat.le_of_ble_eq_true rfl) (Nat.le_of_ble_eq_true rfl) ⟨by rw [hz], by rw [hz]; exact hs⟩
  · skip
    refine g_iload_n (j := 1) d_R_tick_4 rfl ?_
    refine g_sipush (v := 1000) d_R_tick_5 (by decide) ?_
    refine g_icmp_le (tgt := 13) d_R_tick_8 (by decide) (fun h2 => ?_) (fun h2 => ?_)
    · skip
      refine g_aload_n (j := 0) d_R_tick_13 rfl ?_
      refine g_aload_n (j := 0) d_R_tick_14 rfl ?_
      refine g_get d_R_tick_15 f_R_122 hs.obj rfl ?_
      refine g_iload_n (j := 1) d_R_tick_18 rfl ?_
      refine g_iadd d_R_tick_19 ?_
      refine g_put d_R_tick_20 fw_R_122 (Or.inl rfl) hs.obj rfl rfl (Nat.le_of_ble_eq_true rfl) ?_
      have hs4 : SysR E ad (stF t 4 ((t.1 4) + x)) _ := hs.sf (t' := stF t 4 ((t.1 4) + x)) (fs := (ceR ad t).set 6 (.int ((t.1 4) + x))) rfl rfl
      generalize wu _ (ad 0) _ = w3 at hs4 ⊢
      refine g_aload_n (j := 0) d_R_tick_23 rfl ?_
      refine g_get d_R_tick_24 f_R_165 hs4.obj rfl ?_
      refine g_if_eq (tgt := 34) d_R_tick_27 (by decide) (fun h5 => ?_) (fun h5 => ?_)
      · skip
        refine g_aload_n (j := 0) d_R_tick_34 rfl ?_
        refine g_callV (c_R_storeAll hs4  (wfR_stF hwf _ (by decide) (by decide) (by decide) (by decide))) ok_R_storeAll lk_R_179 in_R_storeAll se_R_storeAll hs4.obj rfl d_R_tick_35 rfl rfl (Nat.le_of_ble_eq_true rfl) ⟨(Nat.le_of_ble_eq_true rfl), (Nat.le_of_ble_eq_true rfl)⟩ (Nat.le_of_ble_eq_true rfl) (Nat.le_of_ble_eq_true rfl) (fun r w' hq => ?_)
        obtain ⟨rfl, hs6⟩ := hq
        have hz : s_R_tick t x = ((s_R_storeAll (stF t 4 ((t.1 4) + x)) ).1, (s_R_storeAll (stF t 4 ((t.1 4) + x)) ).2) := by
          unfold s_R_tick
          rw [if_neg h1, if_pos h2, if_pos h5]
        exact g_ireturn d_R_tick_38 rfl (Nat.le_of_ble_eq_true rfl) (Nat.le_of_ble_eq_true rfl) ⟨by rw [hz], by rw [hz]; exact hs6⟩
      · skip
        refine g_iconst (v := 0) d_R_tick_30 (by decide) ?_
        refine g_goto (tgt := 38) d_R_tick_31 (by decide) ?_
        have hz : s_R_tick t x = (stF t 4 ((t.1 4) + x), 0) := by
          unfold s_R_tick
          rw [if_neg h1, if_pos h2, if_neg h5]
        exact g_ireturn d_R_tick_38 rfl (Nat.le_of_ble_eq_true rfl) (Nat.le_of_ble_eq_true rfl) ⟨by rw [hz], by rw [hz]; exact hs4⟩
    · skip
      refine g_iconst (v := (-1)) d_R_tick_11 (by decide) ?_
      have hz : s_R_tick t x = (t, (-1)) := by
        unfold s_R_tick
        rw [if_neg h1, if_neg h2]
      exact g_ireturn d_R_tick_12 rfl (Nat.le_of_ble_eq_true rfl) (Nat.le_of_ble_eq_true rfl) ⟨by rw [hz], by rw [hz]; exact hs⟩

def s_R_deliver (t : tR) (k : Nat) : tR × Int32 :=
  if s_R_isMessage t (nI k) = 0 then
    (t, (-1))
  else
    if t.2 23 (7 * k) = 2 then
      (s_R_given (s_R_takeOut t k) ((mcN t k)) ((mfN t k)) (t.2 23 ((7 * k) + 3)) (t.2 23 ((7 * k) + 4)) (t.2 23 ((7 * k) + 5)) (t.2 23 ((7 * k) + 6)), t.2 23 (7 * k))
    else
      if t.2 23 (7 * k) = 3 then
        (s_R_stored (s_R_takeOut t k) ((mcN t k)) (t.2 23 ((7 * k) + 3)) (t.2 23 ((7 * k) + 4)), t.2 23 (7 * k))
      else
        if t.2 23 (7 * k) = 4 then
          (s_R_recalled (s_R_takeOut t k) ((mcN t k)) ((mfN t k)) (t.2 23 ((7 * k) + 3)) (t.2 23 ((7 * k) + 4)) (t.2 23 ((7 * k) + 5)), t.2 23 (7 * k))
        else
          if (s_R_takeOut t k).1 5 = 0 then
            if t.2 23 (7 * k) = 0 then
              ((s_R_storeAll (s_R_asked (s_R_takeOut t k) ((mcN t k)) ((mfN t k)) (t.2 23 ((7 * k) + 3))) ).1, t.2 23 (7 * k))
            else
              if t.2 23 (7 * k) = 1 then
                ((s_R_storeAll (s_R_putCame (s_R_takeOut t k) ((mcN t k)) ((mfN t k)) (t.2 23 ((7 * k) + 3)) (t.2 23 ((7 * k) + 4))) ).1, t.2 23 (7 * k))
              else
                ((s_R_storeAll (s_R_freed (s_R_takeOut t k) ((mcN t k)) ((mfN t k)) (t.2 23 ((7 * k) + 3)) (t.2 23 ((7 * k) + 4)) (t.2 23 ((7 * k) + 5))) ).1, t.2 23 (7 * k))
          else
            (s_R_takeOut t k, 9)
set_option maxHeartbeats 4000000 in
set_option maxRecDepth 100000 in
theorem c_R_deliver {E : gE} {w : wd} {ad : Nat → Nat} {t : tR} (hs : SysR E ad t w) (k : Nat) (hk : k < pN t) (hwf : wfR t) (hM : okM t k) (hw8 : wN t ≤ 518) : Cn E y_R_deliver 4 0 0 [.ref (ad 0), .int (nI k)] w (fun r w' => r = some (.int (s_R_deliver t k).2) ∧ SysR E ad (s_R_deliver t k).1 w') := by
  refine Cn.of (by decide) (Nat.le_of_ble_eq_true rfl) (fun A => ?_)
  show G E y_R_deliver _ 0 [(0, .ref (ad 0)), (1, .int (nI k))] [] w 0 0
  have hk4 := hwf.1.2
  have hM2 := hM.2.1
  have hM4 := hM.2.2.2
  have hwf1 := wfR_takeOut hwf hk
  refine g_aload_n (j := 0) d_R_deliver_0 rfl ?_
  refine g_iload_n (j := 1) d_R_deliver_1 rfl ?_
  refine g_callV (c_R_isMessage hs (nI k)) ok_R_isMessage lk_R_148 in_R_isMessage se_R_isMessage hs.obj rfl d_R_deliver_2 rfl rfl (Nat.le_of_ble_eq_true rfl) ⟨(Nat.le_of_ble_eq_true rfl), (Nat.le_of_ble_eq_true rfl)⟩ (Nat.le_of_ble_eq_true rfl) (Nat.le_of_ble_eq_true rfl) (fun r w' hq => ?_)
  obtain ⟨rfl, rfl⟩ := hq
  refine g_if_ne (tgt := 10) d_R_deliver_5 (by decide) (fun h1 => ?_) (fun h1 => ?_)
  · skip
    refine g_bipush (v := 7) d_R_deliver_10 (by decide) ?_
    refine g_iload_n (j := 1) d_R_deliver_12 rfl ?_
    refine g_imul d_R_deliver_13 ?_
    refine g_norm (y := nI (7 * k)) (pk_mul 7 k) ?_
    refine g_istore_n (lv' := [(2, _), (0, _), (1, _)]) d_R_deliver_14 (by decide) rfl ?_
    refine g_aload_n (j := 1) d_R_deliver_15 rfl ?_
    refine g_get d_R_deliver_16 f_R_80 hs.obj rfl ?_
    refine g_iload_n (j := 0) d_R_deliver_19 rfl ?_
    refine r_iald (k := 23) (j := 7 * k) d_R_deliver_20 hs (by decide) rfl rfl (show 7 * k < 448 by omega) ?_
    refine g_istore_n (lv' := [(3, _), (2, _), (0, _), (1, _)]) d_R_deliver_21 (by decide) rfl ?_
    refine g_aload_n (j := 2) d_R_deliver_22 rfl ?_
    refine g_get d_R_deliver_23 f_R_80 hs.obj rfl ?_
    refine g_iload_n (j := 1) d_R_deliver_26 rfl ?_
    refine g_iconst (v := 1) d_R_deliver_27 (by decide) ?_
    refine g_iadd d_R_deliver_28 ?_
    refine g_norm (y := nI ((7 * k) + 1)) (nI_add (7 * k) 1) ?_
    refine r_iald (k := 23) (j := (7 * k) + 1) d_R_deliver_29 hs (by decide) rfl rfl (show (7 * k) + 1 < 448 by omega) ?_
    refine g_norm (y := nI (mcN t k)) hM.1 ?_
    refine g_istore (lv' := [(4, _), (3, _), (2, _), (0, _), (1, _)]) d_R_deliver_30 (by decide) rfl ?_
    refine g_aload_n (j := 3) d_R_deliver_32 rfl ?_
    refine g_get d_R_deliver_33 f_R_80 hs.obj rfl ?_
    refine g_iload_n (j := 2) d_R_deliver_36 rfl ?_
    refine g_iconst (v := 2) d_R_deliver_37 (by decide) ?_
    refine g_iadd d_R_deliver_38 ?_
    refine g_norm (y := nI ((7 * k) + 2)) (nI_add (7 * k) 2) ?_
    refine r_iald (k := 23) (j := (7 * k) + 2) d_R_deliver_39 hs (by decide) rfl rfl (show (7 * k) + 2 < 448 by omega) ?_
    refine g_norm (y := nI (mfN t k)) hM.2.2.1 ?_
    refine g_istore (lv' := [(5, _), (4, _), (3, _), (2, _), (0, _), (1, _)]) d_R_deliver_40 (by decide) rfl ?_
    refine g_aload_n (j := 4) d_R_deliver_42 rfl ?_
    refine g_get d_R_deliver_43 f_R_80 hs.obj rfl ?_
    refine g_iload_n (j := 3) d_R_deliver_46 rfl ?_
    refine g_iconst (v := 3) d_R_deliver_47 (by decide) ?_
    refine g_iadd d_R_deliver_48 ?_
    refine g_norm (y := nI ((7 * k) + 3)) (nI_add (7 * k) 3) ?_
    refine r_iald (k := 23) (j := (7 * k) + 3) d_R_deliver_49 hs (by decide) rfl rfl (show (7 * k) + 3 < 448 by omega) ?_
    refine g_istore (lv' := [(6, _), (5, _), (4, _), (3, _), (2, _), (0, _), (1, _)]) d_R_deliver_50 (by decide) rfl ?_
    refine g_aload_n (j := 5) d_R_deliver_52 rfl ?_
    refine g_get d_R_deliver_53 f_R_80 hs.obj rfl ?_
    refine g_iload_n (j := 4) d_R_deliver_56 rfl ?_
    refine g_iconst (v := 4) d_R_deliver_57 (by decide) ?_
    refine g_iadd d_R_deliver_58 ?_
    refine g_norm (y := nI ((7 * k) + 4)) (nI_add (7 * k) 4) ?_
    refine r_iald (k := 23) (j := (7 * k) + 4) d_R_deliver_59 hs (by decide) rfl rfl (show (7 * k) + 4 < 448 by omega) ?_
    refine g_istore (lv' := [(7, _), (6, _), (5, _), (4, _), (3, _), (2, _), (0, _), (1, _)]) d_R_deliver_60 (by decide) rfl ?_
    refine g_aload_n (j := 6) d_R_deliver_62 rfl ?_
    refine g_get d_R_deliver_63 f_R_80 hs.obj rfl ?_
    refine g_iload_n (j := 5) d_R_deliver_66 rfl ?_
    refine g_iconst (v := 5) d_R_deliver_67 (by decide) ?_
    refine g_iadd d_R_deliver_68 ?_
    refine g_norm (y := nI ((7 * k) + 5)) (nI_add (7 * k) 5) ?_
    refine r_iald (k := 23) (j := (7 * k) + 5) d_R_deliver_69 hs (by decide) rfl rfl (show (7 * k) + 5 < 448 by omega) ?_
    refine g_istore (lv' := [(8, _), (7, _), (6, _), (5, _), (4, _), (3, _), (2, _), (0, _), (1, _)]) d_R_deliver_70 (by decide) rfl ?_
    refine g_aload_n (j := 7) d_R_deliver_72 rfl ?_
    refine g_get d_R_deliver_73 f_R_80 hs.obj rfl ?_
    refine g_iload_n (j := 6) d_R_deliver_76 rfl ?_
    refine g_bipush (v := 6) d_R_deliver_77 (by decide) ?_
    refine g_iadd d_R_deliver_79 ?_
    refine g_norm (y := nI ((7 * k) + 6)) (nI_add (7 * k) 6) ?_
    refine r_iald (k := 23) (j := (7 * k) + 6) d_R_deliver_80 hs (by decide) rfl rfl (show (7 * k) + 6 < 448 by omega) ?_
    refine g_istore (lv' := [(9, _), (8, _), (7, _), (6, _), (5, _), (4, _), (3, _), (2, _), (0, _), (1, _)]) d_R_deliver_81 (by decide) rfl ?_
    refine g_aload_n (j := 8) d_R_deliver_83 rfl ?_
    refine g_iload_n (j := 9) d_R_deliver_84 rfl ?_
    refine g_callV (c_R_takeOut hs k hwf.1 hk) ok_R_takeOut lk_R_151 in_R_takeOut se_R_takeOut hs.obj rfl d_R_deliver_85 rfl rfl (Nat.le_of_ble_eq_true rfl) ⟨(Nat.le_of_ble_eq_true rfl), (Nat.le_of_ble_eq_true rfl)⟩ (Nat.le_of_ble_eq_true rfl) (Nat.le_of_ble_eq_true rfl) (fun r w' hq => ?_)
    obtain ⟨rfl, hs2⟩ := hq
    refine g_iload_n (j := 6) d_R_deliver_88 rfl ?_
    refine g_iconst (v := 2) d_R_deliver_89 (by decide) ?_
    refine g_icmp_ne (tgt := 111) d_R_deliver_90 (by decide) (fun h4 => ?_) (fun h4 => ?_)
    · skip
      refine g_iload_n (j := 6) d_R_deliver_111 rfl ?_
      refine g_iconst (v := 3) d_R_deliver_112 (by decide) ?_
      refine g_icmp_ne (tgt := 128) d_R_deliver_113 (by decide) (fun h5 => ?_) (fun h5 => ?_)
      · skip
        refine g_iload_n (j := 6) d_R_deliver_128 rfl ?_
        refine g_iconst (v := 4) d_R_deliver_129 (by decide) ?_
        refine g_icmp_ne (tgt := 149) d_R_deliver_130 (by decide) (fun h6 => ?_) (fun h6 => ?_)
        · skip
          refine g_aload_n (j := 8) d_R_deliver_149 rfl ?_
          refine g_get d_R_deliver_150 f_R_165 hs2.obj rfl ?_
          refine g_if_eq (tgt := 159) d_R_deliver_153 (by decide) (fun h7 => ?_) (fun h7 => ?_)
          · skip
            refine g_iload_n (j := 6) d_R_deliver_159 rfl ?_
            refine g_if_ne (tgt := 176) d_R_deliver_160 (by decide) (fun h8 => ?_) (fun h8 => ?_)
            · skip
              refine g_iload_n (j := 6) d_R_deliver_176 rfl ?_
              refine g_iconst (v := 1) d_R_deliver_177 (by decide) ?_
              refine g_icmp_ne (tgt := 196) d_R_deliver_178 (by decide) (fun h9 => ?_) (fun h9 => ?_)
              · skip
                refine g_aload_n (j := 8) d_R_deliver_196 rfl ?_
                refine g_iload (j := 5) d_R_deliver_197 rfl ?_
                refine g_iload (j := 4) d_R_deliver_199 rfl ?_
                refine g_iload (j := 3) d_R_deliver_201 rfl ?_
                refine g_iload (j := 2) d_R_deliver_203 rfl ?_
                refine g_iload (j := 1) d_R_deliver_205 rfl ?_
                refine g_callV (c_R_freed hs2 ((mcN t k)) ((mfN t k)) (t.2 23 ((7 * k) + 3)) (t.2 23 ((7 * k) + 4)) (t.2 23 ((7 * k) + 5)) (by omega) (by omega) hwf1.2.1) ok_R_freed lk_R_176 in_R_freed se_R_freed hs2.obj rfl d_R_deliver_207 rfl rfl (Nat.le_of_ble_eq_true rfl) ⟨(Nat.le_of_ble_eq_true rfl), (Nat.le_of_ble_eq_true rfl)⟩ (Nat.le_of_ble_eq_true rfl) (Nat.le_of_ble_eq_true rfl) (fun r w' hq => ?_)
                obtain ⟨rfl, hs10⟩ := hq
                refine g_aload_n (j := 8) d_R_deliver_210 rfl ?_
                refine g_callV (c_R_storeAll hs10  (wfR_freed hwf1 ((mcN t k)) ((mfN t k)) (t.2 23 ((7 * k) + 3)) (t.2 23 ((7 * k) + 4)) (t.2 23 ((7 * k) + 5)))) ok_R_storeAll lk_R_179 in_R_storeAll se_R_storeAll hs10.obj rfl d_R_deliver_211 rfl rfl (Nat.le_of_ble_eq_true rfl) ⟨(Nat.le_of_ble_eq_true rfl), (Nat.le_of_ble_eq_true rfl)⟩ (Nat.le_of_ble_eq_true rfl) (Nat.le_of_ble_eq_true rfl) (fun r w' hq => ?_)
                obtain ⟨rfl, hs12⟩ := hq
                refine g_istore (lv' := [(10, _), (9, _), (8, _), (7, _), (6, _), (5, _), (4, _), (3, _), (2, _), (0, _), (1, _)]) d_R_deliver_214 (by decide) rfl ?_
                refine g_iload_n (j := 7) d_R_deliver_216 rfl ?_
                have hz : s_R_deliver t k = ((s_R_storeAll (s_R_freed (s_R_takeOut t k) ((mcN t k)) ((mfN t k)) (t.2 23 ((7 * k) + 3)) (t.2 23 ((7 * k) + 4)) (t.2 23 ((7 * k) + 5))) ).1, t.2 23 (7 * k)) := by
                  unfold s_R_deliver
                  rw [if_neg h1, if_neg h4, if_neg h5, if_neg h6, if_pos h7, if_neg h8, if_neg h9]
                exact g_ireturn d_R_deliver_217 rfl (Nat.le_of_ble_eq_true rfl) (Nat.le_of_ble_eq_true rfl) ⟨by rw [hz], by rw [hz]; exact hs12⟩
              · skip
                refine g_aload_n (j := 8) d_R_deliver_181 rfl ?_
                refine g_iload (j := 5) d_R_deliver_182 rfl ?_
                refine g_iload (j := 4) d_R_deliver_184 rfl ?_
                refine g_iload (j := 3) d_R_deliver_186 rfl ?_
                refine g_iload (j := 2) d_R_deliver_188 rfl ?_
                refine g_callV (c_R_putCame hs2 ((mcN t k)) ((mfN t k)) (t.2 23 ((7 * k) + 3)) (t.2 23 ((7 * k) + 4)) (by omega) (by omega) hwf1 hw8) ok_R_putCame lk_R_172 in_R_putCame se_R_putCame hs2.obj rfl d_R_deliver_190 rfl rfl (Nat.le_of_ble_eq_true rfl) ⟨(Nat.le_of_ble_eq_true rfl), (Nat.le_of_ble_eq_true rfl)⟩ (Nat.le_of_ble_eq_true rfl) (Nat.le_of_ble_eq_true rfl) (fun r w' hq => ?_)
                obtain ⟨rfl, hs14⟩ := hq
                refine g_goto (tgt := 210) d_R_deliver_193 (by decide) ?_
                refine g_aload_n (j := 8) d_R_deliver_210 rfl ?_
                refine g_callV (c_R_storeAll hs14  (wfR_putCame hwf1 ((mcN t k)) ((mfN t k)) (t.2 23 ((7 * k) + 3)) (t.2 23 ((7 * k) + 4)) (by omega) (by omega) hw8)) ok_R_storeAll lk_R_179 in_R_storeAll se_R_storeAll hs14.obj rfl d_R_deliver_211 rfl rfl (Nat.le_of_ble_eq_true rfl) ⟨(Nat.le_of_ble_eq_true rfl), (Nat.le_of_ble_eq_true rfl)⟩ (Nat.le_of_ble_eq_true rfl) (Nat.le_of_ble_eq_true rfl) (fun r w' hq => ?_)
                obtain ⟨rfl, hs16⟩ := hq
                refine g_istore (lv' := [(10, _), (9, _), (8, _), (7, _), (6, _), (5, _), (4, _), (3, _), (2, _), (0, _), (1, _)]) d_R_deliver_214 (by decide) rfl ?_
                refine g_iload_n (j := 7) d_R_deliver_216 rfl ?_
                have hz : s_R_deliver t k = ((s_R_storeAll (s_R_putCame (s_R_takeOut t k) ((mcN t k)) ((mfN t k)) (t.2 23 ((7 * k) + 3)) (t.2 23 ((7 * k) + 4))) ).1, t.2 23 (7 * k)) := by
                  unfold s_R_deliver
                  rw [if_neg h1, if_neg h4, if_neg h5, if_neg h6, if_pos h7, if_neg h8, if_pos h9]
                exact g_ireturn d_R_deliver_217 rfl (Nat.le_of_ble_eq_true rfl) (Nat.le_of_ble_eq_true rfl) ⟨by rw [hz], by rw [hz]; exact hs16⟩
            · skip
              refine g_aload_n (j := 8) d_R_deliver_163 rfl ?_
              refine g_iload (j := 5) d_R_deliver_164 rfl ?_
              refine g_iload (j := 4) d_R_deliver_166 rfl ?_
              refine g_iload (j := 3) d_R_deliver_168 rfl ?_
              refine g_callV (c_R_asked hs2 ((mcN t k)) ((mfN t k)) (t.2 23 ((7 * k) + 3)) (by omega) (by omega) hwf1.1 hwf1.2.1) ok_R_asked lk_R_169 in_R_asked se_R_asked hs2.obj rfl d_R_deliver_170 rfl rfl (Nat.le_of_ble_eq_true rfl) ⟨(Nat.le_of_ble_eq_true rfl), (Nat.le_of_ble_eq_true rfl)⟩ (Nat.le_of_ble_eq_true rfl) (Nat.le_of_ble_eq_true rfl) (fun r w' hq => ?_)
              obtain ⟨rfl, hs18⟩ := hq
              refine g_goto (tgt := 210) d_R_deliver_173 (by decide) ?_
              refine g_aload_n (j := 8) d_R_deliver_210 rfl ?_
              refine g_callV (c_R_storeAll hs18  (wfR_asked hwf1 ((mcN t k)) ((mfN t k)) (t.2 23 ((7 * k) + 3)))) ok_R_storeAll lk_R_179 in_R_storeAll se_R_storeAll hs18.obj rfl d_R_deliver_211 rfl rfl (Nat.le_of_ble_eq_true rfl) ⟨(Nat.le_of_ble_eq_true rfl), (Nat.le_of_ble_eq_true rfl)⟩ (Nat.le_of_ble_eq_true rfl) (Nat.le_of_ble_eq_true rfl) (fun r w' hq => ?_)
              obtain ⟨rfl, hs20⟩ := hq
              refine g_istore (lv' := [(10, _), (9, _), (8, _), (7, _), (6, _), (5, _), (4, _), (3, _), (2, _), (0, _), (1, _)]) d_R_deliver_214 (by decide) rfl ?_
              refine g_iload_n (j := 7) d_R_deliver_216 rfl ?_
              have hz : s_R_deliver t k = ((s_R_storeAll (s_R_asked (s_R_takeOut t k) ((mcN t k)) ((mfN t k)) (t.2 23 ((7 * k) + 3))) ).1, t.2 23 (7 * k)) := by
                unfold s_R_deliver
                rw [if_neg h1, if_neg h4, if_neg h5, if_neg h6, if_pos h7, if_pos h8]
              exact g_ireturn d_R_deliver_217 rfl (Nat.le_of_ble_eq_true rfl) (Nat.le_of_ble_eq_true rfl) ⟨by rw [hz], by rw [hz]; exact hs20⟩
          · skip
            refine g_bipush (v := 9) d_R_deliver_156 (by decide) ?_
            have hz : s_R_deliver t k = (s_R_takeOut t k, 9) := by
              unfold s_R_deliver
              rw [if_neg h1, if_neg h4, if_neg h5, if_neg h6, if_neg h7]
            exact g_ireturn d_R_deliver_158 rfl (Nat.le_of_ble_eq_true rfl) (Nat.le_of_ble_eq_true rfl) ⟨by rw [hz], by rw [hz]; exact hs2⟩
        · skip
          refine g_aload_n (j := 8) d_R_deliver_133 rfl ?_
          refine g_iload (j := 5) d_R_deliver_134 rfl ?_
          refine g_iload (j := 4) d_R_deliver_136 rfl ?_
          refine g_iload (j := 3) d_R_deliver_138 rfl ?_
          refine g_iload (j := 2) d_R_deliver_140 rfl ?_
          refine g_iload (j := 1) d_R_deliver_142 rfl ?_
          refine g_callV (c_R_recalled hs2 ((mcN t k)) ((mfN t k)) (t.2 23 ((7 * k) + 3)) (t.2 23 ((7 * k) + 4)) (t.2 23 ((7 * k) + 5)) (by omega) (by omega) hwf1.1) ok_R_recalled lk_R_161 in_R_recalled se_R_recalled hs2.obj rfl d_R_deliver_144 rfl rfl (Nat.le_of_ble_eq_true rfl) ⟨(Nat.le_of_ble_eq_true rfl), (Nat.le_of_ble_eq_true rfl)⟩ (Nat.le_of_ble_eq_true rfl) (Nat.le_of_ble_eq_true rfl) (fun r w' hq => ?_)
          obtain ⟨rfl, hs22⟩ := hq
          refine g_iload_n (j := 6) d_R_deliver_147 rfl ?_
          have hz : s_R_deliver t k = (s_R_recalled (s_R_takeOut t k) ((mcN t k)) ((mfN t k)) (t.2 23 ((7 * k) + 3)) (t.2 23 ((7 * k) + 4)) (t.2 23 ((7 * k) + 5)), t.2 23 (7 * k)) := by
            unfold s_R_deliver
            rw [if_neg h1, if_neg h4, if_neg h5, if_pos h6]
          exact g_ireturn d_R_deliver_148 rfl (Nat.le_of_ble_eq_true rfl) (Nat.le_of_ble_eq_true rfl) ⟨by rw [hz], by rw [hz]; exact hs22⟩
      · skip
        refine g_aload_n (j := 8) d_R_deliver_116 rfl ?_
        refine g_iload (j := 5) d_R_deliver_117 rfl ?_
        refine g_iload (j := 3) d_R_deliver_119 rfl ?_
        refine g_iload (j := 2) d_R_deliver_121 rfl ?_
        refine g_callV (c_R_stored hs2 ((mcN t k)) (t.2 23 ((7 * k) + 3)) (t.2 23 ((7 * k) + 4)) (by omega)) ok_R_stored lk_R_158 in_R_stored se_R_stored hs2.obj rfl d_R_deliver_123 rfl rfl (Nat.le_of_ble_eq_true rfl) ⟨(Nat.le_of_ble_eq_true rfl), (Nat.le_of_ble_eq_true rfl)⟩ (Nat.le_of_ble_eq_true rfl) (Nat.le_of_ble_eq_true rfl) (fun r w' hq => ?_)
        obtain ⟨rfl, hs24⟩ := hq
        refine g_iload_n (j := 6) d_R_deliver_126 rfl ?_
        have hz : s_R_deliver t k = (s_R_stored (s_R_takeOut t k) ((mcN t k)) (t.2 23 ((7 * k) + 3)) (t.2 23 ((7 * k) + 4)), t.2 23 (7 * k)) := by
          unfold s_R_deliver
          rw [if_neg h1, if_neg h4, if_pos h5]
        exact g_ireturn d_R_deliver_127 rfl (Nat.le_of_ble_eq_true rfl) (Nat.le_of_ble_eq_true rfl) ⟨by rw [hz], by rw [hz]; exact hs24⟩
    · skip
      refine g_aload_n (j := 8) d_R_deliver_93 rfl ?_
      refine g_iload (j := 5) d_R_deliver_94 rfl ?_
      refine g_iload (j := 4) d_R_deliver_96 rfl ?_
      refine g_iload (j := 3) d_R_deliver_98 rfl ?_
      refine g_iload (j := 2) d_R_deliver_100 rfl ?_
      refine g_iload (j := 1) d_R_deliver_102 rfl ?_
      refine g_iload (j := 0) d_R_deliver_104 rfl ?_
      refine g_callV (c_R_given hs2 ((mcN t k)) ((mfN t k)) (t.2 23 ((7 * k) + 3)) (t.2 23 ((7 * k) + 4)) (t.2 23 ((7 * k) + 5)) (t.2 23 ((7 * k) + 6)) (by omega) (by omega)) ok_R_given lk_R_154 in_R_given se_R_given hs2.obj rfl d_R_deliver_106 rfl rfl (Nat.le_of_ble_eq_true rfl) ⟨(Nat.le_of_ble_eq_true rfl), (Nat.le_of_ble_eq_true rfl)⟩ (Nat.le_of_ble_eq_true rfl) (Nat.le_of_ble_eq_true rfl) (fun r w' hq => ?_)
      obtain ⟨rfl, hs26⟩ := hq
      refine g_iload_n (j := 6) d_R_deliver_109 rfl ?_
      have hz : s_R_deliver t k = (s_R_given (s_R_takeOut t k) ((mcN t k)) ((mfN t k)) (t.2 23 ((7 * k) + 3)) (t.2 23 ((7 * k) + 4)) (t.2 23 ((7 * k) + 5)) (t.2 23 ((7 * k) + 6)), t.2 23 (7 * k)) := by
        unfold s_R_deliver
        rw [if_neg h1, if_pos h4]
      exact g_ireturn d_R_deliver_110 rfl (Nat.le_of_ble_eq_true rfl) (Nat.le_of_ble_eq_true rfl) ⟨by rw [hz], by rw [hz]; exact hs26⟩
  · skip
    refine g_iconst (v := (-1)) d_R_deliver_8 (by decide) ?_
    have hz : s_R_deliver t k = (t, (-1)) := by
      unfold s_R_deliver
      rw [if_pos h1]
    exact g_ireturn d_R_deliver_9 rfl (Nat.le_of_ble_eq_true rfl) (Nat.le_of_ble_eq_true rfl) ⟨by rw [hz], by rw [hz]; exact hs⟩
end
section
/-- a clamp as the reference writes it -/
def clR (x hi : Int32) : Int32 := if 1 ≤ x then (if x ≤ hi then x else hi) else 1
def fs0R : List Value := [.int 0, .int 0, .int 0, .int 0, .null, .null, .int 0, .int 0, .int 0, .int 0, .null, .null, .null, .int 0, .null, .null, .null, .null, .null, .null, .null, .null, .null, .null, .null, .null, .null, .null, .null, .null, .null, .null, .int 0, .null]
/-- while it is made: these rows are there -/
def SysP (E : gE) (a : Nat) (qs : List Nat) (fs : List Value) (w : wd) : Prop := wh w a (.inr (0, fs)) ∧ (∀ k q, qs[k]? = some q → wh w q (.inl (E.2.2.1 (kdR k), lnR k, .inl (fun _ => 0)))) ∧ a ∉ qs ∧ qs.Nodup
theorem SysP.new {E : gE} {a q j : Nat} {qs : List Nat} {v : Value} {fs : List Value} {w : wd} (h : SysP E a qs fs w) (hq : q ∉ w.1) : SysP E a (qs ++ [q]) (fs.set j v) (wu (wn w q (.inl (E.2.2.1 (kdR qs.length), lnR qs.length, .inl (fun _ => 0)))) a (.inr (0, fs.set j v))) := by
  obtain ⟨h1, h2, h3, h4⟩ := h
  have hqa : q ≠ a := fun z => hq (z ▸ h1.1)
  have hqs : q ∉ qs := fun z => by
    obtain ⟨k, hk⟩ := List.getElem?_of_mem z
    exact hq (h2 k q hk).1
  refine ⟨(h1.nn hq).us, fun k x hk => ?_, ?_, ?_⟩
  · by_cases hl : k < qs.length
    · rw [List.getElem?_append_left hl] at hk
      exact ((h2 k x hk).nn hq).un (fun z => h3 (z ▸ List.mem_of_getElem? hk))
    · rw [List.getElem?_append_right (by omega)] at hk
      have hz : k - qs.length < 1 := (List.getElem?_eq_some_iff.mp hk).1
      have hkl : k = qs.length := by omega
      subst hkl
      rw [Nat.sub_self] at hk
      cases hk
      exact wh.ns.un hqa
  · intro z
    rcases List.mem_append.mp z with z | z
    · exact h3 z
    · exact hqa (List.mem_singleton.mp z).symm
  · rw [List.nodup_append]
    refine ⟨h4, by simp, fun x hx y hy => ?_⟩
    rw [List.mem_singleton.mp hy]
    exact fun z => hqs (z ▸ hx)
theorem SysP.sf {E : gE} {a : Nat} {qs : List Nat} {fs fs' : List Value} {w : wd} (h : SysP E a qs fs w) : SysP E a qs fs' (wu w a (.inr (0, fs'))) := by
  obtain ⟨h1, h2, h3, h4⟩ := h
  exact ⟨h1.us, fun k q hk => (h2 k q hk).un (fun z => h3 (z ▸ List.mem_of_getElem? hk)), h3, h4⟩
section RI
variable {E : gE} {Y : mY} {Z : gZ} {pc : Nat} {lv : List (Nat × Value)} {st : List Value} {w : wd} {ce sl a : Nat} {qs : List Nat}
theorem r_initI {n j idx N : Nat} {v : Int32} {fs : List Value} (hd1 : decode Y.2.1 pc = .ok (.newarray .int, 2)) (hd2 : decode Y.2.1 (pc + 2) = .ok (.putfield idx, 3)) (harr : Cond.arrayClass .int ∈ WS) (hf : fdw Y.1.cls 0 j idx (.array .int) true) (hnm : Y.1.name = "<init>") (hP : SysP E a qs fs w) (hn : qs.length = n) (hkd : kdR n = 0) (hN : lnR n = N) (hv : v = nI N) (hN2 : N ≤ 100000) (hj : j < fs.length) (hce : ce + 1 ≤ Z.1.cells) (hsl : sl + N ≤ Z.1.slots) (kk : ∀ (q : Nat) (w' : wd), SysP E a (qs ++ [q]) (fs.set j (.ref q)) w' → G E Y Z (pc + 2 + 3) lv st w' (ce + 1) (sl + N)) : G E Y Z pc lv (.int v :: .ref a :: st) w ce sl := by
  refine g_newI hd1 harr hv hN2 hce hsl (fun q hq => ?_)
  refine g_put hd2 hf (Or.inr hnm) (hP.1.nn hq) rfl rfl hj (kk q _ ?_)
  have h := hP.new (j := j) (v := .ref q) hq
  rw [hn, hkd, hN] at h
  exact h
theorem r_initZ {n j idx N : Nat} {v : Int32} {fs : List Value} (hd1 : decode Y.2.1 pc = .ok (.newarray .boolean, 2)) (hd2 : decode Y.2.1 (pc + 2) = .ok (.putfield idx, 3)) (harr : Cond.arrayClass .boolean ∈ WS) (hf : fdw Y.1.cls 0 j idx (.array .boolean) true) (hnm : Y.1.name = "<init>") (hP : SysP E a qs fs w) (hn : qs.length = n) (hkd : kdR n = 1) (hN : lnR n = N) (hv : v = nI N) (hN2 : N ≤ 100000) (hj : j < fs.length) (hce : ce + 1 ≤ Z.1.cells) (hsl : sl + N ≤ Z.1.slots) (kk : ∀ (q : Nat) (w' : wd), SysP E a (qs ++ [q]) (fs.set j (.ref q)) w' → G E Y Z (pc + 2 + 3) lv st w' (ce + 1) (sl + N)) : G E Y Z pc lv (.int v :: .ref a :: st) w ce sl := by
  refine g_newZ hd1 harr hv hN2 hce hsl (fun q hq => ?_)
  refine g_put hd2 hf (Or.inr hnm) (hP.1.nn hq) rfl rfl hj (kk q _ ?_)
  have h := hP.new (j := j) (v := .ref q) hq
  rw [hn, hkd, hN] at h
  exact h
theorem r_putP {j idx : Nat} {v : Int32} {fs : List Value} (hd : decode Y.2.1 pc = .ok (.putfield idx, 3)) (hf : fdw Y.1.cls 0 j idx .int true) (hnm : Y.1.name = "<init>") (hP : SysP E a qs fs w) (hj : j < fs.length) (kk : ∀ w' : wd, SysP E a qs (fs.set j (.int v)) w' → G E Y Z (pc + 3) lv st w' ce sl) : G E Y Z pc lv (.int v :: .ref a :: st) w ce sl :=
  g_put hd hf (Or.inr hnm) hP.1 rfl rfl hj (kk _ hP.sf)
end RI
theorem SysP_R {E : gE} {a : Nat} {qs : List Nat} {fs : List Value} {w : wd} {t : tR} (h : SysP E a qs fs w) (hl : qs.length = 24) (ht : t.2 = fun _ _ => 0) (hf : fs = ceR (fun i => (a :: qs).getD i 0) t) : SysR E (fun i => (a :: qs).getD i 0) t w := by
  obtain ⟨h1, h2, h3, h4⟩ := h
  have hget : ∀ k, k < 24 → qs[k]? = some ((a :: qs).getD (k + 1) 0) := by
    intro k hk
    have hkl : k < qs.length := by omega
    rw [List.getElem?_eq_getElem hkl]
    simp [List.getD, List.getElem?_eq_getElem hkl]
  have hnd : (a :: qs).Nodup := List.nodup_cons.mpr ⟨h3, h4⟩
  refine ⟨by rw [← hf]; exact h1, fun k hk => by rw [ht]; exact h2 k _ (hget k hk), fun i j hi hj hij => ?_⟩
  have hi' : i < (a :: qs).length := by rw [List.length_cons]; omega
  have hj' : j < (a :: qs).length := by rw [List.length_cons]; omega
  have e : ∀ k, (hk : k < (a :: qs).length) → (a :: qs).getD k 0 = (a :: qs)[k] := fun k hk => by simp [List.getD, List.getElem?_eq_getElem hk]
  have h9 : (a :: qs).getD i 0 = (a :: qs).getD j 0 := hij
  rw [e i hi', e j hj'] at h9
  exact (List.getElem_inj hnd).mp h9
theorem wa_int : Cond.arrayClass .int ∈ WS := ws_at 143 (by decide +kernel) rfl
theorem wa_bool : Cond.arrayClass .boolean ∈ WS := ws_at 766 (by decide +kernel) rfl
theorem wo_in : Cond.instanceMethod Lib.objectInit ∈ WS := ws_at 25 (by decide +kernel) rfl
set_option maxRecDepth 100000 in
theorem wo_co : Cond.code Lib.objectInit ⟨#[0xb1]⟩ 1 none ∈ WS := ws_at 26 rfl rfl

set_option maxHeartbeats 4000000 in
set_option maxRecDepth 100000 in
theorem l_R_ini0 {E : gE} {Z : gZ} {w : wd} {ce sl a : Nat} (x1 x2 x3 x4 : Int32) (hK : G E y_R_init Z 207 [(0, .ref a), (1, .int x1), (2, .int x2), (3, .int x3), (4, .int x4)] [.int (clR x1 4), .ref a] w ce sl) : G E y_R_init Z 188 [(0, .ref a), (1, .int x1), (2, .int x2), (3, .int x3), (4, .int x4)] [.ref a] w ce sl := by
  refine g_iload_n (j := 1) d_R_init_188 rfl ?_
  refine g_iconst (v := 1) d_R_init_189 (by decide) ?_
  refine g_icmp_ge (tgt := 197) d_R_init_190 (by decide) (fun h1 => ?_) (fun h1 => ?_)
  · skip
    refine g_iload_n (j := 1) d_R_init_197 rfl ?_
    refine g_iconst (v := 4) d_R_init_198 (by decide) ?_
    refine g_icmp_le (tgt := 206) d_R_init_199 (by decide) (fun h2 => ?_) (fun h2 => ?_)
    · skip
      refine g_iload_n (j := 1) d_R_init_206 rfl ?_
      have e9 : clR x1 4 = x1 := by
        unfold clR
        rw [if_pos h1, if_pos h2]
      rw [e9] at hK
      exact hK
    · skip
      refine g_iconst (v := 4) d_R_init_202 (by decide) ?_
      refine g_goto (tgt := 207) d_R_init_203 (by decide) ?_
      have e9 : clR x1 4 = 4 := by
        unfold clR
        rw [if_pos h1, if_neg h2]
      rw [e9] at hK
      exact hK
  · skip
    refine g_iconst (v := 1) d_R_init_193 (by decide) ?_
    refine g_goto (tgt := 207) d_R_init_194 (by decide) ?_
    have e9 : clR x1 4 = 1 := by
      unfold clR
      rw [if_neg h1]
    rw [e9] at hK
    exact hK

set_option maxHeartbeats 4000000 in
set_option maxRecDepth 100000 in
theorem l_R_ini1 {E : gE} {Z : gZ} {w : wd} {ce sl a : Nat} (x1 x2 x3 x4 : Int32) (hK : G E y_R_init Z 230 [(0, .ref a), (1, .int x1), (2, .int x2), (3, .int x3), (4, .int x4)] [.int (clR x2 4), .ref a] w ce sl) : G E y_R_init Z 211 [(0, .ref a), (1, .int x1), (2, .int x2), (3, .int x3), (4, .int x4)] [.ref a] w ce sl := by
  refine g_iload_n (j := 2) d_R_init_211 rfl ?_
  refine g_iconst (v := 1) d_R_init_212 (by decide) ?_
  refine g_icmp_ge (tgt := 220) d_R_init_213 (by decide) (fun h1 => ?_) (fun h1 => ?_)
  · skip
    refine g_iload_n (j := 2) d_R_init_220 rfl ?_
    refine g_iconst (v := 4) d_R_init_221 (by decide) ?_
    refine g_icmp_le (tgt := 229) d_R_init_222 (by decide) (fun h2 => ?_) (fun h2 => ?_)
    · skip
      refine g_iload_n (j := 2) d_R_init_229 rfl ?_
      have e9 : clR x2 4 = x2 := by
        unfold clR
        rw [if_pos h1, if_pos h2]
      rw [e9] at hK
      exact hK
    · skip
      refine g_iconst (v := 4) d_R_init_225 (by decide) ?_
      refine g_goto (tgt := 230) d_R_init_226 (by decide) ?_
      have e9 : clR x2 4 = 4 := by
        unfold clR
        rw [if_pos h1, if_neg h2]
      rw [e9] at hK
      exact hK
  · skip
    refine g_iconst (v := 1) d_R_init_216 (by decide) ?_
    refine g_goto (tgt := 230) d_R_init_217 (by decide) ?_
    have e9 : clR x2 4 = 1 := by
      unfold clR
      rw [if_neg h1]
    rw [e9] at hK
    exact hK

set_option maxHeartbeats 4000000 in
set_option maxRecDepth 100000 in
theorem l_R_ini2 {E : gE} {Z : gZ} {w : wd} {ce sl a : Nat} (x1 x2 x3 x4 : Int32) (hK : G E y_R_init Z 257 [(0, .ref a), (1, .int x1), (2, .int x2), (3, .int x3), (4, .int x4)] [.int (clR x3 1000), .ref a] w ce sl) : G E y_R_init Z 234 [(0, .ref a), (1, .int x1), (2, .int x2), (3, .int x3), (4, .int x4)] [.ref a] w ce sl := by
  refine g_iload_n (j := 3) d_R_init_234 rfl ?_
  refine g_iconst (v := 1) d_R_init_235 (by decide) ?_
  refine g_icmp_ge (tgt := 243) d_R_init_236 (by decide) (fun h1 => ?_) (fun h1 => ?_)
  · skip
    refine g_iload_n (j := 3) d_R_init_243 rfl ?_
    refine g_sipush (v := 1000) d_R_init_244 (by decide) ?_
    refine g_icmp_le (tgt := 256) d_R_init_247 (by decide) (fun h2 => ?_) (fun h2 => ?_)
    · skip
      refine g_iload_n (j := 3) d_R_init_256 rfl ?_
      have e9 : clR x3 1000 = x3 := by
        unfold clR
        rw [if_pos h1, if_pos h2]
      rw [e9] at hK
      exact hK
    · skip
      refine g_sipush (v := 1000) d_R_init_250 (by decide) ?_
      refine g_goto (tgt := 257) d_R_init_253 (by decide) ?_
      have e9 : clR x3 1000 = 1000 := by
        unfold clR
        rw [if_pos h1, if_neg h2]
      rw [e9] at hK
      exact hK
  · skip
    refine g_iconst (v := 1) d_R_init_239 (by decide) ?_
    refine g_goto (tgt := 257) d_R_init_240 (by decide) ?_
    have e9 : clR x3 1000 = 1 := by
      unfold clR
      rw [if_neg h1]
    rw [e9] at hK
    exact hK

set_option maxHeartbeats 4000000 in
set_option maxRecDepth 100000 in
theorem l_R_ini3 {E : gE} {Z : gZ} {w : wd} {ce sl a : Nat} (x1 x2 x3 x4 : Int32) {hv : Int32} {fs : List Value} (ha : wh w a (.inr (0, fs))) (hfs : fs[2]? = some (.int hv)) (hK : G E y_R_init Z 289 [(0, .ref a), (1, .int x1), (2, .int x2), (3, .int x3), (4, .int x4)] [.int (clR x4 hv), .ref a] w ce sl) : G E y_R_init Z 261 [(0, .ref a), (1, .int x1), (2, .int x2), (3, .int x3), (4, .int x4)] [.ref a] w ce sl := by
  refine g_iload (j := 4) d_R_init_261 rfl ?_
  refine g_iconst (v := 1) d_R_init_263 (by decide) ?_
  refine g_icmp_ge (tgt := 271) d_R_init_264 (by decide) (fun h1 => ?_) (fun h1 => ?_)
  · skip
    refine g_iload (j := 4) d_R_init_271 rfl ?_
    refine g_aload_n (j := 0) d_R_init_273 rfl ?_
    refine g_get d_R_init_274 f_R_90 ha hfs ?_
    refine g_icmp_le (tgt := 287) d_R_init_277 (by decide) (fun h2 => ?_) (fun h2 => ?_)
    · skip
      refine g_iload (j := 4) d_R_init_287 rfl ?_
      have e9 : clR x4 hv = x4 := by
        unfold clR
        rw [if_pos h1, if_pos h2]
      rw [e9] at hK
      exact hK
    · skip
      refine g_aload_n (j := 0) d_R_init_280 rfl ?_
      refine g_get d_R_init_281 f_R_90 ha hfs ?_
      refine g_goto (tgt := 289) d_R_init_284 (by decide) ?_
      have e9 : clR x4 hv = hv := by
        unfold clR
        rw [if_pos h1, if_neg h2]
      rw [e9] at hK
      exact hK
  · skip
    refine g_iconst (v := 1) d_R_init_267 (by decide) ?_
    refine g_goto (tgt := 289) d_R_init_268 (by decide) ?_
    have e9 : clR x4 hv = 1 := by
      unfold clR
      rw [if_neg h1]
    rw [e9] at hK
    exact hK

def iniR (x1 x2 x3 x4 : Int32) : tR := (fun i => if i = 0 then clR x1 4 else if i = 1 then clR x2 4 else if i = 2 then clR x3 1000 else if i = 3 then clR x4 (clR x3 1000) else 0, fun _ _ => 0)
set_option maxHeartbeats 4000000 in
set_option maxRecDepth 100000 in
theorem c_R_init {E : gE} {w : wd} {a : Nat} (ha : wh w a (.inr (0, fs0R))) (x1 x2 x3 x4 : Int32) : Cn E y_R_init 1 24 2664 [.ref a, .int x1, .int x2, .int x3, .int x4] w (fun r w' => r = none ∧ ∃ ad : Nat → Nat, ad 0 = a ∧ SysR E ad (iniR x1 x2 x3 x4) w') := by
  refine Cn.of (by decide) (Nat.le_of_ble_eq_true rfl) (fun A => ?_)
  show G E y_R_init _ 0 [(0, .ref a), (1, .int x1), (2, .int x2), (3, .int x3), (4, .int x4)] [] w 0 0
  refine g_aload_n (j := 0) d_R_init_0 rfl ?_
  refine g_objInit d_R_init_1 lk_R_1 wo_in wo_co ⟨(Nat.le_of_ble_eq_true rfl), (Nat.le_of_ble_eq_true rfl)⟩ (Nat.le_of_ble_eq_true rfl) ?_
  have hP : SysP E a [] [.int 0, .int 0, .int 0, .int 0, .null, .null, .int 0, .int 0, .int 0, .int 0, .null, .null, .null, .int 0, .null, .null, .null, .null, .null, .null, .null, .null, .null, .null, .null, .null, .null, .null, .null, .null, .null, .null, .int 0, .null] w := ⟨ha, fun k q hk => (by cases hk), by simp, List.nodup_nil⟩
  refine g_aload_n (j := 0) d_R_init_4 rfl ?_
  refine g_iconst (v := 4) d_R_init_5 (by decide) ?_
  refine r_initI (n := 0) (N := 4) d_R_init_6 d_R_init_8 wa_int fw_R_7 rfl hP rfl rfl rfl (by decide) (by decide) (Nat.le_of_ble_eq_true rfl) (Nat.le_of_ble_eq_true rfl) (Nat.le_of_ble_eq_true rfl) (fun q0 w0 hP => ?_)
  have hP : SysP E a [q0] [.int 0, .int 0, .int 0, .int 0, .ref q0, .null, .int 0, .int 0, .int 0, .int 0, .null, .null, .null, .int 0, .null, .null, .null, .null, .null, .null, .null, .null, .null, .null, .null, .null, .null, .null, .null, .null, .null, .null, .int 0, .null] w0 := hP
  refine g_aload_n (j := 0) d_R_init_11 rfl ?_
  refine g_iconst (v := 4) d_R_init_12 (by decide) ?_
  refine r_initI (n := 1) (N := 4) d_R_init_13 d_R_init_15 wa_int fw_R_13 rfl hP rfl rfl rfl (by decide) (by decide) (Nat.le_of_ble_eq_true rfl) (Nat.le_of_ble_eq_true rfl) (Nat.le_of_ble_eq_true rfl) (fun q1 w1 hP => ?_)
  have hP : SysP E a [q0, q1] [.int 0, .int 0, .int 0, .int 0, .ref q0, .ref q1, .int 0, .int 0, .int 0, .int 0, .null, .null, .null, .int 0, .null, .null, .null, .null, .null, .null, .null, .null, .null, .null, .null, .null, .null, .null, .null, .null, .null, .null, .int 0, .null] w1 := hP
  refine g_aload_n (j := 0) d_R_init_18 rfl ?_
  refine g_bipush (v := 16) d_R_init_19 (by decide) ?_
  refine r_initI (n := 2) (N := 16) d_R_init_21 d_R_init_23 wa_int fw_R_16 rfl hP rfl rfl rfl (by decide) (by decide) (Nat.le_of_ble_eq_true rfl) (Nat.le_of_ble_eq_true rfl) (Nat.le_of_ble_eq_true rfl) (fun q2 w2 hP => ?_)
  have hP : SysP E a [q0, q1, q2] [.int 0, .int 0, .int 0, .int 0, .ref q0, .ref q1, .int 0, .int 0, .int 0, .int 0, .ref q2, .null, .null, .int 0, .null, .null, .null, .null, .null, .null, .null, .null, .null, .null, .null, .null, .null, .null, .null, .null, .null, .null, .int 0, .null] w2 := hP
  refine g_aload_n (j := 0) d_R_init_26 rfl ?_
  refine g_iconst (v := 4) d_R_init_27 (by decide) ?_
  refine r_initI (n := 3) (N := 4) d_R_init_28 d_R_init_30 wa_int fw_R_19 rfl hP rfl rfl rfl (by decide) (by decide) (Nat.le_of_ble_eq_true rfl) (Nat.le_of_ble_eq_true rfl) (Nat.le_of_ble_eq_true rfl) (fun q3 w3 hP => ?_)
  have hP : SysP E a [q0, q1, q2, q3] [.int 0, .int 0, .int 0, .int 0, .ref q0, .ref q1, .int 0, .int 0, .int 0, .int 0, .ref q2, .ref q3, .null, .int 0, .null, .null, .null, .null, .null, .null, .null, .null, .null, .null, .null, .null, .null, .null, .null, .null, .null, .null, .int 0, .null] w3 := hP
  refine g_aload_n (j := 0) d_R_init_33 rfl ?_
  refine g_iconst (v := 4) d_R_init_34 (by decide) ?_
  refine r_initI (n := 4) (N := 4) d_R_init_35 d_R_init_37 wa_int fw_R_22 rfl hP rfl rfl rfl (by decide) (by decide) (Nat.le_of_ble_eq_true rfl) (Nat.le_of_ble_eq_true rfl) (Nat.le_of_ble_eq_true rfl) (fun q4 w4 hP => ?_)
  have hP : SysP E a [q0, q1, q2, q3, q4] [.int 0, .int 0, .int 0, .int 0, .ref q0, .ref q1, .int 0, .int 0, .int 0, .int 0, .ref q2, .ref q3, .ref q4, .int 0, .null, .null, .null, .null, .null, .null, .null, .null, .null, .null, .null, .null, .null, .null, .null, .null, .null, .null, .int 0, .null] w4 := hP
  refine g_aload_n (j := 0) d_R_init_40 rfl ?_
  refine g_sipush (v := 520) d_R_init_41 (by decide) ?_
  refine r_initI (n := 5) (N := 520) d_R_init_44 d_R_init_46 wa_int fw_R_25 rfl hP rfl rfl rfl (by decide) (by decide) (Nat.le_of_ble_eq_true rfl) (Nat.le_of_ble_eq_true rfl) (Nat.le_of_ble_eq_true rfl) (fun q5 w5 hP => ?_)
  have hP : SysP E a [q0, q1, q2, q3, q4, q5] [.int 0, .int 0, .int 0, .int 0, .ref q0, .ref q1, .int 0, .int 0, .int 0, .int 0, .ref q2, .ref q3, .ref q4, .int 0, .ref q5, .null, .null, .null, .null, .null, .null, .null, .null, .null, .null, .null, .null, .null, .null, .null, .null, .null, .int 0, .null] w5 := hP
  refine g_aload_n (j := 0) d_R_init_49 rfl ?_
  refine g_sipush (v := 520) d_R_init_50 (by decide) ?_
  refine r_initI (n := 6) (N := 520) d_R_init_53 d_R_init_55 wa_int fw_R_28 rfl hP rfl rfl rfl (by decide) (by decide) (Nat.le_of_ble_eq_true rfl) (Nat.le_of_ble_eq_true rfl) (Nat.le_of_ble_eq_true rfl) (fun q6 w6 hP => ?_)
  have hP : SysP E a [q0, q1, q2, q3, q4, q5, q6] [.int 0, .int 0, .int 0, .int 0, .ref q0, .ref q1, .int 0, .int 0, .int 0, .int 0, .ref q2, .ref q3, .ref q4, .int 0, .ref q5, .ref q6, .null, .null, .null, .null, .null, .null, .null, .null, .null, .null, .null, .null, .null, .null, .null, .null, .int 0, .null] w6 := hP
  refine g_aload_n (j := 0) d_R_init_58 rfl ?_
  refine g_sipush (v := 520) d_R_init_59 (by decide) ?_
  refine r_initI (n := 7) (N := 520) d_R_init_62 d_R_init_64 wa_int fw_R_31 rfl hP rfl rfl rfl (by decide) (by decide) (Nat.le_of_ble_eq_true rfl) (Nat.le_of_ble_eq_true rfl) (Nat.le_of_ble_eq_true rfl) (fun q7 w7 hP => ?_)
  have hP : SysP E a [q0, q1, q2, q3, q4, q5, q6, q7] [.int 0, .int 0, .int 0, .int 0, .ref q0, .ref q1, .int 0, .int 0, .int 0, .int 0, .ref q2, .ref q3, .ref q4, .int 0, .ref q5, .ref q6, .ref q7, .null, .null, .null, .null, .null, .null, .null, .null, .null, .null, .null, .null, .null, .null, .null, .int 0, .null] w7 := hP
  refine g_aload_n (j := 0) d_R_init_67 rfl ?_
  refine g_sipush (v := 520) d_R_init_68 (by decide) ?_
  refine r_initI (n := 8) (N := 520) d_R_init_71 d_R_init_73 wa_int fw_R_34 rfl hP rfl rfl rfl (by decide) (by decide) (Nat.le_of_ble_eq_true rfl) (Nat.le_of_ble_eq_true rfl) (Nat.le_of_ble_eq_true rfl) (fun q8 w8 hP => ?_)
  have hP : SysP E a [q0, q1, q2, q3, q4, q5, q6, q7, q8] [.int 0, .int 0, .int 0, .int 0, .ref q0, .ref q1, .int 0, .int 0, .int 0, .int 0, .ref q2, .ref q3, .ref q4, .int 0, .ref q5, .ref q6, .ref q7, .ref q8, .null, .null, .null, .null, .null, .null, .null, .null, .null, .null, .null, .null, .null, .null, .int 0, .null] w8 := hP
  refine g_aload_n (j := 0) d_R_init_76 rfl ?_
  refine g_iconst (v := 4) d_R_init_77 (by decide) ?_
  refine r_initI (n := 9) (N := 4) d_R_init_78 d_R_init_80 wa_int fw_R_37 rfl hP rfl rfl rfl (by decide) (by decide) (Nat.le_of_ble_eq_true rfl) (Nat.le_of_ble_eq_true rfl) (Nat.le_of_ble_eq_true rfl) (fun q9 w9 hP => ?_)
  have hP : SysP E a [q0, q1, q2, q3, q4, q5, q6, q7, q8, q9] [.int 0, .int 0, .int 0, .int 0, .ref q0, .ref q1, .int 0, .int 0, .int 0, .int 0, .ref q2, .ref q3, .ref q4, .int 0, .ref q5, .ref q6, .ref q7, .ref q8, .ref q9, .null, .null, .null, .null, .null, .null, .null, .null, .null, .null, .null, .null, .null, .int 0, .null] w9 := hP
  refine g_aload_n (j := 0) d_R_init_83 rfl ?_
  refine g_iconst (v := 4) d_R_init_84 (by decide) ?_
  refine r_initI (n := 10) (N := 4) d_R_init_85 d_R_init_87 wa_int fw_R_40 rfl hP rfl rfl rfl (by decide) (by decide) (Nat.le_of_ble_eq_true rfl) (Nat.le_of_ble_eq_true rfl) (Nat.le_of_ble_eq_true rfl) (fun q10 w10 hP => ?_)
  have hP : SysP E a [q0, q1, q2, q3, q4, q5, q6, q7, q8, q9, q10] [.int 0, .int 0, .int 0, .int 0, .ref q0, .ref q1, .int 0, .int 0, .int 0, .int 0, .ref q2, .ref q3, .ref q4, .int 0, .ref q5, .ref q6, .ref q7, .ref q8, .ref q9, .ref q10, .null, .null, .null, .null, .null, .null, .null, .null, .null, .null, .null, .null, .int 0, .null] w10 := hP
  refine g_aload_n (j := 0) d_R_init_90 rfl ?_
  refine g_iconst (v := 4) d_R_init_91 (by decide) ?_
  refine r_initI (n := 11) (N := 4) d_R_init_92 d_R_init_94 wa_int fw_R_43 rfl hP rfl rfl rfl (by decide) (by decide) (Nat.le_of_ble_eq_true rfl) (Nat.le_of_ble_eq_true rfl) (Nat.le_of_ble_eq_true rfl) (fun q11 w11 hP => ?_)
  have hP : SysP E a [q0, q1, q2, q3, q4, q5, q6, q7, q8, q9, q10, q11] [.int 0, .int 0, .int 0, .int 0, .ref q0, .ref q1, .int 0, .int 0, .int 0, .int 0, .ref q2, .ref q3, .ref q4, .int 0, .ref q5, .ref q6, .ref q7, .ref q8, .ref q9, .ref q10, .ref q11, .null, .null, .null, .null, .null, .null, .null, .null, .null, .null, .null, .int 0, .null] w11 := hP
  refine g_aload_n (j := 0) d_R_init_97 rfl ?_
  refine g_iconst (v := 4) d_R_init_98 (by decide) ?_
  refine r_initZ (n := 12) (N := 4) d_R_init_99 d_R_init_101 wa_bool fw_R_46 rfl hP rfl rfl rfl (by decide) (by decide) (Nat.le_of_ble_eq_true rfl) (Nat.le_of_ble_eq_true rfl) (Nat.le_of_ble_eq_true rfl) (fun q12 w12 hP => ?_)
  have hP : SysP E a [q0, q1, q2, q3, q4, q5, q6, q7, q8, q9, q10, q11, q12] [.int 0, .int 0, .int 0, .int 0, .ref q0, .ref q1, .int 0, .int 0, .int 0, .int 0, .ref q2, .ref q3, .ref q4, .int 0, .ref q5, .ref q6, .ref q7, .ref q8, .ref q9, .ref q10, .ref q11, .ref q12, .null, .null, .null, .null, .null, .null, .null, .null, .null, .null, .int 0, .null] w12 := hP
  refine g_aload_n (j := 0) d_R_init_104 rfl ?_
  refine g_iconst (v := 4) d_R_init_105 (by decide) ?_
  refine r_initI (n := 13) (N := 4) d_R_init_106 d_R_init_108 wa_int fw_R_50 rfl hP rfl rfl rfl (by decide) (by decide) (Nat.le_of_ble_eq_true rfl) (Nat.le_of_ble_eq_true rfl) (Nat.le_of_ble_eq_true rfl) (fun q13 w13 hP => ?_)
  have hP : SysP E a [q0, q1, q2, q3, q4, q5, q6, q7, q8, q9, q10, q11, q12, q13] [.int 0, .int 0, .int 0, .int 0, .ref q0, .ref q1, .int 0, .int 0, .int 0, .int 0, .ref q2, .ref q3, .ref q4, .int 0, .ref q5, .ref q6, .ref q7, .ref q8, .ref q9, .ref q10, .ref q11, .ref q12, .ref q13, .null, .null, .null, .null, .null, .null, .null, .null, .null, .int 0, .null] w13 := hP
  refine g_aload_n (j := 0) d_R_init_111 rfl ?_
  refine g_iconst (v := 4) d_R_init_112 (by decide) ?_
  refine r_initI (n := 14) (N := 4) d_R_init_113 d_R_init_115 wa_int fw_R_53 rfl hP rfl rfl rfl (by decide) (by decide) (Nat.le_of_ble_eq_true rfl) (Nat.le_of_ble_eq_true rfl) (Nat.le_of_ble_eq_true rfl) (fun q14 w14 hP => ?_)
  have hP : SysP E a [q0, q1, q2, q3, q4, q5, q6, q7, q8, q9, q10, q11, q12, q13, q14] [.int 0, .int 0, .int 0, .int 0, .ref q0, .ref q1, .int 0, .int 0, .int 0, .int 0, .ref q2, .ref q3, .ref q4, .int 0, .ref q5, .ref q6, .ref q7, .ref q8, .ref q9, .ref q10, .ref q11, .ref q12, .ref q13, .ref q14, .null, .null, .null, .null, .null, .null, .null, .null, .int 0, .null] w14 := hP
  refine g_aload_n (j := 0) d_R_init_118 rfl ?_
  refine g_iconst (v := 4) d_R_init_119 (by decide) ?_
  refine r_initI (n := 15) (N := 4) d_R_init_120 d_R_init_122 wa_int fw_R_56 rfl hP rfl rfl rfl (by decide) (by decide) (Nat.le_of_ble_eq_true rfl) (Nat.le_of_ble_eq_true rfl) (Nat.le_of_ble_eq_true rfl) (fun q15 w15 hP => ?_)
  have hP : SysP E a [q0, q1, q2, q3, q4, q5, q6, q7, q8, q9, q10, q11, q12, q13, q14, q15] [.int 0, .int 0, .int 0, .int 0, .ref q0, .ref q1, .int 0, .int 0, .int 0, .int 0, .ref q2, .ref q3, .ref q4, .int 0, .ref q5, .ref q6, .ref q7, .ref q8, .ref q9, .ref q10, .ref q11, .ref q12, .ref q13, .ref q14, .ref q15, .null, .null, .null, .null, .null, .null, .null, .int 0, .null] w15 := hP
  refine g_aload_n (j := 0) d_R_init_125 rfl ?_
  refine g_iconst (v := 4) d_R_init_126 (by decide) ?_
  refine r_initZ (n := 16) (N := 4) d_R_init_127 d_R_init_129 wa_bool fw_R_59 rfl hP rfl rfl rfl (by decide) (by decide) (Nat.le_of_ble_eq_true rfl) (Nat.le_of_ble_eq_true rfl) (Nat.le_of_ble_eq_true rfl) (fun q16 w16 hP => ?_)
  have hP : SysP E a [q0, q1, q2, q3, q4, q5, q6, q7, q8, q9, q10, q11, q12, q13, q14, q15, q16] [.int 0, .int 0, .int 0, .int 0, .ref q0, .ref q1, .int 0, .int 0, .int 0, .int 0, .ref q2, .ref q3, .ref q4, .int 0, .ref q5, .ref q6, .ref q7, .ref q8, .ref q9, .ref q10, .ref q11, .ref q12, .ref q13, .ref q14, .ref q15, .ref q16, .null, .null, .null, .null, .null, .null, .int 0, .null] w16 := hP
  refine g_aload_n (j := 0) d_R_init_132 rfl ?_
  refine g_iconst (v := 4) d_R_init_133 (by decide) ?_
  refine r_initI (n := 17) (N := 4) d_R_init_134 d_R_init_136 wa_int fw_R_62 rfl hP rfl rfl rfl (by decide) (by decide) (Nat.le_of_ble_eq_true rfl) (Nat.le_of_ble_eq_true rfl) (Nat.le_of_ble_eq_true rfl) (fun q17 w17 hP => ?_)
  have hP : SysP E a [q0, q1, q2, q3, q4, q5, q6, q7, q8, q9, q10, q11, q12, q13, q14, q15, q16, q17] [.int 0, .int 0, .int 0, .int 0, .ref q0, .ref q1, .int 0, .int 0, .int 0, .int 0, .ref q2, .ref q3, .ref q4, .int 0, .ref q5, .ref q6, .ref q7, .ref q8, .ref q9, .ref q10, .ref q11, .ref q12, .ref q13, .ref q14, .ref q15, .ref q16, .ref q17, .null, .null, .null, .null, .null, .int 0, .null] w17 := hP
  refine g_aload_n (j := 0) d_R_init_139 rfl ?_
  refine g_iconst (v := 4) d_R_init_140 (by decide) ?_
  refine r_initI (n := 18) (N := 4) d_R_init_141 d_R_init_143 wa_int fw_R_65 rfl hP rfl rfl rfl (by decide) (by decide) (Nat.le_of_ble_eq_true rfl) (Nat.le_of_ble_eq_true rfl) (Nat.le_of_ble_eq_true rfl) (fun q18 w18 hP => ?_)
  have hP : SysP E a [q0, q1, q2, q3, q4, q5, q6, q7, q8, q9, q10, q11, q12, q13, q14, q15, q16, q17, q18] [.int 0, .int 0, .int 0, .int 0, .ref q0, .ref q1, .int 0, .int 0, .int 0, .int 0, .ref q2, .ref q3, .ref q4, .int 0, .ref q5, .ref q6, .ref q7, .ref q8, .ref q9, .ref q10, .ref q11, .ref q12, .ref q13, .ref q14, .ref q15, .ref q16, .ref q17, .ref q18, .null, .null, .null, .null, .int 0, .null] w18 := hP
  refine g_aload_n (j := 0) d_R_init_146 rfl ?_
  refine g_bipush (v := 16) d_R_init_147 (by decide) ?_
  refine r_initZ (n := 19) (N := 16) d_R_init_149 d_R_init_151 wa_bool fw_R_68 rfl hP rfl rfl rfl (by decide) (by decide) (Nat.le_of_ble_eq_true rfl) (Nat.le_of_ble_eq_true rfl) (Nat.le_of_ble_eq_true rfl) (fun q19 w19 hP => ?_)
  have hP : SysP E a [q0, q1, q2, q3, q4, q5, q6, q7, q8, q9, q10, q11, q12, q13, q14, q15, q16, q17, q18, q19] [.int 0, .int 0, .int 0, .int 0, .ref q0, .ref q1, .int 0, .int 0, .int 0, .int 0, .ref q2, .ref q3, .ref q4, .int 0, .ref q5, .ref q6, .ref q7, .ref q8, .ref q9, .ref q10, .ref q11, .ref q12, .ref q13, .ref q14, .ref q15, .ref q16, .ref q17, .ref q18, .ref q19, .null, .null, .null, .int 0, .null] w19 := hP
  refine g_aload_n (j := 0) d_R_init_154 rfl ?_
  refine g_bipush (v := 16) d_R_init_155 (by decide) ?_
  refine r_initI (n := 20) (N := 16) d_R_init_157 d_R_init_159 wa_int fw_R_71 rfl hP rfl rfl rfl (by decide) (by decide) (Nat.le_of_ble_eq_true rfl) (Nat.le_of_ble_eq_true rfl) (Nat.le_of_ble_eq_true rfl) (fun q20 w20 hP => ?_)
  have hP : SysP E a [q0, q1, q2, q3, q4, q5, q6, q7, q8, q9, q10, q11, q12, q13, q14, q15, q16, q17, q18, q19, q20] [.int 0, .int 0, .int 0, .int 0, .ref q0, .ref q1, .int 0, .int 0, .int 0, .int 0, .ref q2, .ref q3, .ref q4, .int 0, .ref q5, .ref q6, .ref q7, .ref q8, .ref q9, .ref q10, .ref q11, .ref q12, .ref q13, .ref q14, .ref q15, .ref q16, .ref q17, .ref q18, .ref q19, .ref q20, .null, .null, .int 0, .null] w20 := hP
  refine g_aload_n (j := 0) d_R_init_162 rfl ?_
  refine g_bipush (v := 16) d_R_init_163 (by decide) ?_
  refine r_initI (n := 21) (N := 16) d_R_init_165 d_R_init_167 wa_int fw_R_74 rfl hP rfl rfl rfl (by decide) (by decide) (Nat.le_of_ble_eq_true rfl) (Nat.le_of_ble_eq_true rfl) (Nat.le_of_ble_eq_true rfl) (fun q21 w21 hP => ?_)
  have hP : SysP E a [q0, q1, q2, q3, q4, q5, q6, q7, q8, q9, q10, q11, q12, q13, q14, q15, q16, q17, q18, q19, q20, q21] [.int 0, .int 0, .int 0, .int 0, .ref q0, .ref q1, .int 0, .int 0, .int 0, .int 0, .ref q2, .ref q3, .ref q4, .int 0, .ref q5, .ref q6, .ref q7, .ref q8, .ref q9, .ref q10, .ref q11, .ref q12, .ref q13, .ref q14, .ref q15, .ref q16, .ref q17, .ref q18, .ref q19, .ref q20, .ref q21, .null, .int 0, .null] w21 := hP
  refine g_aload_n (j := 0) d_R_init_170 rfl ?_
  refine g_bipush (v := 16) d_R_init_171 (by decide) ?_
  refine r_initI (n := 22) (N := 16) d_R_init_173 d_R_init_175 wa_int fw_R_77 rfl hP rfl rfl rfl (by decide) (by decide) (Nat.le_of_ble_eq_true rfl) (Nat.le_of_ble_eq_true rfl) (Nat.le_of_ble_eq_true rfl) (fun q22 w22 hP => ?_)
  have hP : SysP E a [q0, q1, q2, q3, q4, q5, q6, q7, q8, q9, q10, q11, q12, q13, q14, q15, q16, q17, q18, q19, q20, q21, q22] [.int 0, .int 0, .int 0, .int 0, .ref q0, .ref q1, .int 0, .int 0, .int 0, .int 0, .ref q2, .ref q3, .ref q4, .int 0, .ref q5, .ref q6, .ref q7, .ref q8, .ref q9, .ref q10, .ref q11, .ref q12, .ref q13, .ref q14, .ref q15, .ref q16, .ref q17, .ref q18, .ref q19, .ref q20, .ref q21, .ref q22, .int 0, .null] w22 := hP
  refine g_aload_n (j := 0) d_R_init_178 rfl ?_
  refine g_sipush (v := 448) d_R_init_179 (by decide) ?_
  refine r_initI (n := 23) (N := 448) d_R_init_182 d_R_init_184 wa_int fw_R_80 rfl hP rfl rfl rfl (by decide) (by decide) (Nat.le_of_ble_eq_true rfl) (Nat.le_of_ble_eq_true rfl) (Nat.le_of_ble_eq_true rfl) (fun q23 w23 hP => ?_)
  have hP : SysP E a [q0, q1, q2, q3, q4, q5, q6, q7, q8, q9, q10, q11, q12, q13, q14, q15, q16, q17, q18, q19, q20, q21, q22, q23] [.int 0, .int 0, .int 0, .int 0, .ref q0, .ref q1, .int 0, .int 0, .int 0, .int 0, .ref q2, .ref q3, .ref q4, .int 0, .ref q5, .ref q6, .ref q7, .ref q8, .ref q9, .ref q10, .ref q11, .ref q12, .ref q13, .ref q14, .ref q15, .ref q16, .ref q17, .ref q18, .ref q19, .ref q20, .ref q21, .ref q22, .int 0, .ref q23] w23 := hP
  refine g_aload_n (j := 0) d_R_init_187 rfl ?_
  have h9 := hP.1
  refine l_R_ini0 x1 x2 x3 x4 ?_
  refine r_putP d_R_init_207 fw_R_83 rfl hP (Nat.le_of_ble_eq_true rfl) (fun v0 hP => ?_)
  have hP : SysP E a [q0, q1, q2, q3, q4, q5, q6, q7, q8, q9, q10, q11, q12, q13, q14, q15, q16, q17, q18, q19, q20, q21, q22, q23] [.int (clR x1 4), .int 0, .int 0, .int 0, .ref q0, .ref q1, .int 0, .int 0, .int 0, .int 0, .ref q2, .ref q3, .ref q4, .int 0, .ref q5, .ref q6, .ref q7, .ref q8, .ref q9, .ref q10, .ref q11, .ref q12, .ref q13, .ref q14, .ref q15, .ref q16, .ref q17, .ref q18, .ref q19, .ref q20, .ref q21, .ref q22, .int 0, .ref q23] v0 := hP
  refine g_aload_n (j := 0) d_R_init_210 rfl ?_
  have h9 := hP.1
  refine l_R_ini1 x1 x2 x3 x4 ?_
  refine r_putP d_R_init_230 fw_R_87 rfl hP (Nat.le_of_ble_eq_true rfl) (fun v1 hP => ?_)
  have hP : SysP E a [q0, q1, q2, q3, q4, q5, q6, q7, q8, q9, q10, q11, q12, q13, q14, q15, q16, q17, q18, q19, q20, q21, q22, q23] [.int (clR x1 4), .int (clR x2 4), .int 0, .int 0, .ref q0, .ref q1, .int 0, .int 0, .int 0, .int 0, .ref q2, .ref q3, .ref q4, .int 0, .ref q5, .ref q6, .ref q7, .ref q8, .ref q9, .ref q10, .ref q11, .ref q12, .ref q13, .ref q14, .ref q15, .ref q16, .ref q17, .ref q18, .ref q19, .ref q20, .ref q21, .ref q22, .int 0, .ref q23] v1 := hP
  refine g_aload_n (j := 0) d_R_init_233 rfl ?_
  have h9 := hP.1
  refine l_R_ini2 x1 x2 x3 x4 ?_
  refine r_putP d_R_init_257 fw_R_90 rfl hP (Nat.le_of_ble_eq_true rfl) (fun v2 hP => ?_)
  have hP : SysP E a [q0, q1, q2, q3, q4, q5, q6, q7, q8, q9, q10, q11, q12, q13, q14, q15, q16, q17, q18, q19, q20, q21, q22, q23] [.int (clR x1 4), .int (clR x2 4), .int (clR x3 1000), .int 0, .ref q0, .ref q1, .int 0, .int 0, .int 0, .int 0, .ref q2, .ref q3, .ref q4, .int 0, .ref q5, .ref q6, .ref q7, .ref q8, .ref q9, .ref q10, .ref q11, .ref q12, .ref q13, .ref q14, .ref q15, .ref q16, .ref q17, .ref q18, .ref q19, .ref q20, .ref q21, .ref q22, .int 0, .ref q23] v2 := hP
  refine g_aload_n (j := 0) d_R_init_260 rfl ?_
  have h9 := hP.1
  refine l_R_ini3 x1 x2 x3 x4 h9 rfl ?_
  refine r_putP d_R_init_289 fw_R_93 rfl hP (Nat.le_of_ble_eq_true rfl) (fun v3 hP => ?_)
  have hP : SysP E a [q0, q1, q2, q3, q4, q5, q6, q7, q8, q9, q10, q11, q12, q13, q14, q15, q16, q17, q18, q19, q20, q21, q22, q23] [.int (clR x1 4), .int (clR x2 4), .int (clR x3 1000), .int (clR x4 (clR x3 1000)), .ref q0, .ref q1, .int 0, .int 0, .int 0, .int 0, .ref q2, .ref q3, .ref q4, .int 0, .ref q5, .ref q6, .ref q7, .ref q8, .ref q9, .ref q10, .ref q11, .ref q12, .ref q13, .ref q14, .ref q15, .ref q16, .ref q17, .ref q18, .ref q19, .ref q20, .ref q21, .ref q22, .int 0, .ref q23] v3 := hP
  refine g_return d_R_init_292 rfl (Nat.le_of_ble_eq_true rfl) (Nat.le_of_ble_eq_true rfl) ⟨rfl, fun i => (a :: [q0, q1, q2, q3, q4, q5, q6, q7, q8, q9, q10, q11, q12, q13, q14, q15, q16, q17, q18, q19, q20, q21, q22, q23]).getD i 0, rfl, ?_⟩
  exact SysP_R hP rfl rfl rfl
end
section
/-! the class's state: numbers by kind, place, part; the waiting writes of each file; how many messages -/
abbrev tC : Type := (Nat → Nat → Nat → Int32) × (Nat → List (Int32 × Int32 × Int32)) × Nat
/-- clients, files, the server's term, the clients' term -/
abbrev kC : Type := Nat × Nat × Int32 × Int32
abbrev nmC : Type := Nat × Nat × Nat
/-- addresses by names; the lists' own: how often changed, how many places -/
abbrev lyC : Type := (nmC → Nat) × (Nat → Int32) × (Nat → Nat)
def stC (t : tC) (k i j : Nat) (x : Int32) : tC := (fun k' i' => if k' = k ∧ i' = i then upd (t.1 k i) j x else t.1 k' i', t.2)
def mL (g : Nat → Int32) : List Value := [.int (g 0), .int (g 1), .int (g 2), .int (g 3), .int (g 4), .int (g 5), .int (g 6)]
def clL (n sh : Int32) (cp : Nat) (g : Nat → Int32) : List Value := [.int n, .int sh, .ref cp, .int (g 0), .int (g 1), .int (g 2), .int (g 3), .int (g 4), .int (g 5), .int (g 6), .int (g 7), .int (g 8), .int (g 9)]
def yL (g : Nat → Int32) : List Value := [.int (g 0), .int (g 1), .int (g 2), .int (g 3)]
def svL (te : Int32) (fa lw lv : Nat) (g : Nat → Int32) : List Value := [.int te, .ref fa, .ref lw, .ref lv, .int (g 0), .int (g 1), .int (g 2), .int (g 3)]
def flL (le li : Nat) (g : Nat → Int32) : List Value := [.ref le, .ref li, .int (g 0), .int (g 1)]
def wL (e : Int32 × Int32 × Int32) : List Value := [.int e.1, .int e.2.1, .int e.2.2]
def elC (E : gE) (L : lyC) (f : Nat) : Nat := if L.2.2 f = 0 then E.2.2.2 0 else L.1 (15, f, 0)
def vaC (K : kC) (L : lyC) (t : tC) (x : nmC) : Prop := match x.1 with
  | 3 => x.2.1 ≤ 64 ∧ x.2.2 = 0
  | 5 => x.2.1 < K.1 ∧ x.2.2 = 0
  | 6 => x.2.1 < K.1 ∧ x.2.2 = 0
  | 7 => x.2.1 < K.1 ∧ x.2.2 < K.2.1
  | 10 => x.2.1 < K.2.1 ∧ x.2.2 = 0
  | 11 => x.2.1 < K.2.1 ∧ x.2.2 = 0
  | 14 => x.2.1 < K.2.1 ∧ x.2.2 = 0
  | 15 => x.2.1 < K.2.1 ∧ x.2.2 = 0 ∧ 0 < L.2.2 x.2.1
  | 16 => x.2.1 < K.2.1 ∧ x.2.2 < (t.2.1 x.2.1).length
  | k => x.2.1 = 0 ∧ x.2.2 = 0 ∧ k < 17
def ceC (E : gE) (K : kC) (L : lyC) (t : tC) (x : nmC) : va_E := match x.1 with
  | 0 => .inr (1, [.ref (L.1 (1, 0, 0)), .ref (L.1 (8, 0, 0)), .ref (L.1 (4, 0, 0)), .int (nI K.2.1)])
  | 1 => .inr (5, [.ref (L.1 (2, 0, 0)), .int (nI t.2.2), .ref (L.1 (3, 64, 0))])
  | 2 => .inl (E.2.2.1 2, 64, .inr (.inr (.inr (.inr (fun i => some (L.1 (3, i, 0)))))))
  | 3 => .inr (4, mL (t.1 7 x.2.1))
  | 4 => .inl (E.2.2.1 3, K.1, .inr (.inr (.inr (.inr (fun i => some (L.1 (5, i, 0)))))))
  | 5 => .inr (2, clL (nI x.2.1) K.2.2.2 (L.1 (6, x.2.1, 0)) (t.1 0 x.2.1))
  | 6 => .inl (E.2.2.1 4, K.2.1, .inr (.inr (.inr (.inr (fun i => some (L.1 (7, x.2.1, i)))))))
  | 7 => .inr (3, yL (t.1 1 (4 * x.2.1 + x.2.2)))
  | 8 => .inr (7, svL K.2.2.1 (L.1 (9, 0, 0)) (L.1 (12, 0, 0)) (L.1 (13, 0, 0)) (t.1 2 0))
  | 9 => .inl (E.2.2.1 5, K.2.1, .inr (.inr (.inr (.inr (fun i => some (L.1 (10, i, 0)))))))
  | 10 => .inr (6, flL (L.1 (11, x.2.1, 0)) (L.1 (14, x.2.1, 0)) (t.1 3 x.2.1))
  | 11 => .inl (E.2.2.1 0, K.1, .inl (t.1 4 x.2.1))
  | 12 => .inl (E.2.2.1 0, K.1, .inl (t.1 5 0))
  | 13 => .inl (E.2.2.1 0, K.1, .inl (t.1 6 0))
  | 14 => .inr (9, [.ref (elC E L x.2.1), .int (nI (t.2.1 x.2.1).length), .int (L.2.1 x.2.1)])
  | 15 => .inl (E.2.2.1 6, L.2.2 x.2.1, .inr (.inr (.inr (.inr (fun i => if i < (t.2.1 x.2.1).length then some (L.1 (16, x.2.1, i)) else none)))))
  | _ => .inr (8, wL ((t.2.1 x.2.1).getD x.2.2 (0, 0, 0)))
def SysC (E : gE) (K : kC) (L : lyC) (t : tC) (w : wd) : Prop := (∀ x, vaC K L t x → wh w (L.1 x) (ceC E K L t x)) ∧ (∀ x y, vaC K L t x → vaC K L t y → L.1 x = L.1 y → x = y) ∧ (1 ≤ K.1 ∧ K.1 ≤ 4 ∧ 1 ≤ K.2.1 ∧ K.2.1 ≤ 4) ∧ t.2.2 ≤ 64 ∧ ∀ f, f < K.2.1 → (t.2.1 f).length ≤ L.2.2 f ∧ L.2.2 f ≤ 1000
theorem SysC.main {E : gE} {K : kC} {L : lyC} {t : tC} {w : wd} (h : SysC E K L t w) : wh w (L.1 (0, 0, 0)) (.inr (1, [.ref (L.1 (1, 0, 0)), .ref (L.1 (8, 0, 0)), .ref (L.1 (4, 0, 0)), .int (nI K.2.1)])) := h.1 (0, 0, 0) (show vaC K L t (0, 0, 0) from ⟨rfl, rfl, by decide⟩)
theorem SysC.pool {E : gE} {K : kC} {L : lyC} {t : tC} {w : wd} (h : SysC E K L t w) : wh w (L.1 (1, 0, 0)) (.inr (5, [.ref (L.1 (2, 0, 0)), .int (nI t.2.2), .ref (L.1 (3, 64, 0))])) := h.1 (1, 0, 0) (show vaC K L t (1, 0, 0) from ⟨rfl, rfl, by decide⟩)
theorem SysC.msgs {E : gE} {K : kC} {L : lyC} {t : tC} {w : wd} (h : SysC E K L t w) : wh w (L.1 (2, 0, 0)) (.inl (E.2.2.1 2, 64, .inr (.inr (.inr (.inr (fun i => some (L.1 (3, i, 0)))))))) := h.1 (2, 0, 0) (show vaC K L t (2, 0, 0) from ⟨rfl, rfl, by decide⟩)
theorem SysC.msg {E : gE} {K : kC} {L : lyC} {t : tC} {w : wd} (h : SysC E K L t w) {i : Nat} (hi : i ≤ 64) : wh w (L.1 (3, i, 0)) (.inr (4, mL (t.1 7 i))) := h.1 (3, i, 0) (show vaC K L t (3, i, 0) from ⟨hi, rfl⟩)
theorem SysC.clis {E : gE} {K : kC} {L : lyC} {t : tC} {w : wd} (h : SysC E K L t w) : wh w (L.1 (4, 0, 0)) (.inl (E.2.2.1 3, K.1, .inr (.inr (.inr (.inr (fun i => some (L.1 (5, i, 0)))))))) := h.1 (4, 0, 0) (show vaC K L t (4, 0, 0) from ⟨rfl, rfl, by decide⟩)
theorem SysC.cli {E : gE} {K : kC} {L : lyC} {t : tC} {w : wd} (h : SysC E K L t w) {c : Nat} (hc : c < K.1) : wh w (L.1 (5, c, 0)) (.inr (2, clL (nI c) K.2.2.2 (L.1 (6, c, 0)) (t.1 0 c))) := h.1 (5, c, 0) (show vaC K L t (5, c, 0) from ⟨hc, rfl⟩)
theorem SysC.cps {E : gE} {K : kC} {L : lyC} {t : tC} {w : wd} (h : SysC E K L t w) {c : Nat} (hc : c < K.1) : wh w (L.1 (6, c, 0)) (.inl (E.2.2.1 4, K.2.1, .inr (.inr (.inr (.inr (fun i => some (L.1 (7, c, i)))))))) := h.1 (6, c, 0) (show vaC K L t (6, c, 0) from ⟨hc, rfl⟩)
theorem SysC.cp {E : gE} {K : kC} {L : lyC} {t : tC} {w : wd} (h : SysC E K L t w) {c f : Nat} (hc : c < K.1) (hf : f < K.2.1) : wh w (L.1 (7, c, f)) (.inr (3, yL (t.1 1 (4 * c + f)))) := h.1 (7, c, f) (show vaC K L t (7, c, f) from ⟨hc, hf⟩)
theorem SysC.srv {E : gE} {K : kC} {L : lyC} {t : tC} {w : wd} (h : SysC E K L t w) : wh w (L.1 (8, 0, 0)) (.inr (7, svL K.2.2.1 (L.1 (9, 0, 0)) (L.1 (12, 0, 0)) (L.1 (13, 0, 0)) (t.1 2 0))) := h.1 (8, 0, 0) (show vaC K L t (8, 0, 0) from ⟨rfl, rfl, by decide⟩)
theorem SysC.fls {E : gE} {K : kC} {L : lyC} {t : tC} {w : wd} (h : SysC E K L t w) : wh w (L.1 (9, 0, 0)) (.inl (E.2.2.1 5, K.2.1, .inr (.inr (.inr (.inr (fun i => some (L.1 (10, i, 0)))))))) := h.1 (9, 0, 0) (show vaC K L t (9, 0, 0) from ⟨rfl, rfl, by decide⟩)
theorem SysC.fl {E : gE} {K : kC} {L : lyC} {t : tC} {w : wd} (h : SysC E K L t w) {f : Nat} (hf : f < K.2.1) : wh w (L.1 (10, f, 0)) (.inr (6, flL (L.1 (11, f, 0)) (L.1 (14, f, 0)) (t.1 3 f))) := h.1 (10, f, 0) (show vaC K L t (10, f, 0) from ⟨hf, rfl⟩)
theorem SysC.ends {E : gE} {K : kC} {L : lyC} {t : tC} {w : wd} (h : SysC E K L t w) {f : Nat} (hf : f < K.2.1) : wh w (L.1 (11, f, 0)) (.inl (E.2.2.1 0, K.1, .inl (t.1 4 f))) := h.1 (11, f, 0) (show vaC K L t (11, f, 0) from ⟨hf, rfl⟩)
theorem SysC.lws {E : gE} {K : kC} {L : lyC} {t : tC} {w : wd} (h : SysC E K L t w) : wh w (L.1 (12, 0, 0)) (.inl (E.2.2.1 0, K.1, .inl (t.1 5 0))) := h.1 (12, 0, 0) (show vaC K L t (12, 0, 0) from ⟨rfl, rfl, by decide⟩)
theorem SysC.lvs {E : gE} {K : kC} {L : lyC} {t : tC} {w : wd} (h : SysC E K L t w) : wh w (L.1 (13, 0, 0)) (.inl (E.2.2.1 0, K.1, .inl (t.1 6 0))) := h.1 (13, 0, 0) (show vaC K L t (13, 0, 0) from ⟨rfl, rfl, by decide⟩)
theorem SysC.lst {E : gE} {K : kC} {L : lyC} {t : tC} {w : wd} (h : SysC E K L t w) {f : Nat} (hf : f < K.2.1) : wh w (L.1 (14, f, 0)) (.inr (9, [.ref (elC E L f), .int (nI (t.2.1 f).length), .int (L.2.1 f)])) := h.1 (14, f, 0) (show vaC K L t (14, f, 0) from ⟨hf, rfl⟩)
theorem SysC.el {E : gE} {K : kC} {L : lyC} {t : tC} {w : wd} (h : SysC E K L t w) {f : Nat} (hf : f < K.2.1) (hcap : 0 < L.2.2 f) : wh w (L.1 (15, f, 0)) (.inl (E.2.2.1 6, L.2.2 f, .inr (.inr (.inr (.inr (fun i => if i < (t.2.1 f).length then some (L.1 (16, f, i)) else none)))))) := h.1 (15, f, 0) (show vaC K L t (15, f, 0) from ⟨hf, rfl, hcap⟩)
theorem SysC.wr {E : gE} {K : kC} {L : lyC} {t : tC} {w : wd} (h : SysC E K L t w) {f j : Nat} (hf : f < K.2.1) (hj : j < (t.2.1 f).length) : wh w (L.1 (16, f, j)) (.inr (8, wL ((t.2.1 f).getD j (0, 0, 0)))) := h.1 (16, f, j) (show vaC K L t (16, f, j) from ⟨hf, hj⟩)
theorem SysC.nc {E : gE} {K : kC} {L : lyC} {t : tC} {w : wd} (h : SysC E K L t w) : 1 ≤ K.1 ∧ K.1 ≤ 4 ∧ 1 ≤ K.2.1 ∧ K.2.1 ≤ 4 := h.2.2.1
theorem SysC.pn {E : gE} {K : kC} {L : lyC} {t : tC} {w : wd} (h : SysC E K L t w) : t.2.2 ≤ 64 := h.2.2.2.1
/-- which row of numbers a cell shows -/
def rowC (x : nmC) : Option (Nat × Nat) := match x.1 with
  | 3 => some (7, x.2.1)
  | 5 => some (0, x.2.1)
  | 7 => some (1, 4 * x.2.1 + x.2.2)
  | 8 => some (2, 0)
  | 10 => some (3, x.2.1)
  | 11 => some (4, x.2.1)
  | 12 => some (5, 0)
  | 13 => some (6, 0)
  | _ => none
theorem stC_row (t : tC) (k i j : Nat) (x : Int32) : (stC t k i j x).1 k i = upd (t.1 k i) j x := if_pos ⟨rfl, rfl⟩
theorem stC_oth (t : tC) {k i k' i' : Nat} (j : Nat) (x : Int32) (h : (k', i') ≠ (k, i)) : (stC t k i j x).1 k' i' = t.1 k' i' := if_neg (fun z => h (by rw [z.1, z.2]))
theorem ceC_oth (E : gE) (K : kC) (L : lyC) (t : tC) (k i j : Nat) (x : Int32) (y : nmC) (h : rowC y ≠ some (k, i)) : ceC E K L (stC t k i j x) y = ceC E K L t y := by
  have hz : ∀ k' i', rowC y = some (k', i') → (stC t k i j x).1 k' i' = t.1 k' i' := fun k' i' he => stC_oth t j x (fun z => h (he.trans (congrArg some z)))
  obtain ⟨a, b, c⟩ := y
  match a, hz with
  | 0, _ => rfl
  | 1, _ => rfl
  | 2, _ => rfl
  | 3, hz =>
    have e := hz 7 b rfl
    show Sum.inr (4, mL ((stC t k i j x).1 7 b)) = Sum.inr (4, mL (t.1 7 b))
    rw [e]
  | 4, _ => rfl
  | 5, hz =>
    have e := hz 0 b rfl
    show Sum.inr (2, clL (nI b) K.2.2.2 (L.1 (6, b, 0)) ((stC t k i j x).1 0 b)) = Sum.inr (2, clL (nI b) K.2.2.2 (L.1 (6, b, 0)) (t.1 0 b))
    rw [e]
  | 6, _ => rfl
  | 7, hz =>
    have e := hz 1 (4 * b + c) rfl
    show Sum.inr (3, yL ((stC t k i j x).1 1 (4 * b + c))) = Sum.inr (3, yL (t.1 1 (4 * b + c)))
    rw [e]
  | 8, hz =>
    have e := hz 2 0 rfl
    show Sum.inr (7, svL K.2.2.1 (L.1 (9, 0, 0)) (L.1 (12, 0, 0)) (L.1 (13, 0, 0)) ((stC t k i j x).1 2 0)) = Sum.inr (7, svL K.2.2.1 (L.1 (9, 0, 0)) (L.1 (12, 0, 0)) (L.1 (13, 0, 0)) (t.1 2 0))
    rw [e]
  | 9, _ => rfl
  | 10, hz =>
    have e := hz 3 b rfl
    show Sum.inr (6, flL (L.1 (11, b, 0)) (L.1 (14, b, 0)) ((stC t k i j x).1 3 b)) = Sum.inr (6, flL (L.1 (11, b, 0)) (L.1 (14, b, 0)) (t.1 3 b))
    rw [e]
  | 11, hz =>
    have e := hz 4 b rfl
    show Sum.inl (E.2.2.1 0, K.1, Sum.inl ((stC t k i j x).1 4 b)) = Sum.inl (E.2.2.1 0, K.1, Sum.inl (t.1 4 b))
    rw [e]
  | 12, hz =>
    have e := hz 5 0 rfl
    show Sum.inl (E.2.2.1 0, K.1, Sum.inl ((stC t k i j x).1 5 0)) = Sum.inl (E.2.2.1 0, K.1, Sum.inl (t.1 5 0))
    rw [e]
  | 13, hz =>
    have e := hz 6 0 rfl
    show Sum.inl (E.2.2.1 0, K.1, Sum.inl ((stC t k i j x).1 6 0)) = Sum.inl (E.2.2.1 0, K.1, Sum.inl (t.1 6 0))
    rw [e]
  | 14, _ => rfl
  | 15, _ => rfl
  | _ + 16, _ => rfl
/-- a row belongs to one cell -/
theorem rowC_inj {K : kC} {L : lyC} {t : tC} (hK : K.2.1 ≤ 4) {x y : nmC} {r : Nat × Nat} (hx : vaC K L t x) (hy : vaC K L t y) (ex : rowC x = some r) (ey : rowC y = some r) : x = y := by
  have e := ex.trans ey.symm
  have n1 : rowC x ≠ none := by rw [ex]; exact fun z => by cases z
  have n2 : rowC y ≠ none := by rw [ey]; exact fun z => by cases z
  clear ex ey
  obtain ⟨a, b, c⟩ := x
  obtain ⟨a', b', c'⟩ := y
  have key : ∀ (u v u' v' : Nat), some (u, v) = some (u', v') → u = u' ∧ v = v' := fun u v u' v' h => ⟨congrArg Prod.fst (Option.some.inj h), congrArg Prod.snd (Option.some.inj h)⟩
  have shape : ∀ (a b c : Nat), rowC (a, b, c) ≠ none → vaC K L t (a, b, c) → (a = 3 ∧ rowC (a, b, c) = some (7, b) ∧ c = 0) ∨ (a = 5 ∧ rowC (a, b, c) = some (0, b) ∧ c = 0) ∨ (a = 7 ∧ rowC (a, b, c) = some (1, 4 * b + c) ∧ c < 4) ∨ (a = 8 ∧ rowC (a, b, c) = some (2, 0) ∧ b = 0 ∧ c = 0) ∨ (a = 10 ∧ rowC (a, b, c) = some (3, b) ∧ c = 0) ∨ (a = 11 ∧ rowC (a, b, c) = some (4, b) ∧ c = 0) ∨ (a = 12 ∧ rowC (a, b, c) = some (5, 0) ∧ b = 0 ∧ c = 0) ∨ (a = 13 ∧ rowC (a, b, c) = some (6, 0) ∧ b = 0 ∧ c = 0) := by
    intro a b c hn hv
    match a, hn, hv with
    | 0, hn, _ => exact absurd rfl hn
    | 1, hn, _ => exact absurd rfl hn
    | 2, hn, _ => exact absurd rfl hn
    | 3, _, hv => exact Or.inl ⟨rfl, rfl, hv.2⟩
    | 4, hn, _ => exact absurd rfl hn
    | 5, _, hv => exact Or.inr (Or.inl ⟨rfl, rfl, hv.2⟩)
    | 6, hn, _ => exact absurd rfl hn
    | 7, _, hv => exact Or.inr (Or.inr (Or.inl ⟨rfl, rfl, Nat.lt_of_lt_of_le hv.2 hK⟩))
    | 8, _, hv => exact Or.inr (Or.inr (Or.inr (Or.inl ⟨rfl, rfl, hv.1, hv.2.1⟩)))
    | 9, hn, _ => exact absurd rfl hn
    | 10, _, hv => exact Or.inr (Or.inr (Or.inr (Or.inr (Or.inl ⟨rfl, rfl, hv.2⟩))))
    | 11, _, hv => exact Or.inr (Or.inr (Or.inr (Or.inr (Or.inr (Or.inl ⟨rfl, rfl, hv.2⟩)))))
    | 12, _, hv => exact Or.inr (Or.inr (Or.inr (Or.inr (Or.inr (Or.inr (Or.inl ⟨rfl, rfl, hv.1, hv.2.1⟩))))))
    | 13, _, hv => exact Or.inr (Or.inr (Or.inr (Or.inr (Or.inr (Or.inr (Or.inr ⟨rfl, rfl, hv.1, hv.2.1⟩))))))
    | 14, hn, _ => exact absurd rfl hn
    | 15, hn, _ => exact absurd rfl hn
    | _ + 16, hn, _ => exact absurd rfl hn
  have s1 := shape a b c n1 hx
  have s2 := shape a' b' c' n2 hy
  rcases s1 with s1 | s1 | s1 | s1 | s1 | s1 | s1 | s1 <;> rcases s2 with s2 | s2 | s2 | s2 | s2 | s2 | s2 | s2 <;>
    (rw [s1.2.1, s2.2.1] at e
     have q := key _ _ _ _ e
     have p1 := s1.2.2
     have p2 := s2.2.2
     obtain ⟨h1, -⟩ := s1
     obtain ⟨h2, -⟩ := s2
     first
       | (exfalso; omega)
       | (have e1 : a = a' := by omega
          have e2 : b = b' := by omega
          have e3 : c = c' := by omega
          rw [e1, e2, e3]))
/-- one number is written -/
theorem SysC.put {E : gE} {K : kC} {L : lyC} {t : tC} {w : wd} (h : SysC E K L t w) {y : nmC} {k i j : Nat} {x : Int32} (hy : vaC K L t y) (hr : rowC y = some (k, i)) {e : va_E} (he : ceC E K L (stC t k i j x) y = e) : SysC E K L (stC t k i j x) (wu w (L.1 y) e) := by
  obtain ⟨h1, h2, h3, h4, h5⟩ := h
  refine ⟨fun z hz => ?_, fun z z' hz hz' => h2 z z' hz hz', h3, h4, h5⟩
  have hz : vaC K L t z := hz
  by_cases hzy : z = y
  · subst hzy
    rw [he]
    exact (h1 z hz).us
  · rw [ceC_oth E K L t k i j x z (fun q => hzy (rowC_inj h3.2.2.2 hz hy q hr))]
    exact (h1 z hz).un (fun q => hzy (h2 z y hz hy q))
section KK
variable {E : gE} {Y : mY} {Z : gZ} {pc : Nat} {lv : List (Nat × Value)} {st : List Value} {w : wd} {ce sl : Nat} {K : kC} {L : lyC} {t : tC}
theorem k_msg {idx jj j : Nat} {x : Int32} {ty : FieldType} {i : Nat} (hi : i ≤ 64) (hd : decode Y.2.1 pc = .ok (.putfield idx, 3)) (hf0 : fdw Y.1.cls 4 jj idx ty false) (hs : SysC E K L t w) (he : ∀ g : Nat → Int32, (mL g).set jj (.int x) = mL (upd g j x)) (hn : narrow ty (.int x) = .int x) (hfit : fits ty (.int x) = true) (hl : jj < (mL (t.1 7 i)).length) (kk : ∀ w' : wd, SysC E K L (stC t 7 i j x) w' → G E Y Z (pc + 3) lv st w' ce sl) : G E Y Z pc lv (.int x :: .ref (L.1 (3, i, 0)) :: st) w ce sl := by
  refine g_put hd hf0 (Or.inl rfl) (hs.msg hi) hn hfit hl (kk _ ?_)
  refine hs.put (y := (3, i, 0)) (show vaC K L t (3, i, 0) from ⟨hi, rfl⟩) rfl ?_
  show Sum.inr (4, mL ((stC t 7 i j x).1 7 i)) = _
  rw [stC_row, he]
theorem k_cli {idx jj j : Nat} {x : Int32} {ty : FieldType} {c : Nat} (hc : c < K.1) (hd : decode Y.2.1 pc = .ok (.putfield idx, 3)) (hf0 : fdw Y.1.cls 2 jj idx ty false) (hs : SysC E K L t w) (he : ∀ g : Nat → Int32, (clL (nI c) K.2.2.2 (L.1 (6, c, 0)) g).set jj (.int x) = clL (nI c) K.2.2.2 (L.1 (6, c, 0)) (upd g j x)) (hn : narrow ty (.int x) = .int x) (hfit : fits ty (.int x) = true) (hl : jj < (clL (nI c) K.2.2.2 (L.1 (6, c, 0)) (t.1 0 c)).length) (kk : ∀ w' : wd, SysC E K L (stC t 0 c j x) w' → G E Y Z (pc + 3) lv st w' ce sl) : G E Y Z pc lv (.int x :: .ref (L.1 (5, c, 0)) :: st) w ce sl := by
  refine g_put hd hf0 (Or.inl rfl) (hs.cli hc) hn hfit hl (kk _ ?_)
  refine hs.put (y := (5, c, 0)) (show vaC K L t (5, c, 0) from ⟨hc, rfl⟩) rfl ?_
  show Sum.inr (2, clL (nI c) K.2.2.2 (L.1 (6, c, 0)) ((stC t 0 c j x).1 0 c)) = _
  rw [stC_row, he]
theorem k_cp {idx jj j : Nat} {x : Int32} {ty : FieldType} {c f : Nat} (hc : c < K.1) (hf : f < K.2.1) (hd : decode Y.2.1 pc = .ok (.putfield idx, 3)) (hf0 : fdw Y.1.cls 3 jj idx ty false) (hs : SysC E K L t w) (he : ∀ g : Nat → Int32, (yL g).set jj (.int x) = yL (upd g j x)) (hn : narrow ty (.int x) = .int x) (hfit : fits ty (.int x) = true) (hl : jj < (yL (t.1 1 (4 * c + f))).length) (kk : ∀ w' : wd, SysC E K L (stC t 1 (4 * c + f) j x) w' → G E Y Z (pc + 3) lv st w' ce sl) : G E Y Z pc lv (.int x :: .ref (L.1 (7, c, f)) :: st) w ce sl := by
  refine g_put hd hf0 (Or.inl rfl) (hs.cp hc hf) hn hfit hl (kk _ ?_)
  refine hs.put (y := (7, c, f)) (show vaC K L t (7, c, f) from ⟨hc, hf⟩) rfl ?_
  show Sum.inr (3, yL ((stC t 1 (4 * c + f) j x).1 1 (4 * c + f))) = _
  rw [stC_row, he]
theorem k_srv {idx jj j : Nat} {x : Int32} {ty : FieldType} (hd : decode Y.2.1 pc = .ok (.putfield idx, 3)) (hf0 : fdw Y.1.cls 7 jj idx ty false) (hs : SysC E K L t w) (he : ∀ g : Nat → Int32, (svL K.2.2.1 (L.1 (9, 0, 0)) (L.1 (12, 0, 0)) (L.1 (13, 0, 0)) g).set jj (.int x) = svL K.2.2.1 (L.1 (9, 0, 0)) (L.1 (12, 0, 0)) (L.1 (13, 0, 0)) (upd g j x)) (hn : narrow ty (.int x) = .int x) (hfit : fits ty (.int x) = true) (hl : jj < (svL K.2.2.1 (L.1 (9, 0, 0)) (L.1 (12, 0, 0)) (L.1 (13, 0, 0)) (t.1 2 0)).length) (kk : ∀ w' : wd, SysC E K L (stC t 2 0 j x) w' → G E Y Z (pc + 3) lv st w' ce sl) : G E Y Z pc lv (.int x :: .ref (L.1 (8, 0, 0)) :: st) w ce sl := by
  refine g_put hd hf0 (Or.inl rfl) (hs.srv ) hn hfit hl (kk _ ?_)
  refine hs.put (y := (8, 0, 0)) (show vaC K L t (8, 0, 0) from ⟨rfl, rfl, by decide⟩) rfl ?_
  show Sum.inr (7, svL K.2.2.1 (L.1 (9, 0, 0)) (L.1 (12, 0, 0)) (L.1 (13, 0, 0)) ((stC t 2 0 j x).1 2 0)) = _
  rw [stC_row, he]
theorem k_fl {idx jj j : Nat} {x : Int32} {ty : FieldType} {f : Nat} (hf : f < K.2.1) (hd : decode Y.2.1 pc = .ok (.putfield idx, 3)) (hf0 : fdw Y.1.cls 6 jj idx ty false) (hs : SysC E K L t w) (he : ∀ g : Nat → Int32, (flL (L.1 (11, f, 0)) (L.1 (14, f, 0)) g).set jj (.int x) = flL (L.1 (11, f, 0)) (L.1 (14, f, 0)) (upd g j x)) (hn : narrow ty (.int x) = .int x) (hfit : fits ty (.int x) = true) (hl : jj < (flL (L.1 (11, f, 0)) (L.1 (14, f, 0)) (t.1 3 f)).length) (kk : ∀ w' : wd, SysC E K L (stC t 3 f j x) w' → G E Y Z (pc + 3) lv st w' ce sl) : G E Y Z pc lv (.int x :: .ref (L.1 (10, f, 0)) :: st) w ce sl := by
  refine g_put hd hf0 (Or.inl rfl) (hs.fl hf) hn hfit hl (kk _ ?_)
  refine hs.put (y := (10, f, 0)) (show vaC K L t (10, f, 0) from ⟨hf, rfl⟩) rfl ?_
  show Sum.inr (6, flL (L.1 (11, f, 0)) (L.1 (14, f, 0)) ((stC t 3 f j x).1 3 f)) = _
  rw [stC_row, he]
theorem k_ends {j : Nat} {x i0 : Int32} {f : Nat} (hf : f < K.2.1) (hd : decode Y.2.1 pc = .ok (.iastore, 1)) (hs : SysC E K L t w) (hi : i0 = nI j) (hj : j < K.1) (kk : ∀ w' : wd, SysC E K L (stC t 4 f j x) w' → G E Y Z (pc + 1) lv st w' ce sl) : G E Y Z pc lv (.int x :: .int i0 :: .ref (L.1 (11, f, 0)) :: st) w ce sl := by
  have h4 := hs.nc
  refine g_iast hd (hs.ends hf) hi hj (by omega) (kk _ ?_)
  refine hs.put (y := (11, f, 0)) (show vaC K L t (11, f, 0) from ⟨hf, rfl⟩) rfl ?_
  show Sum.inl (E.2.2.1 0, K.1, Sum.inl ((stC t 4 f j x).1 4 f)) = _
  rw [stC_row]
theorem k_lws {j : Nat} {x i0 : Int32} (hd : decode Y.2.1 pc = .ok (.iastore, 1)) (hs : SysC E K L t w) (hi : i0 = nI j) (hj : j < K.1) (kk : ∀ w' : wd, SysC E K L (stC t 5 0 j x) w' → G E Y Z (pc + 1) lv st w' ce sl) : G E Y Z pc lv (.int x :: .int i0 :: .ref (L.1 (12, 0, 0)) :: st) w ce sl := by
  have h4 := hs.nc
  refine g_iast hd (hs.lws ) hi hj (by omega) (kk _ ?_)
  refine hs.put (y := (12, 0, 0)) (show vaC K L t (12, 0, 0) from ⟨rfl, rfl, by decide⟩) rfl ?_
  show Sum.inl (E.2.2.1 0, K.1, Sum.inl ((stC t 5 0 j x).1 5 0)) = _
  rw [stC_row]
theorem k_lvs {j : Nat} {x i0 : Int32} (hd : decode Y.2.1 pc = .ok (.iastore, 1)) (hs : SysC E K L t w) (hi : i0 = nI j) (hj : j < K.1) (kk : ∀ w' : wd, SysC E K L (stC t 6 0 j x) w' → G E Y Z (pc + 1) lv st w' ce sl) : G E Y Z pc lv (.int x :: .int i0 :: .ref (L.1 (13, 0, 0)) :: st) w ce sl := by
  have h4 := hs.nc
  refine g_iast hd (hs.lvs ) hi hj (by omega) (kk _ ?_)
  refine hs.put (y := (13, 0, 0)) (show vaC K L t (13, 0, 0) from ⟨rfl, rfl, by decide⟩) rfl ?_
  show Sum.inl (E.2.2.1 0, K.1, Sum.inl ((stC t 6 0 j x).1 6 0)) = _
  rw [stC_row]
/-- one message more -/
def cnC (t : tC) (n : Nat) : tC := (t.1, t.2.1, n)
theorem SysC.cnt {E : gE} {K : kC} {L : lyC} {t : tC} {w : wd} (h : SysC E K L t w) {n : Nat} (hn : n ≤ 64) : SysC E K L (cnC t n) (wu w (L.1 (1, 0, 0)) (.inr (5, [.ref (L.1 (2, 0, 0)), .int (nI n), .ref (L.1 (3, 64, 0))]))) := by
  have hp := h.pool
  obtain ⟨h1, h2, h3, h4, h5⟩ := h
  refine ⟨fun z hz => ?_, fun z z' hz hz' => h2 z z' hz hz', h3, hn, h5⟩
  have hz : vaC K L t z := hz
  by_cases hzy : z = (1, 0, 0)
  · subst hzy
    exact hp.us
  · have e : ceC E K L (cnC t n) z = ceC E K L t z := by
      obtain ⟨a, b, c⟩ := z
      match a, hz, hzy with
      | 0, _, _ => rfl
      | 1, hz, hzy =>
        exfalso
        have q : b = 0 ∧ c = 0 ∧ 1 < 17 := hz
        exact hzy (by rw [q.1, q.2.1])
      | 2, _, _ => rfl
      | 3, _, _ => rfl
      | 4, _, _ => rfl
      | 5, _, _ => rfl
      | 6, _, _ => rfl
      | 7, _, _ => rfl
      | 8, _, _ => rfl
      | 9, _, _ => rfl
      | 10, _, _ => rfl
      | 11, _, _ => rfl
      | 12, _, _ => rfl
      | 13, _, _ => rfl
      | 14, _, _ => rfl
      | 15, _, _ => rfl
      | _ + 16, _, _ => rfl
    rw [e]
    exact (h1 z hz).un (fun q => hzy (h2 z (1, 0, 0) hz (show vaC K L t (1, 0, 0) from ⟨rfl, rfl, by decide⟩) q))
end KK
end
section
abbrev y_L_init : mY := (⟨"LeasedFiles", "<init>", "(IIII)V"⟩, prog_1_method_1_code, 9, none)
set_option maxRecDepth 100000 in
theorem ok_L_init : okY y_L_init 4 := ⟨ws_at 23 rfl rfl, ws_at 1 (by decide +kernel) rfl, ⟨by decide +kernel, by decide +kernel⟩, by decide +kernel, by decide⟩
theorem in_L_init : Cond.instanceMethod y_L_init.1 ∈ WS := ws_at 22 (by decide +kernel) rfl
abbrev y_L_clamp : mY := (⟨"LeasedFiles", "clamp", "(II)I"⟩, prog_1_method_26_code, 2, (some .int))
set_option maxRecDepth 100000 in
theorem ok_L_clamp : okY y_L_clamp 2 := ⟨ws_at 29 rfl rfl, ws_at 1 (by decide +kernel) rfl, ⟨by decide +kernel, by decide +kernel⟩, by decide +kernel, by decide⟩
theorem st_L_clamp : Cond.static y_L_clamp.1 ∈ WS := ws_at 28 (by decide +kernel) rfl
abbrev y_L_read : mY := (⟨"LeasedFiles", "read", "(II)I"⟩, prog_1_method_2_code, 3, (some .int))
set_option maxRecDepth 100000 in
theorem ok_L_read : okY y_L_read 2 := ⟨ws_at 281 rfl rfl, ws_at 1 (by decide +kernel) rfl, ⟨by decide +kernel, by decide +kernel⟩, by decide +kernel, by decide⟩
theorem in_L_read : Cond.instanceMethod y_L_read.1 ∈ WS := ws_at 279 (by decide +kernel) rfl
theorem se_L_read : Cond.selects "LeasedFiles" y_L_read.1 y_L_read.1 ∈ WS := ws_at 280 (by decide +kernel) rfl
abbrev y_L_hasClient : mY := (⟨"LeasedFiles", "hasClient", "(I)Z"⟩, prog_1_method_22_code, 2, (some .boolean))
set_option maxRecDepth 100000 in
theorem ok_L_hasClient : okY y_L_hasClient 1 := ⟨ws_at 285 rfl rfl, ws_at 1 (by decide +kernel) rfl, ⟨by decide +kernel, by decide +kernel⟩, by decide +kernel, by decide⟩
theorem in_L_hasClient : Cond.instanceMethod y_L_hasClient.1 ∈ WS := ws_at 284 (by decide +kernel) rfl
theorem se_L_hasClient : Cond.selects "LeasedFiles" y_L_hasClient.1 y_L_hasClient.1 ∈ WS := ws_sel 0 (q := (y_L_hasClient.1, 4)) (by decide +kernel)
abbrev y_L_hasFile : mY := (⟨"LeasedFiles", "hasFile", "(I)Z"⟩, prog_1_method_23_code, 2, (some .boolean))
set_option maxRecDepth 100000 in
theorem ok_L_hasFile : okY y_L_hasFile 1 := ⟨ws_at 289 rfl rfl, ws_at 1 (by decide +kernel) rfl, ⟨by decide +kernel, by decide +kernel⟩, by decide +kernel, by decide⟩
theorem in_L_hasFile : Cond.instanceMethod y_L_hasFile.1 ∈ WS := ws_at 288 (by decide +kernel) rfl
theorem se_L_hasFile : Cond.selects "LeasedFiles" y_L_hasFile.1 y_L_hasFile.1 ∈ WS := ws_sel 1 (q := (y_L_hasFile.1, 4)) (by decide +kernel)
abbrev y_L_write : mY := (⟨"LeasedFiles", "write", "(III)I"⟩, prog_1_method_3_code, 4, (some .int))
set_option maxRecDepth 100000 in
theorem ok_L_write : okY y_L_write 3 := ⟨ws_at 317 rfl rfl, ws_at 1 (by decide +kernel) rfl, ⟨by decide +kernel, by decide +kernel⟩, by decide +kernel, by decide⟩
theorem in_L_write : Cond.instanceMethod y_L_write.1 ∈ WS := ws_at 315 (by decide +kernel) rfl
theorem se_L_write : Cond.selects "LeasedFiles" y_L_write.1 y_L_write.1 ∈ WS := ws_at 316 (by decide +kernel) rfl
abbrev y_L_retry : mY := (⟨"LeasedFiles", "retry", "(I)I"⟩, prog_1_method_4_code, 2, (some .int))
set_option maxRecDepth 100000 in
theorem ok_L_retry : okY y_L_retry 1 := ⟨ws_at 325 rfl rfl, ws_at 1 (by decide +kernel) rfl, ⟨by decide +kernel, by decide +kernel⟩, by decide +kernel, by decide⟩
theorem in_L_retry : Cond.instanceMethod y_L_retry.1 ∈ WS := ws_at 323 (by decide +kernel) rfl
theorem se_L_retry : Cond.selects "LeasedFiles" y_L_retry.1 y_L_retry.1 ∈ WS := ws_at 324 (by decide +kernel) rfl
abbrev y_L_status : mY := (⟨"LeasedFiles", "status", "(I)I"⟩, prog_1_method_5_code, 2, (some .int))
set_option maxRecDepth 100000 in
theorem ok_L_status : okY y_L_status 1 := ⟨ws_at 333 rfl rfl, ws_at 1 (by decide +kernel) rfl, ⟨by decide +kernel, by decide +kernel⟩, by decide +kernel, by decide⟩
theorem in_L_status : Cond.instanceMethod y_L_status.1 ∈ WS := ws_at 331 (by decide +kernel) rfl
theorem se_L_status : Cond.selects "LeasedFiles" y_L_status.1 y_L_status.1 ∈ WS := ws_at 332 (by decide +kernel) rfl
abbrev y_L_result : mY := (⟨"LeasedFiles", "result", "(I)I"⟩, prog_1_method_6_code, 2, (some .int))
set_option maxRecDepth 100000 in
theorem ok_L_result : okY y_L_result 1 := ⟨ws_at 337 rfl rfl, ws_at 1 (by decide +kernel) rfl, ⟨by decide +kernel, by decide +kernel⟩, by decide +kernel, by decide⟩
theorem in_L_result : Cond.instanceMethod y_L_result.1 ∈ WS := ws_at 335 (by decide +kernel) rfl
theorem se_L_result : Cond.selects "LeasedFiles" y_L_result.1 y_L_result.1 ∈ WS := ws_at 336 (by decide +kernel) rfl
abbrev y_L_isDone : mY := (⟨"LeasedFiles", "isDone", "(I)Z"⟩, prog_1_method_24_code, 2, (some .boolean))
set_option maxRecDepth 100000 in
theorem ok_L_isDone : okY y_L_isDone 1 := ⟨ws_at 341 rfl rfl, ws_at 1 (by decide +kernel) rfl, ⟨by decide +kernel, by decide +kernel⟩, by decide +kernel, by decide⟩
theorem in_L_isDone : Cond.instanceMethod y_L_isDone.1 ∈ WS := ws_at 340 (by decide +kernel) rfl
theorem se_L_isDone : Cond.selects "LeasedFiles" y_L_isDone.1 y_L_isDone.1 ∈ WS := ws_sel 5 (q := (y_L_isDone.1, 4)) (by decide +kernel)
abbrev y_L_version : mY := (⟨"LeasedFiles", "version", "(I)I"⟩, prog_1_method_7_code, 2, (some .int))
set_option maxRecDepth 100000 in
theorem ok_L_version : okY y_L_version 1 := ⟨ws_at 345 rfl rfl, ws_at 1 (by decide +kernel) rfl, ⟨by decide +kernel, by decide +kernel⟩, by decide +kernel, by decide⟩
theorem in_L_version : Cond.instanceMethod y_L_version.1 ∈ WS := ws_at 343 (by decide +kernel) rfl
theorem se_L_version : Cond.selects "LeasedFiles" y_L_version.1 y_L_version.1 ∈ WS := ws_at 344 (by decide +kernel) rfl
abbrev y_L_deliver : mY := (⟨"LeasedFiles", "deliver", "(I)I"⟩, prog_1_method_8_code, 3, (some .int))
set_option maxRecDepth 100000 in
theorem ok_L_deliver : okY y_L_deliver 1 := ⟨ws_at 349 rfl rfl, ws_at 1 (by decide +kernel) rfl, ⟨by decide +kernel, by decide +kernel⟩, by decide +kernel, by decide⟩
theorem in_L_deliver : Cond.instanceMethod y_L_deliver.1 ∈ WS := ws_at 347 (by decide +kernel) rfl
theorem se_L_deliver : Cond.selects "LeasedFiles" y_L_deliver.1 y_L_deliver.1 ∈ WS := ws_at 348 (by decide +kernel) rfl
abbrev y_L_lose : mY := (⟨"LeasedFiles", "lose", "(I)Z"⟩, prog_1_method_9_code, 2, (some .boolean))
set_option maxRecDepth 100000 in
theorem ok_L_lose : okY y_L_lose 1 := ⟨ws_at 552 rfl rfl, ws_at 1 (by decide +kernel) rfl, ⟨by decide +kernel, by decide +kernel⟩, by decide +kernel, by decide⟩
theorem in_L_lose : Cond.instanceMethod y_L_lose.1 ∈ WS := ws_at 550 (by decide +kernel) rfl
theorem se_L_lose : Cond.selects "LeasedFiles" y_L_lose.1 y_L_lose.1 ∈ WS := ws_at 551 (by decide +kernel) rfl
abbrev y_L_pending : mY := (⟨"LeasedFiles", "pending", "()I"⟩, prog_1_method_10_code, 1, (some .int))
set_option maxRecDepth 100000 in
theorem ok_L_pending : okY y_L_pending 0 := ⟨ws_at 556 rfl rfl, ws_at 1 (by decide +kernel) rfl, ⟨by decide +kernel, by decide +kernel⟩, by decide +kernel, by decide⟩
theorem in_L_pending : Cond.instanceMethod y_L_pending.1 ∈ WS := ws_at 554 (by decide +kernel) rfl
theorem se_L_pending : Cond.selects "LeasedFiles" y_L_pending.1 y_L_pending.1 ∈ WS := ws_at 555 (by decide +kernel) rfl
abbrev y_L_message : mY := (⟨"LeasedFiles", "message", "(II)I"⟩, prog_1_method_11_code, 3, (some .int))
set_option maxRecDepth 100000 in
theorem ok_L_message : okY y_L_message 2 := ⟨ws_at 560 rfl rfl, ws_at 1 (by decide +kernel) rfl, ⟨by decide +kernel, by decide +kernel⟩, by decide +kernel, by decide⟩
theorem in_L_message : Cond.instanceMethod y_L_message.1 ∈ WS := ws_at 558 (by decide +kernel) rfl
theorem se_L_message : Cond.selects "LeasedFiles" y_L_message.1 y_L_message.1 ∈ WS := ws_at 559 (by decide +kernel) rfl
abbrev y_L_tick : mY := (⟨"LeasedFiles", "tick", "(I)I"⟩, prog_1_method_12_code, 2, (some .int))
set_option maxRecDepth 100000 in
theorem ok_L_tick : okY y_L_tick 1 := ⟨ws_at 568 rfl rfl, ws_at 1 (by decide +kernel) rfl, ⟨by decide +kernel, by decide +kernel⟩, by decide +kernel, by decide⟩
theorem in_L_tick : Cond.instanceMethod y_L_tick.1 ∈ WS := ws_at 566 (by decide +kernel) rfl
theorem se_L_tick : Cond.selects "LeasedFiles" y_L_tick.1 y_L_tick.1 ∈ WS := ws_at 567 (by decide +kernel) rfl
abbrev y_L_isStep : mY := (⟨"LeasedFiles", "isStep", "(I)Z"⟩, prog_1_method_25_code, 1, (some .boolean))
set_option maxRecDepth 100000 in
theorem ok_L_isStep : okY y_L_isStep 1 := ⟨ws_at 571 rfl rfl, ws_at 1 (by decide +kernel) rfl, ⟨by decide +kernel, by decide +kernel⟩, by decide +kernel, by decide⟩
theorem st_L_isStep : Cond.static y_L_isStep.1 ∈ WS := ws_at 570 (by decide +kernel) rfl
abbrev y_L_pass : mY := (⟨"LeasedFiles", "pass", "(II)I"⟩, prog_1_method_13_code, 3, (some .int))
set_option maxRecDepth 100000 in
theorem ok_L_pass : okY y_L_pass 2 := ⟨ws_at 579 rfl rfl, ws_at 1 (by decide +kernel) rfl, ⟨by decide +kernel, by decide +kernel⟩, by decide +kernel, by decide⟩
theorem in_L_pass : Cond.instanceMethod y_L_pass.1 ∈ WS := ws_at 577 (by decide +kernel) rfl
theorem se_L_pass : Cond.selects "LeasedFiles" y_L_pass.1 y_L_pass.1 ∈ WS := ws_at 578 (by decide +kernel) rfl
abbrev y_L_crash : mY := (⟨"LeasedFiles", "crash", "(I)I"⟩, prog_1_method_14_code, 2, (some .int))
set_option maxRecDepth 100000 in
theorem ok_L_crash : okY y_L_crash 1 := ⟨ws_at 583 rfl rfl, ws_at 1 (by decide +kernel) rfl, ⟨by decide +kernel, by decide +kernel⟩, by decide +kernel, by decide⟩
theorem in_L_crash : Cond.instanceMethod y_L_crash.1 ∈ WS := ws_at 581 (by decide +kernel) rfl
theorem se_L_crash : Cond.selects "LeasedFiles" y_L_crash.1 y_L_crash.1 ∈ WS := ws_at 582 (by decide +kernel) rfl
abbrev y_L_halt : mY := (⟨"LeasedFiles", "halt", "()I"⟩, prog_1_method_15_code, 1, (some .int))
set_option maxRecDepth 100000 in
theorem ok_L_halt : okY y_L_halt 0 := ⟨ws_at 591 rfl rfl, ws_at 1 (by decide +kernel) rfl, ⟨by decide +kernel, by decide +kernel⟩, by decide +kernel, by decide⟩
theorem in_L_halt : Cond.instanceMethod y_L_halt.1 ∈ WS := ws_at 589 (by decide +kernel) rfl
theorem se_L_halt : Cond.selects "LeasedFiles" y_L_halt.1 y_L_halt.1 ∈ WS := ws_at 590 (by decide +kernel) rfl
abbrev y_L_restart : mY := (⟨"LeasedFiles", "restart", "()I"⟩, prog_1_method_16_code, 1, (some .int))
set_option maxRecDepth 100000 in
theorem ok_L_restart : okY y_L_restart 0 := ⟨ws_at 608 rfl rfl, ws_at 1 (by decide +kernel) rfl, ⟨by decide +kernel, by decide +kernel⟩, by decide +kernel, by decide⟩
theorem in_L_restart : Cond.instanceMethod y_L_restart.1 ∈ WS := ws_at 606 (by decide +kernel) rfl
theorem se_L_restart : Cond.selects "LeasedFiles" y_L_restart.1 y_L_restart.1 ∈ WS := ws_at 607 (by decide +kernel) rfl
abbrev y_L_copy : mY := (⟨"LeasedFiles", "copy", "(III)I"⟩, prog_1_method_17_code, 4, (some .int))
set_option maxRecDepth 100000 in
theorem ok_L_copy : okY y_L_copy 3 := ⟨ws_at 616 rfl rfl, ws_at 1 (by decide +kernel) rfl, ⟨by decide +kernel, by decide +kernel⟩, by decide +kernel, by decide⟩
theorem in_L_copy : Cond.instanceMethod y_L_copy.1 ∈ WS := ws_at 614 (by decide +kernel) rfl
theorem se_L_copy : Cond.selects "LeasedFiles" y_L_copy.1 y_L_copy.1 ∈ WS := ws_at 615 (by decide +kernel) rfl
abbrev y_L_timeLeft : mY := (⟨"LeasedFiles", "timeLeft", "(II)I"⟩, prog_1_method_27_code, 2, (some .int))
set_option maxRecDepth 100000 in
theorem ok_L_timeLeft : okY y_L_timeLeft 2 := ⟨ws_at 623 rfl rfl, ws_at 1 (by decide +kernel) rfl, ⟨by decide +kernel, by decide +kernel⟩, by decide +kernel, by decide⟩
theorem st_L_timeLeft : Cond.static y_L_timeLeft.1 ∈ WS := ws_at 622 (by decide +kernel) rfl
abbrev y_L_lease : mY := (⟨"LeasedFiles", "lease", "(II)I"⟩, prog_1_method_18_code, 3, (some .int))
set_option maxRecDepth 100000 in
theorem ok_L_lease : okY y_L_lease 2 := ⟨ws_at 627 rfl rfl, ws_at 1 (by decide +kernel) rfl, ⟨by decide +kernel, by decide +kernel⟩, by decide +kernel, by decide⟩
theorem in_L_lease : Cond.instanceMethod y_L_lease.1 ∈ WS := ws_at 625 (by decide +kernel) rfl
theorem se_L_lease : Cond.selects "LeasedFiles" y_L_lease.1 y_L_lease.1 ∈ WS := ws_at 626 (by decide +kernel) rfl
abbrev y_L_file : mY := (⟨"LeasedFiles", "file", "(II)I"⟩, prog_1_method_19_code, 3, (some .int))
set_option maxRecDepth 100000 in
theorem ok_L_file : okY y_L_file 2 := ⟨ws_at 632 rfl rfl, ws_at 1 (by decide +kernel) rfl, ⟨by decide +kernel, by decide +kernel⟩, by decide +kernel, by decide⟩
theorem in_L_file : Cond.instanceMethod y_L_file.1 ∈ WS := ws_at 630 (by decide +kernel) rfl
theorem se_L_file : Cond.selects "LeasedFiles" y_L_file.1 y_L_file.1 ∈ WS := ws_at 631 (by decide +kernel) rfl
abbrev y_L_server : mY := (⟨"LeasedFiles", "server", "(I)I"⟩, prog_1_method_20_code, 2, (some .int))
set_option maxRecDepth 100000 in
theorem ok_L_server : okY y_L_server 1 := ⟨ws_at 640 rfl rfl, ws_at 1 (by decide +kernel) rfl, ⟨by decide +kernel, by decide +kernel⟩, by decide +kernel, by decide⟩
theorem in_L_server : Cond.instanceMethod y_L_server.1 ∈ WS := ws_at 638 (by decide +kernel) rfl
theorem se_L_server : Cond.selects "LeasedFiles" y_L_server.1 y_L_server.1 ∈ WS := ws_at 639 (by decide +kernel) rfl
abbrev y_L_client : mY := (⟨"LeasedFiles", "client", "(II)I"⟩, prog_1_method_21_code, 3, (some .int))
set_option maxRecDepth 100000 in
theorem ok_L_client : okY y_L_client 2 := ⟨ws_at 649 rfl rfl, ws_at 1 (by decide +kernel) rfl, ⟨by decide +kernel, by decide +kernel⟩, by decide +kernel, by decide⟩
theorem in_L_client : Cond.instanceMethod y_L_client.1 ∈ WS := ws_at 647 (by decide +kernel) rfl
theorem se_L_client : Cond.selects "LeasedFiles" y_L_client.1 y_L_client.1 ∈ WS := ws_at 648 (by decide +kernel) rfl
abbrev y_C_init : mY := (⟨"LeasedFiles$Client", "<init>", "(III)V"⟩, prog_2_method_1_code, 5, none)
set_option maxRecDepth 100000 in
theorem ok_C_init : okY y_C_init 3 := ⟨ws_at 195 rfl rfl, ws_at 10 (by decide +kernel) rfl, ⟨by decide +kernel, by decide +kernel⟩, by decide +kernel, by decide⟩
theorem in_C_init : Cond.instanceMethod y_C_init.1 ∈ WS := ws_at 194 (by decide +kernel) rfl
abbrev y_C_startRead : mY := (⟨"LeasedFiles$Client", "startRead", "(ILLeasedFiles$Pool;)I"⟩, prog_2_method_2_code, 4, (some .int))
set_option maxRecDepth 100000 in
theorem ok_C_startRead : okY y_C_startRead 2 := ⟨ws_at 293 rfl rfl, ws_at 10 (by decide +kernel) rfl, ⟨by decide +kernel, by decide +kernel⟩, by decide +kernel, by decide⟩
theorem in_C_startRead : Cond.instanceMethod y_C_startRead.1 ∈ WS := ws_at 291 (by decide +kernel) rfl
theorem se_C_startRead : Cond.selects "LeasedFiles$Client" y_C_startRead.1 y_C_startRead.1 ∈ WS := ws_at 292 (by decide +kernel) rfl
abbrev y_C_startOperation : mY := (⟨"LeasedFiles$Client", "startOperation", "(IZ)V"⟩, prog_2_method_8_code, 3, none)
set_option maxRecDepth 100000 in
theorem ok_C_startOperation : okY y_C_startOperation 2 := ⟨ws_at 297 rfl rfl, ws_at 10 (by decide +kernel) rfl, ⟨by decide +kernel, by decide +kernel⟩, by decide +kernel, by decide⟩
theorem in_C_startOperation : Cond.instanceMethod y_C_startOperation.1 ∈ WS := ws_at 296 (by decide +kernel) rfl
theorem se_C_startOperation : Cond.selects "LeasedFiles$Client" y_C_startOperation.1 y_C_startOperation.1 ∈ WS := ws_sel 2 (q := (y_C_startOperation.1, 13)) (by decide +kernel)
abbrev y_C_finish : mY := (⟨"LeasedFiles$Client", "finish", "(II)V"⟩, prog_2_method_15_code, 3, none)
set_option maxRecDepth 100000 in
theorem ok_C_finish : okY y_C_finish 2 := ⟨ws_at 305 rfl rfl, ws_at 10 (by decide +kernel) rfl, ⟨by decide +kernel, by decide +kernel⟩, by decide +kernel, by decide⟩
theorem in_C_finish : Cond.instanceMethod y_C_finish.1 ∈ WS := ws_at 304 (by decide +kernel) rfl
theorem se_C_finish : Cond.selects "LeasedFiles$Client" y_C_finish.1 y_C_finish.1 ∈ WS := ws_sel 3 (q := (y_C_finish.1, 13)) (by decide +kernel)
abbrev y_C_sendRequest : mY := (⟨"LeasedFiles$Client", "sendRequest", "(LLeasedFiles$Pool;)V"⟩, prog_2_method_9_code, 2, none)
set_option maxRecDepth 100000 in
theorem ok_C_sendRequest : okY y_C_sendRequest 1 := ⟨ws_at 309 rfl rfl, ws_at 10 (by decide +kernel) rfl, ⟨by decide +kernel, by decide +kernel⟩, by decide +kernel, by decide⟩
theorem in_C_sendRequest : Cond.instanceMethod y_C_sendRequest.1 ∈ WS := ws_at 308 (by decide +kernel) rfl
theorem se_C_sendRequest : Cond.selects "LeasedFiles$Client" y_C_sendRequest.1 y_C_sendRequest.1 ∈ WS := ws_sel 4 (q := (y_C_sendRequest.1, 13)) (by decide +kernel)
abbrev y_C_startWrite : mY := (⟨"LeasedFiles$Client", "startWrite", "(IILLeasedFiles$Pool;)I"⟩, prog_2_method_3_code, 4, (some .int))
set_option maxRecDepth 100000 in
theorem ok_C_startWrite : okY y_C_startWrite 3 := ⟨ws_at 321 rfl rfl, ws_at 10 (by decide +kernel) rfl, ⟨by decide +kernel, by decide +kernel⟩, by decide +kernel, by decide⟩
theorem in_C_startWrite : Cond.instanceMethod y_C_startWrite.1 ∈ WS := ws_at 319 (by decide +kernel) rfl
theorem se_C_startWrite : Cond.selects "LeasedFiles$Client" y_C_startWrite.1 y_C_startWrite.1 ∈ WS := ws_at 320 (by decide +kernel) rfl
abbrev y_C_sendAgain : mY := (⟨"LeasedFiles$Client", "sendAgain", "(LLeasedFiles$Pool;)I"⟩, prog_2_method_4_code, 2, (some .int))
set_option maxRecDepth 100000 in
theorem ok_C_sendAgain : okY y_C_sendAgain 1 := ⟨ws_at 329 rfl rfl, ws_at 10 (by decide +kernel) rfl, ⟨by decide +kernel, by decide +kernel⟩, by decide +kernel, by decide⟩
theorem in_C_sendAgain : Cond.instanceMethod y_C_sendAgain.1 ∈ WS := ws_at 327 (by decide +kernel) rfl
theorem se_C_sendAgain : Cond.selects "LeasedFiles$Client" y_C_sendAgain.1 y_C_sendAgain.1 ∈ WS := ws_at 328 (by decide +kernel) rfl
abbrev y_C_receive : mY := (⟨"LeasedFiles$Client", "receive", "(LLeasedFiles$Message;LLeasedFiles$Pool;)V"⟩, prog_2_method_6_code, 3, none)
set_option maxRecDepth 100000 in
theorem ok_C_receive : okY y_C_receive 2 := ⟨ws_at 524 rfl rfl, ws_at 10 (by decide +kernel) rfl, ⟨by decide +kernel, by decide +kernel⟩, by decide +kernel, by decide⟩
theorem in_C_receive : Cond.instanceMethod y_C_receive.1 ∈ WS := ws_at 522 (by decide +kernel) rfl
theorem se_C_receive : Cond.selects "LeasedFiles$Client" y_C_receive.1 y_C_receive.1 ∈ WS := ws_at 523 (by decide +kernel) rfl
abbrev y_C_receiveGiven : mY := (⟨"LeasedFiles$Client", "receiveGiven", "(LLeasedFiles$Message;)V"⟩, prog_2_method_10_code, 2, none)
set_option maxRecDepth 100000 in
theorem ok_C_receiveGiven : okY y_C_receiveGiven 1 := ⟨ws_at 528 rfl rfl, ws_at 10 (by decide +kernel) rfl, ⟨by decide +kernel, by decide +kernel⟩, by decide +kernel, by decide⟩
theorem in_C_receiveGiven : Cond.instanceMethod y_C_receiveGiven.1 ∈ WS := ws_at 527 (by decide +kernel) rfl
theorem se_C_receiveGiven : Cond.selects "LeasedFiles$Client" y_C_receiveGiven.1 y_C_receiveGiven.1 ∈ WS := ws_sel 17 (q := (y_C_receiveGiven.1, 13)) (by decide +kernel)
abbrev y_C_waitsToRead : mY := (⟨"LeasedFiles$Client", "waitsToRead", "()Z"⟩, prog_2_method_13_code, 1, (some .boolean))
set_option maxRecDepth 100000 in
theorem ok_C_waitsToRead : okY y_C_waitsToRead 0 := ⟨ws_at 532 rfl rfl, ws_at 10 (by decide +kernel) rfl, ⟨by decide +kernel, by decide +kernel⟩, by decide +kernel, by decide⟩
theorem in_C_waitsToRead : Cond.instanceMethod y_C_waitsToRead.1 ∈ WS := ws_at 531 (by decide +kernel) rfl
theorem se_C_waitsToRead : Cond.selects "LeasedFiles$Client" y_C_waitsToRead.1 y_C_waitsToRead.1 ∈ WS := ws_sel 18 (q := (y_C_waitsToRead.1, 13)) (by decide +kernel)
abbrev y_C_receiveStored : mY := (⟨"LeasedFiles$Client", "receiveStored", "(LLeasedFiles$Message;)V"⟩, prog_2_method_11_code, 2, none)
set_option maxRecDepth 100000 in
theorem ok_C_receiveStored : okY y_C_receiveStored 1 := ⟨ws_at 540 rfl rfl, ws_at 10 (by decide +kernel) rfl, ⟨by decide +kernel, by decide +kernel⟩, by decide +kernel, by decide⟩
theorem in_C_receiveStored : Cond.instanceMethod y_C_receiveStored.1 ∈ WS := ws_at 539 (by decide +kernel) rfl
theorem se_C_receiveStored : Cond.selects "LeasedFiles$Client" y_C_receiveStored.1 y_C_receiveStored.1 ∈ WS := ws_sel 19 (q := (y_C_receiveStored.1, 13)) (by decide +kernel)
abbrev y_C_waitsToWrite : mY := (⟨"LeasedFiles$Client", "waitsToWrite", "()Z"⟩, prog_2_method_14_code, 1, (some .boolean))
set_option maxRecDepth 100000 in
theorem ok_C_waitsToWrite : okY y_C_waitsToWrite 0 := ⟨ws_at 544 rfl rfl, ws_at 10 (by decide +kernel) rfl, ⟨by decide +kernel, by decide +kernel⟩, by decide +kernel, by decide⟩
theorem in_C_waitsToWrite : Cond.instanceMethod y_C_waitsToWrite.1 ∈ WS := ws_at 543 (by decide +kernel) rfl
theorem se_C_waitsToWrite : Cond.selects "LeasedFiles$Client" y_C_waitsToWrite.1 y_C_waitsToWrite.1 ∈ WS := ws_sel 20 (q := (y_C_waitsToWrite.1, 13)) (by decide +kernel)
abbrev y_C_receiveRecall : mY := (⟨"LeasedFiles$Client", "receiveRecall", "(LLeasedFiles$Message;LLeasedFiles$Pool;)V"⟩, prog_2_method_12_code, 3, none)
set_option maxRecDepth 100000 in
theorem ok_C_receiveRecall : okY y_C_receiveRecall 2 := ⟨ws_at 548 rfl rfl, ws_at 10 (by decide +kernel) rfl, ⟨by decide +kernel, by decide +kernel⟩, by decide +kernel, by decide⟩
theorem in_C_receiveRecall : Cond.instanceMethod y_C_receiveRecall.1 ∈ WS := ws_at 547 (by decide +kernel) rfl
theorem se_C_receiveRecall : Cond.selects "LeasedFiles$Client" y_C_receiveRecall.1 y_C_receiveRecall.1 ∈ WS := ws_sel 21 (q := (y_C_receiveRecall.1, 13)) (by decide +kernel)
abbrev y_C_forget : mY := (⟨"LeasedFiles$Client", "forget", "()I"⟩, prog_2_method_5_code, 3, (some .int))
set_option maxRecDepth 100000 in
theorem ok_C_forget : okY y_C_forget 0 := ⟨ws_at 587 rfl rfl, ws_at 10 (by decide +kernel) rfl, ⟨by decide +kernel, by decide +kernel⟩, by decide +kernel, by decide⟩
theorem in_C_forget : Cond.instanceMethod y_C_forget.1 ∈ WS := ws_at 585 (by decide +kernel) rfl
theorem se_C_forget : Cond.selects "LeasedFiles$Client" y_C_forget.1 y_C_forget.1 ∈ WS := ws_at 586 (by decide +kernel) rfl
abbrev y_C_part : mY := (⟨"LeasedFiles$Client", "part", "(I)I"⟩, prog_2_method_7_code, 2, (some .int))
set_option maxRecDepth 100000 in
theorem ok_C_part : okY y_C_part 1 := ⟨ws_at 653 rfl rfl, ws_at 10 (by decide +kernel) rfl, ⟨by decide +kernel, by decide +kernel⟩, by decide +kernel, by decide⟩
theorem in_C_part : Cond.instanceMethod y_C_part.1 ∈ WS := ws_at 651 (by decide +kernel) rfl
theorem se_C_part : Cond.selects "LeasedFiles$Client" y_C_part.1 y_C_part.1 ∈ WS := ws_at 652 (by decide +kernel) rfl
abbrev y_Y_init : mY := (⟨"LeasedFiles$Copy", "<init>", "()V"⟩, prog_3_method_1_code, 1, none)
set_option maxRecDepth 100000 in
theorem ok_Y_init : okY y_Y_init 0 := ⟨ws_at 202 rfl rfl, ws_at 11 (by decide +kernel) rfl, ⟨by decide +kernel, by decide +kernel⟩, by decide +kernel, by decide⟩
theorem in_Y_init : Cond.instanceMethod y_Y_init.1 ∈ WS := ws_at 201 (by decide +kernel) rfl
abbrev y_Y_isGoodAt : mY := (⟨"LeasedFiles$Copy", "isGoodAt", "(I)Z"⟩, prog_3_method_2_code, 2, (some .boolean))
set_option maxRecDepth 100000 in
theorem ok_Y_isGoodAt : okY y_Y_isGoodAt 1 := ⟨ws_at 301 rfl rfl, ws_at 11 (by decide +kernel) rfl, ⟨by decide +kernel, by decide +kernel⟩, by decide +kernel, by decide⟩
theorem in_Y_isGoodAt : Cond.instanceMethod y_Y_isGoodAt.1 ∈ WS := ws_at 299 (by decide +kernel) rfl
theorem se_Y_isGoodAt : Cond.selects "LeasedFiles$Copy" y_Y_isGoodAt.1 y_Y_isGoodAt.1 ∈ WS := ws_at 300 (by decide +kernel) rfl
abbrev y_Y_hold : mY := (⟨"LeasedFiles$Copy", "hold", "(III)V"⟩, prog_3_method_3_code, 4, none)
set_option maxRecDepth 100000 in
theorem ok_Y_hold : okY y_Y_hold 3 := ⟨ws_at 536 rfl rfl, ws_at 11 (by decide +kernel) rfl, ⟨by decide +kernel, by decide +kernel⟩, by decide +kernel, by decide⟩
theorem in_Y_hold : Cond.instanceMethod y_Y_hold.1 ∈ WS := ws_at 534 (by decide +kernel) rfl
theorem se_Y_hold : Cond.selects "LeasedFiles$Copy" y_Y_hold.1 y_Y_hold.1 ∈ WS := ws_at 535 (by decide +kernel) rfl
abbrev y_Y_part : mY := (⟨"LeasedFiles$Copy", "part", "(II)I"⟩, prog_3_method_4_code, 3, (some .int))
set_option maxRecDepth 100000 in
theorem ok_Y_part : okY y_Y_part 2 := ⟨ws_at 620 rfl rfl, ws_at 11 (by decide +kernel) rfl, ⟨by decide +kernel, by decide +kernel⟩, by decide +kernel, by decide⟩
theorem in_Y_part : Cond.instanceMethod y_Y_part.1 ∈ WS := ws_at 618 (by decide +kernel) rfl
theorem se_Y_part : Cond.selects "LeasedFiles$Copy" y_Y_part.1 y_Y_part.1 ∈ WS := ws_at 619 (by decide +kernel) rfl
abbrev y_M_init : mY := (⟨"LeasedFiles$Message", "<init>", "()V"⟩, prog_4_method_1_code, 1, none)
set_option maxRecDepth 100000 in
theorem ok_M_init : okY y_M_init 0 := ⟨ws_at 47 rfl rfl, ws_at 4 (by decide +kernel) rfl, ⟨by decide +kernel, by decide +kernel⟩, by decide +kernel, by decide⟩
theorem in_M_init : Cond.instanceMethod y_M_init.1 ∈ WS := ws_at 46 (by decide +kernel) rfl
abbrev y_M_goesToServer : mY := (⟨"LeasedFiles$Message", "goesToServer", "()Z"⟩, prog_4_method_2_code, 1, (some .boolean))
set_option maxRecDepth 100000 in
theorem ok_M_goesToServer : okY y_M_goesToServer 0 := ⟨ws_at 361 rfl rfl, ws_at 4 (by decide +kernel) rfl, ⟨by decide +kernel, by decide +kernel⟩, by decide +kernel, by decide⟩
theorem in_M_goesToServer : Cond.instanceMethod y_M_goesToServer.1 ∈ WS := ws_at 359 (by decide +kernel) rfl
theorem se_M_goesToServer : Cond.selects "LeasedFiles$Message" y_M_goesToServer.1 y_M_goesToServer.1 ∈ WS := ws_at 360 (by decide +kernel) rfl
abbrev y_M_part : mY := (⟨"LeasedFiles$Message", "part", "(I)I"⟩, prog_4_method_3_code, 2, (some .int))
set_option maxRecDepth 100000 in
theorem ok_M_part : okY y_M_part 1 := ⟨ws_at 564 rfl rfl, ws_at 4 (by decide +kernel) rfl, ⟨by decide +kernel, by decide +kernel⟩, by decide +kernel, by decide⟩
theorem in_M_part : Cond.instanceMethod y_M_part.1 ∈ WS := ws_at 562 (by decide +kernel) rfl
theorem se_M_part : Cond.selects "LeasedFiles$Message" y_M_part.1 y_M_part.1 ∈ WS := ws_at 563 (by decide +kernel) rfl
abbrev y_P_init : mY := (⟨"LeasedFiles$Pool", "<init>", "()V"⟩, prog_5_method_1_code, 2, none)
set_option maxRecDepth 100000 in
theorem ok_P_init : okY y_P_init 0 := ⟨ws_at 40 rfl rfl, ws_at 3 (by decide +kernel) rfl, ⟨by decide +kernel, by decide +kernel⟩, by decide +kernel, by decide⟩
theorem in_P_init : Cond.instanceMethod y_P_init.1 ∈ WS := ws_at 39 (by decide +kernel) rfl
abbrev y_P_send : mY := (⟨"LeasedFiles$Pool", "send", "(IIIIIII)V"⟩, prog_5_method_3_code, 9, none)
set_option maxRecDepth 100000 in
theorem ok_P_send : okY y_P_send 7 := ⟨ws_at 313 rfl rfl, ws_at 3 (by decide +kernel) rfl, ⟨by decide +kernel, by decide +kernel⟩, by decide +kernel, by decide⟩
theorem in_P_send : Cond.instanceMethod y_P_send.1 ∈ WS := ws_at 311 (by decide +kernel) rfl
theorem se_P_send : Cond.selects "LeasedFiles$Pool" y_P_send.1 y_P_send.1 ∈ WS := ws_at 312 (by decide +kernel) rfl
abbrev y_P_holds : mY := (⟨"LeasedFiles$Pool", "holds", "(I)Z"⟩, prog_5_method_2_code, 2, (some .boolean))
set_option maxRecDepth 100000 in
theorem ok_P_holds : okY y_P_holds 1 := ⟨ws_at 353 rfl rfl, ws_at 3 (by decide +kernel) rfl, ⟨by decide +kernel, by decide +kernel⟩, by decide +kernel, by decide⟩
theorem in_P_holds : Cond.instanceMethod y_P_holds.1 ∈ WS := ws_at 351 (by decide +kernel) rfl
theorem se_P_holds : Cond.selects "LeasedFiles$Pool" y_P_holds.1 y_P_holds.1 ∈ WS := ws_at 352 (by decide +kernel) rfl
abbrev y_P_takeOut : mY := (⟨"LeasedFiles$Pool", "takeOut", "(I)LLeasedFiles$Message;"⟩, prog_5_method_4_code, 4, (some (.object "LeasedFiles$Message")))
set_option maxRecDepth 100000 in
theorem ok_P_takeOut : okY y_P_takeOut 1 := ⟨ws_at 357 rfl rfl, ws_at 3 (by decide +kernel) rfl, ⟨by decide +kernel, by decide +kernel⟩, by decide +kernel, by decide⟩
theorem in_P_takeOut : Cond.instanceMethod y_P_takeOut.1 ∈ WS := ws_at 355 (by decide +kernel) rfl
theorem se_P_takeOut : Cond.selects "LeasedFiles$Pool" y_P_takeOut.1 y_P_takeOut.1 ∈ WS := ws_at 356 (by decide +kernel) rfl
abbrev y_F_init : mY := (⟨"LeasedFiles$ServedFile", "<init>", "(I)V"⟩, prog_6_method_1_code, 2, none)
set_option maxRecDepth 100000 in
theorem ok_F_init : okY y_F_init 1 := ⟨ws_at 115 rfl rfl, ws_at 6 (by decide +kernel) rfl, ⟨by decide +kernel, by decide +kernel⟩, by decide +kernel, by decide⟩
theorem in_F_init : Cond.instanceMethod y_F_init.1 ∈ WS := ws_at 114 (by decide +kernel) rfl
abbrev y_F_isWaiting : mY := (⟨"LeasedFiles$ServedFile", "isWaiting", "(II)Z"⟩, prog_6_method_5_code, 4, (some .boolean))
set_option maxRecDepth 100000 in
theorem ok_F_isWaiting : okY y_F_isWaiting 2 := ⟨ws_at 382 rfl rfl, ws_at 6 (by decide +kernel) rfl, ⟨by decide +kernel, by decide +kernel⟩, by decide +kernel, by decide⟩
theorem in_F_isWaiting : Cond.instanceMethod y_F_isWaiting.1 ∈ WS := ws_at 380 (by decide +kernel) rfl
theorem se_F_isWaiting : Cond.selects "LeasedFiles$ServedFile" y_F_isWaiting.1 y_F_isWaiting.1 ∈ WS := ws_at 381 (by decide +kernel) rfl
abbrev y_F_addLast : mY := (⟨"LeasedFiles$ServedFile", "addLast", "(III)V"⟩, prog_6_method_6_code, 4, none)
set_option maxRecDepth 100000 in
theorem ok_F_addLast : okY y_F_addLast 3 := ⟨ws_at 409 rfl rfl, ws_at 6 (by decide +kernel) rfl, ⟨by decide +kernel, by decide +kernel⟩, by decide +kernel, by decide⟩
theorem in_F_addLast : Cond.instanceMethod y_F_addLast.1 ∈ WS := ws_at 407 (by decide +kernel) rfl
theorem se_F_addLast : Cond.selects "LeasedFiles$ServedFile" y_F_addLast.1 y_F_addLast.1 ∈ WS := ws_at 408 (by decide +kernel) rfl
abbrev y_F_isFirst : mY := (⟨"LeasedFiles$ServedFile", "isFirst", "(II)Z"⟩, prog_6_method_4_code, 3, (some .boolean))
set_option maxRecDepth 100000 in
theorem ok_F_isFirst : okY y_F_isFirst 2 := ⟨ws_at 485 rfl rfl, ws_at 6 (by decide +kernel) rfl, ⟨by decide +kernel, by decide +kernel⟩, by decide +kernel, by decide⟩
theorem in_F_isFirst : Cond.instanceMethod y_F_isFirst.1 ∈ WS := ws_at 483 (by decide +kernel) rfl
theorem se_F_isFirst : Cond.selects "LeasedFiles$ServedFile" y_F_isFirst.1 y_F_isFirst.1 ∈ WS := ws_at 484 (by decide +kernel) rfl
abbrev y_F_isLeasedAt : mY := (⟨"LeasedFiles$ServedFile", "isLeasedAt", "(I)Z"⟩, prog_6_method_2_code, 3, (some .boolean))
set_option maxRecDepth 100000 in
theorem ok_F_isLeasedAt : okY y_F_isLeasedAt 1 := ⟨ws_at 506 rfl rfl, ws_at 6 (by decide +kernel) rfl, ⟨by decide +kernel, by decide +kernel⟩, by decide +kernel, by decide⟩
theorem in_F_isLeasedAt : Cond.instanceMethod y_F_isLeasedAt.1 ∈ WS := ws_at 504 (by decide +kernel) rfl
theorem se_F_isLeasedAt : Cond.selects "LeasedFiles$ServedFile" y_F_isLeasedAt.1 y_F_isLeasedAt.1 ∈ WS := ws_at 505 (by decide +kernel) rfl
abbrev y_F_endLeases : mY := (⟨"LeasedFiles$ServedFile", "endLeases", "(I)V"⟩, prog_6_method_3_code, 3, none)
set_option maxRecDepth 100000 in
theorem ok_F_endLeases : okY y_F_endLeases 1 := ⟨ws_at 604 rfl rfl, ws_at 6 (by decide +kernel) rfl, ⟨by decide +kernel, by decide +kernel⟩, by decide +kernel, by decide⟩
theorem in_F_endLeases : Cond.instanceMethod y_F_endLeases.1 ∈ WS := ws_at 602 (by decide +kernel) rfl
theorem se_F_endLeases : Cond.selects "LeasedFiles$ServedFile" y_F_endLeases.1 y_F_endLeases.1 ∈ WS := ws_at 603 (by decide +kernel) rfl
abbrev y_F_part : mY := (⟨"LeasedFiles$ServedFile", "part", "(I)I"⟩, prog_6_method_7_code, 2, (some .int))
set_option maxRecDepth 100000 in
theorem ok_F_part : okY y_F_part 1 := ⟨ws_at 636 rfl rfl, ws_at 6 (by decide +kernel) rfl, ⟨by decide +kernel, by decide +kernel⟩, by decide +kernel, by decide⟩
theorem in_F_part : Cond.instanceMethod y_F_part.1 ∈ WS := ws_at 634 (by decide +kernel) rfl
theorem se_F_part : Cond.selects "LeasedFiles$ServedFile" y_F_part.1 y_F_part.1 ∈ WS := ws_at 635 (by decide +kernel) rfl
abbrev y_S_init : mY := (⟨"LeasedFiles$Server", "<init>", "(III)V"⟩, prog_7_method_1_code, 5, none)
set_option maxRecDepth 100000 in
theorem ok_S_init : okY y_S_init 3 := ⟨ws_at 108 rfl rfl, ws_at 5 (by decide +kernel) rfl, ⟨by decide +kernel, by decide +kernel⟩, by decide +kernel, by decide⟩
theorem in_S_init : Cond.instanceMethod y_S_init.1 ∈ WS := ws_at 107 (by decide +kernel) rfl
abbrev y_S_receive : mY := (⟨"LeasedFiles$Server", "receive", "(LLeasedFiles$Message;LLeasedFiles$Pool;)Z"⟩, prog_7_method_2_code, 3, (some .boolean))
set_option maxRecDepth 100000 in
theorem ok_S_receive : okY y_S_receive 2 := ⟨ws_at 365 rfl rfl, ws_at 5 (by decide +kernel) rfl, ⟨by decide +kernel, by decide +kernel⟩, by decide +kernel, by decide⟩
theorem in_S_receive : Cond.instanceMethod y_S_receive.1 ∈ WS := ws_at 363 (by decide +kernel) rfl
theorem se_S_receive : Cond.selects "LeasedFiles$Server" y_S_receive.1 y_S_receive.1 ∈ WS := ws_at 364 (by decide +kernel) rfl
abbrev y_S_receiveAsk : mY := (⟨"LeasedFiles$Server", "receiveAsk", "(LLeasedFiles$Message;LLeasedFiles$Pool;)V"⟩, prog_7_method_7_code, 5, none)
set_option maxRecDepth 100000 in
theorem ok_S_receiveAsk : okY y_S_receiveAsk 2 := ⟨ws_at 369 rfl rfl, ws_at 5 (by decide +kernel) rfl, ⟨by decide +kernel, by decide +kernel⟩, by decide +kernel, by decide⟩
theorem in_S_receiveAsk : Cond.instanceMethod y_S_receiveAsk.1 ∈ WS := ws_at 368 (by decide +kernel) rfl
theorem se_S_receiveAsk : Cond.selects "LeasedFiles$Server" y_S_receiveAsk.1 y_S_receiveAsk.1 ∈ WS := ws_sel 6 (q := (y_S_receiveAsk.1, 8)) (by decide +kernel)
abbrev y_S_receivePut : mY := (⟨"LeasedFiles$Server", "receivePut", "(LLeasedFiles$Message;LLeasedFiles$Pool;)V"⟩, prog_7_method_8_code, 5, none)
set_option maxRecDepth 100000 in
theorem ok_S_receivePut : okY y_S_receivePut 2 := ⟨ws_at 378 rfl rfl, ws_at 5 (by decide +kernel) rfl, ⟨by decide +kernel, by decide +kernel⟩, by decide +kernel, by decide⟩
theorem in_S_receivePut : Cond.instanceMethod y_S_receivePut.1 ∈ WS := ws_at 377 (by decide +kernel) rfl
theorem se_S_receivePut : Cond.selects "LeasedFiles$Server" y_S_receivePut.1 y_S_receivePut.1 ∈ WS := ws_sel 7 (q := (y_S_receivePut.1, 8)) (by decide +kernel)
abbrev y_S_recall : mY := (⟨"LeasedFiles$Server", "recall", "(LLeasedFiles$Message;LLeasedFiles$Pool;)V"⟩, prog_7_method_9_code, 5, none)
set_option maxRecDepth 100000 in
theorem ok_S_recall : okY y_S_recall 2 := ⟨ws_at 490 rfl rfl, ws_at 5 (by decide +kernel) rfl, ⟨by decide +kernel, by decide +kernel⟩, by decide +kernel, by decide⟩
theorem in_S_recall : Cond.instanceMethod y_S_recall.1 ∈ WS := ws_at 489 (by decide +kernel) rfl
theorem se_S_recall : Cond.selects "LeasedFiles$Server" y_S_recall.1 y_S_recall.1 ∈ WS := ws_sel 11 (q := (y_S_recall.1, 8)) (by decide +kernel)
abbrev y_S_receiveFree : mY := (⟨"LeasedFiles$Server", "receiveFree", "(LLeasedFiles$Message;)V"⟩, prog_7_method_10_code, 3, none)
set_option maxRecDepth 100000 in
theorem ok_S_receiveFree : okY y_S_receiveFree 1 := ⟨ws_at 494 rfl rfl, ws_at 5 (by decide +kernel) rfl, ⟨by decide +kernel, by decide +kernel⟩, by decide +kernel, by decide⟩
theorem in_S_receiveFree : Cond.instanceMethod y_S_receiveFree.1 ∈ WS := ws_at 493 (by decide +kernel) rfl
theorem se_S_receiveFree : Cond.selects "LeasedFiles$Server" y_S_receiveFree.1 y_S_receiveFree.1 ∈ WS := ws_sel 12 (q := (y_S_receiveFree.1, 8)) (by decide +kernel)
abbrev y_S_storeWhatMay : mY := (⟨"LeasedFiles$Server", "storeWhatMay", "(LLeasedFiles$Pool;)I"⟩, prog_7_method_11_code, 5, (some .int))
set_option maxRecDepth 100000 in
theorem ok_S_storeWhatMay : okY y_S_storeWhatMay 1 := ⟨ws_at 498 rfl rfl, ws_at 5 (by decide +kernel) rfl, ⟨by decide +kernel, by decide +kernel⟩, by decide +kernel, by decide⟩
theorem in_S_storeWhatMay : Cond.instanceMethod y_S_storeWhatMay.1 ∈ WS := ws_at 497 (by decide +kernel) rfl
theorem se_S_storeWhatMay : Cond.selects "LeasedFiles$Server" y_S_storeWhatMay.1 y_S_storeWhatMay.1 ∈ WS := ws_sel 13 (q := (y_S_storeWhatMay.1, 8)) (by decide +kernel)
abbrev y_S_mayStore : mY := (⟨"LeasedFiles$Server", "mayStore", "(LLeasedFiles$ServedFile;)Z"⟩, prog_7_method_12_code, 2, (some .boolean))
set_option maxRecDepth 100000 in
theorem ok_S_mayStore : okY y_S_mayStore 1 := ⟨ws_at 502 rfl rfl, ws_at 5 (by decide +kernel) rfl, ⟨by decide +kernel, by decide +kernel⟩, by decide +kernel, by decide⟩
theorem in_S_mayStore : Cond.instanceMethod y_S_mayStore.1 ∈ WS := ws_at 501 (by decide +kernel) rfl
theorem se_S_mayStore : Cond.selects "LeasedFiles$Server" y_S_mayStore.1 y_S_mayStore.1 ∈ WS := ws_sel 14 (q := (y_S_mayStore.1, 8)) (by decide +kernel)
abbrev y_S_storeFirst : mY := (⟨"LeasedFiles$Server", "storeFirst", "(ILLeasedFiles$Pool;)V"⟩, prog_7_method_13_code, 5, none)
set_option maxRecDepth 100000 in
theorem ok_S_storeFirst : okY y_S_storeFirst 2 := ⟨ws_at 510 rfl rfl, ws_at 5 (by decide +kernel) rfl, ⟨by decide +kernel, by decide +kernel⟩, by decide +kernel, by decide⟩
theorem in_S_storeFirst : Cond.instanceMethod y_S_storeFirst.1 ∈ WS := ws_at 509 (by decide +kernel) rfl
theorem se_S_storeFirst : Cond.selects "LeasedFiles$Server" y_S_storeFirst.1 y_S_storeFirst.1 ∈ WS := ws_sel 15 (q := (y_S_storeFirst.1, 8)) (by decide +kernel)
abbrev y_S_letTimeGoBy : mY := (⟨"LeasedFiles$Server", "letTimeGoBy", "(ILLeasedFiles$Pool;)I"⟩, prog_7_method_3_code, 3, (some .int))
set_option maxRecDepth 100000 in
theorem ok_S_letTimeGoBy : okY y_S_letTimeGoBy 2 := ⟨ws_at 575 rfl rfl, ws_at 5 (by decide +kernel) rfl, ⟨by decide +kernel, by decide +kernel⟩, by decide +kernel, by decide⟩
theorem in_S_letTimeGoBy : Cond.instanceMethod y_S_letTimeGoBy.1 ∈ WS := ws_at 573 (by decide +kernel) rfl
theorem se_S_letTimeGoBy : Cond.selects "LeasedFiles$Server" y_S_letTimeGoBy.1 y_S_letTimeGoBy.1 ∈ WS := ws_at 574 (by decide +kernel) rfl
abbrev y_S_goDown : mY := (⟨"LeasedFiles$Server", "goDown", "()I"⟩, prog_7_method_4_code, 3, (some .int))
set_option maxRecDepth 100000 in
theorem ok_S_goDown : okY y_S_goDown 0 := ⟨ws_at 595 rfl rfl, ws_at 5 (by decide +kernel) rfl, ⟨by decide +kernel, by decide +kernel⟩, by decide +kernel, by decide⟩
theorem in_S_goDown : Cond.instanceMethod y_S_goDown.1 ∈ WS := ws_at 593 (by decide +kernel) rfl
theorem se_S_goDown : Cond.selects "LeasedFiles$Server" y_S_goDown.1 y_S_goDown.1 ∈ WS := ws_at 594 (by decide +kernel) rfl
abbrev y_S_comeUp : mY := (⟨"LeasedFiles$Server", "comeUp", "()I"⟩, prog_7_method_5_code, 1, (some .int))
set_option maxRecDepth 100000 in
theorem ok_S_comeUp : okY y_S_comeUp 0 := ⟨ws_at 612 rfl rfl, ws_at 5 (by decide +kernel) rfl, ⟨by decide +kernel, by decide +kernel⟩, by decide +kernel, by decide⟩
theorem in_S_comeUp : Cond.instanceMethod y_S_comeUp.1 ∈ WS := ws_at 610 (by decide +kernel) rfl
theorem se_S_comeUp : Cond.selects "LeasedFiles$Server" y_S_comeUp.1 y_S_comeUp.1 ∈ WS := ws_at 611 (by decide +kernel) rfl
abbrev y_S_part : mY := (⟨"LeasedFiles$Server", "part", "(I)I"⟩, prog_7_method_6_code, 2, (some .int))
set_option maxRecDepth 100000 in
theorem ok_S_part : okY y_S_part 1 := ⟨ws_at 644 rfl rfl, ws_at 5 (by decide +kernel) rfl, ⟨by decide +kernel, by decide +kernel⟩, by decide +kernel, by decide⟩
theorem in_S_part : Cond.instanceMethod y_S_part.1 ∈ WS := ws_at 642 (by decide +kernel) rfl
theorem se_S_part : Cond.selects "LeasedFiles$Server" y_S_part.1 y_S_part.1 ∈ WS := ws_at 643 (by decide +kernel) rfl
abbrev y_W_isOf : mY := (⟨"LeasedFiles$Write", "isOf", "(II)Z"⟩, prog_8_method_2_code, 3, (some .boolean))
set_option maxRecDepth 100000 in
theorem ok_W_isOf : okY y_W_isOf 2 := ⟨ws_at 405 rfl rfl, ws_at 15 (by decide +kernel) rfl, ⟨by decide +kernel, by decide +kernel⟩, by decide +kernel, by decide⟩
theorem in_W_isOf : Cond.instanceMethod y_W_isOf.1 ∈ WS := ws_at 403 (by decide +kernel) rfl
theorem se_W_isOf : Cond.selects "LeasedFiles$Write" y_W_isOf.1 y_W_isOf.1 ∈ WS := ws_at 404 (by decide +kernel) rfl
abbrev y_W_init : mY := (⟨"LeasedFiles$Write", "<init>", "(III)V"⟩, prog_8_method_1_code, 4, none)
set_option maxRecDepth 100000 in
theorem ok_W_init : okY y_W_init 3 := ⟨ws_at 413 rfl rfl, ws_at 15 (by decide +kernel) rfl, ⟨by decide +kernel, by decide +kernel⟩, by decide +kernel, by decide⟩
theorem in_W_init : Cond.instanceMethod y_W_init.1 ∈ WS := ws_at 412 (by decide +kernel) rfl
abbrev y_A_init : mY := (⟨"java/util/ArrayList", "<init>", "()V"⟩, prog_18_method_2_code, 1, none)
set_option maxRecDepth 100000 in
theorem ok_A_init : okY y_A_init 0 := ⟨ws_at 121 rfl rfl, ws_at 9 (by decide +kernel) rfl, ⟨by decide +kernel, by decide +kernel⟩, by decide +kernel, by decide⟩
theorem in_A_init : Cond.instanceMethod y_A_init.1 ∈ WS := ws_at 120 (by decide +kernel) rfl
abbrev y_A_isEmpty : mY := (⟨"java/util/ArrayList", "isEmpty", "()Z"⟩, prog_18_method_9_code, 1, (some .boolean))
set_option maxRecDepth 100000 in
theorem ok_A_isEmpty : okY y_A_isEmpty 0 := ⟨ws_at 373 rfl rfl, ws_at 9 (by decide +kernel) rfl, ⟨by decide +kernel, by decide +kernel⟩, by decide +kernel, by decide⟩
theorem in_A_isEmpty : Cond.instanceMethod y_A_isEmpty.1 ∈ WS := ws_at 371 (by decide +kernel) rfl
theorem se_A_isEmpty : Cond.selects "java/util/ArrayList" y_A_isEmpty.1 y_A_isEmpty.1 ∈ WS := ws_at 372 (by decide +kernel) rfl
abbrev y_A_size : mY := (⟨"java/util/ArrayList", "size", "()I"⟩, prog_18_method_8_code, 1, (some .int))
set_option maxRecDepth 100000 in
theorem ok_A_size : okY y_A_size 0 := ⟨ws_at 386 rfl rfl, ws_at 9 (by decide +kernel) rfl, ⟨by decide +kernel, by decide +kernel⟩, by decide +kernel, by decide⟩
theorem in_A_size : Cond.instanceMethod y_A_size.1 ∈ WS := ws_at 384 (by decide +kernel) rfl
theorem se_A_size : Cond.selects "java/util/ArrayList" y_A_size.1 y_A_size.1 ∈ WS := ws_at 385 (by decide +kernel) rfl
abbrev y_A_get : mY := (⟨"java/util/ArrayList", "get", "(I)Ljava/lang/Object;"⟩, prog_18_method_20_code, 2, (some (.object "java/lang/Object")))
set_option maxRecDepth 100000 in
theorem ok_A_get : okY y_A_get 1 := ⟨ws_at 390 rfl rfl, ws_at 9 (by decide +kernel) rfl, ⟨by decide +kernel, by decide +kernel⟩, by decide +kernel, by decide⟩
theorem in_A_get : Cond.instanceMethod y_A_get.1 ∈ WS := ws_at 388 (by decide +kernel) rfl
theorem se_A_get : Cond.selects "java/util/ArrayList" y_A_get.1 y_A_get.1 ∈ WS := ws_at 389 (by decide +kernel) rfl
abbrev y_A_elementData : mY := (⟨"java/util/ArrayList", "elementData", "(I)Ljava/lang/Object;"⟩, prog_18_method_18_code, 2, (some (.object "java/lang/Object")))
set_option maxRecDepth 100000 in
theorem ok_A_elementData : okY y_A_elementData 1 := ⟨ws_at 400 rfl rfl, ws_at 9 (by decide +kernel) rfl, ⟨by decide +kernel, by decide +kernel⟩, by decide +kernel, by decide⟩
theorem in_A_elementData : Cond.instanceMethod y_A_elementData.1 ∈ WS := ws_at 398 (by decide +kernel) rfl
theorem se_A_elementData : Cond.selects "java/util/ArrayList" y_A_elementData.1 y_A_elementData.1 ∈ WS := ws_at 399 (by decide +kernel) rfl
abbrev y_A_add0 : mY := (⟨"java/util/ArrayList", "add", "(Ljava/lang/Object;)Z"⟩, prog_18_method_25_code, 2, (some .boolean))
set_option maxRecDepth 100000 in
theorem ok_A_add0 : okY y_A_add0 1 := ⟨ws_at 432 rfl rfl, ws_at 9 (by decide +kernel) rfl, ⟨by decide +kernel, by decide +kernel⟩, by decide +kernel, by decide⟩
theorem in_A_add0 : Cond.instanceMethod y_A_add0.1 ∈ WS := ws_at 430 (by decide +kernel) rfl
theorem se_A_add0 : Cond.selects "java/util/ArrayList" y_A_add0.1 y_A_add0.1 ∈ WS := ws_at 431 (by decide +kernel) rfl
abbrev y_A_add1 : mY := (⟨"java/util/ArrayList", "add", "(Ljava/lang/Object;[Ljava/lang/Object;I)V"⟩, prog_18_method_24_code, 4, none)
set_option maxRecDepth 100000 in
theorem ok_A_add1 : okY y_A_add1 3 := ⟨ws_at 436 rfl rfl, ws_at 9 (by decide +kernel) rfl, ⟨by decide +kernel, by decide +kernel⟩, by decide +kernel, by decide⟩
theorem in_A_add1 : Cond.instanceMethod y_A_add1.1 ∈ WS := ws_at 435 (by decide +kernel) rfl
theorem se_A_add1 : Cond.selects "java/util/ArrayList" y_A_add1.1 y_A_add1.1 ∈ WS := ws_sel 8 (q := (y_A_add1.1, 3)) (by decide +kernel)
abbrev y_A_grow0 : mY := (⟨"java/util/ArrayList", "grow", "()[Ljava/lang/Object;"⟩, prog_18_method_7_code, 1, (some (.array (.object "java/lang/Object"))))
set_option maxRecDepth 100000 in
theorem ok_A_grow0 : okY y_A_grow0 0 := ⟨ws_at 440 rfl rfl, ws_at 9 (by decide +kernel) rfl, ⟨by decide +kernel, by decide +kernel⟩, by decide +kernel, by decide⟩
theorem in_A_grow0 : Cond.instanceMethod y_A_grow0.1 ∈ WS := ws_at 439 (by decide +kernel) rfl
theorem se_A_grow0 : Cond.selects "java/util/ArrayList" y_A_grow0.1 y_A_grow0.1 ∈ WS := ws_sel 9 (q := (y_A_grow0.1, 3)) (by decide +kernel)
abbrev y_A_grow1 : mY := (⟨"java/util/ArrayList", "grow", "(I)[Ljava/lang/Object;"⟩, prog_18_method_6_code, 4, (some (.array (.object "java/lang/Object"))))
set_option maxRecDepth 100000 in
theorem ok_A_grow1 : okY y_A_grow1 1 := ⟨ws_at 444 rfl rfl, ws_at 9 (by decide +kernel) rfl, ⟨by decide +kernel, by decide +kernel⟩, by decide +kernel, by decide⟩
theorem in_A_grow1 : Cond.instanceMethod y_A_grow1.1 ∈ WS := ws_at 443 (by decide +kernel) rfl
theorem se_A_grow1 : Cond.selects "java/util/ArrayList" y_A_grow1.1 y_A_grow1.1 ∈ WS := ws_sel 10 (q := (y_A_grow1.1, 3)) (by decide +kernel)
abbrev y_A_remove : mY := (⟨"java/util/ArrayList", "remove", "(I)Ljava/lang/Object;"⟩, prog_18_method_29_code, 4, (some (.object "java/lang/Object")))
set_option maxRecDepth 100000 in
theorem ok_A_remove : okY y_A_remove 1 := ⟨ws_at 514 rfl rfl, ws_at 9 (by decide +kernel) rfl, ⟨by decide +kernel, by decide +kernel⟩, by decide +kernel, by decide⟩
theorem in_A_remove : Cond.instanceMethod y_A_remove.1 ∈ WS := ws_at 512 (by decide +kernel) rfl
theorem se_A_remove : Cond.selects "java/util/ArrayList" y_A_remove.1 y_A_remove.1 ∈ WS := ws_at 513 (by decide +kernel) rfl
abbrev y_A_fastRemove : mY := (⟨"java/util/ArrayList", "fastRemove", "([Ljava/lang/Object;I)V"⟩, prog_18_method_39_code, 4, none)
set_option maxRecDepth 100000 in
theorem ok_A_fastRemove : okY y_A_fastRemove 2 := ⟨ws_at 518 rfl rfl, ws_at 9 (by decide +kernel) rfl, ⟨by decide +kernel, by decide +kernel⟩, by decide +kernel, by decide⟩
theorem in_A_fastRemove : Cond.instanceMethod y_A_fastRemove.1 ∈ WS := ws_at 517 (by decide +kernel) rfl
theorem se_A_fastRemove : Cond.selects "java/util/ArrayList" y_A_fastRemove.1 y_A_fastRemove.1 ∈ WS := ws_sel 16 (q := (y_A_fastRemove.1, 3)) (by decide +kernel)
abbrev y_A_clear : mY := (⟨"java/util/ArrayList", "clear", "()V"⟩, prog_18_method_40_code, 4, none)
set_option maxRecDepth 100000 in
theorem ok_A_clear : okY y_A_clear 0 := ⟨ws_at 600 rfl rfl, ws_at 9 (by decide +kernel) rfl, ⟨by decide +kernel, by decide +kernel⟩, by decide +kernel, by decide⟩
theorem in_A_clear : Cond.instanceMethod y_A_clear.1 ∈ WS := ws_at 598 (by decide +kernel) rfl
theorem se_A_clear : Cond.selects "java/util/ArrayList" y_A_clear.1 y_A_clear.1 ∈ WS := ws_at 599 (by decide +kernel) rfl
abbrev y_B_init : mY := (⟨"java/util/AbstractList", "<init>", "()V"⟩, prog_17_method_1_code, 1, none)
set_option maxRecDepth 100000 in
theorem ok_B_init : okY y_B_init 0 := ⟨ws_at 124 rfl rfl, ws_at 8 (by decide +kernel) rfl, ⟨by decide +kernel, by decide +kernel⟩, by decide +kernel, by decide⟩
theorem in_B_init : Cond.instanceMethod y_B_init.1 ∈ WS := ws_at 123 (by decide +kernel) rfl
abbrev y_D_init : mY := (⟨"java/util/AbstractCollection", "<init>", "()V"⟩, prog_16_method_1_code, 1, none)
set_option maxRecDepth 100000 in
theorem ok_D_init : okY y_D_init 0 := ⟨ws_at 127 rfl rfl, ws_at 7 (by decide +kernel) rfl, ⟨by decide +kernel, by decide +kernel⟩, by decide +kernel, by decide⟩
theorem in_D_init : Cond.instanceMethod y_D_init.1 ∈ WS := ws_at 126 (by decide +kernel) rfl
abbrev y_O_checkIndex : mY := (⟨"java/util/Objects", "checkIndex", "(II)I"⟩, prog_22_method_17_code, 2, (some .int))
set_option maxRecDepth 100000 in
theorem ok_O_checkIndex : okY y_O_checkIndex 2 := ⟨ws_at 393 rfl rfl, ws_at 13 (by decide +kernel) rfl, ⟨by decide +kernel, by decide +kernel⟩, by decide +kernel, by decide⟩
theorem st_O_checkIndex : Cond.static y_O_checkIndex.1 ∈ WS := ws_at 392 (by decide +kernel) rfl
abbrev y_Q_checkIndex : mY := (⟨"jdk/internal/util/Preconditions", "checkIndex", "(IILjava/util/function/BiFunction;)I"⟩, prog_26_method_11_code, 3, (some .int))
set_option maxRecDepth 100000 in
theorem ok_Q_checkIndex : okY y_Q_checkIndex 3 := ⟨ws_at 396 rfl rfl, ws_at 14 (by decide +kernel) rfl, ⟨by decide +kernel, by decide +kernel⟩, by decide +kernel, by decide⟩
theorem st_Q_checkIndex : Cond.static y_Q_checkIndex.1 ∈ WS := ws_at 395 (by decide +kernel) rfl
abbrev y_U_newLength : mY := (⟨"jdk/internal/util/ArraysSupport", "newLength", "(III)I"⟩, prog_25_method_27_code, 4, (some .int))
set_option maxRecDepth 100000 in
theorem ok_U_newLength : okY y_U_newLength 3 := ⟨ws_at 447 rfl rfl, ws_at 16 (by decide +kernel) rfl, ⟨by decide +kernel, by decide +kernel⟩, by decide +kernel, by decide⟩
theorem st_U_newLength : Cond.static y_U_newLength.1 ∈ WS := ws_at 446 (by decide +kernel) rfl
abbrev y_U_hugeLength : mY := (⟨"jdk/internal/util/ArraysSupport", "hugeLength", "(II)I"⟩, prog_25_method_28_code, 3, (some .int))
set_option maxRecDepth 100000 in
theorem ok_U_hugeLength : okY y_U_hugeLength 2 := ⟨ws_at 452 rfl rfl, ws_at 16 (by decide +kernel) rfl, ⟨by decide +kernel, by decide +kernel⟩, by decide +kernel, by decide⟩
theorem st_U_hugeLength : Cond.static y_U_hugeLength.1 ∈ WS := ws_at 451 (by decide +kernel) rfl
abbrev y_V_copyOf0 : mY := (⟨"java/util/Arrays", "copyOf", "([Ljava/lang/Object;I)[Ljava/lang/Object;"⟩, prog_19_method_119_code, 2, (some (.array (.object "java/lang/Object"))))
set_option maxRecDepth 100000 in
theorem ok_V_copyOf0 : okY y_V_copyOf0 2 := ⟨ws_at 455 rfl rfl, ws_at 17 (by decide +kernel) rfl, ⟨by decide +kernel, by decide +kernel⟩, by decide +kernel, by decide⟩
theorem st_V_copyOf0 : Cond.static y_V_copyOf0.1 ∈ WS := ws_at 454 (by decide +kernel) rfl
abbrev y_V_copyOf1 : mY := (⟨"java/util/Arrays", "copyOf", "([Ljava/lang/Object;ILjava/lang/Class;)[Ljava/lang/Object;"⟩, prog_19_method_120_code, 4, (some (.array (.object "java/lang/Object"))))
set_option maxRecDepth 100000 in
theorem ok_V_copyOf1 : okY y_V_copyOf1 3 := ⟨ws_at 472 rfl rfl, ws_at 17 (by decide +kernel) rfl, ⟨by decide +kernel, by decide +kernel⟩, by decide +kernel, by decide⟩
theorem st_V_copyOf1 : Cond.static y_V_copyOf1.1 ∈ WS := ws_at 471 (by decide +kernel) rfl
end
section
theorem lk_L_1 : Cond.methodLink "LeasedFiles" 1 Lib.objectInit ∈ WS := ws_at 24 (by decide +kernel) rfl
theorem lk_L_9 : Cond.methodLink "LeasedFiles" 9 y_L_clamp.1 ∈ WS := ws_at 27 (by decide +kernel) rfl
theorem lk_L_155 : Cond.methodLink "LeasedFiles" 155 Lib.Math.min.name ∈ WS := ws_at 30 (by decide +kernel) rfl
theorem lk_L_160 : Cond.methodLink "LeasedFiles" 160 Lib.Math.max.name ∈ WS := ws_at 33 (by decide +kernel) rfl
theorem lk_L_19 : Cond.methodLink "LeasedFiles" 19 y_P_init.1 ∈ WS := ws_at 38 (by decide +kernel) rfl
theorem lk_L_26 : Cond.methodLink "LeasedFiles" 26 y_S_init.1 ∈ WS := ws_at 106 (by decide +kernel) rfl
theorem lk_L_39 : Cond.methodLink "LeasedFiles" 39 y_C_init.1 ∈ WS := ws_at 193 (by decide +kernel) rfl
theorem lk_L_40 : Cond.methodLink "LeasedFiles" 40 y_L_hasClient.1 ∈ WS := ws_at 282 (by decide +kernel) rfl
theorem lk_L_44 : Cond.methodLink "LeasedFiles" 44 y_L_hasFile.1 ∈ WS := ws_at 286 (by decide +kernel) rfl
theorem lk_L_47 : Cond.methodLink "LeasedFiles" 47 y_C_startRead.1 ∈ WS := ws_at 290 (by decide +kernel) rfl
theorem lk_L_51 : Cond.methodLink "LeasedFiles" 51 y_C_startWrite.1 ∈ WS := ws_at 318 (by decide +kernel) rfl
theorem lk_L_55 : Cond.methodLink "LeasedFiles" 55 y_C_sendAgain.1 ∈ WS := ws_at 326 (by decide +kernel) rfl
theorem lk_L_62 : Cond.methodLink "LeasedFiles" 62 y_L_isDone.1 ∈ WS := ws_at 338 (by decide +kernel) rfl
theorem lk_L_71 : Cond.methodLink "LeasedFiles" 71 y_P_holds.1 ∈ WS := ws_at 350 (by decide +kernel) rfl
theorem lk_L_74 : Cond.methodLink "LeasedFiles" 74 y_P_takeOut.1 ∈ WS := ws_at 354 (by decide +kernel) rfl
theorem lk_L_78 : Cond.methodLink "LeasedFiles" 78 y_M_goesToServer.1 ∈ WS := ws_at 358 (by decide +kernel) rfl
theorem lk_L_84 : Cond.methodLink "LeasedFiles" 84 y_S_receive.1 ∈ WS := ws_at 362 (by decide +kernel) rfl
theorem lk_L_94 : Cond.methodLink "LeasedFiles" 94 y_C_receive.1 ∈ WS := ws_at 521 (by decide +kernel) rfl
theorem lk_L_104 : Cond.methodLink "LeasedFiles" 104 y_M_part.1 ∈ WS := ws_at 561 (by decide +kernel) rfl
theorem lk_L_108 : Cond.methodLink "LeasedFiles" 108 y_L_isStep.1 ∈ WS := ws_at 569 (by decide +kernel) rfl
theorem lk_L_111 : Cond.methodLink "LeasedFiles" 111 y_S_letTimeGoBy.1 ∈ WS := ws_at 572 (by decide +kernel) rfl
theorem lk_L_117 : Cond.methodLink "LeasedFiles" 117 y_C_forget.1 ∈ WS := ws_at 584 (by decide +kernel) rfl
theorem lk_L_125 : Cond.methodLink "LeasedFiles" 125 y_S_goDown.1 ∈ WS := ws_at 592 (by decide +kernel) rfl
theorem lk_L_128 : Cond.methodLink "LeasedFiles" 128 y_S_comeUp.1 ∈ WS := ws_at 609 (by decide +kernel) rfl
theorem lk_L_135 : Cond.methodLink "LeasedFiles" 135 y_Y_part.1 ∈ WS := ws_at 617 (by decide +kernel) rfl
theorem lk_L_149 : Cond.methodLink "LeasedFiles" 149 y_L_timeLeft.1 ∈ WS := ws_at 628 (by decide +kernel) rfl
theorem lk_L_152 : Cond.methodLink "LeasedFiles" 152 y_F_part.1 ∈ WS := ws_at 633 (by decide +kernel) rfl
theorem lk_L_153 : Cond.methodLink "LeasedFiles" 153 y_S_part.1 ∈ WS := ws_at 641 (by decide +kernel) rfl
theorem lk_L_154 : Cond.methodLink "LeasedFiles" 154 y_C_part.1 ∈ WS := ws_at 650 (by decide +kernel) rfl
theorem f_L_88 : fdl "LeasedFiles" 4 0 88 := ⟨_, T_M, 7, "LeasedFiles$Message", rfl, u_M, by decide, ws_at 53 (by decide +kernel) rfl, Or.inl rfl⟩
theorem fw_L_88 : fdw "LeasedFiles" 4 0 88 .int false := ⟨_, T_M, 7, "LeasedFiles$Message", t_M, rfl, u_M, by decide, ws_at 53 (by decide +kernel) rfl, Or.inl rfl, tk_M, n_M, by decide +kernel, rfl, fun h => by first | rfl | cases h⟩
theorem f_L_91 : fdl "LeasedFiles" 4 1 91 := ⟨_, T_M, 7, "LeasedFiles$Message", rfl, u_M, by decide, ws_at 57 (by decide +kernel) rfl, Or.inl rfl⟩
theorem fw_L_91 : fdw "LeasedFiles" 4 1 91 .int false := ⟨_, T_M, 7, "LeasedFiles$Message", t_M, rfl, u_M, by decide, ws_at 57 (by decide +kernel) rfl, Or.inl rfl, tk_M, n_M, by decide +kernel, rfl, fun h => by first | rfl | cases h⟩
theorem f_L_100 : fdl "LeasedFiles" 5 0 100 := ⟨_, T_P, 3, "LeasedFiles$Pool", rfl, u_P, by decide, ws_at 93 (by decide +kernel) rfl, Or.inl rfl⟩
theorem f_L_97 : fdl "LeasedFiles" 5 1 97 := ⟨_, T_P, 3, "LeasedFiles$Pool", rfl, u_P, by decide, ws_at 95 (by decide +kernel) rfl, Or.inl rfl⟩
theorem fw_L_97 : fdw "LeasedFiles" 5 1 97 .int false := ⟨_, T_P, 3, "LeasedFiles$Pool", t_P, rfl, u_P, by decide, ws_at 95 (by decide +kernel) rfl, Or.inl rfl, tk_P, n_P, by decide +kernel, rfl, fun h => by first | rfl | cases h⟩
theorem f_L_142 : fdl "LeasedFiles" 6 0 142 := ⟨_, T_F, 4, "LeasedFiles$ServedFile", rfl, u_F, by decide, ws_at 146 (by decide +kernel) rfl, Or.inl rfl⟩
theorem f_L_139 : fdl "LeasedFiles" 7 1 139 := ⟨_, T_S, 8, "LeasedFiles$Server", rfl, u_S, by decide, ws_at 164 (by decide +kernel) rfl, Or.inl rfl⟩
theorem f_L_148 : fdl "LeasedFiles" 7 4 148 := ⟨_, T_S, 8, "LeasedFiles$Server", rfl, u_S, by decide, ws_at 168 (by decide +kernel) rfl, Or.inl rfl⟩
theorem fw_L_148 : fdw "LeasedFiles" 7 4 148 .int false := ⟨_, T_S, 8, "LeasedFiles$Server", t_S, rfl, u_S, by decide, ws_at 168 (by decide +kernel) rfl, Or.inl rfl, tk_S, n_S, by decide +kernel, rfl, fun h => by first | rfl | cases h⟩
theorem f_L_121 : fdl "LeasedFiles" 7 5 121 := ⟨_, T_S, 8, "LeasedFiles$Server", rfl, u_S, by decide, ws_at 170 (by decide +kernel) rfl, Or.inl rfl⟩
theorem fw_L_121 : fdw "LeasedFiles" 7 5 121 .boolean false := ⟨_, T_S, 8, "LeasedFiles$Server", t_S, rfl, u_S, by decide, ws_at 170 (by decide +kernel) rfl, Or.inl rfl, tk_S, n_S, by decide +kernel, rfl, fun h => by first | rfl | cases h⟩
theorem f_L_131 : fdl "LeasedFiles" 2 2 131 := ⟨_, T_C, 13, "LeasedFiles$Client", rfl, u_C, by decide, ws_at 223 (by decide +kernel) rfl, Or.inl rfl⟩
theorem f_L_114 : fdl "LeasedFiles" 2 3 114 := ⟨_, T_C, 13, "LeasedFiles$Client", rfl, u_C, by decide, ws_at 225 (by decide +kernel) rfl, Or.inl rfl⟩
theorem fw_L_114 : fdw "LeasedFiles" 2 3 114 .int false := ⟨_, T_C, 13, "LeasedFiles$Client", t_C, rfl, u_C, by decide, ws_at 225 (by decide +kernel) rfl, Or.inl rfl, tk_C, n_C, by decide +kernel, rfl, fun h => by first | rfl | cases h⟩
theorem f_L_59 : fdl "LeasedFiles" 2 4 59 := ⟨_, T_C, 13, "LeasedFiles$Client", rfl, u_C, by decide, ws_at 227 (by decide +kernel) rfl, Or.inl rfl⟩
theorem fw_L_59 : fdw "LeasedFiles" 2 4 59 .int false := ⟨_, T_C, 13, "LeasedFiles$Client", t_C, rfl, u_C, by decide, ws_at 227 (by decide +kernel) rfl, Or.inl rfl, tk_C, n_C, by decide +kernel, rfl, fun h => by first | rfl | cases h⟩
theorem f_L_65 : fdl "LeasedFiles" 2 11 65 := ⟨_, T_C, 13, "LeasedFiles$Client", rfl, u_C, by decide, ws_at 235 (by decide +kernel) rfl, Or.inl rfl⟩
theorem fw_L_65 : fdw "LeasedFiles" 2 11 65 .int false := ⟨_, T_C, 13, "LeasedFiles$Client", t_C, rfl, u_C, by decide, ws_at 235 (by decide +kernel) rfl, Or.inl rfl, tk_C, n_C, by decide +kernel, rfl, fun h => by first | rfl | cases h⟩
theorem f_L_68 : fdl "LeasedFiles" 2 12 68 := ⟨_, T_C, 13, "LeasedFiles$Client", rfl, u_C, by decide, ws_at 237 (by decide +kernel) rfl, Or.inl rfl⟩
theorem fw_L_68 : fdw "LeasedFiles" 2 12 68 .int false := ⟨_, T_C, 13, "LeasedFiles$Client", t_C, rfl, u_C, by decide, ws_at 237 (by decide +kernel) rfl, Or.inl rfl, tk_C, n_C, by decide +kernel, rfl, fun h => by first | rfl | cases h⟩
theorem f_L_20 : fdl "LeasedFiles" 1 0 20 := ⟨_, T_L, 4, "LeasedFiles", rfl, u_L, by decide, ws_at 265 (by decide +kernel) rfl, Or.inl rfl⟩
theorem fw_L_20 : fdw "LeasedFiles" 1 0 20 (.object "LeasedFiles$Pool") true := ⟨_, T_L, 4, "LeasedFiles", t_L, rfl, u_L, by decide, ws_at 265 (by decide +kernel) rfl, Or.inl rfl, tk_L, n_L, by decide +kernel, rfl, fun h => by first | rfl | cases h⟩
theorem f_L_29 : fdl "LeasedFiles" 1 1 29 := ⟨_, T_L, 4, "LeasedFiles", rfl, u_L, by decide, ws_at 266 (by decide +kernel) rfl, Or.inl rfl⟩
theorem fw_L_29 : fdw "LeasedFiles" 1 1 29 (.object "LeasedFiles$Server") true := ⟨_, T_L, 4, "LeasedFiles", t_L, rfl, u_L, by decide, ws_at 266 (by decide +kernel) rfl, Or.inl rfl, tk_L, n_L, by decide +kernel, rfl, fun h => by first | rfl | cases h⟩
theorem f_L_35 : fdl "LeasedFiles" 1 2 35 := ⟨_, T_L, 4, "LeasedFiles", rfl, u_L, by decide, ws_at 267 (by decide +kernel) rfl, Or.inl rfl⟩
theorem fw_L_35 : fdw "LeasedFiles" 1 2 35 (.array (.object "LeasedFiles$Client")) true := ⟨_, T_L, 4, "LeasedFiles", t_L, rfl, u_L, by decide, ws_at 267 (by decide +kernel) rfl, Or.inl rfl, tk_L, n_L, by decide +kernel, rfl, fun h => by first | rfl | cases h⟩
theorem f_L_13 : fdl "LeasedFiles" 1 3 13 := ⟨_, T_L, 4, "LeasedFiles", rfl, u_L, by decide, ws_at 268 (by decide +kernel) rfl, Or.inl rfl⟩
theorem fw_L_13 : fdw "LeasedFiles" 1 3 13 .int true := ⟨_, T_L, 4, "LeasedFiles", t_L, rfl, u_L, by decide, ws_at 268 (by decide +kernel) rfl, Or.inl rfl, tk_L, n_L, by decide +kernel, rfl, fun h => by first | rfl | cases h⟩
theorem cl_L_17 : Cond.classLink "LeasedFiles" 17 "LeasedFiles$Pool" ∈ WS := ws_at 36 (by decide +kernel) rfl
theorem cl_L_24 : Cond.classLink "LeasedFiles" 24 "LeasedFiles$Server" ∈ WS := ws_at 104 (by decide +kernel) rfl
theorem cl_L_33 : Cond.classLink "LeasedFiles" 33 "LeasedFiles$Client" ∈ WS := ws_at 190 (by decide +kernel) rfl
theorem lk_C_3 : Cond.methodLink "LeasedFiles$Client" 3 Lib.objectInit ∈ WS := ws_at 196 (by decide +kernel) rfl
theorem lk_C_56 : Cond.methodLink "LeasedFiles$Client" 56 y_C_startOperation.1 ∈ WS := ws_at 294 (by decide +kernel) rfl
theorem lk_C_60 : Cond.methodLink "LeasedFiles$Client" 60 y_Y_isGoodAt.1 ∈ WS := ws_at 298 (by decide +kernel) rfl
theorem lk_C_68 : Cond.methodLink "LeasedFiles$Client" 68 y_C_finish.1 ∈ WS := ws_at 302 (by decide +kernel) rfl
theorem lk_C_72 : Cond.methodLink "LeasedFiles$Client" 72 y_C_sendRequest.1 ∈ WS := ws_at 306 (by decide +kernel) rfl
theorem lk_C_99 : Cond.methodLink "LeasedFiles$Client" 99 y_P_send.1 ∈ WS := ws_at 310 (by decide +kernel) rfl
theorem lk_C_84 : Cond.methodLink "LeasedFiles$Client" 84 y_C_receiveGiven.1 ∈ WS := ws_at 525 (by decide +kernel) rfl
theorem lk_C_95 : Cond.methodLink "LeasedFiles$Client" 95 y_C_waitsToRead.1 ∈ WS := ws_at 529 (by decide +kernel) rfl
theorem lk_C_116 : Cond.methodLink "LeasedFiles$Client" 116 y_Y_hold.1 ∈ WS := ws_at 533 (by decide +kernel) rfl
theorem lk_C_88 : Cond.methodLink "LeasedFiles$Client" 88 y_C_receiveStored.1 ∈ WS := ws_at 537 (by decide +kernel) rfl
theorem lk_C_120 : Cond.methodLink "LeasedFiles$Client" 120 y_C_waitsToWrite.1 ∈ WS := ws_at 541 (by decide +kernel) rfl
theorem lk_C_91 : Cond.methodLink "LeasedFiles$Client" 91 y_C_receiveRecall.1 ∈ WS := ws_at 545 (by decide +kernel) rfl
theorem lk_C_55 : Cond.methodLinkNest "LeasedFiles$Client" 55 y_Y_init.1 "LeasedFiles" ∈ lw_tbl := List.mem_append_right _ (List.mem_of_getElem? (i := 200) (by decide +kernel))
theorem f_C_79 : fdl "LeasedFiles$Client" 4 0 79 := ⟨_, T_M, 7, "LeasedFiles$Message", rfl, u_M, by decide, ws_at 52 (by decide +kernel) rfl, Or.inl rfl⟩
theorem fw_C_79 : fdw "LeasedFiles$Client" 4 0 79 .int false := ⟨_, T_M, 7, "LeasedFiles$Message", t_M, rfl, u_M, by decide, ws_at 52 (by decide +kernel) rfl, Or.inl rfl, tk_M, n_M, by decide +kernel, rfl, fun h => by first | rfl | cases h⟩
theorem f_C_115 : fdl "LeasedFiles$Client" 4 2 115 := ⟨_, T_M, 7, "LeasedFiles$Message", rfl, u_M, by decide, ws_at 61 (by decide +kernel) rfl, Or.inl rfl⟩
theorem fw_C_115 : fdw "LeasedFiles$Client" 4 2 115 .int false := ⟨_, T_M, 7, "LeasedFiles$Message", t_M, rfl, u_M, by decide, ws_at 61 (by decide +kernel) rfl, Or.inl rfl, tk_M, n_M, by decide +kernel, rfl, fun h => by first | rfl | cases h⟩
theorem f_C_105 : fdl "LeasedFiles$Client" 4 3 105 := ⟨_, T_M, 7, "LeasedFiles$Message", rfl, u_M, by decide, ws_at 65 (by decide +kernel) rfl, Or.inl rfl⟩
theorem fw_C_105 : fdw "LeasedFiles$Client" 4 3 105 .int false := ⟨_, T_M, 7, "LeasedFiles$Message", t_M, rfl, u_M, by decide, ws_at 65 (by decide +kernel) rfl, Or.inl rfl, tk_M, n_M, by decide +kernel, rfl, fun h => by first | rfl | cases h⟩
theorem f_C_106 : fdl "LeasedFiles$Client" 4 4 106 := ⟨_, T_M, 7, "LeasedFiles$Message", rfl, u_M, by decide, ws_at 69 (by decide +kernel) rfl, Or.inl rfl⟩
theorem fw_C_106 : fdw "LeasedFiles$Client" 4 4 106 .int false := ⟨_, T_M, 7, "LeasedFiles$Message", t_M, rfl, u_M, by decide, ws_at 69 (by decide +kernel) rfl, Or.inl rfl, tk_M, n_M, by decide +kernel, rfl, fun h => by first | rfl | cases h⟩
theorem f_C_109 : fdl "LeasedFiles$Client" 4 5 109 := ⟨_, T_M, 7, "LeasedFiles$Message", rfl, u_M, by decide, ws_at 73 (by decide +kernel) rfl, Or.inl rfl⟩
theorem fw_C_109 : fdw "LeasedFiles$Client" 4 5 109 .int false := ⟨_, T_M, 7, "LeasedFiles$Message", t_M, rfl, u_M, by decide, ws_at 73 (by decide +kernel) rfl, Or.inl rfl, tk_M, n_M, by decide +kernel, rfl, fun h => by first | rfl | cases h⟩
theorem f_C_112 : fdl "LeasedFiles$Client" 4 6 112 := ⟨_, T_M, 7, "LeasedFiles$Message", rfl, u_M, by decide, ws_at 76 (by decide +kernel) rfl, Or.inl rfl⟩
theorem fw_C_112 : fdw "LeasedFiles$Client" 4 6 112 .int false := ⟨_, T_M, 7, "LeasedFiles$Message", t_M, rfl, u_M, by decide, ws_at 76 (by decide +kernel) rfl, Or.inl rfl, tk_M, n_M, by decide +kernel, rfl, fun h => by first | rfl | cases h⟩
theorem f_C_76 : fdl "LeasedFiles$Client" 3 0 76 := ⟨_, T_Y, 4, "LeasedFiles$Copy", rfl, u_Y, by decide, ws_at 205 (by decide +kernel) rfl, Or.inl rfl⟩
theorem fw_C_76 : fdw "LeasedFiles$Client" 3 0 76 .boolean false := ⟨_, T_Y, 4, "LeasedFiles$Copy", t_Y, rfl, u_Y, by decide, ws_at 205 (by decide +kernel) rfl, Or.inl rfl, tk_Y, n_Y, by decide +kernel, rfl, fun h => by first | rfl | cases h⟩
theorem f_C_64 : fdl "LeasedFiles$Client" 3 1 64 := ⟨_, T_Y, 4, "LeasedFiles$Copy", rfl, u_Y, by decide, ws_at 207 (by decide +kernel) rfl, Or.inl rfl⟩
theorem fw_C_64 : fdw "LeasedFiles$Client" 3 1 64 .int false := ⟨_, T_Y, 4, "LeasedFiles$Copy", t_Y, rfl, u_Y, by decide, ws_at 207 (by decide +kernel) rfl, Or.inl rfl, tk_Y, n_Y, by decide +kernel, rfl, fun h => by first | rfl | cases h⟩
theorem f_C_65 : fdl "LeasedFiles$Client" 3 2 65 := ⟨_, T_Y, 4, "LeasedFiles$Copy", rfl, u_Y, by decide, ws_at 209 (by decide +kernel) rfl, Or.inl rfl⟩
theorem fw_C_65 : fdw "LeasedFiles$Client" 3 2 65 .int false := ⟨_, T_Y, 4, "LeasedFiles$Copy", t_Y, rfl, u_Y, by decide, ws_at 209 (by decide +kernel) rfl, Or.inl rfl, tk_Y, n_Y, by decide +kernel, rfl, fun h => by first | rfl | cases h⟩
theorem f_C_43 : fdl "LeasedFiles$Client" 2 0 43 := ⟨_, T_C, 13, "LeasedFiles$Client", rfl, u_C, by decide, ws_at 220 (by decide +kernel) rfl, Or.inl rfl⟩
theorem fw_C_43 : fdw "LeasedFiles$Client" 2 0 43 .int true := ⟨_, T_C, 13, "LeasedFiles$Client", t_C, rfl, u_C, by decide, ws_at 220 (by decide +kernel) rfl, Or.inl rfl, tk_C, n_C, by decide +kernel, rfl, fun h => by first | rfl | cases h⟩
theorem f_C_46 : fdl "LeasedFiles$Client" 2 1 46 := ⟨_, T_C, 13, "LeasedFiles$Client", rfl, u_C, by decide, ws_at 221 (by decide +kernel) rfl, Or.inl rfl⟩
theorem fw_C_46 : fdw "LeasedFiles$Client" 2 1 46 .int true := ⟨_, T_C, 13, "LeasedFiles$Client", t_C, rfl, u_C, by decide, ws_at 221 (by decide +kernel) rfl, Or.inl rfl, tk_C, n_C, by decide +kernel, rfl, fun h => by first | rfl | cases h⟩
theorem f_C_51 : fdl "LeasedFiles$Client" 2 2 51 := ⟨_, T_C, 13, "LeasedFiles$Client", rfl, u_C, by decide, ws_at 222 (by decide +kernel) rfl, Or.inl rfl⟩
theorem fw_C_51 : fdw "LeasedFiles$Client" 2 2 51 (.array (.object "LeasedFiles$Copy")) true := ⟨_, T_C, 13, "LeasedFiles$Client", t_C, rfl, u_C, by decide, ws_at 222 (by decide +kernel) rfl, Or.inl rfl, tk_C, n_C, by decide +kernel, rfl, fun h => by first | rfl | cases h⟩
theorem f_C_9 : fdl "LeasedFiles$Client" 2 3 9 := ⟨_, T_C, 13, "LeasedFiles$Client", rfl, u_C, by decide, ws_at 224 (by decide +kernel) rfl, Or.inl rfl⟩
theorem fw_C_9 : fdw "LeasedFiles$Client" 2 3 9 .int false := ⟨_, T_C, 13, "LeasedFiles$Client", t_C, rfl, u_C, by decide, ws_at 224 (by decide +kernel) rfl, Or.inl rfl, tk_C, n_C, by decide +kernel, rfl, fun h => by first | rfl | cases h⟩
theorem f_C_15 : fdl "LeasedFiles$Client" 2 4 15 := ⟨_, T_C, 13, "LeasedFiles$Client", rfl, u_C, by decide, ws_at 226 (by decide +kernel) rfl, Or.inl rfl⟩
theorem fw_C_15 : fdw "LeasedFiles$Client" 2 4 15 .int false := ⟨_, T_C, 13, "LeasedFiles$Client", t_C, rfl, u_C, by decide, ws_at 226 (by decide +kernel) rfl, Or.inl rfl, tk_C, n_C, by decide +kernel, rfl, fun h => by first | rfl | cases h⟩
theorem f_C_18 : fdl "LeasedFiles$Client" 2 5 18 := ⟨_, T_C, 13, "LeasedFiles$Client", rfl, u_C, by decide, ws_at 228 (by decide +kernel) rfl, Or.inl rfl⟩
theorem fw_C_18 : fdw "LeasedFiles$Client" 2 5 18 .int false := ⟨_, T_C, 13, "LeasedFiles$Client", t_C, rfl, u_C, by decide, ws_at 228 (by decide +kernel) rfl, Or.inl rfl, tk_C, n_C, by decide +kernel, rfl, fun h => by first | rfl | cases h⟩
theorem f_C_21 : fdl "LeasedFiles$Client" 2 6 21 := ⟨_, T_C, 13, "LeasedFiles$Client", rfl, u_C, by decide, ws_at 229 (by decide +kernel) rfl, Or.inl rfl⟩
theorem fw_C_21 : fdw "LeasedFiles$Client" 2 6 21 .boolean false := ⟨_, T_C, 13, "LeasedFiles$Client", t_C, rfl, u_C, by decide, ws_at 229 (by decide +kernel) rfl, Or.inl rfl, tk_C, n_C, by decide +kernel, rfl, fun h => by first | rfl | cases h⟩
theorem f_C_25 : fdl "LeasedFiles$Client" 2 7 25 := ⟨_, T_C, 13, "LeasedFiles$Client", rfl, u_C, by decide, ws_at 230 (by decide +kernel) rfl, Or.inl rfl⟩
theorem fw_C_25 : fdw "LeasedFiles$Client" 2 7 25 .int false := ⟨_, T_C, 13, "LeasedFiles$Client", t_C, rfl, u_C, by decide, ws_at 230 (by decide +kernel) rfl, Or.inl rfl, tk_C, n_C, by decide +kernel, rfl, fun h => by first | rfl | cases h⟩
theorem f_C_28 : fdl "LeasedFiles$Client" 2 8 28 := ⟨_, T_C, 13, "LeasedFiles$Client", rfl, u_C, by decide, ws_at 231 (by decide +kernel) rfl, Or.inl rfl⟩
theorem fw_C_28 : fdw "LeasedFiles$Client" 2 8 28 .int false := ⟨_, T_C, 13, "LeasedFiles$Client", t_C, rfl, u_C, by decide, ws_at 231 (by decide +kernel) rfl, Or.inl rfl, tk_C, n_C, by decide +kernel, rfl, fun h => by first | rfl | cases h⟩
theorem f_C_31 : fdl "LeasedFiles$Client" 2 9 31 := ⟨_, T_C, 13, "LeasedFiles$Client", rfl, u_C, by decide, ws_at 232 (by decide +kernel) rfl, Or.inl rfl⟩
theorem fw_C_31 : fdw "LeasedFiles$Client" 2 9 31 .int false := ⟨_, T_C, 13, "LeasedFiles$Client", t_C, rfl, u_C, by decide, ws_at 232 (by decide +kernel) rfl, Or.inl rfl, tk_C, n_C, by decide +kernel, rfl, fun h => by first | rfl | cases h⟩
theorem f_C_34 : fdl "LeasedFiles$Client" 2 10 34 := ⟨_, T_C, 13, "LeasedFiles$Client", rfl, u_C, by decide, ws_at 233 (by decide +kernel) rfl, Or.inl rfl⟩
theorem fw_C_34 : fdw "LeasedFiles$Client" 2 10 34 .boolean false := ⟨_, T_C, 13, "LeasedFiles$Client", t_C, rfl, u_C, by decide, ws_at 233 (by decide +kernel) rfl, Or.inl rfl, tk_C, n_C, by decide +kernel, rfl, fun h => by first | rfl | cases h⟩
theorem f_C_37 : fdl "LeasedFiles$Client" 2 11 37 := ⟨_, T_C, 13, "LeasedFiles$Client", rfl, u_C, by decide, ws_at 234 (by decide +kernel) rfl, Or.inl rfl⟩
theorem fw_C_37 : fdw "LeasedFiles$Client" 2 11 37 .int false := ⟨_, T_C, 13, "LeasedFiles$Client", t_C, rfl, u_C, by decide, ws_at 234 (by decide +kernel) rfl, Or.inl rfl, tk_C, n_C, by decide +kernel, rfl, fun h => by first | rfl | cases h⟩
theorem f_C_40 : fdl "LeasedFiles$Client" 2 12 40 := ⟨_, T_C, 13, "LeasedFiles$Client", rfl, u_C, by decide, ws_at 236 (by decide +kernel) rfl, Or.inl rfl⟩
theorem fw_C_40 : fdw "LeasedFiles$Client" 2 12 40 .int false := ⟨_, T_C, 13, "LeasedFiles$Client", t_C, rfl, u_C, by decide, ws_at 236 (by decide +kernel) rfl, Or.inl rfl, tk_C, n_C, by decide +kernel, rfl, fun h => by first | rfl | cases h⟩
theorem cl_C_49 : Cond.classLink "LeasedFiles$Client" 49 "LeasedFiles$Copy" ∈ WS := ws_at 197 (by decide +kernel) rfl
theorem lk_Y_3 : Cond.methodLink "LeasedFiles$Copy" 3 Lib.objectInit ∈ WS := ws_at 203 (by decide +kernel) rfl
theorem lk_Y_25 : Cond.methodLinkNest "LeasedFiles$Copy" 25 y_L_timeLeft.1 "LeasedFiles" ∈ lw_tbl := List.mem_append_right _ (List.mem_of_getElem? (i := 621) (by decide +kernel))
theorem f_Y_9 : fdl "LeasedFiles$Copy" 3 0 9 := ⟨_, T_Y, 4, "LeasedFiles$Copy", rfl, u_Y, by decide, ws_at 204 (by decide +kernel) rfl, Or.inl rfl⟩
theorem fw_Y_9 : fdw "LeasedFiles$Copy" 3 0 9 .boolean false := ⟨_, T_Y, 4, "LeasedFiles$Copy", t_Y, rfl, u_Y, by decide, ws_at 204 (by decide +kernel) rfl, Or.inl rfl, tk_Y, n_Y, by decide +kernel, rfl, fun h => by first | rfl | cases h⟩
theorem f_Y_15 : fdl "LeasedFiles$Copy" 3 1 15 := ⟨_, T_Y, 4, "LeasedFiles$Copy", rfl, u_Y, by decide, ws_at 206 (by decide +kernel) rfl, Or.inl rfl⟩
theorem fw_Y_15 : fdw "LeasedFiles$Copy" 3 1 15 .int false := ⟨_, T_Y, 4, "LeasedFiles$Copy", t_Y, rfl, u_Y, by decide, ws_at 206 (by decide +kernel) rfl, Or.inl rfl, tk_Y, n_Y, by decide +kernel, rfl, fun h => by first | rfl | cases h⟩
theorem f_Y_19 : fdl "LeasedFiles$Copy" 3 2 19 := ⟨_, T_Y, 4, "LeasedFiles$Copy", rfl, u_Y, by decide, ws_at 208 (by decide +kernel) rfl, Or.inl rfl⟩
theorem fw_Y_19 : fdw "LeasedFiles$Copy" 3 2 19 .int false := ⟨_, T_Y, 4, "LeasedFiles$Copy", t_Y, rfl, u_Y, by decide, ws_at 208 (by decide +kernel) rfl, Or.inl rfl, tk_Y, n_Y, by decide +kernel, rfl, fun h => by first | rfl | cases h⟩
theorem f_Y_22 : fdl "LeasedFiles$Copy" 3 3 22 := ⟨_, T_Y, 4, "LeasedFiles$Copy", rfl, u_Y, by decide, ws_at 210 (by decide +kernel) rfl, Or.inl rfl⟩
theorem fw_Y_22 : fdw "LeasedFiles$Copy" 3 3 22 .int false := ⟨_, T_Y, 4, "LeasedFiles$Copy", t_Y, rfl, u_Y, by decide, ws_at 210 (by decide +kernel) rfl, Or.inl rfl, tk_Y, n_Y, by decide +kernel, rfl, fun h => by first | rfl | cases h⟩
theorem lk_M_3 : Cond.methodLink "LeasedFiles$Message" 3 Lib.objectInit ∈ WS := ws_at 48 (by decide +kernel) rfl
theorem f_M_9 : fdl "LeasedFiles$Message" 4 0 9 := ⟨_, T_M, 7, "LeasedFiles$Message", rfl, u_M, by decide, ws_at 49 (by decide +kernel) rfl, Or.inl rfl⟩
theorem fw_M_9 : fdw "LeasedFiles$Message" 4 0 9 .int false := ⟨_, T_M, 7, "LeasedFiles$Message", t_M, rfl, u_M, by decide, ws_at 49 (by decide +kernel) rfl, Or.inl rfl, tk_M, n_M, by decide +kernel, rfl, fun h => by first | rfl | cases h⟩
theorem f_M_15 : fdl "LeasedFiles$Message" 4 1 15 := ⟨_, T_M, 7, "LeasedFiles$Message", rfl, u_M, by decide, ws_at 55 (by decide +kernel) rfl, Or.inl rfl⟩
theorem fw_M_15 : fdw "LeasedFiles$Message" 4 1 15 .int false := ⟨_, T_M, 7, "LeasedFiles$Message", t_M, rfl, u_M, by decide, ws_at 55 (by decide +kernel) rfl, Or.inl rfl, tk_M, n_M, by decide +kernel, rfl, fun h => by first | rfl | cases h⟩
theorem f_M_18 : fdl "LeasedFiles$Message" 4 2 18 := ⟨_, T_M, 7, "LeasedFiles$Message", rfl, u_M, by decide, ws_at 59 (by decide +kernel) rfl, Or.inl rfl⟩
theorem fw_M_18 : fdw "LeasedFiles$Message" 4 2 18 .int false := ⟨_, T_M, 7, "LeasedFiles$Message", t_M, rfl, u_M, by decide, ws_at 59 (by decide +kernel) rfl, Or.inl rfl, tk_M, n_M, by decide +kernel, rfl, fun h => by first | rfl | cases h⟩
theorem f_M_21 : fdl "LeasedFiles$Message" 4 3 21 := ⟨_, T_M, 7, "LeasedFiles$Message", rfl, u_M, by decide, ws_at 63 (by decide +kernel) rfl, Or.inl rfl⟩
theorem fw_M_21 : fdw "LeasedFiles$Message" 4 3 21 .int false := ⟨_, T_M, 7, "LeasedFiles$Message", t_M, rfl, u_M, by decide, ws_at 63 (by decide +kernel) rfl, Or.inl rfl, tk_M, n_M, by decide +kernel, rfl, fun h => by first | rfl | cases h⟩
theorem f_M_24 : fdl "LeasedFiles$Message" 4 4 24 := ⟨_, T_M, 7, "LeasedFiles$Message", rfl, u_M, by decide, ws_at 67 (by decide +kernel) rfl, Or.inl rfl⟩
theorem fw_M_24 : fdw "LeasedFiles$Message" 4 4 24 .int false := ⟨_, T_M, 7, "LeasedFiles$Message", t_M, rfl, u_M, by decide, ws_at 67 (by decide +kernel) rfl, Or.inl rfl, tk_M, n_M, by decide +kernel, rfl, fun h => by first | rfl | cases h⟩
theorem f_M_27 : fdl "LeasedFiles$Message" 4 5 27 := ⟨_, T_M, 7, "LeasedFiles$Message", rfl, u_M, by decide, ws_at 71 (by decide +kernel) rfl, Or.inl rfl⟩
theorem fw_M_27 : fdw "LeasedFiles$Message" 4 5 27 .int false := ⟨_, T_M, 7, "LeasedFiles$Message", t_M, rfl, u_M, by decide, ws_at 71 (by decide +kernel) rfl, Or.inl rfl, tk_M, n_M, by decide +kernel, rfl, fun h => by first | rfl | cases h⟩
theorem f_M_30 : fdl "LeasedFiles$Message" 4 6 30 := ⟨_, T_M, 7, "LeasedFiles$Message", rfl, u_M, by decide, ws_at 75 (by decide +kernel) rfl, Or.inl rfl⟩
theorem fw_M_30 : fdw "LeasedFiles$Message" 4 6 30 .int false := ⟨_, T_M, 7, "LeasedFiles$Message", t_M, rfl, u_M, by decide, ws_at 75 (by decide +kernel) rfl, Or.inl rfl, tk_M, n_M, by decide +kernel, rfl, fun h => by first | rfl | cases h⟩
theorem lk_P_3 : Cond.methodLink "LeasedFiles$Pool" 3 Lib.objectInit ∈ WS := ws_at 41 (by decide +kernel) rfl
theorem lk_P_21 : Cond.methodLinkNest "LeasedFiles$Pool" 21 y_M_init.1 "LeasedFiles" ∈ lw_tbl := List.mem_append_right _ (List.mem_of_getElem? (i := 45) (by decide +kernel))
theorem f_P_26 : fdl "LeasedFiles$Pool" 4 0 26 := ⟨_, T_M, 7, "LeasedFiles$Message", rfl, u_M, by decide, ws_at 51 (by decide +kernel) rfl, Or.inl rfl⟩
theorem fw_P_26 : fdw "LeasedFiles$Pool" 4 0 26 .int false := ⟨_, T_M, 7, "LeasedFiles$Message", t_M, rfl, u_M, by decide, ws_at 51 (by decide +kernel) rfl, Or.inl rfl, tk_M, n_M, by decide +kernel, rfl, fun h => by first | rfl | cases h⟩
theorem f_P_29 : fdl "LeasedFiles$Pool" 4 1 29 := ⟨_, T_M, 7, "LeasedFiles$Message", rfl, u_M, by decide, ws_at 54 (by decide +kernel) rfl, Or.inl rfl⟩
theorem fw_P_29 : fdw "LeasedFiles$Pool" 4 1 29 .int false := ⟨_, T_M, 7, "LeasedFiles$Message", t_M, rfl, u_M, by decide, ws_at 54 (by decide +kernel) rfl, Or.inl rfl, tk_M, n_M, by decide +kernel, rfl, fun h => by first | rfl | cases h⟩
theorem f_P_32 : fdl "LeasedFiles$Pool" 4 2 32 := ⟨_, T_M, 7, "LeasedFiles$Message", rfl, u_M, by decide, ws_at 58 (by decide +kernel) rfl, Or.inl rfl⟩
theorem fw_P_32 : fdw "LeasedFiles$Pool" 4 2 32 .int false := ⟨_, T_M, 7, "LeasedFiles$Message", t_M, rfl, u_M, by decide, ws_at 58 (by decide +kernel) rfl, Or.inl rfl, tk_M, n_M, by decide +kernel, rfl, fun h => by first | rfl | cases h⟩
theorem f_P_35 : fdl "LeasedFiles$Pool" 4 3 35 := ⟨_, T_M, 7, "LeasedFiles$Message", rfl, u_M, by decide, ws_at 62 (by decide +kernel) rfl, Or.inl rfl⟩
theorem fw_P_35 : fdw "LeasedFiles$Pool" 4 3 35 .int false := ⟨_, T_M, 7, "LeasedFiles$Message", t_M, rfl, u_M, by decide, ws_at 62 (by decide +kernel) rfl, Or.inl rfl, tk_M, n_M, by decide +kernel, rfl, fun h => by first | rfl | cases h⟩
theorem f_P_38 : fdl "LeasedFiles$Pool" 4 4 38 := ⟨_, T_M, 7, "LeasedFiles$Message", rfl, u_M, by decide, ws_at 66 (by decide +kernel) rfl, Or.inl rfl⟩
theorem fw_P_38 : fdw "LeasedFiles$Pool" 4 4 38 .int false := ⟨_, T_M, 7, "LeasedFiles$Message", t_M, rfl, u_M, by decide, ws_at 66 (by decide +kernel) rfl, Or.inl rfl, tk_M, n_M, by decide +kernel, rfl, fun h => by first | rfl | cases h⟩
theorem f_P_41 : fdl "LeasedFiles$Pool" 4 5 41 := ⟨_, T_M, 7, "LeasedFiles$Message", rfl, u_M, by decide, ws_at 70 (by decide +kernel) rfl, Or.inl rfl⟩
theorem fw_P_41 : fdw "LeasedFiles$Pool" 4 5 41 .int false := ⟨_, T_M, 7, "LeasedFiles$Message", t_M, rfl, u_M, by decide, ws_at 70 (by decide +kernel) rfl, Or.inl rfl, tk_M, n_M, by decide +kernel, rfl, fun h => by first | rfl | cases h⟩
theorem f_P_44 : fdl "LeasedFiles$Pool" 4 6 44 := ⟨_, T_M, 7, "LeasedFiles$Message", rfl, u_M, by decide, ws_at 74 (by decide +kernel) rfl, Or.inl rfl⟩
theorem fw_P_44 : fdw "LeasedFiles$Pool" 4 6 44 .int false := ⟨_, T_M, 7, "LeasedFiles$Message", t_M, rfl, u_M, by decide, ws_at 74 (by decide +kernel) rfl, Or.inl rfl, tk_M, n_M, by decide +kernel, rfl, fun h => by first | rfl | cases h⟩
theorem f_P_11 : fdl "LeasedFiles$Pool" 5 0 11 := ⟨_, T_P, 3, "LeasedFiles$Pool", rfl, u_P, by decide, ws_at 92 (by decide +kernel) rfl, Or.inl rfl⟩
theorem fw_P_11 : fdw "LeasedFiles$Pool" 5 0 11 (.array (.object "LeasedFiles$Message")) true := ⟨_, T_P, 3, "LeasedFiles$Pool", t_P, rfl, u_P, by decide, ws_at 92 (by decide +kernel) rfl, Or.inl rfl, tk_P, n_P, by decide +kernel, rfl, fun h => by first | rfl | cases h⟩
theorem f_P_17 : fdl "LeasedFiles$Pool" 5 1 17 := ⟨_, T_P, 3, "LeasedFiles$Pool", rfl, u_P, by decide, ws_at 94 (by decide +kernel) rfl, Or.inl rfl⟩
theorem fw_P_17 : fdw "LeasedFiles$Pool" 5 1 17 .int false := ⟨_, T_P, 3, "LeasedFiles$Pool", t_P, rfl, u_P, by decide, ws_at 94 (by decide +kernel) rfl, Or.inl rfl, tk_P, n_P, by decide +kernel, rfl, fun h => by first | rfl | cases h⟩
theorem f_P_22 : fdl "LeasedFiles$Pool" 5 2 22 := ⟨_, T_P, 3, "LeasedFiles$Pool", rfl, u_P, by decide, ws_at 96 (by decide +kernel) rfl, Or.inl rfl⟩
theorem fw_P_22 : fdw "LeasedFiles$Pool" 5 2 22 (.object "LeasedFiles$Message") false := ⟨_, T_P, 3, "LeasedFiles$Pool", t_P, rfl, u_P, by decide, ws_at 96 (by decide +kernel) rfl, Or.inl rfl, tk_P, n_P, by decide +kernel, rfl, fun h => by first | rfl | cases h⟩
theorem cl_P_9 : Cond.classLink "LeasedFiles$Pool" 9 "LeasedFiles$Message" ∈ WS := ws_at 42 (by decide +kernel) rfl
theorem lk_F_3 : Cond.methodLink "LeasedFiles$ServedFile" 3 Lib.objectInit ∈ WS := ws_at 116 (by decide +kernel) rfl
theorem lk_F_11 : Cond.methodLink "LeasedFiles$ServedFile" 11 y_A_init.1 ∈ WS := ws_at 119 (by decide +kernel) rfl
theorem lk_F_43 : Cond.methodLink "LeasedFiles$ServedFile" 43 y_A_size.1 ∈ WS := ws_at 383 (by decide +kernel) rfl
theorem lk_F_33 : Cond.methodLink "LeasedFiles$ServedFile" 33 y_A_get.1 ∈ WS := ws_at 387 (by decide +kernel) rfl
theorem lk_F_39 : Cond.methodLink "LeasedFiles$ServedFile" 39 y_W_isOf.1 ∈ WS := ws_at 402 (by decide +kernel) rfl
theorem lk_F_47 : Cond.methodLink "LeasedFiles$ServedFile" 47 y_W_init.1 ∈ WS := ws_at 411 (by decide +kernel) rfl
theorem lk_F_50 : Cond.methodLink "LeasedFiles$ServedFile" 50 y_A_add0.1 ∈ WS := ws_at 429 (by decide +kernel) rfl
theorem lk_F_29 : Cond.methodLink "LeasedFiles$ServedFile" 29 y_A_isEmpty.1 ∈ WS := ws_at 486 (by decide +kernel) rfl
theorem f_F_25 : fdl "LeasedFiles$ServedFile" 6 0 25 := ⟨_, T_F, 4, "LeasedFiles$ServedFile", rfl, u_F, by decide, ws_at 144 (by decide +kernel) rfl, Or.inl rfl⟩
theorem fw_F_25 : fdw "LeasedFiles$ServedFile" 6 0 25 (.array .int) true := ⟨_, T_F, 4, "LeasedFiles$ServedFile", t_F, rfl, u_F, by decide, ws_at 144 (by decide +kernel) rfl, Or.inl rfl, tk_F, n_F, by decide +kernel, rfl, fun h => by first | rfl | cases h⟩
theorem f_F_12 : fdl "LeasedFiles$ServedFile" 6 1 12 := ⟨_, T_F, 4, "LeasedFiles$ServedFile", rfl, u_F, by decide, ws_at 147 (by decide +kernel) rfl, Or.inl rfl⟩
theorem fw_F_12 : fdw "LeasedFiles$ServedFile" 6 1 12 (.object "java/util/ArrayList") true := ⟨_, T_F, 4, "LeasedFiles$ServedFile", t_F, rfl, u_F, by decide, ws_at 147 (by decide +kernel) rfl, Or.inl rfl, tk_F, n_F, by decide +kernel, rfl, fun h => by first | rfl | cases h⟩
theorem f_F_18 : fdl "LeasedFiles$ServedFile" 6 2 18 := ⟨_, T_F, 4, "LeasedFiles$ServedFile", rfl, u_F, by decide, ws_at 149 (by decide +kernel) rfl, Or.inl rfl⟩
theorem fw_F_18 : fdw "LeasedFiles$ServedFile" 6 2 18 .int false := ⟨_, T_F, 4, "LeasedFiles$ServedFile", t_F, rfl, u_F, by decide, ws_at 149 (by decide +kernel) rfl, Or.inl rfl, tk_F, n_F, by decide +kernel, rfl, fun h => by first | rfl | cases h⟩
theorem f_F_22 : fdl "LeasedFiles$ServedFile" 6 3 22 := ⟨_, T_F, 4, "LeasedFiles$ServedFile", rfl, u_F, by decide, ws_at 151 (by decide +kernel) rfl, Or.inl rfl⟩
theorem fw_F_22 : fdw "LeasedFiles$ServedFile" 6 3 22 .int false := ⟨_, T_F, 4, "LeasedFiles$ServedFile", t_F, rfl, u_F, by decide, ws_at 151 (by decide +kernel) rfl, Or.inl rfl, tk_F, n_F, by decide +kernel, rfl, fun h => by first | rfl | cases h⟩
theorem f_F_54 : fdl "LeasedFiles$ServedFile" 8 0 54 := ⟨_, T_W, 3, "LeasedFiles$Write", rfl, u_W, by decide, ws_at 416 (by decide +kernel) rfl, Or.inl rfl⟩
theorem cl_F_9 : Cond.classLink "LeasedFiles$ServedFile" 9 "java/util/ArrayList" ∈ WS := ws_at 117 (by decide +kernel) rfl
theorem cl_F_37 : Cond.classLink "LeasedFiles$ServedFile" 37 "LeasedFiles$Write" ∈ WS := ws_at 401 (by decide +kernel) rfl
theorem lk_S_3 : Cond.methodLink "LeasedFiles$Server" 3 Lib.objectInit ∈ WS := ws_at 109 (by decide +kernel) rfl
theorem lk_S_41 : Cond.methodLink "LeasedFiles$Server" 41 y_F_init.1 ∈ WS := ws_at 113 (by decide +kernel) rfl
theorem lk_S_49 : Cond.methodLink "LeasedFiles$Server" 49 y_S_receiveAsk.1 ∈ WS := ws_at 366 (by decide +kernel) rfl
theorem lk_S_87 : Cond.methodLink "LeasedFiles$Server" 87 y_A_isEmpty.1 ∈ WS := ws_at 370 (by decide +kernel) rfl
theorem lk_S_106 : Cond.methodLink "LeasedFiles$Server" 106 y_P_send.1 ∈ WS := ws_at 374 (by decide +kernel) rfl
theorem lk_S_53 : Cond.methodLink "LeasedFiles$Server" 53 y_S_receivePut.1 ∈ WS := ws_at 375 (by decide +kernel) rfl
theorem lk_S_112 : Cond.methodLink "LeasedFiles$Server" 112 y_F_isWaiting.1 ∈ WS := ws_at 379 (by decide +kernel) rfl
theorem lk_S_119 : Cond.methodLink "LeasedFiles$Server" 119 y_F_addLast.1 ∈ WS := ws_at 406 (by decide +kernel) rfl
theorem lk_S_123 : Cond.methodLink "LeasedFiles$Server" 123 y_F_isFirst.1 ∈ WS := ws_at 482 (by decide +kernel) rfl
theorem lk_S_126 : Cond.methodLink "LeasedFiles$Server" 126 y_S_recall.1 ∈ WS := ws_at 487 (by decide +kernel) rfl
theorem lk_S_56 : Cond.methodLink "LeasedFiles$Server" 56 y_S_receiveFree.1 ∈ WS := ws_at 491 (by decide +kernel) rfl
theorem lk_S_60 : Cond.methodLink "LeasedFiles$Server" 60 y_S_storeWhatMay.1 ∈ WS := ws_at 495 (by decide +kernel) rfl
theorem lk_S_132 : Cond.methodLink "LeasedFiles$Server" 132 y_S_mayStore.1 ∈ WS := ws_at 499 (by decide +kernel) rfl
theorem lk_S_140 : Cond.methodLink "LeasedFiles$Server" 140 y_F_isLeasedAt.1 ∈ WS := ws_at 503 (by decide +kernel) rfl
theorem lk_S_136 : Cond.methodLink "LeasedFiles$Server" 136 y_S_storeFirst.1 ∈ WS := ws_at 507 (by decide +kernel) rfl
theorem lk_S_144 : Cond.methodLink "LeasedFiles$Server" 144 y_A_remove.1 ∈ WS := ws_at 511 (by decide +kernel) rfl
theorem lk_S_68 : Cond.methodLink "LeasedFiles$Server" 68 y_A_size.1 ∈ WS := ws_at 596 (by decide +kernel) rfl
theorem lk_S_74 : Cond.methodLink "LeasedFiles$Server" 74 y_A_clear.1 ∈ WS := ws_at 597 (by decide +kernel) rfl
theorem lk_S_77 : Cond.methodLink "LeasedFiles$Server" 77 y_F_endLeases.1 ∈ WS := ws_at 601 (by decide +kernel) rfl
theorem lk_S_80 : Cond.methodLinkNest "LeasedFiles$Server" 80 y_L_timeLeft.1 "LeasedFiles" ∈ lw_tbl := List.mem_append_right _ (List.mem_of_getElem? (i := 645) (by decide +kernel))
theorem f_S_44 : fdl "LeasedFiles$Server" 4 0 44 := ⟨_, T_M, 7, "LeasedFiles$Message", rfl, u_M, by decide, ws_at 50 (by decide +kernel) rfl, Or.inl rfl⟩
theorem fw_S_44 : fdw "LeasedFiles$Server" 4 0 44 .int false := ⟨_, T_M, 7, "LeasedFiles$Message", t_M, rfl, u_M, by decide, ws_at 50 (by decide +kernel) rfl, Or.inl rfl, tk_M, n_M, by decide +kernel, rfl, fun h => by first | rfl | cases h⟩
theorem f_S_94 : fdl "LeasedFiles$Server" 4 1 94 := ⟨_, T_M, 7, "LeasedFiles$Message", rfl, u_M, by decide, ws_at 56 (by decide +kernel) rfl, Or.inl rfl⟩
theorem fw_S_94 : fdw "LeasedFiles$Server" 4 1 94 .int false := ⟨_, T_M, 7, "LeasedFiles$Message", t_M, rfl, u_M, by decide, ws_at 56 (by decide +kernel) rfl, Or.inl rfl, tk_M, n_M, by decide +kernel, rfl, fun h => by first | rfl | cases h⟩
theorem f_S_84 : fdl "LeasedFiles$Server" 4 2 84 := ⟨_, T_M, 7, "LeasedFiles$Message", rfl, u_M, by decide, ws_at 60 (by decide +kernel) rfl, Or.inl rfl⟩
theorem fw_S_84 : fdw "LeasedFiles$Server" 4 2 84 .int false := ⟨_, T_M, 7, "LeasedFiles$Message", t_M, rfl, u_M, by decide, ws_at 60 (by decide +kernel) rfl, Or.inl rfl, tk_M, n_M, by decide +kernel, rfl, fun h => by first | rfl | cases h⟩
theorem f_S_97 : fdl "LeasedFiles$Server" 4 3 97 := ⟨_, T_M, 7, "LeasedFiles$Message", rfl, u_M, by decide, ws_at 64 (by decide +kernel) rfl, Or.inl rfl⟩
theorem fw_S_97 : fdw "LeasedFiles$Server" 4 3 97 .int false := ⟨_, T_M, 7, "LeasedFiles$Message", t_M, rfl, u_M, by decide, ws_at 64 (by decide +kernel) rfl, Or.inl rfl, tk_M, n_M, by decide +kernel, rfl, fun h => by first | rfl | cases h⟩
theorem f_S_116 : fdl "LeasedFiles$Server" 4 4 116 := ⟨_, T_M, 7, "LeasedFiles$Message", rfl, u_M, by decide, ws_at 68 (by decide +kernel) rfl, Or.inl rfl⟩
theorem fw_S_116 : fdw "LeasedFiles$Server" 4 4 116 .int false := ⟨_, T_M, 7, "LeasedFiles$Message", t_M, rfl, u_M, by decide, ws_at 68 (by decide +kernel) rfl, Or.inl rfl, tk_M, n_M, by decide +kernel, rfl, fun h => by first | rfl | cases h⟩
theorem f_S_129 : fdl "LeasedFiles$Server" 4 5 129 := ⟨_, T_M, 7, "LeasedFiles$Message", rfl, u_M, by decide, ws_at 72 (by decide +kernel) rfl, Or.inl rfl⟩
theorem fw_S_129 : fdw "LeasedFiles$Server" 4 5 129 .int false := ⟨_, T_M, 7, "LeasedFiles$Message", t_M, rfl, u_M, by decide, ws_at 72 (by decide +kernel) rfl, Or.inl rfl, tk_M, n_M, by decide +kernel, rfl, fun h => by first | rfl | cases h⟩
theorem f_S_91 : fdl "LeasedFiles$Server" 6 0 91 := ⟨_, T_F, 4, "LeasedFiles$ServedFile", rfl, u_F, by decide, ws_at 145 (by decide +kernel) rfl, Or.inl rfl⟩
theorem f_S_64 : fdl "LeasedFiles$Server" 6 1 64 := ⟨_, T_F, 4, "LeasedFiles$ServedFile", rfl, u_F, by decide, ws_at 148 (by decide +kernel) rfl, Or.inl rfl⟩
theorem f_S_100 : fdl "LeasedFiles$Server" 6 2 100 := ⟨_, T_F, 4, "LeasedFiles$ServedFile", rfl, u_F, by decide, ws_at 150 (by decide +kernel) rfl, Or.inl rfl⟩
theorem fw_S_100 : fdw "LeasedFiles$Server" 6 2 100 .int false := ⟨_, T_F, 4, "LeasedFiles$ServedFile", t_F, rfl, u_F, by decide, ws_at 150 (by decide +kernel) rfl, Or.inl rfl, tk_F, n_F, by decide +kernel, rfl, fun h => by first | rfl | cases h⟩
theorem f_S_103 : fdl "LeasedFiles$Server" 6 3 103 := ⟨_, T_F, 4, "LeasedFiles$ServedFile", rfl, u_F, by decide, ws_at 152 (by decide +kernel) rfl, Or.inl rfl⟩
theorem fw_S_103 : fdw "LeasedFiles$Server" 6 3 103 .int false := ⟨_, T_F, 4, "LeasedFiles$ServedFile", t_F, rfl, u_F, by decide, ws_at 152 (by decide +kernel) rfl, Or.inl rfl, tk_F, n_F, by decide +kernel, rfl, fun h => by first | rfl | cases h⟩
theorem f_S_25 : fdl "LeasedFiles$Server" 7 0 25 := ⟨_, T_S, 8, "LeasedFiles$Server", rfl, u_S, by decide, ws_at 162 (by decide +kernel) rfl, Or.inl rfl⟩
theorem fw_S_25 : fdw "LeasedFiles$Server" 7 0 25 .int true := ⟨_, T_S, 8, "LeasedFiles$Server", t_S, rfl, u_S, by decide, ws_at 162 (by decide +kernel) rfl, Or.inl rfl, tk_S, n_S, by decide +kernel, rfl, fun h => by first | rfl | cases h⟩
theorem f_S_37 : fdl "LeasedFiles$Server" 7 1 37 := ⟨_, T_S, 8, "LeasedFiles$Server", rfl, u_S, by decide, ws_at 163 (by decide +kernel) rfl, Or.inl rfl⟩
theorem fw_S_37 : fdw "LeasedFiles$Server" 7 1 37 (.array (.object "LeasedFiles$ServedFile")) true := ⟨_, T_S, 8, "LeasedFiles$Server", t_S, rfl, u_S, by decide, ws_at 163 (by decide +kernel) rfl, Or.inl rfl, tk_S, n_S, by decide +kernel, rfl, fun h => by first | rfl | cases h⟩
theorem f_S_28 : fdl "LeasedFiles$Server" 7 2 28 := ⟨_, T_S, 8, "LeasedFiles$Server", rfl, u_S, by decide, ws_at 165 (by decide +kernel) rfl, Or.inl rfl⟩
theorem fw_S_28 : fdw "LeasedFiles$Server" 7 2 28 (.array .int) true := ⟨_, T_S, 8, "LeasedFiles$Server", t_S, rfl, u_S, by decide, ws_at 165 (by decide +kernel) rfl, Or.inl rfl, tk_S, n_S, by decide +kernel, rfl, fun h => by first | rfl | cases h⟩
theorem f_S_32 : fdl "LeasedFiles$Server" 7 3 32 := ⟨_, T_S, 8, "LeasedFiles$Server", rfl, u_S, by decide, ws_at 166 (by decide +kernel) rfl, Or.inl rfl⟩
theorem fw_S_32 : fdw "LeasedFiles$Server" 7 3 32 (.array .int) true := ⟨_, T_S, 8, "LeasedFiles$Server", t_S, rfl, u_S, by decide, ws_at 166 (by decide +kernel) rfl, Or.inl rfl, tk_S, n_S, by decide +kernel, rfl, fun h => by first | rfl | cases h⟩
theorem f_S_9 : fdl "LeasedFiles$Server" 7 4 9 := ⟨_, T_S, 8, "LeasedFiles$Server", rfl, u_S, by decide, ws_at 167 (by decide +kernel) rfl, Or.inl rfl⟩
theorem fw_S_9 : fdw "LeasedFiles$Server" 7 4 9 .int false := ⟨_, T_S, 8, "LeasedFiles$Server", t_S, rfl, u_S, by decide, ws_at 167 (by decide +kernel) rfl, Or.inl rfl, tk_S, n_S, by decide +kernel, rfl, fun h => by first | rfl | cases h⟩
theorem f_S_15 : fdl "LeasedFiles$Server" 7 5 15 := ⟨_, T_S, 8, "LeasedFiles$Server", rfl, u_S, by decide, ws_at 169 (by decide +kernel) rfl, Or.inl rfl⟩
theorem fw_S_15 : fdw "LeasedFiles$Server" 7 5 15 .boolean false := ⟨_, T_S, 8, "LeasedFiles$Server", t_S, rfl, u_S, by decide, ws_at 169 (by decide +kernel) rfl, Or.inl rfl, tk_S, n_S, by decide +kernel, rfl, fun h => by first | rfl | cases h⟩
theorem f_S_19 : fdl "LeasedFiles$Server" 7 6 19 := ⟨_, T_S, 8, "LeasedFiles$Server", rfl, u_S, by decide, ws_at 171 (by decide +kernel) rfl, Or.inl rfl⟩
theorem fw_S_19 : fdw "LeasedFiles$Server" 7 6 19 .int false := ⟨_, T_S, 8, "LeasedFiles$Server", t_S, rfl, u_S, by decide, ws_at 171 (by decide +kernel) rfl, Or.inl rfl, tk_S, n_S, by decide +kernel, rfl, fun h => by first | rfl | cases h⟩
theorem f_S_22 : fdl "LeasedFiles$Server" 7 7 22 := ⟨_, T_S, 8, "LeasedFiles$Server", rfl, u_S, by decide, ws_at 172 (by decide +kernel) rfl, Or.inl rfl⟩
theorem fw_S_22 : fdw "LeasedFiles$Server" 7 7 22 .int false := ⟨_, T_S, 8, "LeasedFiles$Server", t_S, rfl, u_S, by decide, ws_at 172 (by decide +kernel) rfl, Or.inl rfl, tk_S, n_S, by decide +kernel, rfl, fun h => by first | rfl | cases h⟩
theorem f_S_152 : fdl "LeasedFiles$Server" 8 0 152 := ⟨_, T_W, 3, "LeasedFiles$Write", rfl, u_W, by decide, ws_at 417 (by decide +kernel) rfl, Or.inl rfl⟩
theorem f_S_151 : fdl "LeasedFiles$Server" 8 1 151 := ⟨_, T_W, 3, "LeasedFiles$Write", rfl, u_W, by decide, ws_at 419 (by decide +kernel) rfl, Or.inl rfl⟩
theorem f_S_150 : fdl "LeasedFiles$Server" 8 2 150 := ⟨_, T_W, 3, "LeasedFiles$Write", rfl, u_W, by decide, ws_at 421 (by decide +kernel) rfl, Or.inl rfl⟩
theorem cl_S_35 : Cond.classLink "LeasedFiles$Server" 35 "LeasedFiles$ServedFile" ∈ WS := ws_at 110 (by decide +kernel) rfl
theorem cl_S_148 : Cond.classLink "LeasedFiles$Server" 148 "LeasedFiles$Write" ∈ WS := ws_at 520 (by decide +kernel) rfl
theorem lk_W_1 : Cond.methodLink "LeasedFiles$Write" 1 Lib.objectInit ∈ WS := ws_at 414 (by decide +kernel) rfl
theorem f_W_7 : fdl "LeasedFiles$Write" 8 0 7 := ⟨_, T_W, 3, "LeasedFiles$Write", rfl, u_W, by decide, ws_at 415 (by decide +kernel) rfl, Or.inl rfl⟩
theorem fw_W_7 : fdw "LeasedFiles$Write" 8 0 7 .int true := ⟨_, T_W, 3, "LeasedFiles$Write", t_W, rfl, u_W, by decide, ws_at 415 (by decide +kernel) rfl, Or.inl rfl, tk_W, n_W, by decide +kernel, rfl, fun h => by first | rfl | cases h⟩
theorem f_W_13 : fdl "LeasedFiles$Write" 8 1 13 := ⟨_, T_W, 3, "LeasedFiles$Write", rfl, u_W, by decide, ws_at 418 (by decide +kernel) rfl, Or.inl rfl⟩
theorem fw_W_13 : fdw "LeasedFiles$Write" 8 1 13 .int true := ⟨_, T_W, 3, "LeasedFiles$Write", t_W, rfl, u_W, by decide, ws_at 418 (by decide +kernel) rfl, Or.inl rfl, tk_W, n_W, by decide +kernel, rfl, fun h => by first | rfl | cases h⟩
theorem f_W_16 : fdl "LeasedFiles$Write" 8 2 16 := ⟨_, T_W, 3, "LeasedFiles$Write", rfl, u_W, by decide, ws_at 420 (by decide +kernel) rfl, Or.inl rfl⟩
theorem fw_W_16 : fdw "LeasedFiles$Write" 8 2 16 .int true := ⟨_, T_W, 3, "LeasedFiles$Write", t_W, rfl, u_W, by decide, ws_at 420 (by decide +kernel) rfl, Or.inl rfl, tk_W, n_W, by decide +kernel, rfl, fun h => by first | rfl | cases h⟩
theorem lk_A_1 : Cond.methodLink "java/util/ArrayList" 1 y_B_init.1 ∈ WS := ws_at 122 (by decide +kernel) rfl
theorem lk_A_118 : Cond.methodLink "java/util/ArrayList" 118 y_O_checkIndex.1 ∈ WS := ws_at 391 (by decide +kernel) rfl
theorem lk_A_123 : Cond.methodLink "java/util/ArrayList" 123 y_A_elementData.1 ∈ WS := ws_at 397 (by decide +kernel) rfl
theorem lk_A_131 : Cond.methodLink "java/util/ArrayList" 131 y_A_add1.1 ∈ WS := ws_at 433 (by decide +kernel) rfl
theorem lk_A_129 : Cond.methodLink "java/util/ArrayList" 129 y_A_grow0.1 ∈ WS := ws_at 437 (by decide +kernel) rfl
theorem lk_A_69 : Cond.methodLink "java/util/ArrayList" 69 y_A_grow1.1 ∈ WS := ws_at 441 (by decide +kernel) rfl
theorem lk_A_73 : Cond.methodLink "java/util/ArrayList" 73 y_U_newLength.1 ∈ WS := ws_at 445 (by decide +kernel) rfl
theorem lk_A_66 : Cond.methodLink "java/util/ArrayList" 66 y_V_copyOf0.1 ∈ WS := ws_at 453 (by decide +kernel) rfl
theorem lk_A_79 : Cond.methodLink "java/util/ArrayList" 79 Lib.Math.max.name ∈ WS := ws_at 480 (by decide +kernel) rfl
theorem lk_A_144 : Cond.methodLink "java/util/ArrayList" 144 y_A_fastRemove.1 ∈ WS := ws_at 515 (by decide +kernel) rfl
theorem lk_A_112 : Cond.methodLink "java/util/ArrayList" 112 ⟨"java/lang/System", "arraycopy", "(Ljava/lang/Object;ILjava/lang/Object;II)V"⟩ ∈ WS := ws_at 519 (by decide +kernel) rfl
theorem f_A_9 : fdl "java/util/ArrayList" 9 0 9 := ⟨_, T_A, 3, "java/util/ArrayList", rfl, u_A, by decide, ws_at 131 (by decide +kernel) rfl, Or.inl rfl⟩
theorem fw_A_9 : fdw "java/util/ArrayList" 9 0 9 (.array (.object "java/lang/Object")) false := ⟨_, T_A, 3, "java/util/ArrayList", t_A, rfl, u_A, by decide, ws_at 131 (by decide +kernel) rfl, Or.inl rfl, tk_A, n_A, by decide +kernel, rfl, fun h => by first | rfl | cases h⟩
theorem f_A_48 : fdl "java/util/ArrayList" 9 1 48 := ⟨_, T_A, 3, "java/util/ArrayList", rfl, u_A, by decide, ws_at 132 (by decide +kernel) rfl, Or.inl rfl⟩
theorem fw_A_48 : fdw "java/util/ArrayList" 9 1 48 .int false := ⟨_, T_A, 3, "java/util/ArrayList", t_A, rfl, u_A, by decide, ws_at 132 (by decide +kernel) rfl, Or.inl rfl, tk_A, n_A, by decide +kernel, rfl, fun h => by first | rfl | cases h⟩
theorem f_A_63 : fdl "java/util/ArrayList" 9 2 63 := ⟨_, T_A, 3, "java/util/ArrayList", rfl, u_A, by decide, ws_at 134 (by decide +kernel) rfl, Or.inr (ws_at 135 (by decide +kernel) rfl)⟩
theorem fw_A_63 : fdw "java/util/ArrayList" 9 2 63 .int false := ⟨_, T_A, 3, "java/util/ArrayList", t_A, rfl, u_A, by decide, ws_at 134 (by decide +kernel) rfl, Or.inr (ws_at 135 (by decide +kernel) rfl), tk_A, n_A, by decide +kernel, rfl, fun h => by first | rfl | cases h⟩
theorem cl_A_7 : Cond.classLink "java/util/ArrayList" 7 "java/lang/Object" ∈ WS := ws_at 481 (by decide +kernel) rfl
theorem lk_B_1 : Cond.methodLink "java/util/AbstractList" 1 y_D_init.1 ∈ WS := ws_at 125 (by decide +kernel) rfl
theorem lk_D_1 : Cond.methodLink "java/util/AbstractCollection" 1 Lib.objectInit ∈ WS := ws_at 128 (by decide +kernel) rfl
theorem lk_O_105 : Cond.methodLink "java/util/Objects" 105 y_Q_checkIndex.1 ∈ WS := ws_at 394 (by decide +kernel) rfl
theorem lk_U_194 : Cond.methodLink "jdk/internal/util/ArraysSupport" 194 Lib.Math.max.name ∈ WS := ws_at 448 (by decide +kernel) rfl
theorem lk_U_201 : Cond.methodLink "jdk/internal/util/ArraysSupport" 201 y_U_hugeLength.1 ∈ WS := ws_at 450 (by decide +kernel) rfl
theorem lk_V_86 : Cond.methodLink "java/util/Arrays" 86 ⟨"java/lang/Object", "getClass", "()Ljava/lang/Class;"⟩ ∈ WS := ws_at 456 (by decide +kernel) rfl
theorem lk_V_300 : Cond.methodLink "java/util/Arrays" 300 y_V_copyOf1.1 ∈ WS := ws_at 470 (by decide +kernel) rfl
theorem lk_V_304 : Cond.methodLink "java/util/Arrays" 304 Lib.Math.min.name ∈ WS := ws_at 476 (by decide +kernel) rfl
theorem lk_V_150 : Cond.methodLink "java/util/Arrays" 150 ⟨"java/lang/System", "arraycopy", "(Ljava/lang/Object;ILjava/lang/Object;II)V"⟩ ∈ WS := ws_at 477 (by decide +kernel) rfl
theorem cl_V_110 : Cond.classLink "java/util/Arrays" 110 "[Ljava/lang/Object;" ∈ WS := ws_at 473 (by decide +kernel) rfl
theorem cl_V_2 : Cond.classLink "java/util/Arrays" 2 "java/lang/Object" ∈ WS := ws_at 475 (by decide +kernel) rfl
end
section
theorem d_L_init_0 : decode prog_1_method_1_code 0 = .ok (.aload_n 0, 1) := by decide +kernel
theorem d_L_init_1 : decode prog_1_method_1_code 1 = .ok (.invokespecial 1, 3) := by decide +kernel
theorem d_L_init_4 : decode prog_1_method_1_code 4 = .ok (.iload_n 1, 1) := by decide +kernel
theorem d_L_init_5 : decode prog_1_method_1_code 5 = .ok (.iconst 4, 1) := by decide +kernel
theorem d_L_init_6 : decode prog_1_method_1_code 6 = .ok (.invokestatic 9, 3) := by decide +kernel
theorem d_L_init_9 : decode prog_1_method_1_code 9 = .ok (.istore 5, 2) := by decide +kernel
theorem d_L_init_11 : decode prog_1_method_1_code 11 = .ok (.iload_n 3, 1) := by decide +kernel
theorem d_L_init_12 : decode prog_1_method_1_code 12 = .ok (.sipush 1000, 3) := by decide +kernel
theorem d_L_init_15 : decode prog_1_method_1_code 15 = .ok (.invokestatic 9, 3) := by decide +kernel
theorem d_L_init_18 : decode prog_1_method_1_code 18 = .ok (.istore 6, 2) := by decide +kernel
theorem d_L_init_20 : decode prog_1_method_1_code 20 = .ok (.iload 4, 2) := by decide +kernel
theorem d_L_init_22 : decode prog_1_method_1_code 22 = .ok (.iload 6, 2) := by decide +kernel
theorem d_L_init_24 : decode prog_1_method_1_code 24 = .ok (.invokestatic 9, 3) := by decide +kernel
theorem d_L_init_27 : decode prog_1_method_1_code 27 = .ok (.istore 7, 2) := by decide +kernel
theorem d_L_init_29 : decode prog_1_method_1_code 29 = .ok (.aload_n 0, 1) := by decide +kernel
theorem d_L_init_30 : decode prog_1_method_1_code 30 = .ok (.iload_n 2, 1) := by decide +kernel
theorem d_L_init_31 : decode prog_1_method_1_code 31 = .ok (.iconst 4, 1) := by decide +kernel
theorem d_L_init_32 : decode prog_1_method_1_code 32 = .ok (.invokestatic 9, 3) := by decide +kernel
theorem d_L_init_35 : decode prog_1_method_1_code 35 = .ok (.putfield 13, 3) := by decide +kernel
theorem d_L_init_38 : decode prog_1_method_1_code 38 = .ok (.aload_n 0, 1) := by decide +kernel
theorem d_L_init_39 : decode prog_1_method_1_code 39 = .ok (.new 17, 3) := by decide +kernel
theorem d_L_init_42 : decode prog_1_method_1_code 42 = .ok (.dup, 1) := by decide +kernel
theorem d_L_init_43 : decode prog_1_method_1_code 43 = .ok (.invokespecial 19, 3) := by decide +kernel
theorem d_L_init_46 : decode prog_1_method_1_code 46 = .ok (.putfield 20, 3) := by decide +kernel
theorem d_L_init_49 : decode prog_1_method_1_code 49 = .ok (.aload_n 0, 1) := by decide +kernel
theorem d_L_init_50 : decode prog_1_method_1_code 50 = .ok (.new 24, 3) := by decide +kernel
theorem d_L_init_53 : decode prog_1_method_1_code 53 = .ok (.dup, 1) := by decide +kernel
theorem d_L_init_54 : decode prog_1_method_1_code 54 = .ok (.iload 5, 2) := by decide +kernel
theorem d_L_init_56 : decode prog_1_method_1_code 56 = .ok (.aload_n 0, 1) := by decide +kernel
theorem d_L_init_57 : decode prog_1_method_1_code 57 = .ok (.getfield 13, 3) := by decide +kernel
theorem d_L_init_60 : decode prog_1_method_1_code 60 = .ok (.iload 6, 2) := by decide +kernel
theorem d_L_init_62 : decode prog_1_method_1_code 62 = .ok (.invokespecial 26, 3) := by decide +kernel
theorem d_L_init_65 : decode prog_1_method_1_code 65 = .ok (.putfield 29, 3) := by decide +kernel
theorem d_L_init_68 : decode prog_1_method_1_code 68 = .ok (.aload_n 0, 1) := by decide +kernel
theorem d_L_init_69 : decode prog_1_method_1_code 69 = .ok (.iload 5, 2) := by decide +kernel
theorem d_L_init_71 : decode prog_1_method_1_code 71 = .ok (.anewarray 33, 3) := by decide +kernel
theorem d_L_init_74 : decode prog_1_method_1_code 74 = .ok (.putfield 35, 3) := by decide +kernel
theorem d_L_init_77 : decode prog_1_method_1_code 77 = .ok (.iconst 0, 1) := by decide +kernel
theorem d_L_init_78 : decode prog_1_method_1_code 78 = .ok (.istore 8, 2) := by decide +kernel
theorem d_L_init_80 : decode prog_1_method_1_code 80 = .ok (.iload 8, 2) := by decide +kernel
theorem d_L_init_82 : decode prog_1_method_1_code 82 = .ok (.iload 5, 2) := by decide +kernel
theorem d_L_init_84 : decode prog_1_method_1_code 84 = .ok (.if_icmp .ge 31, 3) := by decide +kernel
theorem d_L_init_87 : decode prog_1_method_1_code 87 = .ok (.aload_n 0, 1) := by decide +kernel
theorem d_L_init_88 : decode prog_1_method_1_code 88 = .ok (.getfield 35, 3) := by decide +kernel
theorem d_L_init_91 : decode prog_1_method_1_code 91 = .ok (.iload 8, 2) := by decide +kernel
theorem d_L_init_93 : decode prog_1_method_1_code 93 = .ok (.new 33, 3) := by decide +kernel
theorem d_L_init_96 : decode prog_1_method_1_code 96 = .ok (.dup, 1) := by decide +kernel
theorem d_L_init_97 : decode prog_1_method_1_code 97 = .ok (.iload 8, 2) := by decide +kernel
theorem d_L_init_99 : decode prog_1_method_1_code 99 = .ok (.aload_n 0, 1) := by decide +kernel
theorem d_L_init_100 : decode prog_1_method_1_code 100 = .ok (.getfield 13, 3) := by decide +kernel
theorem d_L_init_103 : decode prog_1_method_1_code 103 = .ok (.iload 7, 2) := by decide +kernel
theorem d_L_init_105 : decode prog_1_method_1_code 105 = .ok (.invokespecial 39, 3) := by decide +kernel
theorem d_L_init_108 : decode prog_1_method_1_code 108 = .ok (.aastore, 1) := by decide +kernel
theorem d_L_init_109 : decode prog_1_method_1_code 109 = .ok (.iinc 8 1, 3) := by decide +kernel
theorem d_L_init_112 : decode prog_1_method_1_code 112 = .ok (.goto (-32), 3) := by decide +kernel
theorem d_L_init_115 : decode prog_1_method_1_code 115 = .ok (.return_, 1) := by decide +kernel
theorem d_L_read_0 : decode prog_1_method_2_code 0 = .ok (.aload_n 0, 1) := by decide +kernel
theorem d_L_read_1 : decode prog_1_method_2_code 1 = .ok (.iload_n 1, 1) := by decide +kernel
theorem d_L_read_2 : decode prog_1_method_2_code 2 = .ok (.invokevirtual 40, 3) := by decide +kernel
theorem d_L_read_5 : decode prog_1_method_2_code 5 = .ok (.ifCond .eq 11, 3) := by decide +kernel
theorem d_L_read_8 : decode prog_1_method_2_code 8 = .ok (.aload_n 0, 1) := by decide +kernel
theorem d_L_read_9 : decode prog_1_method_2_code 9 = .ok (.iload_n 2, 1) := by decide +kernel
theorem d_L_read_10 : decode prog_1_method_2_code 10 = .ok (.invokevirtual 44, 3) := by decide +kernel
theorem d_L_read_13 : decode prog_1_method_2_code 13 = .ok (.ifCond .ne 5, 3) := by decide +kernel
theorem d_L_read_16 : decode prog_1_method_2_code 16 = .ok (.iconst (-1), 1) := by decide +kernel
theorem d_L_read_17 : decode prog_1_method_2_code 17 = .ok (.ireturn, 1) := by decide +kernel
theorem d_L_read_18 : decode prog_1_method_2_code 18 = .ok (.aload_n 0, 1) := by decide +kernel
theorem d_L_read_19 : decode prog_1_method_2_code 19 = .ok (.getfield 35, 3) := by decide +kernel
theorem d_L_read_22 : decode prog_1_method_2_code 22 = .ok (.iload_n 1, 1) := by decide +kernel
theorem d_L_read_23 : decode prog_1_method_2_code 23 = .ok (.aaload, 1) := by decide +kernel
theorem d_L_read_24 : decode prog_1_method_2_code 24 = .ok (.iload_n 2, 1) := by decide +kernel
theorem d_L_read_25 : decode prog_1_method_2_code 25 = .ok (.aload_n 0, 1) := by decide +kernel
theorem d_L_read_26 : decode prog_1_method_2_code 26 = .ok (.getfield 20, 3) := by decide +kernel
theorem d_L_read_29 : decode prog_1_method_2_code 29 = .ok (.invokevirtual 47, 3) := by decide +kernel
theorem d_L_read_32 : decode prog_1_method_2_code 32 = .ok (.ireturn, 1) := by decide +kernel
theorem d_L_write_0 : decode prog_1_method_3_code 0 = .ok (.aload_n 0, 1) := by decide +kernel
theorem d_L_write_1 : decode prog_1_method_3_code 1 = .ok (.iload_n 1, 1) := by decide +kernel
theorem d_L_write_2 : decode prog_1_method_3_code 2 = .ok (.invokevirtual 40, 3) := by decide +kernel
theorem d_L_write_5 : decode prog_1_method_3_code 5 = .ok (.ifCond .eq 11, 3) := by decide +kernel
theorem d_L_write_8 : decode prog_1_method_3_code 8 = .ok (.aload_n 0, 1) := by decide +kernel
theorem d_L_write_9 : decode prog_1_method_3_code 9 = .ok (.iload_n 2, 1) := by decide +kernel
theorem d_L_write_10 : decode prog_1_method_3_code 10 = .ok (.invokevirtual 44, 3) := by decide +kernel
theorem d_L_write_13 : decode prog_1_method_3_code 13 = .ok (.ifCond .ne 5, 3) := by decide +kernel
theorem d_L_write_16 : decode prog_1_method_3_code 16 = .ok (.iconst (-1), 1) := by decide +kernel
theorem d_L_write_17 : decode prog_1_method_3_code 17 = .ok (.ireturn, 1) := by decide +kernel
theorem d_L_write_18 : decode prog_1_method_3_code 18 = .ok (.aload_n 0, 1) := by decide +kernel
theorem d_L_write_19 : decode prog_1_method_3_code 19 = .ok (.getfield 35, 3) := by decide +kernel
theorem d_L_write_22 : decode prog_1_method_3_code 22 = .ok (.iload_n 1, 1) := by decide +kernel
theorem d_L_write_23 : decode prog_1_method_3_code 23 = .ok (.aaload, 1) := by decide +kernel
theorem d_L_write_24 : decode prog_1_method_3_code 24 = .ok (.iload_n 2, 1) := by decide +kernel
theorem d_L_write_25 : decode prog_1_method_3_code 25 = .ok (.iload_n 3, 1) := by decide +kernel
theorem d_L_write_26 : decode prog_1_method_3_code 26 = .ok (.aload_n 0, 1) := by decide +kernel
theorem d_L_write_27 : decode prog_1_method_3_code 27 = .ok (.getfield 20, 3) := by decide +kernel
theorem d_L_write_30 : decode prog_1_method_3_code 30 = .ok (.invokevirtual 51, 3) := by decide +kernel
theorem d_L_write_33 : decode prog_1_method_3_code 33 = .ok (.ireturn, 1) := by decide +kernel
theorem d_L_retry_0 : decode prog_1_method_4_code 0 = .ok (.aload_n 0, 1) := by decide +kernel
theorem d_L_retry_1 : decode prog_1_method_4_code 1 = .ok (.iload_n 1, 1) := by decide +kernel
theorem d_L_retry_2 : decode prog_1_method_4_code 2 = .ok (.invokevirtual 40, 3) := by decide +kernel
theorem d_L_retry_5 : decode prog_1_method_4_code 5 = .ok (.ifCond .eq 19, 3) := by decide +kernel
theorem d_L_retry_8 : decode prog_1_method_4_code 8 = .ok (.aload_n 0, 1) := by decide +kernel
theorem d_L_retry_9 : decode prog_1_method_4_code 9 = .ok (.getfield 35, 3) := by decide +kernel
theorem d_L_retry_12 : decode prog_1_method_4_code 12 = .ok (.iload_n 1, 1) := by decide +kernel
theorem d_L_retry_13 : decode prog_1_method_4_code 13 = .ok (.aaload, 1) := by decide +kernel
theorem d_L_retry_14 : decode prog_1_method_4_code 14 = .ok (.aload_n 0, 1) := by decide +kernel
theorem d_L_retry_15 : decode prog_1_method_4_code 15 = .ok (.getfield 20, 3) := by decide +kernel
theorem d_L_retry_18 : decode prog_1_method_4_code 18 = .ok (.invokevirtual 55, 3) := by decide +kernel
theorem d_L_retry_21 : decode prog_1_method_4_code 21 = .ok (.goto 4, 3) := by decide +kernel
theorem d_L_retry_24 : decode prog_1_method_4_code 24 = .ok (.iconst (-1), 1) := by decide +kernel
theorem d_L_retry_25 : decode prog_1_method_4_code 25 = .ok (.ireturn, 1) := by decide +kernel
theorem d_L_status_0 : decode prog_1_method_5_code 0 = .ok (.aload_n 0, 1) := by decide +kernel
theorem d_L_status_1 : decode prog_1_method_5_code 1 = .ok (.iload_n 1, 1) := by decide +kernel
theorem d_L_status_2 : decode prog_1_method_5_code 2 = .ok (.invokevirtual 40, 3) := by decide +kernel
theorem d_L_status_5 : decode prog_1_method_5_code 5 = .ok (.ifCond .eq 15, 3) := by decide +kernel
theorem d_L_status_8 : decode prog_1_method_5_code 8 = .ok (.aload_n 0, 1) := by decide +kernel
theorem d_L_status_9 : decode prog_1_method_5_code 9 = .ok (.getfield 35, 3) := by decide +kernel
theorem d_L_status_12 : decode prog_1_method_5_code 12 = .ok (.iload_n 1, 1) := by decide +kernel
theorem d_L_status_13 : decode prog_1_method_5_code 13 = .ok (.aaload, 1) := by decide +kernel
theorem d_L_status_14 : decode prog_1_method_5_code 14 = .ok (.getfield 59, 3) := by decide +kernel
theorem d_L_status_17 : decode prog_1_method_5_code 17 = .ok (.goto 4, 3) := by decide +kernel
theorem d_L_status_20 : decode prog_1_method_5_code 20 = .ok (.iconst (-1), 1) := by decide +kernel
theorem d_L_status_21 : decode prog_1_method_5_code 21 = .ok (.ireturn, 1) := by decide +kernel
theorem d_L_result_0 : decode prog_1_method_6_code 0 = .ok (.aload_n 0, 1) := by decide +kernel
theorem d_L_result_1 : decode prog_1_method_6_code 1 = .ok (.iload_n 1, 1) := by decide +kernel
theorem d_L_result_2 : decode prog_1_method_6_code 2 = .ok (.invokevirtual 62, 3) := by decide +kernel
theorem d_L_result_5 : decode prog_1_method_6_code 5 = .ok (.ifCond .eq 15, 3) := by decide +kernel
theorem d_L_result_8 : decode prog_1_method_6_code 8 = .ok (.aload_n 0, 1) := by decide +kernel
theorem d_L_result_9 : decode prog_1_method_6_code 9 = .ok (.getfield 35, 3) := by decide +kernel
theorem d_L_result_12 : decode prog_1_method_6_code 12 = .ok (.iload_n 1, 1) := by decide +kernel
theorem d_L_result_13 : decode prog_1_method_6_code 13 = .ok (.aaload, 1) := by decide +kernel
theorem d_L_result_14 : decode prog_1_method_6_code 14 = .ok (.getfield 65, 3) := by decide +kernel
theorem d_L_result_17 : decode prog_1_method_6_code 17 = .ok (.goto 4, 3) := by decide +kernel
theorem d_L_result_20 : decode prog_1_method_6_code 20 = .ok (.iconst 0, 1) := by decide +kernel
theorem d_L_result_21 : decode prog_1_method_6_code 21 = .ok (.ireturn, 1) := by decide +kernel
theorem d_L_version_0 : decode prog_1_method_7_code 0 = .ok (.aload_n 0, 1) := by decide +kernel
theorem d_L_version_1 : decode prog_1_method_7_code 1 = .ok (.iload_n 1, 1) := by decide +kernel
theorem d_L_version_2 : decode prog_1_method_7_code 2 = .ok (.invokevirtual 62, 3) := by decide +kernel
theorem d_L_version_5 : decode prog_1_method_7_code 5 = .ok (.ifCond .eq 15, 3) := by decide +kernel
theorem d_L_version_8 : decode prog_1_method_7_code 8 = .ok (.aload_n 0, 1) := by decide +kernel
theorem d_L_version_9 : decode prog_1_method_7_code 9 = .ok (.getfield 35, 3) := by decide +kernel
theorem d_L_version_12 : decode prog_1_method_7_code 12 = .ok (.iload_n 1, 1) := by decide +kernel
theorem d_L_version_13 : decode prog_1_method_7_code 13 = .ok (.aaload, 1) := by decide +kernel
theorem d_L_version_14 : decode prog_1_method_7_code 14 = .ok (.getfield 68, 3) := by decide +kernel
theorem d_L_version_17 : decode prog_1_method_7_code 17 = .ok (.goto 4, 3) := by decide +kernel
theorem d_L_version_20 : decode prog_1_method_7_code 20 = .ok (.iconst (-1), 1) := by decide +kernel
theorem d_L_version_21 : decode prog_1_method_7_code 21 = .ok (.ireturn, 1) := by decide +kernel
theorem d_L_deliver_0 : decode prog_1_method_8_code 0 = .ok (.aload_n 0, 1) := by decide +kernel
theorem d_L_deliver_1 : decode prog_1_method_8_code 1 = .ok (.getfield 20, 3) := by decide +kernel
theorem d_L_deliver_4 : decode prog_1_method_8_code 4 = .ok (.iload_n 1, 1) := by decide +kernel
theorem d_L_deliver_5 : decode prog_1_method_8_code 5 = .ok (.invokevirtual 71, 3) := by decide +kernel
theorem d_L_deliver_8 : decode prog_1_method_8_code 8 = .ok (.ifCond .ne 5, 3) := by decide +kernel
theorem d_L_deliver_11 : decode prog_1_method_8_code 11 = .ok (.iconst (-1), 1) := by decide +kernel
theorem d_L_deliver_12 : decode prog_1_method_8_code 12 = .ok (.ireturn, 1) := by decide +kernel
theorem d_L_deliver_13 : decode prog_1_method_8_code 13 = .ok (.aload_n 0, 1) := by decide +kernel
theorem d_L_deliver_14 : decode prog_1_method_8_code 14 = .ok (.getfield 20, 3) := by decide +kernel
theorem d_L_deliver_17 : decode prog_1_method_8_code 17 = .ok (.iload_n 1, 1) := by decide +kernel
theorem d_L_deliver_18 : decode prog_1_method_8_code 18 = .ok (.invokevirtual 74, 3) := by decide +kernel
theorem d_L_deliver_21 : decode prog_1_method_8_code 21 = .ok (.astore_n 2, 1) := by decide +kernel
theorem d_L_deliver_22 : decode prog_1_method_8_code 22 = .ok (.aload_n 2, 1) := by decide +kernel
theorem d_L_deliver_23 : decode prog_1_method_8_code 23 = .ok (.invokevirtual 78, 3) := by decide +kernel
theorem d_L_deliver_26 : decode prog_1_method_8_code 26 = .ok (.ifCond .eq 28, 3) := by decide +kernel
theorem d_L_deliver_29 : decode prog_1_method_8_code 29 = .ok (.aload_n 0, 1) := by decide +kernel
theorem d_L_deliver_30 : decode prog_1_method_8_code 30 = .ok (.getfield 29, 3) := by decide +kernel
theorem d_L_deliver_33 : decode prog_1_method_8_code 33 = .ok (.aload_n 2, 1) := by decide +kernel
theorem d_L_deliver_34 : decode prog_1_method_8_code 34 = .ok (.aload_n 0, 1) := by decide +kernel
theorem d_L_deliver_35 : decode prog_1_method_8_code 35 = .ok (.getfield 20, 3) := by decide +kernel
theorem d_L_deliver_38 : decode prog_1_method_8_code 38 = .ok (.invokevirtual 84, 3) := by decide +kernel
theorem d_L_deliver_41 : decode prog_1_method_8_code 41 = .ok (.ifCond .eq 10, 3) := by decide +kernel
theorem d_L_deliver_44 : decode prog_1_method_8_code 44 = .ok (.aload_n 2, 1) := by decide +kernel
theorem d_L_deliver_45 : decode prog_1_method_8_code 45 = .ok (.getfield 88, 3) := by decide +kernel
theorem d_L_deliver_48 : decode prog_1_method_8_code 48 = .ok (.goto 5, 3) := by decide +kernel
theorem d_L_deliver_51 : decode prog_1_method_8_code 51 = .ok (.bipush 9, 2) := by decide +kernel
theorem d_L_deliver_53 : decode prog_1_method_8_code 53 = .ok (.ireturn, 1) := by decide +kernel
theorem d_L_deliver_54 : decode prog_1_method_8_code 54 = .ok (.aload_n 0, 1) := by decide +kernel
theorem d_L_deliver_55 : decode prog_1_method_8_code 55 = .ok (.getfield 35, 3) := by decide +kernel
theorem d_L_deliver_58 : decode prog_1_method_8_code 58 = .ok (.aload_n 2, 1) := by decide +kernel
theorem d_L_deliver_59 : decode prog_1_method_8_code 59 = .ok (.getfield 91, 3) := by decide +kernel
theorem d_L_deliver_62 : decode prog_1_method_8_code 62 = .ok (.aaload, 1) := by decide +kernel
theorem d_L_deliver_63 : decode prog_1_method_8_code 63 = .ok (.aload_n 2, 1) := by decide +kernel
theorem d_L_deliver_64 : decode prog_1_method_8_code 64 = .ok (.aload_n 0, 1) := by decide +kernel
theorem d_L_deliver_65 : decode prog_1_method_8_code 65 = .ok (.getfield 20, 3) := by decide +kernel
theorem d_L_deliver_68 : decode prog_1_method_8_code 68 = .ok (.invokevirtual 94, 3) := by decide +kernel
theorem d_L_deliver_71 : decode prog_1_method_8_code 71 = .ok (.aload_n 2, 1) := by decide +kernel
theorem d_L_deliver_72 : decode prog_1_method_8_code 72 = .ok (.getfield 88, 3) := by decide +kernel
theorem d_L_deliver_75 : decode prog_1_method_8_code 75 = .ok (.ireturn, 1) := by decide +kernel
theorem d_L_lose_0 : decode prog_1_method_9_code 0 = .ok (.aload_n 0, 1) := by decide +kernel
theorem d_L_lose_1 : decode prog_1_method_9_code 1 = .ok (.getfield 20, 3) := by decide +kernel
theorem d_L_lose_4 : decode prog_1_method_9_code 4 = .ok (.iload_n 1, 1) := by decide +kernel
theorem d_L_lose_5 : decode prog_1_method_9_code 5 = .ok (.invokevirtual 71, 3) := by decide +kernel
theorem d_L_lose_8 : decode prog_1_method_9_code 8 = .ok (.ifCond .ne 5, 3) := by decide +kernel
theorem d_L_lose_11 : decode prog_1_method_9_code 11 = .ok (.iconst 0, 1) := by decide +kernel
theorem d_L_lose_12 : decode prog_1_method_9_code 12 = .ok (.ireturn, 1) := by decide +kernel
theorem d_L_lose_13 : decode prog_1_method_9_code 13 = .ok (.aload_n 0, 1) := by decide +kernel
theorem d_L_lose_14 : decode prog_1_method_9_code 14 = .ok (.getfield 20, 3) := by decide +kernel
theorem d_L_lose_17 : decode prog_1_method_9_code 17 = .ok (.iload_n 1, 1) := by decide +kernel
theorem d_L_lose_18 : decode prog_1_method_9_code 18 = .ok (.invokevirtual 74, 3) := by decide +kernel
theorem d_L_lose_21 : decode prog_1_method_9_code 21 = .ok (.pop, 1) := by decide +kernel
theorem d_L_lose_22 : decode prog_1_method_9_code 22 = .ok (.iconst 1, 1) := by decide +kernel
theorem d_L_lose_23 : decode prog_1_method_9_code 23 = .ok (.ireturn, 1) := by decide +kernel
theorem d_L_pending_0 : decode prog_1_method_10_code 0 = .ok (.aload_n 0, 1) := by decide +kernel
theorem d_L_pending_1 : decode prog_1_method_10_code 1 = .ok (.getfield 20, 3) := by decide +kernel
theorem d_L_pending_4 : decode prog_1_method_10_code 4 = .ok (.getfield 97, 3) := by decide +kernel
theorem d_L_pending_7 : decode prog_1_method_10_code 7 = .ok (.ireturn, 1) := by decide +kernel
theorem d_L_message_0 : decode prog_1_method_11_code 0 = .ok (.aload_n 0, 1) := by decide +kernel
theorem d_L_message_1 : decode prog_1_method_11_code 1 = .ok (.getfield 20, 3) := by decide +kernel
theorem d_L_message_4 : decode prog_1_method_11_code 4 = .ok (.iload_n 1, 1) := by decide +kernel
theorem d_L_message_5 : decode prog_1_method_11_code 5 = .ok (.invokevirtual 71, 3) := by decide +kernel
theorem d_L_message_8 : decode prog_1_method_11_code 8 = .ok (.ifCond .eq 19, 3) := by decide +kernel
theorem d_L_message_11 : decode prog_1_method_11_code 11 = .ok (.aload_n 0, 1) := by decide +kernel
theorem d_L_message_12 : decode prog_1_method_11_code 12 = .ok (.getfield 20, 3) := by decide +kernel
theorem d_L_message_15 : decode prog_1_method_11_code 15 = .ok (.getfield 100, 3) := by decide +kernel
theorem d_L_message_18 : decode prog_1_method_11_code 18 = .ok (.iload_n 1, 1) := by decide +kernel
theorem d_L_message_19 : decode prog_1_method_11_code 19 = .ok (.aaload, 1) := by decide +kernel
theorem d_L_message_20 : decode prog_1_method_11_code 20 = .ok (.iload_n 2, 1) := by decide +kernel
theorem d_L_message_21 : decode prog_1_method_11_code 21 = .ok (.invokevirtual 104, 3) := by decide +kernel
theorem d_L_message_24 : decode prog_1_method_11_code 24 = .ok (.goto 4, 3) := by decide +kernel
theorem d_L_message_27 : decode prog_1_method_11_code 27 = .ok (.iconst (-1), 1) := by decide +kernel
theorem d_L_message_28 : decode prog_1_method_11_code 28 = .ok (.ireturn, 1) := by decide +kernel
theorem d_L_tick_0 : decode prog_1_method_12_code 0 = .ok (.iload_n 1, 1) := by decide +kernel
theorem d_L_tick_1 : decode prog_1_method_12_code 1 = .ok (.invokestatic 108, 3) := by decide +kernel
theorem d_L_tick_4 : decode prog_1_method_12_code 4 = .ok (.ifCond .eq 18, 3) := by decide +kernel
theorem d_L_tick_7 : decode prog_1_method_12_code 7 = .ok (.aload_n 0, 1) := by decide +kernel
theorem d_L_tick_8 : decode prog_1_method_12_code 8 = .ok (.getfield 29, 3) := by decide +kernel
theorem d_L_tick_11 : decode prog_1_method_12_code 11 = .ok (.iload_n 1, 1) := by decide +kernel
theorem d_L_tick_12 : decode prog_1_method_12_code 12 = .ok (.aload_n 0, 1) := by decide +kernel
theorem d_L_tick_13 : decode prog_1_method_12_code 13 = .ok (.getfield 20, 3) := by decide +kernel
theorem d_L_tick_16 : decode prog_1_method_12_code 16 = .ok (.invokevirtual 111, 3) := by decide +kernel
theorem d_L_tick_19 : decode prog_1_method_12_code 19 = .ok (.goto 4, 3) := by decide +kernel
theorem d_L_tick_22 : decode prog_1_method_12_code 22 = .ok (.iconst (-1), 1) := by decide +kernel
theorem d_L_tick_23 : decode prog_1_method_12_code 23 = .ok (.ireturn, 1) := by decide +kernel
theorem d_L_pass_0 : decode prog_1_method_13_code 0 = .ok (.aload_n 0, 1) := by decide +kernel
theorem d_L_pass_1 : decode prog_1_method_13_code 1 = .ok (.iload_n 1, 1) := by decide +kernel
theorem d_L_pass_2 : decode prog_1_method_13_code 2 = .ok (.invokevirtual 40, 3) := by decide +kernel
theorem d_L_pass_5 : decode prog_1_method_13_code 5 = .ok (.ifCond .eq 10, 3) := by decide +kernel
theorem d_L_pass_8 : decode prog_1_method_13_code 8 = .ok (.iload_n 2, 1) := by decide +kernel
theorem d_L_pass_9 : decode prog_1_method_13_code 9 = .ok (.invokestatic 108, 3) := by decide +kernel
theorem d_L_pass_12 : decode prog_1_method_13_code 12 = .ok (.ifCond .ne 5, 3) := by decide +kernel
theorem d_L_pass_15 : decode prog_1_method_13_code 15 = .ok (.iconst (-1), 1) := by decide +kernel
theorem d_L_pass_16 : decode prog_1_method_13_code 16 = .ok (.ireturn, 1) := by decide +kernel
theorem d_L_pass_17 : decode prog_1_method_13_code 17 = .ok (.aload_n 0, 1) := by decide +kernel
theorem d_L_pass_18 : decode prog_1_method_13_code 18 = .ok (.getfield 35, 3) := by decide +kernel
theorem d_L_pass_21 : decode prog_1_method_13_code 21 = .ok (.iload_n 1, 1) := by decide +kernel
theorem d_L_pass_22 : decode prog_1_method_13_code 22 = .ok (.aaload, 1) := by decide +kernel
theorem d_L_pass_23 : decode prog_1_method_13_code 23 = .ok (.dup, 1) := by decide +kernel
theorem d_L_pass_24 : decode prog_1_method_13_code 24 = .ok (.getfield 114, 3) := by decide +kernel
theorem d_L_pass_27 : decode prog_1_method_13_code 27 = .ok (.iload_n 2, 1) := by decide +kernel
theorem d_L_pass_28 : decode prog_1_method_13_code 28 = .ok (.iadd, 1) := by decide +kernel
theorem d_L_pass_29 : decode prog_1_method_13_code 29 = .ok (.putfield 114, 3) := by decide +kernel
theorem d_L_pass_32 : decode prog_1_method_13_code 32 = .ok (.aload_n 0, 1) := by decide +kernel
theorem d_L_pass_33 : decode prog_1_method_13_code 33 = .ok (.getfield 35, 3) := by decide +kernel
theorem d_L_pass_36 : decode prog_1_method_13_code 36 = .ok (.iload_n 1, 1) := by decide +kernel
theorem d_L_pass_37 : decode prog_1_method_13_code 37 = .ok (.aaload, 1) := by decide +kernel
theorem d_L_pass_38 : decode prog_1_method_13_code 38 = .ok (.getfield 114, 3) := by decide +kernel
theorem d_L_pass_41 : decode prog_1_method_13_code 41 = .ok (.ireturn, 1) := by decide +kernel
theorem d_L_crash_0 : decode prog_1_method_14_code 0 = .ok (.aload_n 0, 1) := by decide +kernel
theorem d_L_crash_1 : decode prog_1_method_14_code 1 = .ok (.iload_n 1, 1) := by decide +kernel
theorem d_L_crash_2 : decode prog_1_method_14_code 2 = .ok (.invokevirtual 40, 3) := by decide +kernel
theorem d_L_crash_5 : decode prog_1_method_14_code 5 = .ok (.ifCond .eq 15, 3) := by decide +kernel
theorem d_L_crash_8 : decode prog_1_method_14_code 8 = .ok (.aload_n 0, 1) := by decide +kernel
theorem d_L_crash_9 : decode prog_1_method_14_code 9 = .ok (.getfield 35, 3) := by decide +kernel
theorem d_L_crash_12 : decode prog_1_method_14_code 12 = .ok (.iload_n 1, 1) := by decide +kernel
theorem d_L_crash_13 : decode prog_1_method_14_code 13 = .ok (.aaload, 1) := by decide +kernel
theorem d_L_crash_14 : decode prog_1_method_14_code 14 = .ok (.invokevirtual 117, 3) := by decide +kernel
theorem d_L_crash_17 : decode prog_1_method_14_code 17 = .ok (.goto 4, 3) := by decide +kernel
theorem d_L_crash_20 : decode prog_1_method_14_code 20 = .ok (.iconst (-1), 1) := by decide +kernel
theorem d_L_crash_21 : decode prog_1_method_14_code 21 = .ok (.ireturn, 1) := by decide +kernel
theorem d_L_halt_0 : decode prog_1_method_15_code 0 = .ok (.aload_n 0, 1) := by decide +kernel
theorem d_L_halt_1 : decode prog_1_method_15_code 1 = .ok (.getfield 29, 3) := by decide +kernel
theorem d_L_halt_4 : decode prog_1_method_15_code 4 = .ok (.getfield 121, 3) := by decide +kernel
theorem d_L_halt_7 : decode prog_1_method_15_code 7 = .ok (.ifCond .eq 13, 3) := by decide +kernel
theorem d_L_halt_10 : decode prog_1_method_15_code 10 = .ok (.aload_n 0, 1) := by decide +kernel
theorem d_L_halt_11 : decode prog_1_method_15_code 11 = .ok (.getfield 29, 3) := by decide +kernel
theorem d_L_halt_14 : decode prog_1_method_15_code 14 = .ok (.invokevirtual 125, 3) := by decide +kernel
theorem d_L_halt_17 : decode prog_1_method_15_code 17 = .ok (.goto 4, 3) := by decide +kernel
theorem d_L_halt_20 : decode prog_1_method_15_code 20 = .ok (.iconst (-1), 1) := by decide +kernel
theorem d_L_halt_21 : decode prog_1_method_15_code 21 = .ok (.ireturn, 1) := by decide +kernel
theorem d_L_restart_0 : decode prog_1_method_16_code 0 = .ok (.aload_n 0, 1) := by decide +kernel
theorem d_L_restart_1 : decode prog_1_method_16_code 1 = .ok (.getfield 29, 3) := by decide +kernel
theorem d_L_restart_4 : decode prog_1_method_16_code 4 = .ok (.getfield 121, 3) := by decide +kernel
theorem d_L_restart_7 : decode prog_1_method_16_code 7 = .ok (.ifCond .eq 7, 3) := by decide +kernel
theorem d_L_restart_10 : decode prog_1_method_16_code 10 = .ok (.iconst (-1), 1) := by decide +kernel
theorem d_L_restart_11 : decode prog_1_method_16_code 11 = .ok (.goto 10, 3) := by decide +kernel
theorem d_L_restart_14 : decode prog_1_method_16_code 14 = .ok (.aload_n 0, 1) := by decide +kernel
theorem d_L_restart_15 : decode prog_1_method_16_code 15 = .ok (.getfield 29, 3) := by decide +kernel
theorem d_L_restart_18 : decode prog_1_method_16_code 18 = .ok (.invokevirtual 128, 3) := by decide +kernel
theorem d_L_restart_21 : decode prog_1_method_16_code 21 = .ok (.ireturn, 1) := by decide +kernel
theorem d_L_copy_0 : decode prog_1_method_17_code 0 = .ok (.aload_n 0, 1) := by decide +kernel
theorem d_L_copy_1 : decode prog_1_method_17_code 1 = .ok (.iload_n 1, 1) := by decide +kernel
theorem d_L_copy_2 : decode prog_1_method_17_code 2 = .ok (.invokevirtual 40, 3) := by decide +kernel
theorem d_L_copy_5 : decode prog_1_method_17_code 5 = .ok (.ifCond .eq 11, 3) := by decide +kernel
theorem d_L_copy_8 : decode prog_1_method_17_code 8 = .ok (.aload_n 0, 1) := by decide +kernel
theorem d_L_copy_9 : decode prog_1_method_17_code 9 = .ok (.iload_n 2, 1) := by decide +kernel
theorem d_L_copy_10 : decode prog_1_method_17_code 10 = .ok (.invokevirtual 44, 3) := by decide +kernel
theorem d_L_copy_13 : decode prog_1_method_17_code 13 = .ok (.ifCond .ne 5, 3) := by decide +kernel
theorem d_L_copy_16 : decode prog_1_method_17_code 16 = .ok (.iconst (-1), 1) := by decide +kernel
theorem d_L_copy_17 : decode prog_1_method_17_code 17 = .ok (.ireturn, 1) := by decide +kernel
theorem d_L_copy_18 : decode prog_1_method_17_code 18 = .ok (.aload_n 0, 1) := by decide +kernel
theorem d_L_copy_19 : decode prog_1_method_17_code 19 = .ok (.getfield 35, 3) := by decide +kernel
theorem d_L_copy_22 : decode prog_1_method_17_code 22 = .ok (.iload_n 1, 1) := by decide +kernel
theorem d_L_copy_23 : decode prog_1_method_17_code 23 = .ok (.aaload, 1) := by decide +kernel
theorem d_L_copy_24 : decode prog_1_method_17_code 24 = .ok (.getfield 131, 3) := by decide +kernel
theorem d_L_copy_27 : decode prog_1_method_17_code 27 = .ok (.iload_n 2, 1) := by decide +kernel
theorem d_L_copy_28 : decode prog_1_method_17_code 28 = .ok (.aaload, 1) := by decide +kernel
theorem d_L_copy_29 : decode prog_1_method_17_code 29 = .ok (.iload_n 3, 1) := by decide +kernel
theorem d_L_copy_30 : decode prog_1_method_17_code 30 = .ok (.aload_n 0, 1) := by decide +kernel
theorem d_L_copy_31 : decode prog_1_method_17_code 31 = .ok (.getfield 35, 3) := by decide +kernel
theorem d_L_copy_34 : decode prog_1_method_17_code 34 = .ok (.iload_n 1, 1) := by decide +kernel
theorem d_L_copy_35 : decode prog_1_method_17_code 35 = .ok (.aaload, 1) := by decide +kernel
theorem d_L_copy_36 : decode prog_1_method_17_code 36 = .ok (.getfield 114, 3) := by decide +kernel
theorem d_L_copy_39 : decode prog_1_method_17_code 39 = .ok (.invokevirtual 135, 3) := by decide +kernel
theorem d_L_copy_42 : decode prog_1_method_17_code 42 = .ok (.ireturn, 1) := by decide +kernel
theorem d_L_lease_0 : decode prog_1_method_18_code 0 = .ok (.aload_n 0, 1) := by decide +kernel
theorem d_L_lease_1 : decode prog_1_method_18_code 1 = .ok (.iload_n 1, 1) := by decide +kernel
theorem d_L_lease_2 : decode prog_1_method_18_code 2 = .ok (.invokevirtual 40, 3) := by decide +kernel
theorem d_L_lease_5 : decode prog_1_method_18_code 5 = .ok (.ifCond .eq 11, 3) := by decide +kernel
theorem d_L_lease_8 : decode prog_1_method_18_code 8 = .ok (.aload_n 0, 1) := by decide +kernel
theorem d_L_lease_9 : decode prog_1_method_18_code 9 = .ok (.iload_n 2, 1) := by decide +kernel
theorem d_L_lease_10 : decode prog_1_method_18_code 10 = .ok (.invokevirtual 44, 3) := by decide +kernel
theorem d_L_lease_13 : decode prog_1_method_18_code 13 = .ok (.ifCond .ne 5, 3) := by decide +kernel
theorem d_L_lease_16 : decode prog_1_method_18_code 16 = .ok (.iconst (-1), 1) := by decide +kernel
theorem d_L_lease_17 : decode prog_1_method_18_code 17 = .ok (.ireturn, 1) := by decide +kernel
theorem d_L_lease_18 : decode prog_1_method_18_code 18 = .ok (.aload_n 0, 1) := by decide +kernel
theorem d_L_lease_19 : decode prog_1_method_18_code 19 = .ok (.getfield 29, 3) := by decide +kernel
theorem d_L_lease_22 : decode prog_1_method_18_code 22 = .ok (.getfield 139, 3) := by decide +kernel
theorem d_L_lease_25 : decode prog_1_method_18_code 25 = .ok (.iload_n 2, 1) := by decide +kernel
theorem d_L_lease_26 : decode prog_1_method_18_code 26 = .ok (.aaload, 1) := by decide +kernel
theorem d_L_lease_27 : decode prog_1_method_18_code 27 = .ok (.getfield 142, 3) := by decide +kernel
theorem d_L_lease_30 : decode prog_1_method_18_code 30 = .ok (.iload_n 1, 1) := by decide +kernel
theorem d_L_lease_31 : decode prog_1_method_18_code 31 = .ok (.iaload, 1) := by decide +kernel
theorem d_L_lease_32 : decode prog_1_method_18_code 32 = .ok (.aload_n 0, 1) := by decide +kernel
theorem d_L_lease_33 : decode prog_1_method_18_code 33 = .ok (.getfield 29, 3) := by decide +kernel
theorem d_L_lease_36 : decode prog_1_method_18_code 36 = .ok (.getfield 148, 3) := by decide +kernel
theorem d_L_lease_39 : decode prog_1_method_18_code 39 = .ok (.invokestatic 149, 3) := by decide +kernel
theorem d_L_lease_42 : decode prog_1_method_18_code 42 = .ok (.ireturn, 1) := by decide +kernel
theorem d_L_file_0 : decode prog_1_method_19_code 0 = .ok (.aload_n 0, 1) := by decide +kernel
theorem d_L_file_1 : decode prog_1_method_19_code 1 = .ok (.iload_n 1, 1) := by decide +kernel
theorem d_L_file_2 : decode prog_1_method_19_code 2 = .ok (.invokevirtual 44, 3) := by decide +kernel
theorem d_L_file_5 : decode prog_1_method_19_code 5 = .ok (.ifCond .eq 19, 3) := by decide +kernel
theorem d_L_file_8 : decode prog_1_method_19_code 8 = .ok (.aload_n 0, 1) := by decide +kernel
theorem d_L_file_9 : decode prog_1_method_19_code 9 = .ok (.getfield 29, 3) := by decide +kernel
theorem d_L_file_12 : decode prog_1_method_19_code 12 = .ok (.getfield 139, 3) := by decide +kernel
theorem d_L_file_15 : decode prog_1_method_19_code 15 = .ok (.iload_n 1, 1) := by decide +kernel
theorem d_L_file_16 : decode prog_1_method_19_code 16 = .ok (.aaload, 1) := by decide +kernel
theorem d_L_file_17 : decode prog_1_method_19_code 17 = .ok (.iload_n 2, 1) := by decide +kernel
theorem d_L_file_18 : decode prog_1_method_19_code 18 = .ok (.invokevirtual 152, 3) := by decide +kernel
theorem d_L_file_21 : decode prog_1_method_19_code 21 = .ok (.goto 4, 3) := by decide +kernel
theorem d_L_file_24 : decode prog_1_method_19_code 24 = .ok (.iconst (-1), 1) := by decide +kernel
theorem d_L_file_25 : decode prog_1_method_19_code 25 = .ok (.ireturn, 1) := by decide +kernel
theorem d_L_server_0 : decode prog_1_method_20_code 0 = .ok (.aload_n 0, 1) := by decide +kernel
theorem d_L_server_1 : decode prog_1_method_20_code 1 = .ok (.getfield 29, 3) := by decide +kernel
theorem d_L_server_4 : decode prog_1_method_20_code 4 = .ok (.iload_n 1, 1) := by decide +kernel
theorem d_L_server_5 : decode prog_1_method_20_code 5 = .ok (.invokevirtual 153, 3) := by decide +kernel
theorem d_L_server_8 : decode prog_1_method_20_code 8 = .ok (.ireturn, 1) := by decide +kernel
theorem d_L_client_0 : decode prog_1_method_21_code 0 = .ok (.aload_n 0, 1) := by decide +kernel
theorem d_L_client_1 : decode prog_1_method_21_code 1 = .ok (.iload_n 1, 1) := by decide +kernel
theorem d_L_client_2 : decode prog_1_method_21_code 2 = .ok (.invokevirtual 40, 3) := by decide +kernel
theorem d_L_client_5 : decode prog_1_method_21_code 5 = .ok (.ifCond .eq 16, 3) := by decide +kernel
theorem d_L_client_8 : decode prog_1_method_21_code 8 = .ok (.aload_n 0, 1) := by decide +kernel
theorem d_L_client_9 : decode prog_1_method_21_code 9 = .ok (.getfield 35, 3) := by decide +kernel
theorem d_L_client_12 : decode prog_1_method_21_code 12 = .ok (.iload_n 1, 1) := by decide +kernel
theorem d_L_client_13 : decode prog_1_method_21_code 13 = .ok (.aaload, 1) := by decide +kernel
theorem d_L_client_14 : decode prog_1_method_21_code 14 = .ok (.iload_n 2, 1) := by decide +kernel
theorem d_L_client_15 : decode prog_1_method_21_code 15 = .ok (.invokevirtual 154, 3) := by decide +kernel
theorem d_L_client_18 : decode prog_1_method_21_code 18 = .ok (.goto 4, 3) := by decide +kernel
theorem d_L_client_21 : decode prog_1_method_21_code 21 = .ok (.iconst (-1), 1) := by decide +kernel
theorem d_L_client_22 : decode prog_1_method_21_code 22 = .ok (.ireturn, 1) := by decide +kernel
theorem d_L_hasClient_0 : decode prog_1_method_22_code 0 = .ok (.iload_n 1, 1) := by decide +kernel
theorem d_L_hasClient_1 : decode prog_1_method_22_code 1 = .ok (.ifCond .lt 16, 3) := by decide +kernel
theorem d_L_hasClient_4 : decode prog_1_method_22_code 4 = .ok (.iload_n 1, 1) := by decide +kernel
theorem d_L_hasClient_5 : decode prog_1_method_22_code 5 = .ok (.aload_n 0, 1) := by decide +kernel
theorem d_L_hasClient_6 : decode prog_1_method_22_code 6 = .ok (.getfield 35, 3) := by decide +kernel
theorem d_L_hasClient_9 : decode prog_1_method_22_code 9 = .ok (.arraylength, 1) := by decide +kernel
theorem d_L_hasClient_10 : decode prog_1_method_22_code 10 = .ok (.if_icmp .ge 7, 3) := by decide +kernel
theorem d_L_hasClient_13 : decode prog_1_method_22_code 13 = .ok (.iconst 1, 1) := by decide +kernel
theorem d_L_hasClient_14 : decode prog_1_method_22_code 14 = .ok (.goto 4, 3) := by decide +kernel
theorem d_L_hasClient_17 : decode prog_1_method_22_code 17 = .ok (.iconst 0, 1) := by decide +kernel
theorem d_L_hasClient_18 : decode prog_1_method_22_code 18 = .ok (.ireturn, 1) := by decide +kernel
theorem d_L_hasFile_0 : decode prog_1_method_23_code 0 = .ok (.iload_n 1, 1) := by decide +kernel
theorem d_L_hasFile_1 : decode prog_1_method_23_code 1 = .ok (.ifCond .lt 15, 3) := by decide +kernel
theorem d_L_hasFile_4 : decode prog_1_method_23_code 4 = .ok (.iload_n 1, 1) := by decide +kernel
theorem d_L_hasFile_5 : decode prog_1_method_23_code 5 = .ok (.aload_n 0, 1) := by decide +kernel
theorem d_L_hasFile_6 : decode prog_1_method_23_code 6 = .ok (.getfield 13, 3) := by decide +kernel
theorem d_L_hasFile_9 : decode prog_1_method_23_code 9 = .ok (.if_icmp .ge 7, 3) := by decide +kernel
theorem d_L_hasFile_12 : decode prog_1_method_23_code 12 = .ok (.iconst 1, 1) := by decide +kernel
theorem d_L_hasFile_13 : decode prog_1_method_23_code 13 = .ok (.goto 4, 3) := by decide +kernel
theorem d_L_hasFile_16 : decode prog_1_method_23_code 16 = .ok (.iconst 0, 1) := by decide +kernel
theorem d_L_hasFile_17 : decode prog_1_method_23_code 17 = .ok (.ireturn, 1) := by decide +kernel
theorem d_L_isDone_0 : decode prog_1_method_24_code 0 = .ok (.aload_n 0, 1) := by decide +kernel
theorem d_L_isDone_1 : decode prog_1_method_24_code 1 = .ok (.iload_n 1, 1) := by decide +kernel
theorem d_L_isDone_2 : decode prog_1_method_24_code 2 = .ok (.invokevirtual 40, 3) := by decide +kernel
theorem d_L_isDone_5 : decode prog_1_method_24_code 5 = .ok (.ifCond .eq 20, 3) := by decide +kernel
theorem d_L_isDone_8 : decode prog_1_method_24_code 8 = .ok (.aload_n 0, 1) := by decide +kernel
theorem d_L_isDone_9 : decode prog_1_method_24_code 9 = .ok (.getfield 35, 3) := by decide +kernel
theorem d_L_isDone_12 : decode prog_1_method_24_code 12 = .ok (.iload_n 1, 1) := by decide +kernel
theorem d_L_isDone_13 : decode prog_1_method_24_code 13 = .ok (.aaload, 1) := by decide +kernel
theorem d_L_isDone_14 : decode prog_1_method_24_code 14 = .ok (.getfield 59, 3) := by decide +kernel
theorem d_L_isDone_17 : decode prog_1_method_24_code 17 = .ok (.iconst 1, 1) := by decide +kernel
theorem d_L_isDone_18 : decode prog_1_method_24_code 18 = .ok (.if_icmp .ne 7, 3) := by decide +kernel
theorem d_L_isDone_21 : decode prog_1_method_24_code 21 = .ok (.iconst 1, 1) := by decide +kernel
theorem d_L_isDone_22 : decode prog_1_method_24_code 22 = .ok (.goto 4, 3) := by decide +kernel
theorem d_L_isDone_25 : decode prog_1_method_24_code 25 = .ok (.iconst 0, 1) := by decide +kernel
theorem d_L_isDone_26 : decode prog_1_method_24_code 26 = .ok (.ireturn, 1) := by decide +kernel
theorem d_L_isStep_0 : decode prog_1_method_25_code 0 = .ok (.iload_n 0, 1) := by decide +kernel
theorem d_L_isStep_1 : decode prog_1_method_25_code 1 = .ok (.ifCond .lt 14, 3) := by decide +kernel
theorem d_L_isStep_4 : decode prog_1_method_25_code 4 = .ok (.iload_n 0, 1) := by decide +kernel
theorem d_L_isStep_5 : decode prog_1_method_25_code 5 = .ok (.sipush 1000, 3) := by decide +kernel
theorem d_L_isStep_8 : decode prog_1_method_25_code 8 = .ok (.if_icmp .gt 7, 3) := by decide +kernel
theorem d_L_isStep_11 : decode prog_1_method_25_code 11 = .ok (.iconst 1, 1) := by decide +kernel
theorem d_L_isStep_12 : decode prog_1_method_25_code 12 = .ok (.goto 4, 3) := by decide +kernel
theorem d_L_isStep_15 : decode prog_1_method_25_code 15 = .ok (.iconst 0, 1) := by decide +kernel
theorem d_L_isStep_16 : decode prog_1_method_25_code 16 = .ok (.ireturn, 1) := by decide +kernel
theorem d_L_clamp_0 : decode prog_1_method_26_code 0 = .ok (.iconst 1, 1) := by decide +kernel
theorem d_L_clamp_1 : decode prog_1_method_26_code 1 = .ok (.iload_n 0, 1) := by decide +kernel
theorem d_L_clamp_2 : decode prog_1_method_26_code 2 = .ok (.iload_n 1, 1) := by decide +kernel
theorem d_L_clamp_3 : decode prog_1_method_26_code 3 = .ok (.invokestatic 155, 3) := by decide +kernel
theorem d_L_clamp_6 : decode prog_1_method_26_code 6 = .ok (.invokestatic 160, 3) := by decide +kernel
theorem d_L_clamp_9 : decode prog_1_method_26_code 9 = .ok (.ireturn, 1) := by decide +kernel
theorem d_L_timeLeft_0 : decode prog_1_method_27_code 0 = .ok (.iconst 0, 1) := by decide +kernel
theorem d_L_timeLeft_1 : decode prog_1_method_27_code 1 = .ok (.iload_n 0, 1) := by decide +kernel
theorem d_L_timeLeft_2 : decode prog_1_method_27_code 2 = .ok (.iload_n 1, 1) := by decide +kernel
theorem d_L_timeLeft_3 : decode prog_1_method_27_code 3 = .ok (.isub, 1) := by decide +kernel
theorem d_L_timeLeft_4 : decode prog_1_method_27_code 4 = .ok (.invokestatic 160, 3) := by decide +kernel
theorem d_L_timeLeft_7 : decode prog_1_method_27_code 7 = .ok (.ireturn, 1) := by decide +kernel
theorem d_C_init_0 : decode prog_2_method_1_code 0 = .ok (.aload_n 0, 1) := by decide +kernel
theorem d_C_init_1 : decode prog_2_method_1_code 1 = .ok (.invokespecial 3, 3) := by decide +kernel
theorem d_C_init_4 : decode prog_2_method_1_code 4 = .ok (.aload_n 0, 1) := by decide +kernel
theorem d_C_init_5 : decode prog_2_method_1_code 5 = .ok (.iconst 0, 1) := by decide +kernel
theorem d_C_init_6 : decode prog_2_method_1_code 6 = .ok (.putfield 9, 3) := by decide +kernel
theorem d_C_init_9 : decode prog_2_method_1_code 9 = .ok (.aload_n 0, 1) := by decide +kernel
theorem d_C_init_10 : decode prog_2_method_1_code 10 = .ok (.iconst 0, 1) := by decide +kernel
theorem d_C_init_11 : decode prog_2_method_1_code 11 = .ok (.putfield 15, 3) := by decide +kernel
theorem d_C_init_14 : decode prog_2_method_1_code 14 = .ok (.aload_n 0, 1) := by decide +kernel
theorem d_C_init_15 : decode prog_2_method_1_code 15 = .ok (.iconst 0, 1) := by decide +kernel
theorem d_C_init_16 : decode prog_2_method_1_code 16 = .ok (.putfield 18, 3) := by decide +kernel
theorem d_C_init_19 : decode prog_2_method_1_code 19 = .ok (.aload_n 0, 1) := by decide +kernel
theorem d_C_init_20 : decode prog_2_method_1_code 20 = .ok (.iconst 0, 1) := by decide +kernel
theorem d_C_init_21 : decode prog_2_method_1_code 21 = .ok (.putfield 21, 3) := by decide +kernel
theorem d_C_init_24 : decode prog_2_method_1_code 24 = .ok (.aload_n 0, 1) := by decide +kernel
theorem d_C_init_25 : decode prog_2_method_1_code 25 = .ok (.iconst 0, 1) := by decide +kernel
theorem d_C_init_26 : decode prog_2_method_1_code 26 = .ok (.putfield 25, 3) := by decide +kernel
theorem d_C_init_29 : decode prog_2_method_1_code 29 = .ok (.aload_n 0, 1) := by decide +kernel
theorem d_C_init_30 : decode prog_2_method_1_code 30 = .ok (.iconst 0, 1) := by decide +kernel
theorem d_C_init_31 : decode prog_2_method_1_code 31 = .ok (.putfield 28, 3) := by decide +kernel
theorem d_C_init_34 : decode prog_2_method_1_code 34 = .ok (.aload_n 0, 1) := by decide +kernel
theorem d_C_init_35 : decode prog_2_method_1_code 35 = .ok (.iconst 0, 1) := by decide +kernel
theorem d_C_init_36 : decode prog_2_method_1_code 36 = .ok (.putfield 31, 3) := by decide +kernel
theorem d_C_init_39 : decode prog_2_method_1_code 39 = .ok (.aload_n 0, 1) := by decide +kernel
theorem d_C_init_40 : decode prog_2_method_1_code 40 = .ok (.iconst 0, 1) := by decide +kernel
theorem d_C_init_41 : decode prog_2_method_1_code 41 = .ok (.putfield 34, 3) := by decide +kernel
theorem d_C_init_44 : decode prog_2_method_1_code 44 = .ok (.aload_n 0, 1) := by decide +kernel
theorem d_C_init_45 : decode prog_2_method_1_code 45 = .ok (.iconst 0, 1) := by decide +kernel
end
section
theorem d_C_init_46 : decode prog_2_method_1_code 46 = .ok (.putfield 37, 3) := by decide +kernel
theorem d_C_init_49 : decode prog_2_method_1_code 49 = .ok (.aload_n 0, 1) := by decide +kernel
theorem d_C_init_50 : decode prog_2_method_1_code 50 = .ok (.iconst 0, 1) := by decide +kernel
theorem d_C_init_51 : decode prog_2_method_1_code 51 = .ok (.putfield 40, 3) := by decide +kernel
theorem d_C_init_54 : decode prog_2_method_1_code 54 = .ok (.aload_n 0, 1) := by decide +kernel
theorem d_C_init_55 : decode prog_2_method_1_code 55 = .ok (.iload_n 1, 1) := by decide +kernel
theorem d_C_init_56 : decode prog_2_method_1_code 56 = .ok (.putfield 43, 3) := by decide +kernel
theorem d_C_init_59 : decode prog_2_method_1_code 59 = .ok (.aload_n 0, 1) := by decide +kernel
theorem d_C_init_60 : decode prog_2_method_1_code 60 = .ok (.iload_n 3, 1) := by decide +kernel
theorem d_C_init_61 : decode prog_2_method_1_code 61 = .ok (.putfield 46, 3) := by decide +kernel
theorem d_C_init_64 : decode prog_2_method_1_code 64 = .ok (.aload_n 0, 1) := by decide +kernel
theorem d_C_init_65 : decode prog_2_method_1_code 65 = .ok (.iload_n 2, 1) := by decide +kernel
theorem d_C_init_66 : decode prog_2_method_1_code 66 = .ok (.anewarray 49, 3) := by decide +kernel
theorem d_C_init_69 : decode prog_2_method_1_code 69 = .ok (.putfield 51, 3) := by decide +kernel
theorem d_C_init_72 : decode prog_2_method_1_code 72 = .ok (.iconst 0, 1) := by decide +kernel
theorem d_C_init_73 : decode prog_2_method_1_code 73 = .ok (.istore 4, 2) := by decide +kernel
theorem d_C_init_75 : decode prog_2_method_1_code 75 = .ok (.iload 4, 2) := by decide +kernel
theorem d_C_init_77 : decode prog_2_method_1_code 77 = .ok (.iload_n 2, 1) := by decide +kernel
theorem d_C_init_78 : decode prog_2_method_1_code 78 = .ok (.if_icmp .ge 23, 3) := by decide +kernel
theorem d_C_init_81 : decode prog_2_method_1_code 81 = .ok (.aload_n 0, 1) := by decide +kernel
theorem d_C_init_82 : decode prog_2_method_1_code 82 = .ok (.getfield 51, 3) := by decide +kernel
theorem d_C_init_85 : decode prog_2_method_1_code 85 = .ok (.iload 4, 2) := by decide +kernel
theorem d_C_init_87 : decode prog_2_method_1_code 87 = .ok (.new 49, 3) := by decide +kernel
theorem d_C_init_90 : decode prog_2_method_1_code 90 = .ok (.dup, 1) := by decide +kernel
theorem d_C_init_91 : decode prog_2_method_1_code 91 = .ok (.invokespecial 55, 3) := by decide +kernel
theorem d_C_init_94 : decode prog_2_method_1_code 94 = .ok (.aastore, 1) := by decide +kernel
theorem d_C_init_95 : decode prog_2_method_1_code 95 = .ok (.iinc 4 1, 3) := by decide +kernel
theorem d_C_init_98 : decode prog_2_method_1_code 98 = .ok (.goto (-23), 3) := by decide +kernel
theorem d_C_init_101 : decode prog_2_method_1_code 101 = .ok (.return_, 1) := by decide +kernel
theorem d_C_startRead_0 : decode prog_2_method_2_code 0 = .ok (.aload_n 0, 1) := by decide +kernel
theorem d_C_startRead_1 : decode prog_2_method_2_code 1 = .ok (.getfield 15, 3) := by decide +kernel
theorem d_C_startRead_4 : decode prog_2_method_2_code 4 = .ok (.iconst 2, 1) := by decide +kernel
theorem d_C_startRead_5 : decode prog_2_method_2_code 5 = .ok (.if_icmp .ne 5, 3) := by decide +kernel
theorem d_C_startRead_8 : decode prog_2_method_2_code 8 = .ok (.iconst 0, 1) := by decide +kernel
theorem d_C_startRead_9 : decode prog_2_method_2_code 9 = .ok (.ireturn, 1) := by decide +kernel
theorem d_C_startRead_10 : decode prog_2_method_2_code 10 = .ok (.aload_n 0, 1) := by decide +kernel
theorem d_C_startRead_11 : decode prog_2_method_2_code 11 = .ok (.iload_n 1, 1) := by decide +kernel
theorem d_C_startRead_12 : decode prog_2_method_2_code 12 = .ok (.iconst 1, 1) := by decide +kernel
theorem d_C_startRead_13 : decode prog_2_method_2_code 13 = .ok (.invokevirtual 56, 3) := by decide +kernel
theorem d_C_startRead_16 : decode prog_2_method_2_code 16 = .ok (.aload_n 0, 1) := by decide +kernel
theorem d_C_startRead_17 : decode prog_2_method_2_code 17 = .ok (.getfield 51, 3) := by decide +kernel
theorem d_C_startRead_20 : decode prog_2_method_2_code 20 = .ok (.iload_n 1, 1) := by decide +kernel
theorem d_C_startRead_21 : decode prog_2_method_2_code 21 = .ok (.aaload, 1) := by decide +kernel
theorem d_C_startRead_22 : decode prog_2_method_2_code 22 = .ok (.astore_n 3, 1) := by decide +kernel
theorem d_C_startRead_23 : decode prog_2_method_2_code 23 = .ok (.aload_n 3, 1) := by decide +kernel
theorem d_C_startRead_24 : decode prog_2_method_2_code 24 = .ok (.aload_n 0, 1) := by decide +kernel
theorem d_C_startRead_25 : decode prog_2_method_2_code 25 = .ok (.getfield 9, 3) := by decide +kernel
theorem d_C_startRead_28 : decode prog_2_method_2_code 28 = .ok (.invokevirtual 60, 3) := by decide +kernel
theorem d_C_startRead_31 : decode prog_2_method_2_code 31 = .ok (.ifCond .eq 18, 3) := by decide +kernel
theorem d_C_startRead_34 : decode prog_2_method_2_code 34 = .ok (.aload_n 0, 1) := by decide +kernel
theorem d_C_startRead_35 : decode prog_2_method_2_code 35 = .ok (.aload_n 3, 1) := by decide +kernel
theorem d_C_startRead_36 : decode prog_2_method_2_code 36 = .ok (.getfield 64, 3) := by decide +kernel
theorem d_C_startRead_39 : decode prog_2_method_2_code 39 = .ok (.aload_n 3, 1) := by decide +kernel
theorem d_C_startRead_40 : decode prog_2_method_2_code 40 = .ok (.getfield 65, 3) := by decide +kernel
theorem d_C_startRead_43 : decode prog_2_method_2_code 43 = .ok (.invokevirtual 68, 3) := by decide +kernel
theorem d_C_startRead_46 : decode prog_2_method_2_code 46 = .ok (.goto 8, 3) := by decide +kernel
theorem d_C_startRead_49 : decode prog_2_method_2_code 49 = .ok (.aload_n 0, 1) := by decide +kernel
theorem d_C_startRead_50 : decode prog_2_method_2_code 50 = .ok (.aload_n 2, 1) := by decide +kernel
theorem d_C_startRead_51 : decode prog_2_method_2_code 51 = .ok (.invokevirtual 72, 3) := by decide +kernel
theorem d_C_startRead_54 : decode prog_2_method_2_code 54 = .ok (.aload_n 0, 1) := by decide +kernel
theorem d_C_startRead_55 : decode prog_2_method_2_code 55 = .ok (.getfield 15, 3) := by decide +kernel
theorem d_C_startRead_58 : decode prog_2_method_2_code 58 = .ok (.ireturn, 1) := by decide +kernel
theorem d_C_startWrite_0 : decode prog_2_method_3_code 0 = .ok (.aload_n 0, 1) := by decide +kernel
theorem d_C_startWrite_1 : decode prog_2_method_3_code 1 = .ok (.getfield 15, 3) := by decide +kernel
theorem d_C_startWrite_4 : decode prog_2_method_3_code 4 = .ok (.iconst 2, 1) := by decide +kernel
theorem d_C_startWrite_5 : decode prog_2_method_3_code 5 = .ok (.if_icmp .ne 5, 3) := by decide +kernel
theorem d_C_startWrite_8 : decode prog_2_method_3_code 8 = .ok (.iconst 0, 1) := by decide +kernel
theorem d_C_startWrite_9 : decode prog_2_method_3_code 9 = .ok (.ireturn, 1) := by decide +kernel
theorem d_C_startWrite_10 : decode prog_2_method_3_code 10 = .ok (.aload_n 0, 1) := by decide +kernel
theorem d_C_startWrite_11 : decode prog_2_method_3_code 11 = .ok (.iload_n 1, 1) := by decide +kernel
theorem d_C_startWrite_12 : decode prog_2_method_3_code 12 = .ok (.iconst 0, 1) := by decide +kernel
theorem d_C_startWrite_13 : decode prog_2_method_3_code 13 = .ok (.invokevirtual 56, 3) := by decide +kernel
theorem d_C_startWrite_16 : decode prog_2_method_3_code 16 = .ok (.aload_n 0, 1) := by decide +kernel
theorem d_C_startWrite_17 : decode prog_2_method_3_code 17 = .ok (.iload_n 2, 1) := by decide +kernel
theorem d_C_startWrite_18 : decode prog_2_method_3_code 18 = .ok (.putfield 28, 3) := by decide +kernel
theorem d_C_startWrite_21 : decode prog_2_method_3_code 21 = .ok (.aload_n 0, 1) := by decide +kernel
theorem d_C_startWrite_22 : decode prog_2_method_3_code 22 = .ok (.getfield 51, 3) := by decide +kernel
theorem d_C_startWrite_25 : decode prog_2_method_3_code 25 = .ok (.iload_n 1, 1) := by decide +kernel
theorem d_C_startWrite_26 : decode prog_2_method_3_code 26 = .ok (.aaload, 1) := by decide +kernel
theorem d_C_startWrite_27 : decode prog_2_method_3_code 27 = .ok (.iconst 0, 1) := by decide +kernel
theorem d_C_startWrite_28 : decode prog_2_method_3_code 28 = .ok (.putfield 76, 3) := by decide +kernel
theorem d_C_startWrite_31 : decode prog_2_method_3_code 31 = .ok (.aload_n 0, 1) := by decide +kernel
theorem d_C_startWrite_32 : decode prog_2_method_3_code 32 = .ok (.aload_n 3, 1) := by decide +kernel
theorem d_C_startWrite_33 : decode prog_2_method_3_code 33 = .ok (.invokevirtual 72, 3) := by decide +kernel
theorem d_C_startWrite_36 : decode prog_2_method_3_code 36 = .ok (.aload_n 0, 1) := by decide +kernel
theorem d_C_startWrite_37 : decode prog_2_method_3_code 37 = .ok (.getfield 15, 3) := by decide +kernel
theorem d_C_startWrite_40 : decode prog_2_method_3_code 40 = .ok (.ireturn, 1) := by decide +kernel
theorem d_C_sendAgain_0 : decode prog_2_method_4_code 0 = .ok (.aload_n 0, 1) := by decide +kernel
theorem d_C_sendAgain_1 : decode prog_2_method_4_code 1 = .ok (.getfield 15, 3) := by decide +kernel
theorem d_C_sendAgain_4 : decode prog_2_method_4_code 4 = .ok (.iconst 2, 1) := by decide +kernel
theorem d_C_sendAgain_5 : decode prog_2_method_4_code 5 = .ok (.if_icmp .eq 5, 3) := by decide +kernel
theorem d_C_sendAgain_8 : decode prog_2_method_4_code 8 = .ok (.iconst 0, 1) := by decide +kernel
theorem d_C_sendAgain_9 : decode prog_2_method_4_code 9 = .ok (.ireturn, 1) := by decide +kernel
theorem d_C_sendAgain_10 : decode prog_2_method_4_code 10 = .ok (.aload_n 0, 1) := by decide +kernel
theorem d_C_sendAgain_11 : decode prog_2_method_4_code 11 = .ok (.aload_n 1, 1) := by decide +kernel
theorem d_C_sendAgain_12 : decode prog_2_method_4_code 12 = .ok (.invokevirtual 72, 3) := by decide +kernel
theorem d_C_sendAgain_15 : decode prog_2_method_4_code 15 = .ok (.aload_n 0, 1) := by decide +kernel
theorem d_C_sendAgain_16 : decode prog_2_method_4_code 16 = .ok (.getfield 18, 3) := by decide +kernel
theorem d_C_sendAgain_19 : decode prog_2_method_4_code 19 = .ok (.ireturn, 1) := by decide +kernel
theorem d_C_forget_0 : decode prog_2_method_5_code 0 = .ok (.iconst 0, 1) := by decide +kernel
theorem d_C_forget_1 : decode prog_2_method_5_code 1 = .ok (.istore_n 1, 1) := by decide +kernel
theorem d_C_forget_2 : decode prog_2_method_5_code 2 = .ok (.iconst 0, 1) := by decide +kernel
theorem d_C_forget_3 : decode prog_2_method_5_code 3 = .ok (.istore_n 2, 1) := by decide +kernel
theorem d_C_forget_4 : decode prog_2_method_5_code 4 = .ok (.iload_n 2, 1) := by decide +kernel
theorem d_C_forget_5 : decode prog_2_method_5_code 5 = .ok (.aload_n 0, 1) := by decide +kernel
theorem d_C_forget_6 : decode prog_2_method_5_code 6 = .ok (.getfield 51, 3) := by decide +kernel
theorem d_C_forget_9 : decode prog_2_method_5_code 9 = .ok (.arraylength, 1) := by decide +kernel
theorem d_C_forget_10 : decode prog_2_method_5_code 10 = .ok (.if_icmp .ge 34, 3) := by decide +kernel
theorem d_C_forget_13 : decode prog_2_method_5_code 13 = .ok (.aload_n 0, 1) := by decide +kernel
theorem d_C_forget_14 : decode prog_2_method_5_code 14 = .ok (.getfield 51, 3) := by decide +kernel
theorem d_C_forget_17 : decode prog_2_method_5_code 17 = .ok (.iload_n 2, 1) := by decide +kernel
theorem d_C_forget_18 : decode prog_2_method_5_code 18 = .ok (.aaload, 1) := by decide +kernel
theorem d_C_forget_19 : decode prog_2_method_5_code 19 = .ok (.getfield 76, 3) := by decide +kernel
theorem d_C_forget_22 : decode prog_2_method_5_code 22 = .ok (.ifCond .eq 6, 3) := by decide +kernel
theorem d_C_forget_25 : decode prog_2_method_5_code 25 = .ok (.iinc 1 1, 3) := by decide +kernel
theorem d_C_forget_28 : decode prog_2_method_5_code 28 = .ok (.aload_n 0, 1) := by decide +kernel
theorem d_C_forget_29 : decode prog_2_method_5_code 29 = .ok (.getfield 51, 3) := by decide +kernel
theorem d_C_forget_32 : decode prog_2_method_5_code 32 = .ok (.iload_n 2, 1) := by decide +kernel
theorem d_C_forget_33 : decode prog_2_method_5_code 33 = .ok (.aaload, 1) := by decide +kernel
theorem d_C_forget_34 : decode prog_2_method_5_code 34 = .ok (.iconst 0, 1) := by decide +kernel
theorem d_C_forget_35 : decode prog_2_method_5_code 35 = .ok (.putfield 76, 3) := by decide +kernel
theorem d_C_forget_38 : decode prog_2_method_5_code 38 = .ok (.iinc 2 1, 3) := by decide +kernel
theorem d_C_forget_41 : decode prog_2_method_5_code 41 = .ok (.goto (-37), 3) := by decide +kernel
theorem d_C_forget_44 : decode prog_2_method_5_code 44 = .ok (.aload_n 0, 1) := by decide +kernel
theorem d_C_forget_45 : decode prog_2_method_5_code 45 = .ok (.iconst 0, 1) := by decide +kernel
theorem d_C_forget_46 : decode prog_2_method_5_code 46 = .ok (.putfield 15, 3) := by decide +kernel
theorem d_C_forget_49 : decode prog_2_method_5_code 49 = .ok (.iload_n 1, 1) := by decide +kernel
theorem d_C_forget_50 : decode prog_2_method_5_code 50 = .ok (.ireturn, 1) := by decide +kernel
theorem d_C_receive_0 : decode prog_2_method_6_code 0 = .ok (.aload_n 1, 1) := by decide +kernel
theorem d_C_receive_1 : decode prog_2_method_6_code 1 = .ok (.getfield 79, 3) := by decide +kernel
theorem d_C_receive_4 : decode prog_2_method_6_code 4 = .ok (.tableswitch 53 2 4 #[28, 36, 44], 28) := by decide +kernel
theorem d_C_receive_32 : decode prog_2_method_6_code 32 = .ok (.aload_n 0, 1) := by decide +kernel
theorem d_C_receive_33 : decode prog_2_method_6_code 33 = .ok (.aload_n 1, 1) := by decide +kernel
theorem d_C_receive_34 : decode prog_2_method_6_code 34 = .ok (.invokevirtual 84, 3) := by decide +kernel
theorem d_C_receive_37 : decode prog_2_method_6_code 37 = .ok (.goto 20, 3) := by decide +kernel
theorem d_C_receive_40 : decode prog_2_method_6_code 40 = .ok (.aload_n 0, 1) := by decide +kernel
theorem d_C_receive_41 : decode prog_2_method_6_code 41 = .ok (.aload_n 1, 1) := by decide +kernel
theorem d_C_receive_42 : decode prog_2_method_6_code 42 = .ok (.invokevirtual 88, 3) := by decide +kernel
theorem d_C_receive_45 : decode prog_2_method_6_code 45 = .ok (.goto 12, 3) := by decide +kernel
theorem d_C_receive_48 : decode prog_2_method_6_code 48 = .ok (.aload_n 0, 1) := by decide +kernel
theorem d_C_receive_49 : decode prog_2_method_6_code 49 = .ok (.aload_n 1, 1) := by decide +kernel
theorem d_C_receive_50 : decode prog_2_method_6_code 50 = .ok (.aload_n 2, 1) := by decide +kernel
theorem d_C_receive_51 : decode prog_2_method_6_code 51 = .ok (.invokevirtual 91, 3) := by decide +kernel
theorem d_C_receive_54 : decode prog_2_method_6_code 54 = .ok (.goto 3, 3) := by decide +kernel
theorem d_C_receive_57 : decode prog_2_method_6_code 57 = .ok (.return_, 1) := by decide +kernel
theorem d_C_part_0 : decode prog_2_method_7_code 0 = .ok (.iload_n 1, 1) := by decide +kernel
theorem d_C_part_1 : decode prog_2_method_7_code 1 = .ok (.lookupswitch 52 #[(0, 27), (1, 32)], 27) := by decide +kernel
theorem d_C_part_28 : decode prog_2_method_7_code 28 = .ok (.aload_n 0, 1) := by decide +kernel
theorem d_C_part_29 : decode prog_2_method_7_code 29 = .ok (.getfield 18, 3) := by decide +kernel
theorem d_C_part_32 : decode prog_2_method_7_code 32 = .ok (.ireturn, 1) := by decide +kernel
theorem d_C_part_33 : decode prog_2_method_7_code 33 = .ok (.aload_n 0, 1) := by decide +kernel
theorem d_C_part_34 : decode prog_2_method_7_code 34 = .ok (.invokevirtual 95, 3) := by decide +kernel
theorem d_C_part_37 : decode prog_2_method_7_code 37 = .ok (.ifCond .eq 14, 3) := by decide +kernel
theorem d_C_part_40 : decode prog_2_method_7_code 40 = .ok (.aload_n 0, 1) := by decide +kernel
theorem d_C_part_41 : decode prog_2_method_7_code 41 = .ok (.getfield 34, 3) := by decide +kernel
theorem d_C_part_44 : decode prog_2_method_7_code 44 = .ok (.ifCond .eq 7, 3) := by decide +kernel
theorem d_C_part_47 : decode prog_2_method_7_code 47 = .ok (.iconst 1, 1) := by decide +kernel
theorem d_C_part_48 : decode prog_2_method_7_code 48 = .ok (.goto 4, 3) := by decide +kernel
theorem d_C_part_51 : decode prog_2_method_7_code 51 = .ok (.iconst 0, 1) := by decide +kernel
theorem d_C_part_52 : decode prog_2_method_7_code 52 = .ok (.ireturn, 1) := by decide +kernel
theorem d_C_part_53 : decode prog_2_method_7_code 53 = .ok (.aload_n 0, 1) := by decide +kernel
theorem d_C_part_54 : decode prog_2_method_7_code 54 = .ok (.getfield 9, 3) := by decide +kernel
theorem d_C_part_57 : decode prog_2_method_7_code 57 = .ok (.ireturn, 1) := by decide +kernel
theorem d_C_startOperation_0 : decode prog_2_method_8_code 0 = .ok (.aload_n 0, 1) := by decide +kernel
theorem d_C_startOperation_1 : decode prog_2_method_8_code 1 = .ok (.dup, 1) := by decide +kernel
theorem d_C_startOperation_2 : decode prog_2_method_8_code 2 = .ok (.getfield 18, 3) := by decide +kernel
theorem d_C_startOperation_5 : decode prog_2_method_8_code 5 = .ok (.iconst 1, 1) := by decide +kernel
theorem d_C_startOperation_6 : decode prog_2_method_8_code 6 = .ok (.iadd, 1) := by decide +kernel
theorem d_C_startOperation_7 : decode prog_2_method_8_code 7 = .ok (.putfield 18, 3) := by decide +kernel
theorem d_C_startOperation_10 : decode prog_2_method_8_code 10 = .ok (.aload_n 0, 1) := by decide +kernel
theorem d_C_startOperation_11 : decode prog_2_method_8_code 11 = .ok (.iconst 2, 1) := by decide +kernel
theorem d_C_startOperation_12 : decode prog_2_method_8_code 12 = .ok (.putfield 15, 3) := by decide +kernel
theorem d_C_startOperation_15 : decode prog_2_method_8_code 15 = .ok (.aload_n 0, 1) := by decide +kernel
theorem d_C_startOperation_16 : decode prog_2_method_8_code 16 = .ok (.iload_n 2, 1) := by decide +kernel
theorem d_C_startOperation_17 : decode prog_2_method_8_code 17 = .ok (.putfield 21, 3) := by decide +kernel
theorem d_C_startOperation_20 : decode prog_2_method_8_code 20 = .ok (.aload_n 0, 1) := by decide +kernel
theorem d_C_startOperation_21 : decode prog_2_method_8_code 21 = .ok (.iload_n 1, 1) := by decide +kernel
theorem d_C_startOperation_22 : decode prog_2_method_8_code 22 = .ok (.putfield 25, 3) := by decide +kernel
theorem d_C_startOperation_25 : decode prog_2_method_8_code 25 = .ok (.aload_n 0, 1) := by decide +kernel
theorem d_C_startOperation_26 : decode prog_2_method_8_code 26 = .ok (.aload_n 0, 1) := by decide +kernel
theorem d_C_startOperation_27 : decode prog_2_method_8_code 27 = .ok (.getfield 9, 3) := by decide +kernel
theorem d_C_startOperation_30 : decode prog_2_method_8_code 30 = .ok (.putfield 31, 3) := by decide +kernel
theorem d_C_startOperation_33 : decode prog_2_method_8_code 33 = .ok (.aload_n 0, 1) := by decide +kernel
theorem d_C_startOperation_34 : decode prog_2_method_8_code 34 = .ok (.iconst 0, 1) := by decide +kernel
theorem d_C_startOperation_35 : decode prog_2_method_8_code 35 = .ok (.putfield 34, 3) := by decide +kernel
theorem d_C_startOperation_38 : decode prog_2_method_8_code 38 = .ok (.return_, 1) := by decide +kernel
theorem d_C_sendRequest_0 : decode prog_2_method_9_code 0 = .ok (.aload_n 0, 1) := by decide +kernel
theorem d_C_sendRequest_1 : decode prog_2_method_9_code 1 = .ok (.getfield 21, 3) := by decide +kernel
theorem d_C_sendRequest_4 : decode prog_2_method_9_code 4 = .ok (.ifCond .eq 26, 3) := by decide +kernel
theorem d_C_sendRequest_7 : decode prog_2_method_9_code 7 = .ok (.aload_n 1, 1) := by decide +kernel
theorem d_C_sendRequest_8 : decode prog_2_method_9_code 8 = .ok (.iconst 0, 1) := by decide +kernel
theorem d_C_sendRequest_9 : decode prog_2_method_9_code 9 = .ok (.aload_n 0, 1) := by decide +kernel
theorem d_C_sendRequest_10 : decode prog_2_method_9_code 10 = .ok (.getfield 43, 3) := by decide +kernel
theorem d_C_sendRequest_13 : decode prog_2_method_9_code 13 = .ok (.aload_n 0, 1) := by decide +kernel
theorem d_C_sendRequest_14 : decode prog_2_method_9_code 14 = .ok (.getfield 25, 3) := by decide +kernel
theorem d_C_sendRequest_17 : decode prog_2_method_9_code 17 = .ok (.aload_n 0, 1) := by decide +kernel
theorem d_C_sendRequest_18 : decode prog_2_method_9_code 18 = .ok (.getfield 18, 3) := by decide +kernel
theorem d_C_sendRequest_21 : decode prog_2_method_9_code 21 = .ok (.iconst 0, 1) := by decide +kernel
theorem d_C_sendRequest_22 : decode prog_2_method_9_code 22 = .ok (.iconst 0, 1) := by decide +kernel
theorem d_C_sendRequest_23 : decode prog_2_method_9_code 23 = .ok (.iconst 0, 1) := by decide +kernel
theorem d_C_sendRequest_24 : decode prog_2_method_9_code 24 = .ok (.invokevirtual 99, 3) := by decide +kernel
theorem d_C_sendRequest_27 : decode prog_2_method_9_code 27 = .ok (.goto 26, 3) := by decide +kernel
theorem d_C_sendRequest_30 : decode prog_2_method_9_code 30 = .ok (.aload_n 1, 1) := by decide +kernel
theorem d_C_sendRequest_31 : decode prog_2_method_9_code 31 = .ok (.iconst 1, 1) := by decide +kernel
theorem d_C_sendRequest_32 : decode prog_2_method_9_code 32 = .ok (.aload_n 0, 1) := by decide +kernel
theorem d_C_sendRequest_33 : decode prog_2_method_9_code 33 = .ok (.getfield 43, 3) := by decide +kernel
theorem d_C_sendRequest_36 : decode prog_2_method_9_code 36 = .ok (.aload_n 0, 1) := by decide +kernel
theorem d_C_sendRequest_37 : decode prog_2_method_9_code 37 = .ok (.getfield 25, 3) := by decide +kernel
theorem d_C_sendRequest_40 : decode prog_2_method_9_code 40 = .ok (.aload_n 0, 1) := by decide +kernel
theorem d_C_sendRequest_41 : decode prog_2_method_9_code 41 = .ok (.getfield 18, 3) := by decide +kernel
theorem d_C_sendRequest_44 : decode prog_2_method_9_code 44 = .ok (.aload_n 0, 1) := by decide +kernel
theorem d_C_sendRequest_45 : decode prog_2_method_9_code 45 = .ok (.getfield 28, 3) := by decide +kernel
theorem d_C_sendRequest_48 : decode prog_2_method_9_code 48 = .ok (.iconst 0, 1) := by decide +kernel
theorem d_C_sendRequest_49 : decode prog_2_method_9_code 49 = .ok (.iconst 0, 1) := by decide +kernel
theorem d_C_sendRequest_50 : decode prog_2_method_9_code 50 = .ok (.invokevirtual 99, 3) := by decide +kernel
theorem d_C_sendRequest_53 : decode prog_2_method_9_code 53 = .ok (.return_, 1) := by decide +kernel
theorem d_C_receiveGiven_0 : decode prog_2_method_10_code 0 = .ok (.aload_n 0, 1) := by decide +kernel
theorem d_C_receiveGiven_1 : decode prog_2_method_10_code 1 = .ok (.invokevirtual 95, 3) := by decide +kernel
theorem d_C_receiveGiven_4 : decode prog_2_method_10_code 4 = .ok (.ifCond .eq 14, 3) := by decide +kernel
theorem d_C_receiveGiven_7 : decode prog_2_method_10_code 7 = .ok (.aload_n 1, 1) := by decide +kernel
theorem d_C_receiveGiven_8 : decode prog_2_method_10_code 8 = .ok (.getfield 105, 3) := by decide +kernel
theorem d_C_receiveGiven_11 : decode prog_2_method_10_code 11 = .ok (.aload_n 0, 1) := by decide +kernel
theorem d_C_receiveGiven_12 : decode prog_2_method_10_code 12 = .ok (.getfield 18, 3) := by decide +kernel
theorem d_C_receiveGiven_15 : decode prog_2_method_10_code 15 = .ok (.if_icmp .eq 4, 3) := by decide +kernel
theorem d_C_receiveGiven_18 : decode prog_2_method_10_code 18 = .ok (.return_, 1) := by decide +kernel
theorem d_C_receiveGiven_19 : decode prog_2_method_10_code 19 = .ok (.aload_n 0, 1) := by decide +kernel
theorem d_C_receiveGiven_20 : decode prog_2_method_10_code 20 = .ok (.aload_n 1, 1) := by decide +kernel
theorem d_C_receiveGiven_21 : decode prog_2_method_10_code 21 = .ok (.getfield 106, 3) := by decide +kernel
theorem d_C_receiveGiven_24 : decode prog_2_method_10_code 24 = .ok (.aload_n 1, 1) := by decide +kernel
theorem d_C_receiveGiven_25 : decode prog_2_method_10_code 25 = .ok (.getfield 109, 3) := by decide +kernel
theorem d_C_receiveGiven_28 : decode prog_2_method_10_code 28 = .ok (.invokevirtual 68, 3) := by decide +kernel
theorem d_C_receiveGiven_31 : decode prog_2_method_10_code 31 = .ok (.aload_n 1, 1) := by decide +kernel
theorem d_C_receiveGiven_32 : decode prog_2_method_10_code 32 = .ok (.getfield 112, 3) := by decide +kernel
theorem d_C_receiveGiven_35 : decode prog_2_method_10_code 35 = .ok (.iconst 1, 1) := by decide +kernel
theorem d_C_receiveGiven_36 : decode prog_2_method_10_code 36 = .ok (.if_icmp .ne 39, 3) := by decide +kernel
theorem d_C_receiveGiven_39 : decode prog_2_method_10_code 39 = .ok (.aload_n 0, 1) := by decide +kernel
theorem d_C_receiveGiven_40 : decode prog_2_method_10_code 40 = .ok (.getfield 34, 3) := by decide +kernel
theorem d_C_receiveGiven_43 : decode prog_2_method_10_code 43 = .ok (.ifCond .ne 32, 3) := by decide +kernel
theorem d_C_receiveGiven_46 : decode prog_2_method_10_code 46 = .ok (.aload_n 0, 1) := by decide +kernel
theorem d_C_receiveGiven_47 : decode prog_2_method_10_code 47 = .ok (.getfield 51, 3) := by decide +kernel
theorem d_C_receiveGiven_50 : decode prog_2_method_10_code 50 = .ok (.aload_n 1, 1) := by decide +kernel
theorem d_C_receiveGiven_51 : decode prog_2_method_10_code 51 = .ok (.getfield 115, 3) := by decide +kernel
theorem d_C_receiveGiven_54 : decode prog_2_method_10_code 54 = .ok (.aaload, 1) := by decide +kernel
theorem d_C_receiveGiven_55 : decode prog_2_method_10_code 55 = .ok (.aload_n 1, 1) := by decide +kernel
theorem d_C_receiveGiven_56 : decode prog_2_method_10_code 56 = .ok (.getfield 106, 3) := by decide +kernel
theorem d_C_receiveGiven_59 : decode prog_2_method_10_code 59 = .ok (.aload_n 1, 1) := by decide +kernel
theorem d_C_receiveGiven_60 : decode prog_2_method_10_code 60 = .ok (.getfield 109, 3) := by decide +kernel
theorem d_C_receiveGiven_63 : decode prog_2_method_10_code 63 = .ok (.aload_n 0, 1) := by decide +kernel
theorem d_C_receiveGiven_64 : decode prog_2_method_10_code 64 = .ok (.getfield 31, 3) := by decide +kernel
theorem d_C_receiveGiven_67 : decode prog_2_method_10_code 67 = .ok (.aload_n 0, 1) := by decide +kernel
theorem d_C_receiveGiven_68 : decode prog_2_method_10_code 68 = .ok (.getfield 46, 3) := by decide +kernel
theorem d_C_receiveGiven_71 : decode prog_2_method_10_code 71 = .ok (.iadd, 1) := by decide +kernel
theorem d_C_receiveGiven_72 : decode prog_2_method_10_code 72 = .ok (.invokevirtual 116, 3) := by decide +kernel
theorem d_C_receiveGiven_75 : decode prog_2_method_10_code 75 = .ok (.return_, 1) := by decide +kernel
theorem d_C_receiveStored_0 : decode prog_2_method_11_code 0 = .ok (.aload_n 0, 1) := by decide +kernel
theorem d_C_receiveStored_1 : decode prog_2_method_11_code 1 = .ok (.invokevirtual 120, 3) := by decide +kernel
theorem d_C_receiveStored_4 : decode prog_2_method_11_code 4 = .ok (.ifCond .eq 26, 3) := by decide +kernel
theorem d_C_receiveStored_7 : decode prog_2_method_11_code 7 = .ok (.aload_n 1, 1) := by decide +kernel
theorem d_C_receiveStored_8 : decode prog_2_method_11_code 8 = .ok (.getfield 105, 3) := by decide +kernel
theorem d_C_receiveStored_11 : decode prog_2_method_11_code 11 = .ok (.aload_n 0, 1) := by decide +kernel
theorem d_C_receiveStored_12 : decode prog_2_method_11_code 12 = .ok (.getfield 18, 3) := by decide +kernel
theorem d_C_receiveStored_15 : decode prog_2_method_11_code 15 = .ok (.if_icmp .ne 15, 3) := by decide +kernel
theorem d_C_receiveStored_18 : decode prog_2_method_11_code 18 = .ok (.aload_n 0, 1) := by decide +kernel
theorem d_C_receiveStored_19 : decode prog_2_method_11_code 19 = .ok (.aload_n 1, 1) := by decide +kernel
theorem d_C_receiveStored_20 : decode prog_2_method_11_code 20 = .ok (.getfield 106, 3) := by decide +kernel
theorem d_C_receiveStored_23 : decode prog_2_method_11_code 23 = .ok (.aload_n 1, 1) := by decide +kernel
theorem d_C_receiveStored_24 : decode prog_2_method_11_code 24 = .ok (.getfield 106, 3) := by decide +kernel
theorem d_C_receiveStored_27 : decode prog_2_method_11_code 27 = .ok (.invokevirtual 68, 3) := by decide +kernel
theorem d_C_receiveStored_30 : decode prog_2_method_11_code 30 = .ok (.return_, 1) := by decide +kernel
theorem d_C_receiveRecall_0 : decode prog_2_method_12_code 0 = .ok (.aload_n 0, 1) := by decide +kernel
theorem d_C_receiveRecall_1 : decode prog_2_method_12_code 1 = .ok (.getfield 51, 3) := by decide +kernel
theorem d_C_receiveRecall_4 : decode prog_2_method_12_code 4 = .ok (.aload_n 1, 1) := by decide +kernel
theorem d_C_receiveRecall_5 : decode prog_2_method_12_code 5 = .ok (.getfield 115, 3) := by decide +kernel
theorem d_C_receiveRecall_8 : decode prog_2_method_12_code 8 = .ok (.aaload, 1) := by decide +kernel
theorem d_C_receiveRecall_9 : decode prog_2_method_12_code 9 = .ok (.iconst 0, 1) := by decide +kernel
theorem d_C_receiveRecall_10 : decode prog_2_method_12_code 10 = .ok (.putfield 76, 3) := by decide +kernel
theorem d_C_receiveRecall_13 : decode prog_2_method_12_code 13 = .ok (.aload_n 0, 1) := by decide +kernel
theorem d_C_receiveRecall_14 : decode prog_2_method_12_code 14 = .ok (.invokevirtual 95, 3) := by decide +kernel
theorem d_C_receiveRecall_17 : decode prog_2_method_12_code 17 = .ok (.ifCond .eq 19, 3) := by decide +kernel
theorem d_C_receiveRecall_20 : decode prog_2_method_12_code 20 = .ok (.aload_n 1, 1) := by decide +kernel
theorem d_C_receiveRecall_21 : decode prog_2_method_12_code 21 = .ok (.getfield 115, 3) := by decide +kernel
theorem d_C_receiveRecall_24 : decode prog_2_method_12_code 24 = .ok (.aload_n 0, 1) := by decide +kernel
theorem d_C_receiveRecall_25 : decode prog_2_method_12_code 25 = .ok (.getfield 25, 3) := by decide +kernel
theorem d_C_receiveRecall_28 : decode prog_2_method_12_code 28 = .ok (.if_icmp .ne 8, 3) := by decide +kernel
theorem d_C_receiveRecall_31 : decode prog_2_method_12_code 31 = .ok (.aload_n 0, 1) := by decide +kernel
theorem d_C_receiveRecall_32 : decode prog_2_method_12_code 32 = .ok (.iconst 1, 1) := by decide +kernel
theorem d_C_receiveRecall_33 : decode prog_2_method_12_code 33 = .ok (.putfield 34, 3) := by decide +kernel
theorem d_C_receiveRecall_36 : decode prog_2_method_12_code 36 = .ok (.aload_n 2, 1) := by decide +kernel
theorem d_C_receiveRecall_37 : decode prog_2_method_12_code 37 = .ok (.iconst 5, 1) := by decide +kernel
theorem d_C_receiveRecall_38 : decode prog_2_method_12_code 38 = .ok (.aload_n 0, 1) := by decide +kernel
theorem d_C_receiveRecall_39 : decode prog_2_method_12_code 39 = .ok (.getfield 43, 3) := by decide +kernel
theorem d_C_receiveRecall_42 : decode prog_2_method_12_code 42 = .ok (.aload_n 1, 1) := by decide +kernel
theorem d_C_receiveRecall_43 : decode prog_2_method_12_code 43 = .ok (.getfield 115, 3) := by decide +kernel
theorem d_C_receiveRecall_46 : decode prog_2_method_12_code 46 = .ok (.aload_n 1, 1) := by decide +kernel
theorem d_C_receiveRecall_47 : decode prog_2_method_12_code 47 = .ok (.getfield 105, 3) := by decide +kernel
theorem d_C_receiveRecall_50 : decode prog_2_method_12_code 50 = .ok (.aload_n 1, 1) := by decide +kernel
theorem d_C_receiveRecall_51 : decode prog_2_method_12_code 51 = .ok (.getfield 106, 3) := by decide +kernel
theorem d_C_receiveRecall_54 : decode prog_2_method_12_code 54 = .ok (.aload_n 1, 1) := by decide +kernel
theorem d_C_receiveRecall_55 : decode prog_2_method_12_code 55 = .ok (.getfield 109, 3) := by decide +kernel
theorem d_C_receiveRecall_58 : decode prog_2_method_12_code 58 = .ok (.iconst 0, 1) := by decide +kernel
theorem d_C_receiveRecall_59 : decode prog_2_method_12_code 59 = .ok (.invokevirtual 99, 3) := by decide +kernel
theorem d_C_receiveRecall_62 : decode prog_2_method_12_code 62 = .ok (.return_, 1) := by decide +kernel
theorem d_C_waitsToRead_0 : decode prog_2_method_13_code 0 = .ok (.aload_n 0, 1) := by decide +kernel
theorem d_C_waitsToRead_1 : decode prog_2_method_13_code 1 = .ok (.getfield 15, 3) := by decide +kernel
theorem d_C_waitsToRead_4 : decode prog_2_method_13_code 4 = .ok (.iconst 2, 1) := by decide +kernel
theorem d_C_waitsToRead_5 : decode prog_2_method_13_code 5 = .ok (.if_icmp .ne 14, 3) := by decide +kernel
theorem d_C_waitsToRead_8 : decode prog_2_method_13_code 8 = .ok (.aload_n 0, 1) := by decide +kernel
theorem d_C_waitsToRead_9 : decode prog_2_method_13_code 9 = .ok (.getfield 21, 3) := by decide +kernel
theorem d_C_waitsToRead_12 : decode prog_2_method_13_code 12 = .ok (.ifCond .eq 7, 3) := by decide +kernel
theorem d_C_waitsToRead_15 : decode prog_2_method_13_code 15 = .ok (.iconst 1, 1) := by decide +kernel
theorem d_C_waitsToRead_16 : decode prog_2_method_13_code 16 = .ok (.goto 4, 3) := by decide +kernel
theorem d_C_waitsToRead_19 : decode prog_2_method_13_code 19 = .ok (.iconst 0, 1) := by decide +kernel
theorem d_C_waitsToRead_20 : decode prog_2_method_13_code 20 = .ok (.ireturn, 1) := by decide +kernel
theorem d_C_waitsToWrite_0 : decode prog_2_method_14_code 0 = .ok (.aload_n 0, 1) := by decide +kernel
theorem d_C_waitsToWrite_1 : decode prog_2_method_14_code 1 = .ok (.getfield 15, 3) := by decide +kernel
theorem d_C_waitsToWrite_4 : decode prog_2_method_14_code 4 = .ok (.iconst 2, 1) := by decide +kernel
theorem d_C_waitsToWrite_5 : decode prog_2_method_14_code 5 = .ok (.if_icmp .ne 14, 3) := by decide +kernel
theorem d_C_waitsToWrite_8 : decode prog_2_method_14_code 8 = .ok (.aload_n 0, 1) := by decide +kernel
theorem d_C_waitsToWrite_9 : decode prog_2_method_14_code 9 = .ok (.getfield 21, 3) := by decide +kernel
theorem d_C_waitsToWrite_12 : decode prog_2_method_14_code 12 = .ok (.ifCond .ne 7, 3) := by decide +kernel
theorem d_C_waitsToWrite_15 : decode prog_2_method_14_code 15 = .ok (.iconst 1, 1) := by decide +kernel
theorem d_C_waitsToWrite_16 : decode prog_2_method_14_code 16 = .ok (.goto 4, 3) := by decide +kernel
theorem d_C_waitsToWrite_19 : decode prog_2_method_14_code 19 = .ok (.iconst 0, 1) := by decide +kernel
theorem d_C_waitsToWrite_20 : decode prog_2_method_14_code 20 = .ok (.ireturn, 1) := by decide +kernel
theorem d_C_finish_0 : decode prog_2_method_15_code 0 = .ok (.aload_n 0, 1) := by decide +kernel
theorem d_C_finish_1 : decode prog_2_method_15_code 1 = .ok (.iconst 1, 1) := by decide +kernel
theorem d_C_finish_2 : decode prog_2_method_15_code 2 = .ok (.putfield 15, 3) := by decide +kernel
theorem d_C_finish_5 : decode prog_2_method_15_code 5 = .ok (.aload_n 0, 1) := by decide +kernel
theorem d_C_finish_6 : decode prog_2_method_15_code 6 = .ok (.iload_n 1, 1) := by decide +kernel
theorem d_C_finish_7 : decode prog_2_method_15_code 7 = .ok (.putfield 37, 3) := by decide +kernel
theorem d_C_finish_10 : decode prog_2_method_15_code 10 = .ok (.aload_n 0, 1) := by decide +kernel
theorem d_C_finish_11 : decode prog_2_method_15_code 11 = .ok (.iload_n 2, 1) := by decide +kernel
theorem d_C_finish_12 : decode prog_2_method_15_code 12 = .ok (.putfield 40, 3) := by decide +kernel
theorem d_C_finish_15 : decode prog_2_method_15_code 15 = .ok (.return_, 1) := by decide +kernel
theorem d_Y_init_0 : decode prog_3_method_1_code 0 = .ok (.aload_n 0, 1) := by decide +kernel
theorem d_Y_init_1 : decode prog_3_method_1_code 1 = .ok (.invokespecial 3, 3) := by decide +kernel
theorem d_Y_init_4 : decode prog_3_method_1_code 4 = .ok (.aload_n 0, 1) := by decide +kernel
theorem d_Y_init_5 : decode prog_3_method_1_code 5 = .ok (.iconst 0, 1) := by decide +kernel
theorem d_Y_init_6 : decode prog_3_method_1_code 6 = .ok (.putfield 9, 3) := by decide +kernel
theorem d_Y_init_9 : decode prog_3_method_1_code 9 = .ok (.aload_n 0, 1) := by decide +kernel
theorem d_Y_init_10 : decode prog_3_method_1_code 10 = .ok (.iconst 0, 1) := by decide +kernel
theorem d_Y_init_11 : decode prog_3_method_1_code 11 = .ok (.putfield 15, 3) := by decide +kernel
theorem d_Y_init_14 : decode prog_3_method_1_code 14 = .ok (.aload_n 0, 1) := by decide +kernel
theorem d_Y_init_15 : decode prog_3_method_1_code 15 = .ok (.iconst 0, 1) := by decide +kernel
theorem d_Y_init_16 : decode prog_3_method_1_code 16 = .ok (.putfield 19, 3) := by decide +kernel
theorem d_Y_init_19 : decode prog_3_method_1_code 19 = .ok (.aload_n 0, 1) := by decide +kernel
theorem d_Y_init_20 : decode prog_3_method_1_code 20 = .ok (.iconst 0, 1) := by decide +kernel
theorem d_Y_init_21 : decode prog_3_method_1_code 21 = .ok (.putfield 22, 3) := by decide +kernel
theorem d_Y_init_24 : decode prog_3_method_1_code 24 = .ok (.return_, 1) := by decide +kernel
theorem d_Y_isGoodAt_0 : decode prog_3_method_2_code 0 = .ok (.aload_n 0, 1) := by decide +kernel
theorem d_Y_isGoodAt_1 : decode prog_3_method_2_code 1 = .ok (.getfield 9, 3) := by decide +kernel
theorem d_Y_isGoodAt_4 : decode prog_3_method_2_code 4 = .ok (.ifCond .eq 15, 3) := by decide +kernel
theorem d_Y_isGoodAt_7 : decode prog_3_method_2_code 7 = .ok (.aload_n 0, 1) := by decide +kernel
theorem d_Y_isGoodAt_8 : decode prog_3_method_2_code 8 = .ok (.getfield 22, 3) := by decide +kernel
theorem d_Y_isGoodAt_11 : decode prog_3_method_2_code 11 = .ok (.iload_n 1, 1) := by decide +kernel
theorem d_Y_isGoodAt_12 : decode prog_3_method_2_code 12 = .ok (.if_icmp .le 7, 3) := by decide +kernel
theorem d_Y_isGoodAt_15 : decode prog_3_method_2_code 15 = .ok (.iconst 1, 1) := by decide +kernel
theorem d_Y_isGoodAt_16 : decode prog_3_method_2_code 16 = .ok (.goto 4, 3) := by decide +kernel
theorem d_Y_isGoodAt_19 : decode prog_3_method_2_code 19 = .ok (.iconst 0, 1) := by decide +kernel
theorem d_Y_isGoodAt_20 : decode prog_3_method_2_code 20 = .ok (.ireturn, 1) := by decide +kernel
theorem d_Y_hold_0 : decode prog_3_method_3_code 0 = .ok (.aload_n 0, 1) := by decide +kernel
theorem d_Y_hold_1 : decode prog_3_method_3_code 1 = .ok (.iconst 1, 1) := by decide +kernel
theorem d_Y_hold_2 : decode prog_3_method_3_code 2 = .ok (.putfield 9, 3) := by decide +kernel
theorem d_Y_hold_5 : decode prog_3_method_3_code 5 = .ok (.aload_n 0, 1) := by decide +kernel
theorem d_Y_hold_6 : decode prog_3_method_3_code 6 = .ok (.iload_n 1, 1) := by decide +kernel
theorem d_Y_hold_7 : decode prog_3_method_3_code 7 = .ok (.putfield 15, 3) := by decide +kernel
theorem d_Y_hold_10 : decode prog_3_method_3_code 10 = .ok (.aload_n 0, 1) := by decide +kernel
theorem d_Y_hold_11 : decode prog_3_method_3_code 11 = .ok (.iload_n 2, 1) := by decide +kernel
theorem d_Y_hold_12 : decode prog_3_method_3_code 12 = .ok (.putfield 19, 3) := by decide +kernel
theorem d_Y_hold_15 : decode prog_3_method_3_code 15 = .ok (.aload_n 0, 1) := by decide +kernel
theorem d_Y_hold_16 : decode prog_3_method_3_code 16 = .ok (.iload_n 3, 1) := by decide +kernel
theorem d_Y_hold_17 : decode prog_3_method_3_code 17 = .ok (.putfield 22, 3) := by decide +kernel
theorem d_Y_hold_20 : decode prog_3_method_3_code 20 = .ok (.return_, 1) := by decide +kernel
theorem d_Y_part_0 : decode prog_3_method_4_code 0 = .ok (.aload_n 0, 1) := by decide +kernel
theorem d_Y_part_1 : decode prog_3_method_4_code 1 = .ok (.getfield 9, 3) := by decide +kernel
theorem d_Y_part_4 : decode prog_3_method_4_code 4 = .ok (.ifCond .ne 5, 3) := by decide +kernel
theorem d_Y_part_7 : decode prog_3_method_4_code 7 = .ok (.iconst (-1), 1) := by decide +kernel
theorem d_Y_part_8 : decode prog_3_method_4_code 8 = .ok (.ireturn, 1) := by decide +kernel
theorem d_Y_part_9 : decode prog_3_method_4_code 9 = .ok (.iload_n 1, 1) := by decide +kernel
theorem d_Y_part_10 : decode prog_3_method_4_code 10 = .ok (.tableswitch 45 0 2 #[26, 35, 40], 26) := by decide +kernel
theorem d_Y_part_36 : decode prog_3_method_4_code 36 = .ok (.aload_n 0, 1) := by decide +kernel
theorem d_Y_part_37 : decode prog_3_method_4_code 37 = .ok (.getfield 22, 3) := by decide +kernel
theorem d_Y_part_40 : decode prog_3_method_4_code 40 = .ok (.iload_n 2, 1) := by decide +kernel
theorem d_Y_part_41 : decode prog_3_method_4_code 41 = .ok (.invokestatic 25, 3) := by decide +kernel
theorem d_Y_part_44 : decode prog_3_method_4_code 44 = .ok (.ireturn, 1) := by decide +kernel
theorem d_Y_part_45 : decode prog_3_method_4_code 45 = .ok (.aload_n 0, 1) := by decide +kernel
theorem d_Y_part_46 : decode prog_3_method_4_code 46 = .ok (.getfield 15, 3) := by decide +kernel
theorem d_Y_part_49 : decode prog_3_method_4_code 49 = .ok (.ireturn, 1) := by decide +kernel
theorem d_Y_part_50 : decode prog_3_method_4_code 50 = .ok (.aload_n 0, 1) := by decide +kernel
theorem d_Y_part_51 : decode prog_3_method_4_code 51 = .ok (.getfield 19, 3) := by decide +kernel
theorem d_Y_part_54 : decode prog_3_method_4_code 54 = .ok (.ireturn, 1) := by decide +kernel
theorem d_Y_part_55 : decode prog_3_method_4_code 55 = .ok (.iconst (-1), 1) := by decide +kernel
theorem d_Y_part_56 : decode prog_3_method_4_code 56 = .ok (.ireturn, 1) := by decide +kernel
theorem d_M_init_0 : decode prog_4_method_1_code 0 = .ok (.aload_n 0, 1) := by decide +kernel
theorem d_M_init_1 : decode prog_4_method_1_code 1 = .ok (.invokespecial 3, 3) := by decide +kernel
theorem d_M_init_4 : decode prog_4_method_1_code 4 = .ok (.return_, 1) := by decide +kernel
theorem d_M_goesToServer_0 : decode prog_4_method_2_code 0 = .ok (.aload_n 0, 1) := by decide +kernel
theorem d_M_goesToServer_1 : decode prog_4_method_2_code 1 = .ok (.getfield 9, 3) := by decide +kernel
theorem d_M_goesToServer_4 : decode prog_4_method_2_code 4 = .ok (.ifCond .eq 19, 3) := by decide +kernel
theorem d_M_goesToServer_7 : decode prog_4_method_2_code 7 = .ok (.aload_n 0, 1) := by decide +kernel
theorem d_M_goesToServer_8 : decode prog_4_method_2_code 8 = .ok (.getfield 9, 3) := by decide +kernel
theorem d_M_goesToServer_11 : decode prog_4_method_2_code 11 = .ok (.iconst 1, 1) := by decide +kernel
theorem d_M_goesToServer_12 : decode prog_4_method_2_code 12 = .ok (.if_icmp .eq 11, 3) := by decide +kernel
theorem d_M_goesToServer_15 : decode prog_4_method_2_code 15 = .ok (.aload_n 0, 1) := by decide +kernel
theorem d_M_goesToServer_16 : decode prog_4_method_2_code 16 = .ok (.getfield 9, 3) := by decide +kernel
theorem d_M_goesToServer_19 : decode prog_4_method_2_code 19 = .ok (.iconst 5, 1) := by decide +kernel
theorem d_M_goesToServer_20 : decode prog_4_method_2_code 20 = .ok (.if_icmp .ne 7, 3) := by decide +kernel
theorem d_M_goesToServer_23 : decode prog_4_method_2_code 23 = .ok (.iconst 1, 1) := by decide +kernel
theorem d_M_goesToServer_24 : decode prog_4_method_2_code 24 = .ok (.goto 4, 3) := by decide +kernel
theorem d_M_goesToServer_27 : decode prog_4_method_2_code 27 = .ok (.iconst 0, 1) := by decide +kernel
theorem d_M_goesToServer_28 : decode prog_4_method_2_code 28 = .ok (.ireturn, 1) := by decide +kernel
theorem d_M_part_0 : decode prog_4_method_3_code 0 = .ok (.iload_n 1, 1) := by decide +kernel
theorem d_M_part_1 : decode prog_4_method_3_code 1 = .ok (.tableswitch 78 0 6 #[43, 48, 53, 58, 63, 68, 73], 43) := by decide +kernel
theorem d_M_part_44 : decode prog_4_method_3_code 44 = .ok (.aload_n 0, 1) := by decide +kernel
theorem d_M_part_45 : decode prog_4_method_3_code 45 = .ok (.getfield 9, 3) := by decide +kernel
theorem d_M_part_48 : decode prog_4_method_3_code 48 = .ok (.ireturn, 1) := by decide +kernel
theorem d_M_part_49 : decode prog_4_method_3_code 49 = .ok (.aload_n 0, 1) := by decide +kernel
theorem d_M_part_50 : decode prog_4_method_3_code 50 = .ok (.getfield 15, 3) := by decide +kernel
theorem d_M_part_53 : decode prog_4_method_3_code 53 = .ok (.ireturn, 1) := by decide +kernel
theorem d_M_part_54 : decode prog_4_method_3_code 54 = .ok (.aload_n 0, 1) := by decide +kernel
theorem d_M_part_55 : decode prog_4_method_3_code 55 = .ok (.getfield 18, 3) := by decide +kernel
theorem d_M_part_58 : decode prog_4_method_3_code 58 = .ok (.ireturn, 1) := by decide +kernel
theorem d_M_part_59 : decode prog_4_method_3_code 59 = .ok (.aload_n 0, 1) := by decide +kernel
theorem d_M_part_60 : decode prog_4_method_3_code 60 = .ok (.getfield 21, 3) := by decide +kernel
theorem d_M_part_63 : decode prog_4_method_3_code 63 = .ok (.ireturn, 1) := by decide +kernel
theorem d_M_part_64 : decode prog_4_method_3_code 64 = .ok (.aload_n 0, 1) := by decide +kernel
theorem d_M_part_65 : decode prog_4_method_3_code 65 = .ok (.getfield 24, 3) := by decide +kernel
theorem d_M_part_68 : decode prog_4_method_3_code 68 = .ok (.ireturn, 1) := by decide +kernel
theorem d_M_part_69 : decode prog_4_method_3_code 69 = .ok (.aload_n 0, 1) := by decide +kernel
theorem d_M_part_70 : decode prog_4_method_3_code 70 = .ok (.getfield 27, 3) := by decide +kernel
theorem d_M_part_73 : decode prog_4_method_3_code 73 = .ok (.ireturn, 1) := by decide +kernel
theorem d_M_part_74 : decode prog_4_method_3_code 74 = .ok (.aload_n 0, 1) := by decide +kernel
theorem d_M_part_75 : decode prog_4_method_3_code 75 = .ok (.getfield 30, 3) := by decide +kernel
theorem d_M_part_78 : decode prog_4_method_3_code 78 = .ok (.ireturn, 1) := by decide +kernel
theorem d_M_part_79 : decode prog_4_method_3_code 79 = .ok (.iconst (-1), 1) := by decide +kernel
theorem d_M_part_80 : decode prog_4_method_3_code 80 = .ok (.ireturn, 1) := by decide +kernel
theorem d_P_init_0 : decode prog_5_method_1_code 0 = .ok (.aload_n 0, 1) := by decide +kernel
theorem d_P_init_1 : decode prog_5_method_1_code 1 = .ok (.invokespecial 3, 3) := by decide +kernel
theorem d_P_init_4 : decode prog_5_method_1_code 4 = .ok (.aload_n 0, 1) := by decide +kernel
theorem d_P_init_5 : decode prog_5_method_1_code 5 = .ok (.bipush 64, 2) := by decide +kernel
theorem d_P_init_7 : decode prog_5_method_1_code 7 = .ok (.anewarray 9, 3) := by decide +kernel
theorem d_P_init_10 : decode prog_5_method_1_code 10 = .ok (.putfield 11, 3) := by decide +kernel
theorem d_P_init_13 : decode prog_5_method_1_code 13 = .ok (.aload_n 0, 1) := by decide +kernel
theorem d_P_init_14 : decode prog_5_method_1_code 14 = .ok (.iconst 0, 1) := by decide +kernel
theorem d_P_init_15 : decode prog_5_method_1_code 15 = .ok (.putfield 17, 3) := by decide +kernel
theorem d_P_init_18 : decode prog_5_method_1_code 18 = .ok (.aload_n 0, 1) := by decide +kernel
theorem d_P_init_19 : decode prog_5_method_1_code 19 = .ok (.new 9, 3) := by decide +kernel
theorem d_P_init_22 : decode prog_5_method_1_code 22 = .ok (.dup, 1) := by decide +kernel
theorem d_P_init_23 : decode prog_5_method_1_code 23 = .ok (.invokespecial 21, 3) := by decide +kernel
theorem d_P_init_26 : decode prog_5_method_1_code 26 = .ok (.putfield 22, 3) := by decide +kernel
end
section
theorem d_P_init_29 : decode prog_5_method_1_code 29 = .ok (.iconst 0, 1) := by decide +kernel
theorem d_P_init_30 : decode prog_5_method_1_code 30 = .ok (.istore_n 1, 1) := by decide +kernel
theorem d_P_init_31 : decode prog_5_method_1_code 31 = .ok (.iload_n 1, 1) := by decide +kernel
theorem d_P_init_32 : decode prog_5_method_1_code 32 = .ok (.bipush 64, 2) := by decide +kernel
theorem d_P_init_34 : decode prog_5_method_1_code 34 = .ok (.if_icmp .ge 22, 3) := by decide +kernel
theorem d_P_init_37 : decode prog_5_method_1_code 37 = .ok (.aload_n 0, 1) := by decide +kernel
theorem d_P_init_38 : decode prog_5_method_1_code 38 = .ok (.getfield 11, 3) := by decide +kernel
theorem d_P_init_41 : decode prog_5_method_1_code 41 = .ok (.iload_n 1, 1) := by decide +kernel
theorem d_P_init_42 : decode prog_5_method_1_code 42 = .ok (.new 9, 3) := by decide +kernel
theorem d_P_init_45 : decode prog_5_method_1_code 45 = .ok (.dup, 1) := by decide +kernel
theorem d_P_init_46 : decode prog_5_method_1_code 46 = .ok (.invokespecial 21, 3) := by decide +kernel
theorem d_P_init_49 : decode prog_5_method_1_code 49 = .ok (.aastore, 1) := by decide +kernel
theorem d_P_init_50 : decode prog_5_method_1_code 50 = .ok (.iinc 1 1, 3) := by decide +kernel
theorem d_P_init_53 : decode prog_5_method_1_code 53 = .ok (.goto (-22), 3) := by decide +kernel
theorem d_P_init_56 : decode prog_5_method_1_code 56 = .ok (.return_, 1) := by decide +kernel
theorem d_P_holds_0 : decode prog_5_method_2_code 0 = .ok (.iload_n 1, 1) := by decide +kernel
theorem d_P_holds_1 : decode prog_5_method_2_code 1 = .ok (.ifCond .lt 15, 3) := by decide +kernel
theorem d_P_holds_4 : decode prog_5_method_2_code 4 = .ok (.iload_n 1, 1) := by decide +kernel
theorem d_P_holds_5 : decode prog_5_method_2_code 5 = .ok (.aload_n 0, 1) := by decide +kernel
theorem d_P_holds_6 : decode prog_5_method_2_code 6 = .ok (.getfield 17, 3) := by decide +kernel
theorem d_P_holds_9 : decode prog_5_method_2_code 9 = .ok (.if_icmp .ge 7, 3) := by decide +kernel
theorem d_P_holds_12 : decode prog_5_method_2_code 12 = .ok (.iconst 1, 1) := by decide +kernel
theorem d_P_holds_13 : decode prog_5_method_2_code 13 = .ok (.goto 4, 3) := by decide +kernel
theorem d_P_holds_16 : decode prog_5_method_2_code 16 = .ok (.iconst 0, 1) := by decide +kernel
theorem d_P_holds_17 : decode prog_5_method_2_code 17 = .ok (.ireturn, 1) := by decide +kernel
theorem d_P_send_0 : decode prog_5_method_3_code 0 = .ok (.aload_n 0, 1) := by decide +kernel
theorem d_P_send_1 : decode prog_5_method_3_code 1 = .ok (.getfield 17, 3) := by decide +kernel
theorem d_P_send_4 : decode prog_5_method_3_code 4 = .ok (.bipush 64, 2) := by decide +kernel
theorem d_P_send_6 : decode prog_5_method_3_code 6 = .ok (.if_icmp .lt 4, 3) := by decide +kernel
theorem d_P_send_9 : decode prog_5_method_3_code 9 = .ok (.return_, 1) := by decide +kernel
theorem d_P_send_10 : decode prog_5_method_3_code 10 = .ok (.aload_n 0, 1) := by decide +kernel
theorem d_P_send_11 : decode prog_5_method_3_code 11 = .ok (.getfield 11, 3) := by decide +kernel
theorem d_P_send_14 : decode prog_5_method_3_code 14 = .ok (.aload_n 0, 1) := by decide +kernel
theorem d_P_send_15 : decode prog_5_method_3_code 15 = .ok (.getfield 17, 3) := by decide +kernel
theorem d_P_send_18 : decode prog_5_method_3_code 18 = .ok (.aaload, 1) := by decide +kernel
theorem d_P_send_19 : decode prog_5_method_3_code 19 = .ok (.astore 8, 2) := by decide +kernel
theorem d_P_send_21 : decode prog_5_method_3_code 21 = .ok (.aload 8, 2) := by decide +kernel
theorem d_P_send_23 : decode prog_5_method_3_code 23 = .ok (.iload_n 1, 1) := by decide +kernel
theorem d_P_send_24 : decode prog_5_method_3_code 24 = .ok (.putfield 26, 3) := by decide +kernel
theorem d_P_send_27 : decode prog_5_method_3_code 27 = .ok (.aload 8, 2) := by decide +kernel
theorem d_P_send_29 : decode prog_5_method_3_code 29 = .ok (.iload_n 2, 1) := by decide +kernel
theorem d_P_send_30 : decode prog_5_method_3_code 30 = .ok (.putfield 29, 3) := by decide +kernel
theorem d_P_send_33 : decode prog_5_method_3_code 33 = .ok (.aload 8, 2) := by decide +kernel
theorem d_P_send_35 : decode prog_5_method_3_code 35 = .ok (.iload_n 3, 1) := by decide +kernel
theorem d_P_send_36 : decode prog_5_method_3_code 36 = .ok (.putfield 32, 3) := by decide +kernel
theorem d_P_send_39 : decode prog_5_method_3_code 39 = .ok (.aload 8, 2) := by decide +kernel
theorem d_P_send_41 : decode prog_5_method_3_code 41 = .ok (.iload 4, 2) := by decide +kernel
theorem d_P_send_43 : decode prog_5_method_3_code 43 = .ok (.putfield 35, 3) := by decide +kernel
theorem d_P_send_46 : decode prog_5_method_3_code 46 = .ok (.aload 8, 2) := by decide +kernel
theorem d_P_send_48 : decode prog_5_method_3_code 48 = .ok (.iload 5, 2) := by decide +kernel
theorem d_P_send_50 : decode prog_5_method_3_code 50 = .ok (.putfield 38, 3) := by decide +kernel
theorem d_P_send_53 : decode prog_5_method_3_code 53 = .ok (.aload 8, 2) := by decide +kernel
theorem d_P_send_55 : decode prog_5_method_3_code 55 = .ok (.iload 6, 2) := by decide +kernel
theorem d_P_send_57 : decode prog_5_method_3_code 57 = .ok (.putfield 41, 3) := by decide +kernel
theorem d_P_send_60 : decode prog_5_method_3_code 60 = .ok (.aload 8, 2) := by decide +kernel
theorem d_P_send_62 : decode prog_5_method_3_code 62 = .ok (.iload 7, 2) := by decide +kernel
theorem d_P_send_64 : decode prog_5_method_3_code 64 = .ok (.putfield 44, 3) := by decide +kernel
theorem d_P_send_67 : decode prog_5_method_3_code 67 = .ok (.aload_n 0, 1) := by decide +kernel
theorem d_P_send_68 : decode prog_5_method_3_code 68 = .ok (.dup, 1) := by decide +kernel
theorem d_P_send_69 : decode prog_5_method_3_code 69 = .ok (.getfield 17, 3) := by decide +kernel
theorem d_P_send_72 : decode prog_5_method_3_code 72 = .ok (.iconst 1, 1) := by decide +kernel
theorem d_P_send_73 : decode prog_5_method_3_code 73 = .ok (.iadd, 1) := by decide +kernel
theorem d_P_send_74 : decode prog_5_method_3_code 74 = .ok (.putfield 17, 3) := by decide +kernel
theorem d_P_send_77 : decode prog_5_method_3_code 77 = .ok (.return_, 1) := by decide +kernel
theorem d_P_takeOut_0 : decode prog_5_method_4_code 0 = .ok (.aload_n 0, 1) := by decide +kernel
theorem d_P_takeOut_1 : decode prog_5_method_4_code 1 = .ok (.getfield 11, 3) := by decide +kernel
theorem d_P_takeOut_4 : decode prog_5_method_4_code 4 = .ok (.iload_n 1, 1) := by decide +kernel
theorem d_P_takeOut_5 : decode prog_5_method_4_code 5 = .ok (.aaload, 1) := by decide +kernel
theorem d_P_takeOut_6 : decode prog_5_method_4_code 6 = .ok (.astore_n 2, 1) := by decide +kernel
theorem d_P_takeOut_7 : decode prog_5_method_4_code 7 = .ok (.iload_n 1, 1) := by decide +kernel
theorem d_P_takeOut_8 : decode prog_5_method_4_code 8 = .ok (.istore_n 3, 1) := by decide +kernel
theorem d_P_takeOut_9 : decode prog_5_method_4_code 9 = .ok (.iload_n 3, 1) := by decide +kernel
theorem d_P_takeOut_10 : decode prog_5_method_4_code 10 = .ok (.aload_n 0, 1) := by decide +kernel
theorem d_P_takeOut_11 : decode prog_5_method_4_code 11 = .ok (.getfield 17, 3) := by decide +kernel
theorem d_P_takeOut_14 : decode prog_5_method_4_code 14 = .ok (.iconst 1, 1) := by decide +kernel
theorem d_P_takeOut_15 : decode prog_5_method_4_code 15 = .ok (.isub, 1) := by decide +kernel
theorem d_P_takeOut_16 : decode prog_5_method_4_code 16 = .ok (.if_icmp .ge 23, 3) := by decide +kernel
theorem d_P_takeOut_19 : decode prog_5_method_4_code 19 = .ok (.aload_n 0, 1) := by decide +kernel
theorem d_P_takeOut_20 : decode prog_5_method_4_code 20 = .ok (.getfield 11, 3) := by decide +kernel
theorem d_P_takeOut_23 : decode prog_5_method_4_code 23 = .ok (.iload_n 3, 1) := by decide +kernel
theorem d_P_takeOut_24 : decode prog_5_method_4_code 24 = .ok (.aload_n 0, 1) := by decide +kernel
theorem d_P_takeOut_25 : decode prog_5_method_4_code 25 = .ok (.getfield 11, 3) := by decide +kernel
theorem d_P_takeOut_28 : decode prog_5_method_4_code 28 = .ok (.iload_n 3, 1) := by decide +kernel
theorem d_P_takeOut_29 : decode prog_5_method_4_code 29 = .ok (.iconst 1, 1) := by decide +kernel
theorem d_P_takeOut_30 : decode prog_5_method_4_code 30 = .ok (.iadd, 1) := by decide +kernel
theorem d_P_takeOut_31 : decode prog_5_method_4_code 31 = .ok (.aaload, 1) := by decide +kernel
theorem d_P_takeOut_32 : decode prog_5_method_4_code 32 = .ok (.aastore, 1) := by decide +kernel
theorem d_P_takeOut_33 : decode prog_5_method_4_code 33 = .ok (.iinc 3 1, 3) := by decide +kernel
theorem d_P_takeOut_36 : decode prog_5_method_4_code 36 = .ok (.goto (-27), 3) := by decide +kernel
theorem d_P_takeOut_39 : decode prog_5_method_4_code 39 = .ok (.aload_n 0, 1) := by decide +kernel
theorem d_P_takeOut_40 : decode prog_5_method_4_code 40 = .ok (.dup, 1) := by decide +kernel
theorem d_P_takeOut_41 : decode prog_5_method_4_code 41 = .ok (.getfield 17, 3) := by decide +kernel
theorem d_P_takeOut_44 : decode prog_5_method_4_code 44 = .ok (.iconst 1, 1) := by decide +kernel
theorem d_P_takeOut_45 : decode prog_5_method_4_code 45 = .ok (.isub, 1) := by decide +kernel
theorem d_P_takeOut_46 : decode prog_5_method_4_code 46 = .ok (.putfield 17, 3) := by decide +kernel
theorem d_P_takeOut_49 : decode prog_5_method_4_code 49 = .ok (.aload_n 0, 1) := by decide +kernel
theorem d_P_takeOut_50 : decode prog_5_method_4_code 50 = .ok (.getfield 11, 3) := by decide +kernel
theorem d_P_takeOut_53 : decode prog_5_method_4_code 53 = .ok (.aload_n 0, 1) := by decide +kernel
theorem d_P_takeOut_54 : decode prog_5_method_4_code 54 = .ok (.getfield 17, 3) := by decide +kernel
theorem d_P_takeOut_57 : decode prog_5_method_4_code 57 = .ok (.aload_n 0, 1) := by decide +kernel
theorem d_P_takeOut_58 : decode prog_5_method_4_code 58 = .ok (.getfield 22, 3) := by decide +kernel
theorem d_P_takeOut_61 : decode prog_5_method_4_code 61 = .ok (.aastore, 1) := by decide +kernel
theorem d_P_takeOut_62 : decode prog_5_method_4_code 62 = .ok (.aload_n 0, 1) := by decide +kernel
theorem d_P_takeOut_63 : decode prog_5_method_4_code 63 = .ok (.aload_n 2, 1) := by decide +kernel
theorem d_P_takeOut_64 : decode prog_5_method_4_code 64 = .ok (.putfield 22, 3) := by decide +kernel
theorem d_P_takeOut_67 : decode prog_5_method_4_code 67 = .ok (.aload_n 2, 1) := by decide +kernel
theorem d_P_takeOut_68 : decode prog_5_method_4_code 68 = .ok (.areturn, 1) := by decide +kernel
theorem d_F_init_0 : decode prog_6_method_1_code 0 = .ok (.aload_n 0, 1) := by decide +kernel
theorem d_F_init_1 : decode prog_6_method_1_code 1 = .ok (.invokespecial 3, 3) := by decide +kernel
theorem d_F_init_4 : decode prog_6_method_1_code 4 = .ok (.aload_n 0, 1) := by decide +kernel
theorem d_F_init_5 : decode prog_6_method_1_code 5 = .ok (.new 9, 3) := by decide +kernel
theorem d_F_init_8 : decode prog_6_method_1_code 8 = .ok (.dup, 1) := by decide +kernel
theorem d_F_init_9 : decode prog_6_method_1_code 9 = .ok (.invokespecial 11, 3) := by decide +kernel
theorem d_F_init_12 : decode prog_6_method_1_code 12 = .ok (.putfield 12, 3) := by decide +kernel
theorem d_F_init_15 : decode prog_6_method_1_code 15 = .ok (.aload_n 0, 1) := by decide +kernel
theorem d_F_init_16 : decode prog_6_method_1_code 16 = .ok (.iconst 0, 1) := by decide +kernel
theorem d_F_init_17 : decode prog_6_method_1_code 17 = .ok (.putfield 18, 3) := by decide +kernel
theorem d_F_init_20 : decode prog_6_method_1_code 20 = .ok (.aload_n 0, 1) := by decide +kernel
theorem d_F_init_21 : decode prog_6_method_1_code 21 = .ok (.iconst 0, 1) := by decide +kernel
theorem d_F_init_22 : decode prog_6_method_1_code 22 = .ok (.putfield 22, 3) := by decide +kernel
theorem d_F_init_25 : decode prog_6_method_1_code 25 = .ok (.aload_n 0, 1) := by decide +kernel
theorem d_F_init_26 : decode prog_6_method_1_code 26 = .ok (.iload_n 1, 1) := by decide +kernel
theorem d_F_init_27 : decode prog_6_method_1_code 27 = .ok (.newarray .int, 2) := by decide +kernel
theorem d_F_init_29 : decode prog_6_method_1_code 29 = .ok (.putfield 25, 3) := by decide +kernel
theorem d_F_init_32 : decode prog_6_method_1_code 32 = .ok (.return_, 1) := by decide +kernel
theorem d_F_isLeasedAt_0 : decode prog_6_method_2_code 0 = .ok (.iconst 0, 1) := by decide +kernel
theorem d_F_isLeasedAt_1 : decode prog_6_method_2_code 1 = .ok (.istore_n 2, 1) := by decide +kernel
theorem d_F_isLeasedAt_2 : decode prog_6_method_2_code 2 = .ok (.iload_n 2, 1) := by decide +kernel
theorem d_F_isLeasedAt_3 : decode prog_6_method_2_code 3 = .ok (.aload_n 0, 1) := by decide +kernel
theorem d_F_isLeasedAt_4 : decode prog_6_method_2_code 4 = .ok (.getfield 25, 3) := by decide +kernel
theorem d_F_isLeasedAt_7 : decode prog_6_method_2_code 7 = .ok (.arraylength, 1) := by decide +kernel
theorem d_F_isLeasedAt_8 : decode prog_6_method_2_code 8 = .ok (.if_icmp .ge 21, 3) := by decide +kernel
theorem d_F_isLeasedAt_11 : decode prog_6_method_2_code 11 = .ok (.aload_n 0, 1) := by decide +kernel
theorem d_F_isLeasedAt_12 : decode prog_6_method_2_code 12 = .ok (.getfield 25, 3) := by decide +kernel
theorem d_F_isLeasedAt_15 : decode prog_6_method_2_code 15 = .ok (.iload_n 2, 1) := by decide +kernel
theorem d_F_isLeasedAt_16 : decode prog_6_method_2_code 16 = .ok (.iaload, 1) := by decide +kernel
theorem d_F_isLeasedAt_17 : decode prog_6_method_2_code 17 = .ok (.iload_n 1, 1) := by decide +kernel
theorem d_F_isLeasedAt_18 : decode prog_6_method_2_code 18 = .ok (.if_icmp .le 5, 3) := by decide +kernel
theorem d_F_isLeasedAt_21 : decode prog_6_method_2_code 21 = .ok (.iconst 1, 1) := by decide +kernel
theorem d_F_isLeasedAt_22 : decode prog_6_method_2_code 22 = .ok (.ireturn, 1) := by decide +kernel
theorem d_F_isLeasedAt_23 : decode prog_6_method_2_code 23 = .ok (.iinc 2 1, 3) := by decide +kernel
theorem d_F_isLeasedAt_26 : decode prog_6_method_2_code 26 = .ok (.goto (-24), 3) := by decide +kernel
theorem d_F_isLeasedAt_29 : decode prog_6_method_2_code 29 = .ok (.iconst 0, 1) := by decide +kernel
theorem d_F_isLeasedAt_30 : decode prog_6_method_2_code 30 = .ok (.ireturn, 1) := by decide +kernel
theorem d_F_endLeases_0 : decode prog_6_method_3_code 0 = .ok (.iconst 0, 1) := by decide +kernel
theorem d_F_endLeases_1 : decode prog_6_method_3_code 1 = .ok (.istore_n 2, 1) := by decide +kernel
theorem d_F_endLeases_2 : decode prog_6_method_3_code 2 = .ok (.iload_n 2, 1) := by decide +kernel
theorem d_F_endLeases_3 : decode prog_6_method_3_code 3 = .ok (.aload_n 0, 1) := by decide +kernel
theorem d_F_endLeases_4 : decode prog_6_method_3_code 4 = .ok (.getfield 25, 3) := by decide +kernel
theorem d_F_endLeases_7 : decode prog_6_method_3_code 7 = .ok (.arraylength, 1) := by decide +kernel
theorem d_F_endLeases_8 : decode prog_6_method_3_code 8 = .ok (.if_icmp .ge 16, 3) := by decide +kernel
theorem d_F_endLeases_11 : decode prog_6_method_3_code 11 = .ok (.aload_n 0, 1) := by decide +kernel
theorem d_F_endLeases_12 : decode prog_6_method_3_code 12 = .ok (.getfield 25, 3) := by decide +kernel
theorem d_F_endLeases_15 : decode prog_6_method_3_code 15 = .ok (.iload_n 2, 1) := by decide +kernel
theorem d_F_endLeases_16 : decode prog_6_method_3_code 16 = .ok (.iload_n 1, 1) := by decide +kernel
theorem d_F_endLeases_17 : decode prog_6_method_3_code 17 = .ok (.iastore, 1) := by decide +kernel
theorem d_F_endLeases_18 : decode prog_6_method_3_code 18 = .ok (.iinc 2 1, 3) := by decide +kernel
theorem d_F_endLeases_21 : decode prog_6_method_3_code 21 = .ok (.goto (-19), 3) := by decide +kernel
theorem d_F_endLeases_24 : decode prog_6_method_3_code 24 = .ok (.return_, 1) := by decide +kernel
theorem d_F_isFirst_0 : decode prog_6_method_4_code 0 = .ok (.aload_n 0, 1) := by decide +kernel
theorem d_F_isFirst_1 : decode prog_6_method_4_code 1 = .ok (.getfield 12, 3) := by decide +kernel
theorem d_F_isFirst_4 : decode prog_6_method_4_code 4 = .ok (.invokevirtual 29, 3) := by decide +kernel
theorem d_F_isFirst_7 : decode prog_6_method_4_code 7 = .ok (.ifCond .ne 26, 3) := by decide +kernel
theorem d_F_isFirst_10 : decode prog_6_method_4_code 10 = .ok (.aload_n 0, 1) := by decide +kernel
theorem d_F_isFirst_11 : decode prog_6_method_4_code 11 = .ok (.getfield 12, 3) := by decide +kernel
theorem d_F_isFirst_14 : decode prog_6_method_4_code 14 = .ok (.iconst 0, 1) := by decide +kernel
theorem d_F_isFirst_15 : decode prog_6_method_4_code 15 = .ok (.invokevirtual 33, 3) := by decide +kernel
theorem d_F_isFirst_18 : decode prog_6_method_4_code 18 = .ok (.checkcast 37, 3) := by decide +kernel
theorem d_F_isFirst_21 : decode prog_6_method_4_code 21 = .ok (.iload_n 1, 1) := by decide +kernel
theorem d_F_isFirst_22 : decode prog_6_method_4_code 22 = .ok (.iload_n 2, 1) := by decide +kernel
theorem d_F_isFirst_23 : decode prog_6_method_4_code 23 = .ok (.invokevirtual 39, 3) := by decide +kernel
theorem d_F_isFirst_26 : decode prog_6_method_4_code 26 = .ok (.ifCond .eq 7, 3) := by decide +kernel
theorem d_F_isFirst_29 : decode prog_6_method_4_code 29 = .ok (.iconst 1, 1) := by decide +kernel
theorem d_F_isFirst_30 : decode prog_6_method_4_code 30 = .ok (.goto 4, 3) := by decide +kernel
theorem d_F_isFirst_33 : decode prog_6_method_4_code 33 = .ok (.iconst 0, 1) := by decide +kernel
theorem d_F_isFirst_34 : decode prog_6_method_4_code 34 = .ok (.ireturn, 1) := by decide +kernel
theorem d_F_isWaiting_0 : decode prog_6_method_5_code 0 = .ok (.iconst 0, 1) := by decide +kernel
theorem d_F_isWaiting_1 : decode prog_6_method_5_code 1 = .ok (.istore_n 3, 1) := by decide +kernel
theorem d_F_isWaiting_2 : decode prog_6_method_5_code 2 = .ok (.iload_n 3, 1) := by decide +kernel
theorem d_F_isWaiting_3 : decode prog_6_method_5_code 3 = .ok (.aload_n 0, 1) := by decide +kernel
theorem d_F_isWaiting_4 : decode prog_6_method_5_code 4 = .ok (.getfield 12, 3) := by decide +kernel
theorem d_F_isWaiting_7 : decode prog_6_method_5_code 7 = .ok (.invokevirtual 43, 3) := by decide +kernel
theorem d_F_isWaiting_10 : decode prog_6_method_5_code 10 = .ok (.if_icmp .ge 30, 3) := by decide +kernel
theorem d_F_isWaiting_13 : decode prog_6_method_5_code 13 = .ok (.aload_n 0, 1) := by decide +kernel
theorem d_F_isWaiting_14 : decode prog_6_method_5_code 14 = .ok (.getfield 12, 3) := by decide +kernel
theorem d_F_isWaiting_17 : decode prog_6_method_5_code 17 = .ok (.iload_n 3, 1) := by decide +kernel
theorem d_F_isWaiting_18 : decode prog_6_method_5_code 18 = .ok (.invokevirtual 33, 3) := by decide +kernel
theorem d_F_isWaiting_21 : decode prog_6_method_5_code 21 = .ok (.checkcast 37, 3) := by decide +kernel
theorem d_F_isWaiting_24 : decode prog_6_method_5_code 24 = .ok (.iload_n 1, 1) := by decide +kernel
theorem d_F_isWaiting_25 : decode prog_6_method_5_code 25 = .ok (.iload_n 2, 1) := by decide +kernel
theorem d_F_isWaiting_26 : decode prog_6_method_5_code 26 = .ok (.invokevirtual 39, 3) := by decide +kernel
theorem d_F_isWaiting_29 : decode prog_6_method_5_code 29 = .ok (.ifCond .eq 5, 3) := by decide +kernel
theorem d_F_isWaiting_32 : decode prog_6_method_5_code 32 = .ok (.iconst 1, 1) := by decide +kernel
theorem d_F_isWaiting_33 : decode prog_6_method_5_code 33 = .ok (.ireturn, 1) := by decide +kernel
theorem d_F_isWaiting_34 : decode prog_6_method_5_code 34 = .ok (.iinc 3 1, 3) := by decide +kernel
theorem d_F_isWaiting_37 : decode prog_6_method_5_code 37 = .ok (.goto (-35), 3) := by decide +kernel
theorem d_F_isWaiting_40 : decode prog_6_method_5_code 40 = .ok (.iconst 0, 1) := by decide +kernel
theorem d_F_isWaiting_41 : decode prog_6_method_5_code 41 = .ok (.ireturn, 1) := by decide +kernel
theorem d_F_addLast_0 : decode prog_6_method_6_code 0 = .ok (.aload_n 0, 1) := by decide +kernel
theorem d_F_addLast_1 : decode prog_6_method_6_code 1 = .ok (.getfield 12, 3) := by decide +kernel
theorem d_F_addLast_4 : decode prog_6_method_6_code 4 = .ok (.invokevirtual 43, 3) := by decide +kernel
theorem d_F_addLast_7 : decode prog_6_method_6_code 7 = .ok (.sipush 256, 3) := by decide +kernel
theorem d_F_addLast_10 : decode prog_6_method_6_code 10 = .ok (.if_icmp .ge 21, 3) := by decide +kernel
theorem d_F_addLast_13 : decode prog_6_method_6_code 13 = .ok (.aload_n 0, 1) := by decide +kernel
theorem d_F_addLast_14 : decode prog_6_method_6_code 14 = .ok (.getfield 12, 3) := by decide +kernel
theorem d_F_addLast_17 : decode prog_6_method_6_code 17 = .ok (.new 37, 3) := by decide +kernel
theorem d_F_addLast_20 : decode prog_6_method_6_code 20 = .ok (.dup, 1) := by decide +kernel
theorem d_F_addLast_21 : decode prog_6_method_6_code 21 = .ok (.iload_n 1, 1) := by decide +kernel
theorem d_F_addLast_22 : decode prog_6_method_6_code 22 = .ok (.iload_n 2, 1) := by decide +kernel
theorem d_F_addLast_23 : decode prog_6_method_6_code 23 = .ok (.iload_n 3, 1) := by decide +kernel
theorem d_F_addLast_24 : decode prog_6_method_6_code 24 = .ok (.invokespecial 47, 3) := by decide +kernel
theorem d_F_addLast_27 : decode prog_6_method_6_code 27 = .ok (.invokevirtual 50, 3) := by decide +kernel
theorem d_F_addLast_30 : decode prog_6_method_6_code 30 = .ok (.pop, 1) := by decide +kernel
theorem d_F_addLast_31 : decode prog_6_method_6_code 31 = .ok (.return_, 1) := by decide +kernel
theorem d_F_part_0 : decode prog_6_method_7_code 0 = .ok (.iload_n 1, 1) := by decide +kernel
theorem d_F_part_1 : decode prog_6_method_7_code 1 = .ok (.tableswitch 78 0 3 #[31, 36, 41, 49], 31) := by decide +kernel
theorem d_F_part_32 : decode prog_6_method_7_code 32 = .ok (.aload_n 0, 1) := by decide +kernel
theorem d_F_part_33 : decode prog_6_method_7_code 33 = .ok (.getfield 18, 3) := by decide +kernel
theorem d_F_part_36 : decode prog_6_method_7_code 36 = .ok (.ireturn, 1) := by decide +kernel
theorem d_F_part_37 : decode prog_6_method_7_code 37 = .ok (.aload_n 0, 1) := by decide +kernel
theorem d_F_part_38 : decode prog_6_method_7_code 38 = .ok (.getfield 22, 3) := by decide +kernel
theorem d_F_part_41 : decode prog_6_method_7_code 41 = .ok (.ireturn, 1) := by decide +kernel
theorem d_F_part_42 : decode prog_6_method_7_code 42 = .ok (.aload_n 0, 1) := by decide +kernel
theorem d_F_part_43 : decode prog_6_method_7_code 43 = .ok (.getfield 12, 3) := by decide +kernel
theorem d_F_part_46 : decode prog_6_method_7_code 46 = .ok (.invokevirtual 43, 3) := by decide +kernel
theorem d_F_part_49 : decode prog_6_method_7_code 49 = .ok (.ireturn, 1) := by decide +kernel
theorem d_F_part_50 : decode prog_6_method_7_code 50 = .ok (.aload_n 0, 1) := by decide +kernel
theorem d_F_part_51 : decode prog_6_method_7_code 51 = .ok (.getfield 12, 3) := by decide +kernel
theorem d_F_part_54 : decode prog_6_method_7_code 54 = .ok (.invokevirtual 29, 3) := by decide +kernel
theorem d_F_part_57 : decode prog_6_method_7_code 57 = .ok (.ifCond .eq 7, 3) := by decide +kernel
theorem d_F_part_60 : decode prog_6_method_7_code 60 = .ok (.iconst (-1), 1) := by decide +kernel
theorem d_F_part_61 : decode prog_6_method_7_code 61 = .ok (.goto 17, 3) := by decide +kernel
theorem d_F_part_64 : decode prog_6_method_7_code 64 = .ok (.aload_n 0, 1) := by decide +kernel
theorem d_F_part_65 : decode prog_6_method_7_code 65 = .ok (.getfield 12, 3) := by decide +kernel
theorem d_F_part_68 : decode prog_6_method_7_code 68 = .ok (.iconst 0, 1) := by decide +kernel
theorem d_F_part_69 : decode prog_6_method_7_code 69 = .ok (.invokevirtual 33, 3) := by decide +kernel
theorem d_F_part_72 : decode prog_6_method_7_code 72 = .ok (.checkcast 37, 3) := by decide +kernel
theorem d_F_part_75 : decode prog_6_method_7_code 75 = .ok (.getfield 54, 3) := by decide +kernel
theorem d_F_part_78 : decode prog_6_method_7_code 78 = .ok (.ireturn, 1) := by decide +kernel
theorem d_F_part_79 : decode prog_6_method_7_code 79 = .ok (.iconst (-1), 1) := by decide +kernel
theorem d_F_part_80 : decode prog_6_method_7_code 80 = .ok (.ireturn, 1) := by decide +kernel
theorem d_S_init_0 : decode prog_7_method_1_code 0 = .ok (.aload_n 0, 1) := by decide +kernel
theorem d_S_init_1 : decode prog_7_method_1_code 1 = .ok (.invokespecial 3, 3) := by decide +kernel
theorem d_S_init_4 : decode prog_7_method_1_code 4 = .ok (.aload_n 0, 1) := by decide +kernel
theorem d_S_init_5 : decode prog_7_method_1_code 5 = .ok (.iconst 0, 1) := by decide +kernel
theorem d_S_init_6 : decode prog_7_method_1_code 6 = .ok (.putfield 9, 3) := by decide +kernel
theorem d_S_init_9 : decode prog_7_method_1_code 9 = .ok (.aload_n 0, 1) := by decide +kernel
theorem d_S_init_10 : decode prog_7_method_1_code 10 = .ok (.iconst 1, 1) := by decide +kernel
theorem d_S_init_11 : decode prog_7_method_1_code 11 = .ok (.putfield 15, 3) := by decide +kernel
theorem d_S_init_14 : decode prog_7_method_1_code 14 = .ok (.aload_n 0, 1) := by decide +kernel
theorem d_S_init_15 : decode prog_7_method_1_code 15 = .ok (.iconst 0, 1) := by decide +kernel
theorem d_S_init_16 : decode prog_7_method_1_code 16 = .ok (.putfield 19, 3) := by decide +kernel
theorem d_S_init_19 : decode prog_7_method_1_code 19 = .ok (.aload_n 0, 1) := by decide +kernel
theorem d_S_init_20 : decode prog_7_method_1_code 20 = .ok (.iconst 0, 1) := by decide +kernel
theorem d_S_init_21 : decode prog_7_method_1_code 21 = .ok (.putfield 22, 3) := by decide +kernel
theorem d_S_init_24 : decode prog_7_method_1_code 24 = .ok (.aload_n 0, 1) := by decide +kernel
theorem d_S_init_25 : decode prog_7_method_1_code 25 = .ok (.iload_n 3, 1) := by decide +kernel
theorem d_S_init_26 : decode prog_7_method_1_code 26 = .ok (.putfield 25, 3) := by decide +kernel
theorem d_S_init_29 : decode prog_7_method_1_code 29 = .ok (.aload_n 0, 1) := by decide +kernel
theorem d_S_init_30 : decode prog_7_method_1_code 30 = .ok (.iload_n 1, 1) := by decide +kernel
theorem d_S_init_31 : decode prog_7_method_1_code 31 = .ok (.newarray .int, 2) := by decide +kernel
theorem d_S_init_33 : decode prog_7_method_1_code 33 = .ok (.putfield 28, 3) := by decide +kernel
theorem d_S_init_36 : decode prog_7_method_1_code 36 = .ok (.aload_n 0, 1) := by decide +kernel
theorem d_S_init_37 : decode prog_7_method_1_code 37 = .ok (.iload_n 1, 1) := by decide +kernel
theorem d_S_init_38 : decode prog_7_method_1_code 38 = .ok (.newarray .int, 2) := by decide +kernel
theorem d_S_init_40 : decode prog_7_method_1_code 40 = .ok (.putfield 32, 3) := by decide +kernel
theorem d_S_init_43 : decode prog_7_method_1_code 43 = .ok (.aload_n 0, 1) := by decide +kernel
theorem d_S_init_44 : decode prog_7_method_1_code 44 = .ok (.iload_n 2, 1) := by decide +kernel
theorem d_S_init_45 : decode prog_7_method_1_code 45 = .ok (.anewarray 35, 3) := by decide +kernel
theorem d_S_init_48 : decode prog_7_method_1_code 48 = .ok (.putfield 37, 3) := by decide +kernel
theorem d_S_init_51 : decode prog_7_method_1_code 51 = .ok (.iconst 0, 1) := by decide +kernel
theorem d_S_init_52 : decode prog_7_method_1_code 52 = .ok (.istore 4, 2) := by decide +kernel
theorem d_S_init_54 : decode prog_7_method_1_code 54 = .ok (.iload 4, 2) := by decide +kernel
theorem d_S_init_56 : decode prog_7_method_1_code 56 = .ok (.iload_n 2, 1) := by decide +kernel
theorem d_S_init_57 : decode prog_7_method_1_code 57 = .ok (.if_icmp .ge 24, 3) := by decide +kernel
theorem d_S_init_60 : decode prog_7_method_1_code 60 = .ok (.aload_n 0, 1) := by decide +kernel
theorem d_S_init_61 : decode prog_7_method_1_code 61 = .ok (.getfield 37, 3) := by decide +kernel
theorem d_S_init_64 : decode prog_7_method_1_code 64 = .ok (.iload 4, 2) := by decide +kernel
theorem d_S_init_66 : decode prog_7_method_1_code 66 = .ok (.new 35, 3) := by decide +kernel
theorem d_S_init_69 : decode prog_7_method_1_code 69 = .ok (.dup, 1) := by decide +kernel
theorem d_S_init_70 : decode prog_7_method_1_code 70 = .ok (.iload_n 1, 1) := by decide +kernel
theorem d_S_init_71 : decode prog_7_method_1_code 71 = .ok (.invokespecial 41, 3) := by decide +kernel
theorem d_S_init_74 : decode prog_7_method_1_code 74 = .ok (.aastore, 1) := by decide +kernel
theorem d_S_init_75 : decode prog_7_method_1_code 75 = .ok (.iinc 4 1, 3) := by decide +kernel
theorem d_S_init_78 : decode prog_7_method_1_code 78 = .ok (.goto (-24), 3) := by decide +kernel
theorem d_S_init_81 : decode prog_7_method_1_code 81 = .ok (.return_, 1) := by decide +kernel
theorem d_S_receive_0 : decode prog_7_method_2_code 0 = .ok (.aload_n 0, 1) := by decide +kernel
theorem d_S_receive_1 : decode prog_7_method_2_code 1 = .ok (.getfield 15, 3) := by decide +kernel
theorem d_S_receive_4 : decode prog_7_method_2_code 4 = .ok (.ifCond .ne 5, 3) := by decide +kernel
theorem d_S_receive_7 : decode prog_7_method_2_code 7 = .ok (.iconst 0, 1) := by decide +kernel
theorem d_S_receive_8 : decode prog_7_method_2_code 8 = .ok (.ireturn, 1) := by decide +kernel
theorem d_S_receive_9 : decode prog_7_method_2_code 9 = .ok (.aload_n 1, 1) := by decide +kernel
theorem d_S_receive_10 : decode prog_7_method_2_code 10 = .ok (.getfield 44, 3) := by decide +kernel
theorem d_S_receive_13 : decode prog_7_method_2_code 13 = .ok (.lookupswitch 61 #[(0, 35), (1, 44), (5, 53)], 35) := by decide +kernel
theorem d_S_receive_48 : decode prog_7_method_2_code 48 = .ok (.aload_n 0, 1) := by decide +kernel
theorem d_S_receive_49 : decode prog_7_method_2_code 49 = .ok (.aload_n 1, 1) := by decide +kernel
theorem d_S_receive_50 : decode prog_7_method_2_code 50 = .ok (.aload_n 2, 1) := by decide +kernel
theorem d_S_receive_51 : decode prog_7_method_2_code 51 = .ok (.invokevirtual 49, 3) := by decide +kernel
theorem d_S_receive_54 : decode prog_7_method_2_code 54 = .ok (.goto 20, 3) := by decide +kernel
theorem d_S_receive_57 : decode prog_7_method_2_code 57 = .ok (.aload_n 0, 1) := by decide +kernel
theorem d_S_receive_58 : decode prog_7_method_2_code 58 = .ok (.aload_n 1, 1) := by decide +kernel
theorem d_S_receive_59 : decode prog_7_method_2_code 59 = .ok (.aload_n 2, 1) := by decide +kernel
theorem d_S_receive_60 : decode prog_7_method_2_code 60 = .ok (.invokevirtual 53, 3) := by decide +kernel
theorem d_S_receive_63 : decode prog_7_method_2_code 63 = .ok (.goto 11, 3) := by decide +kernel
theorem d_S_receive_66 : decode prog_7_method_2_code 66 = .ok (.aload_n 0, 1) := by decide +kernel
theorem d_S_receive_67 : decode prog_7_method_2_code 67 = .ok (.aload_n 1, 1) := by decide +kernel
theorem d_S_receive_68 : decode prog_7_method_2_code 68 = .ok (.invokevirtual 56, 3) := by decide +kernel
theorem d_S_receive_71 : decode prog_7_method_2_code 71 = .ok (.goto 3, 3) := by decide +kernel
theorem d_S_receive_74 : decode prog_7_method_2_code 74 = .ok (.aload_n 0, 1) := by decide +kernel
theorem d_S_receive_75 : decode prog_7_method_2_code 75 = .ok (.aload_n 2, 1) := by decide +kernel
theorem d_S_receive_76 : decode prog_7_method_2_code 76 = .ok (.invokevirtual 60, 3) := by decide +kernel
theorem d_S_receive_79 : decode prog_7_method_2_code 79 = .ok (.pop, 1) := by decide +kernel
theorem d_S_receive_80 : decode prog_7_method_2_code 80 = .ok (.iconst 1, 1) := by decide +kernel
theorem d_S_receive_81 : decode prog_7_method_2_code 81 = .ok (.ireturn, 1) := by decide +kernel
theorem d_S_letTimeGoBy_0 : decode prog_7_method_3_code 0 = .ok (.aload_n 0, 1) := by decide +kernel
theorem d_S_letTimeGoBy_1 : decode prog_7_method_3_code 1 = .ok (.dup, 1) := by decide +kernel
theorem d_S_letTimeGoBy_2 : decode prog_7_method_3_code 2 = .ok (.getfield 9, 3) := by decide +kernel
theorem d_S_letTimeGoBy_5 : decode prog_7_method_3_code 5 = .ok (.iload_n 1, 1) := by decide +kernel
theorem d_S_letTimeGoBy_6 : decode prog_7_method_3_code 6 = .ok (.iadd, 1) := by decide +kernel
theorem d_S_letTimeGoBy_7 : decode prog_7_method_3_code 7 = .ok (.putfield 9, 3) := by decide +kernel
theorem d_S_letTimeGoBy_10 : decode prog_7_method_3_code 10 = .ok (.aload_n 0, 1) := by decide +kernel
theorem d_S_letTimeGoBy_11 : decode prog_7_method_3_code 11 = .ok (.aload_n 2, 1) := by decide +kernel
theorem d_S_letTimeGoBy_12 : decode prog_7_method_3_code 12 = .ok (.invokevirtual 60, 3) := by decide +kernel
theorem d_S_letTimeGoBy_15 : decode prog_7_method_3_code 15 = .ok (.ireturn, 1) := by decide +kernel
theorem d_S_goDown_0 : decode prog_7_method_4_code 0 = .ok (.iconst 0, 1) := by decide +kernel
theorem d_S_goDown_1 : decode prog_7_method_4_code 1 = .ok (.istore_n 1, 1) := by decide +kernel
theorem d_S_goDown_2 : decode prog_7_method_4_code 2 = .ok (.iconst 0, 1) := by decide +kernel
theorem d_S_goDown_3 : decode prog_7_method_4_code 3 = .ok (.istore_n 2, 1) := by decide +kernel
theorem d_S_goDown_4 : decode prog_7_method_4_code 4 = .ok (.iload_n 2, 1) := by decide +kernel
theorem d_S_goDown_5 : decode prog_7_method_4_code 5 = .ok (.aload_n 0, 1) := by decide +kernel
theorem d_S_goDown_6 : decode prog_7_method_4_code 6 = .ok (.getfield 37, 3) := by decide +kernel
theorem d_S_goDown_9 : decode prog_7_method_4_code 9 = .ok (.arraylength, 1) := by decide +kernel
theorem d_S_goDown_10 : decode prog_7_method_4_code 10 = .ok (.if_icmp .ge 49, 3) := by decide +kernel
theorem d_S_goDown_13 : decode prog_7_method_4_code 13 = .ok (.iload_n 1, 1) := by decide +kernel
theorem d_S_goDown_14 : decode prog_7_method_4_code 14 = .ok (.aload_n 0, 1) := by decide +kernel
theorem d_S_goDown_15 : decode prog_7_method_4_code 15 = .ok (.getfield 37, 3) := by decide +kernel
theorem d_S_goDown_18 : decode prog_7_method_4_code 18 = .ok (.iload_n 2, 1) := by decide +kernel
theorem d_S_goDown_19 : decode prog_7_method_4_code 19 = .ok (.aaload, 1) := by decide +kernel
theorem d_S_goDown_20 : decode prog_7_method_4_code 20 = .ok (.getfield 64, 3) := by decide +kernel
theorem d_S_goDown_23 : decode prog_7_method_4_code 23 = .ok (.invokevirtual 68, 3) := by decide +kernel
theorem d_S_goDown_26 : decode prog_7_method_4_code 26 = .ok (.iadd, 1) := by decide +kernel
theorem d_S_goDown_27 : decode prog_7_method_4_code 27 = .ok (.istore_n 1, 1) := by decide +kernel
theorem d_S_goDown_28 : decode prog_7_method_4_code 28 = .ok (.aload_n 0, 1) := by decide +kernel
theorem d_S_goDown_29 : decode prog_7_method_4_code 29 = .ok (.getfield 37, 3) := by decide +kernel
theorem d_S_goDown_32 : decode prog_7_method_4_code 32 = .ok (.iload_n 2, 1) := by decide +kernel
theorem d_S_goDown_33 : decode prog_7_method_4_code 33 = .ok (.aaload, 1) := by decide +kernel
theorem d_S_goDown_34 : decode prog_7_method_4_code 34 = .ok (.getfield 64, 3) := by decide +kernel
theorem d_S_goDown_37 : decode prog_7_method_4_code 37 = .ok (.invokevirtual 74, 3) := by decide +kernel
theorem d_S_goDown_40 : decode prog_7_method_4_code 40 = .ok (.aload_n 0, 1) := by decide +kernel
theorem d_S_goDown_41 : decode prog_7_method_4_code 41 = .ok (.getfield 37, 3) := by decide +kernel
theorem d_S_goDown_44 : decode prog_7_method_4_code 44 = .ok (.iload_n 2, 1) := by decide +kernel
theorem d_S_goDown_45 : decode prog_7_method_4_code 45 = .ok (.aaload, 1) := by decide +kernel
theorem d_S_goDown_46 : decode prog_7_method_4_code 46 = .ok (.aload_n 0, 1) := by decide +kernel
theorem d_S_goDown_47 : decode prog_7_method_4_code 47 = .ok (.getfield 9, 3) := by decide +kernel
theorem d_S_goDown_50 : decode prog_7_method_4_code 50 = .ok (.invokevirtual 77, 3) := by decide +kernel
theorem d_S_goDown_53 : decode prog_7_method_4_code 53 = .ok (.iinc 2 1, 3) := by decide +kernel
theorem d_S_goDown_56 : decode prog_7_method_4_code 56 = .ok (.goto (-52), 3) := by decide +kernel
theorem d_S_goDown_59 : decode prog_7_method_4_code 59 = .ok (.aload_n 0, 1) := by decide +kernel
theorem d_S_goDown_60 : decode prog_7_method_4_code 60 = .ok (.iconst 0, 1) := by decide +kernel
theorem d_S_goDown_61 : decode prog_7_method_4_code 61 = .ok (.putfield 15, 3) := by decide +kernel
theorem d_S_goDown_64 : decode prog_7_method_4_code 64 = .ok (.iload_n 1, 1) := by decide +kernel
theorem d_S_goDown_65 : decode prog_7_method_4_code 65 = .ok (.ireturn, 1) := by decide +kernel
theorem d_S_comeUp_0 : decode prog_7_method_5_code 0 = .ok (.aload_n 0, 1) := by decide +kernel
theorem d_S_comeUp_1 : decode prog_7_method_5_code 1 = .ok (.iconst 1, 1) := by decide +kernel
theorem d_S_comeUp_2 : decode prog_7_method_5_code 2 = .ok (.putfield 15, 3) := by decide +kernel
theorem d_S_comeUp_5 : decode prog_7_method_5_code 5 = .ok (.aload_n 0, 1) := by decide +kernel
theorem d_S_comeUp_6 : decode prog_7_method_5_code 6 = .ok (.dup, 1) := by decide +kernel
theorem d_S_comeUp_7 : decode prog_7_method_5_code 7 = .ok (.getfield 19, 3) := by decide +kernel
theorem d_S_comeUp_10 : decode prog_7_method_5_code 10 = .ok (.iconst 1, 1) := by decide +kernel
theorem d_S_comeUp_11 : decode prog_7_method_5_code 11 = .ok (.iadd, 1) := by decide +kernel
theorem d_S_comeUp_12 : decode prog_7_method_5_code 12 = .ok (.putfield 19, 3) := by decide +kernel
theorem d_S_comeUp_15 : decode prog_7_method_5_code 15 = .ok (.aload_n 0, 1) := by decide +kernel
theorem d_S_comeUp_16 : decode prog_7_method_5_code 16 = .ok (.aload_n 0, 1) := by decide +kernel
theorem d_S_comeUp_17 : decode prog_7_method_5_code 17 = .ok (.getfield 9, 3) := by decide +kernel
theorem d_S_comeUp_20 : decode prog_7_method_5_code 20 = .ok (.aload_n 0, 1) := by decide +kernel
theorem d_S_comeUp_21 : decode prog_7_method_5_code 21 = .ok (.getfield 25, 3) := by decide +kernel
theorem d_S_comeUp_24 : decode prog_7_method_5_code 24 = .ok (.iadd, 1) := by decide +kernel
theorem d_S_comeUp_25 : decode prog_7_method_5_code 25 = .ok (.putfield 22, 3) := by decide +kernel
theorem d_S_comeUp_28 : decode prog_7_method_5_code 28 = .ok (.aload_n 0, 1) := by decide +kernel
theorem d_S_comeUp_29 : decode prog_7_method_5_code 29 = .ok (.getfield 19, 3) := by decide +kernel
theorem d_S_comeUp_32 : decode prog_7_method_5_code 32 = .ok (.ireturn, 1) := by decide +kernel
theorem d_S_part_0 : decode prog_7_method_6_code 0 = .ok (.iload_n 1, 1) := by decide +kernel
theorem d_S_part_1 : decode prog_7_method_6_code 1 = .ok (.tableswitch 66 0 3 #[31, 36, 49, 54], 31) := by decide +kernel
theorem d_S_part_32 : decode prog_7_method_6_code 32 = .ok (.aload_n 0, 1) := by decide +kernel
theorem d_S_part_33 : decode prog_7_method_6_code 33 = .ok (.getfield 9, 3) := by decide +kernel
theorem d_S_part_36 : decode prog_7_method_6_code 36 = .ok (.ireturn, 1) := by decide +kernel
theorem d_S_part_37 : decode prog_7_method_6_code 37 = .ok (.aload_n 0, 1) := by decide +kernel
theorem d_S_part_38 : decode prog_7_method_6_code 38 = .ok (.getfield 15, 3) := by decide +kernel
theorem d_S_part_41 : decode prog_7_method_6_code 41 = .ok (.ifCond .eq 7, 3) := by decide +kernel
theorem d_S_part_44 : decode prog_7_method_6_code 44 = .ok (.iconst 1, 1) := by decide +kernel
theorem d_S_part_45 : decode prog_7_method_6_code 45 = .ok (.goto 4, 3) := by decide +kernel
theorem d_S_part_48 : decode prog_7_method_6_code 48 = .ok (.iconst 0, 1) := by decide +kernel
theorem d_S_part_49 : decode prog_7_method_6_code 49 = .ok (.ireturn, 1) := by decide +kernel
theorem d_S_part_50 : decode prog_7_method_6_code 50 = .ok (.aload_n 0, 1) := by decide +kernel
theorem d_S_part_51 : decode prog_7_method_6_code 51 = .ok (.getfield 19, 3) := by decide +kernel
theorem d_S_part_54 : decode prog_7_method_6_code 54 = .ok (.ireturn, 1) := by decide +kernel
theorem d_S_part_55 : decode prog_7_method_6_code 55 = .ok (.aload_n 0, 1) := by decide +kernel
theorem d_S_part_56 : decode prog_7_method_6_code 56 = .ok (.getfield 22, 3) := by decide +kernel
theorem d_S_part_59 : decode prog_7_method_6_code 59 = .ok (.aload_n 0, 1) := by decide +kernel
theorem d_S_part_60 : decode prog_7_method_6_code 60 = .ok (.getfield 9, 3) := by decide +kernel
theorem d_S_part_63 : decode prog_7_method_6_code 63 = .ok (.invokestatic 80, 3) := by decide +kernel
theorem d_S_part_66 : decode prog_7_method_6_code 66 = .ok (.ireturn, 1) := by decide +kernel
theorem d_S_part_67 : decode prog_7_method_6_code 67 = .ok (.iconst (-1), 1) := by decide +kernel
theorem d_S_part_68 : decode prog_7_method_6_code 68 = .ok (.ireturn, 1) := by decide +kernel
theorem d_S_receiveAsk_0 : decode prog_7_method_7_code 0 = .ok (.aload_n 0, 1) := by decide +kernel
theorem d_S_receiveAsk_1 : decode prog_7_method_7_code 1 = .ok (.getfield 37, 3) := by decide +kernel
theorem d_S_receiveAsk_4 : decode prog_7_method_7_code 4 = .ok (.aload_n 1, 1) := by decide +kernel
theorem d_S_receiveAsk_5 : decode prog_7_method_7_code 5 = .ok (.getfield 84, 3) := by decide +kernel
theorem d_S_receiveAsk_8 : decode prog_7_method_7_code 8 = .ok (.aaload, 1) := by decide +kernel
theorem d_S_receiveAsk_9 : decode prog_7_method_7_code 9 = .ok (.astore_n 3, 1) := by decide +kernel
theorem d_S_receiveAsk_10 : decode prog_7_method_7_code 10 = .ok (.aload_n 3, 1) := by decide +kernel
theorem d_S_receiveAsk_11 : decode prog_7_method_7_code 11 = .ok (.getfield 64, 3) := by decide +kernel
theorem d_S_receiveAsk_14 : decode prog_7_method_7_code 14 = .ok (.invokevirtual 87, 3) := by decide +kernel
theorem d_S_receiveAsk_17 : decode prog_7_method_7_code 17 = .ok (.istore 4, 2) := by decide +kernel
theorem d_S_receiveAsk_19 : decode prog_7_method_7_code 19 = .ok (.iload 4, 2) := by decide +kernel
theorem d_S_receiveAsk_21 : decode prog_7_method_7_code 21 = .ok (.ifCond .eq 21, 3) := by decide +kernel
theorem d_S_receiveAsk_24 : decode prog_7_method_7_code 24 = .ok (.aload_n 3, 1) := by decide +kernel
theorem d_S_receiveAsk_25 : decode prog_7_method_7_code 25 = .ok (.getfield 91, 3) := by decide +kernel
theorem d_S_receiveAsk_28 : decode prog_7_method_7_code 28 = .ok (.aload_n 1, 1) := by decide +kernel
theorem d_S_receiveAsk_29 : decode prog_7_method_7_code 29 = .ok (.getfield 94, 3) := by decide +kernel
theorem d_S_receiveAsk_32 : decode prog_7_method_7_code 32 = .ok (.aload_n 0, 1) := by decide +kernel
theorem d_S_receiveAsk_33 : decode prog_7_method_7_code 33 = .ok (.getfield 9, 3) := by decide +kernel
theorem d_S_receiveAsk_36 : decode prog_7_method_7_code 36 = .ok (.aload_n 0, 1) := by decide +kernel
theorem d_S_receiveAsk_37 : decode prog_7_method_7_code 37 = .ok (.getfield 25, 3) := by decide +kernel
theorem d_S_receiveAsk_40 : decode prog_7_method_7_code 40 = .ok (.iadd, 1) := by decide +kernel
theorem d_S_receiveAsk_41 : decode prog_7_method_7_code 41 = .ok (.iastore, 1) := by decide +kernel
theorem d_S_receiveAsk_42 : decode prog_7_method_7_code 42 = .ok (.aload_n 2, 1) := by decide +kernel
theorem d_S_receiveAsk_43 : decode prog_7_method_7_code 43 = .ok (.iconst 2, 1) := by decide +kernel
theorem d_S_receiveAsk_44 : decode prog_7_method_7_code 44 = .ok (.aload_n 1, 1) := by decide +kernel
theorem d_S_receiveAsk_45 : decode prog_7_method_7_code 45 = .ok (.getfield 94, 3) := by decide +kernel
theorem d_S_receiveAsk_48 : decode prog_7_method_7_code 48 = .ok (.aload_n 1, 1) := by decide +kernel
theorem d_S_receiveAsk_49 : decode prog_7_method_7_code 49 = .ok (.getfield 84, 3) := by decide +kernel
theorem d_S_receiveAsk_52 : decode prog_7_method_7_code 52 = .ok (.aload_n 1, 1) := by decide +kernel
theorem d_S_receiveAsk_53 : decode prog_7_method_7_code 53 = .ok (.getfield 97, 3) := by decide +kernel
theorem d_S_receiveAsk_56 : decode prog_7_method_7_code 56 = .ok (.aload_n 3, 1) := by decide +kernel
theorem d_S_receiveAsk_57 : decode prog_7_method_7_code 57 = .ok (.getfield 100, 3) := by decide +kernel
theorem d_S_receiveAsk_60 : decode prog_7_method_7_code 60 = .ok (.aload_n 3, 1) := by decide +kernel
theorem d_S_receiveAsk_61 : decode prog_7_method_7_code 61 = .ok (.getfield 103, 3) := by decide +kernel
theorem d_S_receiveAsk_64 : decode prog_7_method_7_code 64 = .ok (.iload 4, 2) := by decide +kernel
theorem d_S_receiveAsk_66 : decode prog_7_method_7_code 66 = .ok (.ifCond .eq 7, 3) := by decide +kernel
theorem d_S_receiveAsk_69 : decode prog_7_method_7_code 69 = .ok (.iconst 1, 1) := by decide +kernel
theorem d_S_receiveAsk_70 : decode prog_7_method_7_code 70 = .ok (.goto 4, 3) := by decide +kernel
theorem d_S_receiveAsk_73 : decode prog_7_method_7_code 73 = .ok (.iconst 0, 1) := by decide +kernel
theorem d_S_receiveAsk_74 : decode prog_7_method_7_code 74 = .ok (.invokevirtual 106, 3) := by decide +kernel
theorem d_S_receiveAsk_77 : decode prog_7_method_7_code 77 = .ok (.return_, 1) := by decide +kernel
theorem d_S_receivePut_0 : decode prog_7_method_8_code 0 = .ok (.aload_n 0, 1) := by decide +kernel
theorem d_S_receivePut_1 : decode prog_7_method_8_code 1 = .ok (.getfield 28, 3) := by decide +kernel
theorem d_S_receivePut_4 : decode prog_7_method_8_code 4 = .ok (.aload_n 1, 1) := by decide +kernel
theorem d_S_receivePut_5 : decode prog_7_method_8_code 5 = .ok (.getfield 94, 3) := by decide +kernel
theorem d_S_receivePut_8 : decode prog_7_method_8_code 8 = .ok (.iaload, 1) := by decide +kernel
end
section
theorem d_S_receivePut_9 : decode prog_7_method_8_code 9 = .ok (.istore_n 3, 1) := by decide +kernel
theorem d_S_receivePut_10 : decode prog_7_method_8_code 10 = .ok (.aload_n 1, 1) := by decide +kernel
theorem d_S_receivePut_11 : decode prog_7_method_8_code 11 = .ok (.getfield 97, 3) := by decide +kernel
theorem d_S_receivePut_14 : decode prog_7_method_8_code 14 = .ok (.iload_n 3, 1) := by decide +kernel
theorem d_S_receivePut_15 : decode prog_7_method_8_code 15 = .ok (.if_icmp .ne 31, 3) := by decide +kernel
theorem d_S_receivePut_18 : decode prog_7_method_8_code 18 = .ok (.aload_n 2, 1) := by decide +kernel
theorem d_S_receivePut_19 : decode prog_7_method_8_code 19 = .ok (.iconst 3, 1) := by decide +kernel
theorem d_S_receivePut_20 : decode prog_7_method_8_code 20 = .ok (.aload_n 1, 1) := by decide +kernel
theorem d_S_receivePut_21 : decode prog_7_method_8_code 21 = .ok (.getfield 94, 3) := by decide +kernel
theorem d_S_receivePut_24 : decode prog_7_method_8_code 24 = .ok (.aload_n 1, 1) := by decide +kernel
theorem d_S_receivePut_25 : decode prog_7_method_8_code 25 = .ok (.getfield 84, 3) := by decide +kernel
theorem d_S_receivePut_28 : decode prog_7_method_8_code 28 = .ok (.aload_n 1, 1) := by decide +kernel
theorem d_S_receivePut_29 : decode prog_7_method_8_code 29 = .ok (.getfield 97, 3) := by decide +kernel
theorem d_S_receivePut_32 : decode prog_7_method_8_code 32 = .ok (.aload_n 0, 1) := by decide +kernel
theorem d_S_receivePut_33 : decode prog_7_method_8_code 33 = .ok (.getfield 32, 3) := by decide +kernel
theorem d_S_receivePut_36 : decode prog_7_method_8_code 36 = .ok (.aload_n 1, 1) := by decide +kernel
theorem d_S_receivePut_37 : decode prog_7_method_8_code 37 = .ok (.getfield 94, 3) := by decide +kernel
theorem d_S_receivePut_40 : decode prog_7_method_8_code 40 = .ok (.iaload, 1) := by decide +kernel
theorem d_S_receivePut_41 : decode prog_7_method_8_code 41 = .ok (.iconst 0, 1) := by decide +kernel
theorem d_S_receivePut_42 : decode prog_7_method_8_code 42 = .ok (.iconst 0, 1) := by decide +kernel
theorem d_S_receivePut_43 : decode prog_7_method_8_code 43 = .ok (.invokevirtual 106, 3) := by decide +kernel
theorem d_S_receivePut_46 : decode prog_7_method_8_code 46 = .ok (.aload_n 1, 1) := by decide +kernel
theorem d_S_receivePut_47 : decode prog_7_method_8_code 47 = .ok (.getfield 97, 3) := by decide +kernel
theorem d_S_receivePut_50 : decode prog_7_method_8_code 50 = .ok (.iload_n 3, 1) := by decide +kernel
theorem d_S_receivePut_51 : decode prog_7_method_8_code 51 = .ok (.if_icmp .gt 4, 3) := by decide +kernel
theorem d_S_receivePut_54 : decode prog_7_method_8_code 54 = .ok (.return_, 1) := by decide +kernel
theorem d_S_receivePut_55 : decode prog_7_method_8_code 55 = .ok (.aload_n 0, 1) := by decide +kernel
theorem d_S_receivePut_56 : decode prog_7_method_8_code 56 = .ok (.getfield 37, 3) := by decide +kernel
theorem d_S_receivePut_59 : decode prog_7_method_8_code 59 = .ok (.aload_n 1, 1) := by decide +kernel
theorem d_S_receivePut_60 : decode prog_7_method_8_code 60 = .ok (.getfield 84, 3) := by decide +kernel
theorem d_S_receivePut_63 : decode prog_7_method_8_code 63 = .ok (.aaload, 1) := by decide +kernel
theorem d_S_receivePut_64 : decode prog_7_method_8_code 64 = .ok (.astore 4, 2) := by decide +kernel
theorem d_S_receivePut_66 : decode prog_7_method_8_code 66 = .ok (.aload 4, 2) := by decide +kernel
theorem d_S_receivePut_68 : decode prog_7_method_8_code 68 = .ok (.aload_n 1, 1) := by decide +kernel
theorem d_S_receivePut_69 : decode prog_7_method_8_code 69 = .ok (.getfield 94, 3) := by decide +kernel
theorem d_S_receivePut_72 : decode prog_7_method_8_code 72 = .ok (.aload_n 1, 1) := by decide +kernel
theorem d_S_receivePut_73 : decode prog_7_method_8_code 73 = .ok (.getfield 97, 3) := by decide +kernel
theorem d_S_receivePut_76 : decode prog_7_method_8_code 76 = .ok (.invokevirtual 112, 3) := by decide +kernel
theorem d_S_receivePut_79 : decode prog_7_method_8_code 79 = .ok (.ifCond .ne 20, 3) := by decide +kernel
theorem d_S_receivePut_82 : decode prog_7_method_8_code 82 = .ok (.aload 4, 2) := by decide +kernel
theorem d_S_receivePut_84 : decode prog_7_method_8_code 84 = .ok (.aload_n 1, 1) := by decide +kernel
theorem d_S_receivePut_85 : decode prog_7_method_8_code 85 = .ok (.getfield 94, 3) := by decide +kernel
theorem d_S_receivePut_88 : decode prog_7_method_8_code 88 = .ok (.aload_n 1, 1) := by decide +kernel
theorem d_S_receivePut_89 : decode prog_7_method_8_code 89 = .ok (.getfield 97, 3) := by decide +kernel
theorem d_S_receivePut_92 : decode prog_7_method_8_code 92 = .ok (.aload_n 1, 1) := by decide +kernel
theorem d_S_receivePut_93 : decode prog_7_method_8_code 93 = .ok (.getfield 116, 3) := by decide +kernel
theorem d_S_receivePut_96 : decode prog_7_method_8_code 96 = .ok (.invokevirtual 119, 3) := by decide +kernel
theorem d_S_receivePut_99 : decode prog_7_method_8_code 99 = .ok (.aload 4, 2) := by decide +kernel
theorem d_S_receivePut_101 : decode prog_7_method_8_code 101 = .ok (.aload_n 1, 1) := by decide +kernel
theorem d_S_receivePut_102 : decode prog_7_method_8_code 102 = .ok (.getfield 94, 3) := by decide +kernel
theorem d_S_receivePut_105 : decode prog_7_method_8_code 105 = .ok (.aload_n 1, 1) := by decide +kernel
theorem d_S_receivePut_106 : decode prog_7_method_8_code 106 = .ok (.getfield 97, 3) := by decide +kernel
theorem d_S_receivePut_109 : decode prog_7_method_8_code 109 = .ok (.invokevirtual 123, 3) := by decide +kernel
theorem d_S_receivePut_112 : decode prog_7_method_8_code 112 = .ok (.ifCond .eq 9, 3) := by decide +kernel
theorem d_S_receivePut_115 : decode prog_7_method_8_code 115 = .ok (.aload_n 0, 1) := by decide +kernel
theorem d_S_receivePut_116 : decode prog_7_method_8_code 116 = .ok (.aload_n 1, 1) := by decide +kernel
theorem d_S_receivePut_117 : decode prog_7_method_8_code 117 = .ok (.aload_n 2, 1) := by decide +kernel
theorem d_S_receivePut_118 : decode prog_7_method_8_code 118 = .ok (.invokevirtual 126, 3) := by decide +kernel
theorem d_S_receivePut_121 : decode prog_7_method_8_code 121 = .ok (.return_, 1) := by decide +kernel
theorem d_S_recall_0 : decode prog_7_method_9_code 0 = .ok (.aload_n 0, 1) := by decide +kernel
theorem d_S_recall_1 : decode prog_7_method_9_code 1 = .ok (.getfield 37, 3) := by decide +kernel
theorem d_S_recall_4 : decode prog_7_method_9_code 4 = .ok (.aload_n 1, 1) := by decide +kernel
theorem d_S_recall_5 : decode prog_7_method_9_code 5 = .ok (.getfield 84, 3) := by decide +kernel
theorem d_S_recall_8 : decode prog_7_method_9_code 8 = .ok (.aaload, 1) := by decide +kernel
theorem d_S_recall_9 : decode prog_7_method_9_code 9 = .ok (.getfield 91, 3) := by decide +kernel
theorem d_S_recall_12 : decode prog_7_method_9_code 12 = .ok (.astore_n 3, 1) := by decide +kernel
theorem d_S_recall_13 : decode prog_7_method_9_code 13 = .ok (.iconst 0, 1) := by decide +kernel
theorem d_S_recall_14 : decode prog_7_method_9_code 14 = .ok (.istore 4, 2) := by decide +kernel
theorem d_S_recall_16 : decode prog_7_method_9_code 16 = .ok (.iload 4, 2) := by decide +kernel
theorem d_S_recall_18 : decode prog_7_method_9_code 18 = .ok (.aload_n 3, 1) := by decide +kernel
theorem d_S_recall_19 : decode prog_7_method_9_code 19 = .ok (.arraylength, 1) := by decide +kernel
theorem d_S_recall_20 : decode prog_7_method_9_code 20 = .ok (.if_icmp .ge 44, 3) := by decide +kernel
theorem d_S_recall_23 : decode prog_7_method_9_code 23 = .ok (.aload_n 3, 1) := by decide +kernel
theorem d_S_recall_24 : decode prog_7_method_9_code 24 = .ok (.iload 4, 2) := by decide +kernel
theorem d_S_recall_26 : decode prog_7_method_9_code 26 = .ok (.iaload, 1) := by decide +kernel
theorem d_S_recall_27 : decode prog_7_method_9_code 27 = .ok (.aload_n 0, 1) := by decide +kernel
theorem d_S_recall_28 : decode prog_7_method_9_code 28 = .ok (.getfield 9, 3) := by decide +kernel
theorem d_S_recall_31 : decode prog_7_method_9_code 31 = .ok (.if_icmp .le 27, 3) := by decide +kernel
theorem d_S_recall_34 : decode prog_7_method_9_code 34 = .ok (.aload_n 2, 1) := by decide +kernel
theorem d_S_recall_35 : decode prog_7_method_9_code 35 = .ok (.iconst 4, 1) := by decide +kernel
theorem d_S_recall_36 : decode prog_7_method_9_code 36 = .ok (.iload 4, 2) := by decide +kernel
theorem d_S_recall_38 : decode prog_7_method_9_code 38 = .ok (.aload_n 1, 1) := by decide +kernel
theorem d_S_recall_39 : decode prog_7_method_9_code 39 = .ok (.getfield 84, 3) := by decide +kernel
theorem d_S_recall_42 : decode prog_7_method_9_code 42 = .ok (.aload_n 1, 1) := by decide +kernel
theorem d_S_recall_43 : decode prog_7_method_9_code 43 = .ok (.getfield 97, 3) := by decide +kernel
theorem d_S_recall_46 : decode prog_7_method_9_code 46 = .ok (.aload_n 1, 1) := by decide +kernel
theorem d_S_recall_47 : decode prog_7_method_9_code 47 = .ok (.getfield 94, 3) := by decide +kernel
theorem d_S_recall_50 : decode prog_7_method_9_code 50 = .ok (.aload_n 0, 1) := by decide +kernel
theorem d_S_recall_51 : decode prog_7_method_9_code 51 = .ok (.getfield 19, 3) := by decide +kernel
theorem d_S_recall_54 : decode prog_7_method_9_code 54 = .ok (.iconst 0, 1) := by decide +kernel
theorem d_S_recall_55 : decode prog_7_method_9_code 55 = .ok (.invokevirtual 106, 3) := by decide +kernel
theorem d_S_recall_58 : decode prog_7_method_9_code 58 = .ok (.iinc 4 1, 3) := by decide +kernel
theorem d_S_recall_61 : decode prog_7_method_9_code 61 = .ok (.goto (-45), 3) := by decide +kernel
theorem d_S_recall_64 : decode prog_7_method_9_code 64 = .ok (.return_, 1) := by decide +kernel
theorem d_S_receiveFree_0 : decode prog_7_method_10_code 0 = .ok (.aload_n 0, 1) := by decide +kernel
theorem d_S_receiveFree_1 : decode prog_7_method_10_code 1 = .ok (.getfield 37, 3) := by decide +kernel
theorem d_S_receiveFree_4 : decode prog_7_method_10_code 4 = .ok (.aload_n 1, 1) := by decide +kernel
theorem d_S_receiveFree_5 : decode prog_7_method_10_code 5 = .ok (.getfield 84, 3) := by decide +kernel
theorem d_S_receiveFree_8 : decode prog_7_method_10_code 8 = .ok (.aaload, 1) := by decide +kernel
theorem d_S_receiveFree_9 : decode prog_7_method_10_code 9 = .ok (.astore_n 2, 1) := by decide +kernel
theorem d_S_receiveFree_10 : decode prog_7_method_10_code 10 = .ok (.aload_n 1, 1) := by decide +kernel
theorem d_S_receiveFree_11 : decode prog_7_method_10_code 11 = .ok (.getfield 129, 3) := by decide +kernel
theorem d_S_receiveFree_14 : decode prog_7_method_10_code 14 = .ok (.aload_n 0, 1) := by decide +kernel
theorem d_S_receiveFree_15 : decode prog_7_method_10_code 15 = .ok (.getfield 19, 3) := by decide +kernel
theorem d_S_receiveFree_18 : decode prog_7_method_10_code 18 = .ok (.if_icmp .ne 31, 3) := by decide +kernel
theorem d_S_receiveFree_21 : decode prog_7_method_10_code 21 = .ok (.aload_n 2, 1) := by decide +kernel
theorem d_S_receiveFree_22 : decode prog_7_method_10_code 22 = .ok (.aload_n 1, 1) := by decide +kernel
theorem d_S_receiveFree_23 : decode prog_7_method_10_code 23 = .ok (.getfield 116, 3) := by decide +kernel
theorem d_S_receiveFree_26 : decode prog_7_method_10_code 26 = .ok (.aload_n 1, 1) := by decide +kernel
theorem d_S_receiveFree_27 : decode prog_7_method_10_code 27 = .ok (.getfield 97, 3) := by decide +kernel
theorem d_S_receiveFree_30 : decode prog_7_method_10_code 30 = .ok (.invokevirtual 123, 3) := by decide +kernel
theorem d_S_receiveFree_33 : decode prog_7_method_10_code 33 = .ok (.ifCond .eq 16, 3) := by decide +kernel
theorem d_S_receiveFree_36 : decode prog_7_method_10_code 36 = .ok (.aload_n 2, 1) := by decide +kernel
theorem d_S_receiveFree_37 : decode prog_7_method_10_code 37 = .ok (.getfield 91, 3) := by decide +kernel
theorem d_S_receiveFree_40 : decode prog_7_method_10_code 40 = .ok (.aload_n 1, 1) := by decide +kernel
theorem d_S_receiveFree_41 : decode prog_7_method_10_code 41 = .ok (.getfield 94, 3) := by decide +kernel
theorem d_S_receiveFree_44 : decode prog_7_method_10_code 44 = .ok (.aload_n 0, 1) := by decide +kernel
theorem d_S_receiveFree_45 : decode prog_7_method_10_code 45 = .ok (.getfield 9, 3) := by decide +kernel
theorem d_S_receiveFree_48 : decode prog_7_method_10_code 48 = .ok (.iastore, 1) := by decide +kernel
theorem d_S_receiveFree_49 : decode prog_7_method_10_code 49 = .ok (.return_, 1) := by decide +kernel
theorem d_S_storeWhatMay_0 : decode prog_7_method_11_code 0 = .ok (.iconst 0, 1) := by decide +kernel
theorem d_S_storeWhatMay_1 : decode prog_7_method_11_code 1 = .ok (.istore_n 2, 1) := by decide +kernel
theorem d_S_storeWhatMay_2 : decode prog_7_method_11_code 2 = .ok (.iconst 0, 1) := by decide +kernel
theorem d_S_storeWhatMay_3 : decode prog_7_method_11_code 3 = .ok (.istore_n 3, 1) := by decide +kernel
theorem d_S_storeWhatMay_4 : decode prog_7_method_11_code 4 = .ok (.iload_n 3, 1) := by decide +kernel
theorem d_S_storeWhatMay_5 : decode prog_7_method_11_code 5 = .ok (.aload_n 0, 1) := by decide +kernel
theorem d_S_storeWhatMay_6 : decode prog_7_method_11_code 6 = .ok (.getfield 37, 3) := by decide +kernel
theorem d_S_storeWhatMay_9 : decode prog_7_method_11_code 9 = .ok (.arraylength, 1) := by decide +kernel
theorem d_S_storeWhatMay_10 : decode prog_7_method_11_code 10 = .ok (.if_icmp .ge 48, 3) := by decide +kernel
theorem d_S_storeWhatMay_13 : decode prog_7_method_11_code 13 = .ok (.iconst 0, 1) := by decide +kernel
theorem d_S_storeWhatMay_14 : decode prog_7_method_11_code 14 = .ok (.istore 4, 2) := by decide +kernel
theorem d_S_storeWhatMay_16 : decode prog_7_method_11_code 16 = .ok (.iload 4, 2) := by decide +kernel
theorem d_S_storeWhatMay_18 : decode prog_7_method_11_code 18 = .ok (.sipush 256, 3) := by decide +kernel
theorem d_S_storeWhatMay_21 : decode prog_7_method_11_code 21 = .ok (.if_icmp .ge 31, 3) := by decide +kernel
theorem d_S_storeWhatMay_24 : decode prog_7_method_11_code 24 = .ok (.aload_n 0, 1) := by decide +kernel
theorem d_S_storeWhatMay_25 : decode prog_7_method_11_code 25 = .ok (.aload_n 0, 1) := by decide +kernel
theorem d_S_storeWhatMay_26 : decode prog_7_method_11_code 26 = .ok (.getfield 37, 3) := by decide +kernel
theorem d_S_storeWhatMay_29 : decode prog_7_method_11_code 29 = .ok (.iload_n 3, 1) := by decide +kernel
theorem d_S_storeWhatMay_30 : decode prog_7_method_11_code 30 = .ok (.aaload, 1) := by decide +kernel
theorem d_S_storeWhatMay_31 : decode prog_7_method_11_code 31 = .ok (.invokevirtual 132, 3) := by decide +kernel
theorem d_S_storeWhatMay_34 : decode prog_7_method_11_code 34 = .ok (.ifCond .eq 18, 3) := by decide +kernel
theorem d_S_storeWhatMay_37 : decode prog_7_method_11_code 37 = .ok (.aload_n 0, 1) := by decide +kernel
theorem d_S_storeWhatMay_38 : decode prog_7_method_11_code 38 = .ok (.iload_n 3, 1) := by decide +kernel
theorem d_S_storeWhatMay_39 : decode prog_7_method_11_code 39 = .ok (.aload_n 1, 1) := by decide +kernel
theorem d_S_storeWhatMay_40 : decode prog_7_method_11_code 40 = .ok (.invokevirtual 136, 3) := by decide +kernel
theorem d_S_storeWhatMay_43 : decode prog_7_method_11_code 43 = .ok (.iinc 2 1, 3) := by decide +kernel
theorem d_S_storeWhatMay_46 : decode prog_7_method_11_code 46 = .ok (.iinc 4 1, 3) := by decide +kernel
theorem d_S_storeWhatMay_49 : decode prog_7_method_11_code 49 = .ok (.goto (-33), 3) := by decide +kernel
theorem d_S_storeWhatMay_52 : decode prog_7_method_11_code 52 = .ok (.iinc 3 1, 3) := by decide +kernel
theorem d_S_storeWhatMay_55 : decode prog_7_method_11_code 55 = .ok (.goto (-51), 3) := by decide +kernel
theorem d_S_storeWhatMay_58 : decode prog_7_method_11_code 58 = .ok (.iload_n 2, 1) := by decide +kernel
theorem d_S_storeWhatMay_59 : decode prog_7_method_11_code 59 = .ok (.ireturn, 1) := by decide +kernel
theorem d_S_mayStore_0 : decode prog_7_method_12_code 0 = .ok (.aload_n 1, 1) := by decide +kernel
theorem d_S_mayStore_1 : decode prog_7_method_12_code 1 = .ok (.getfield 64, 3) := by decide +kernel
theorem d_S_mayStore_4 : decode prog_7_method_12_code 4 = .ok (.invokevirtual 87, 3) := by decide +kernel
theorem d_S_mayStore_7 : decode prog_7_method_12_code 7 = .ok (.ifCond .ne 29, 3) := by decide +kernel
theorem d_S_mayStore_10 : decode prog_7_method_12_code 10 = .ok (.aload_n 0, 1) := by decide +kernel
theorem d_S_mayStore_11 : decode prog_7_method_12_code 11 = .ok (.getfield 22, 3) := by decide +kernel
theorem d_S_mayStore_14 : decode prog_7_method_12_code 14 = .ok (.aload_n 0, 1) := by decide +kernel
theorem d_S_mayStore_15 : decode prog_7_method_12_code 15 = .ok (.getfield 9, 3) := by decide +kernel
theorem d_S_mayStore_18 : decode prog_7_method_12_code 18 = .ok (.if_icmp .gt 18, 3) := by decide +kernel
theorem d_S_mayStore_21 : decode prog_7_method_12_code 21 = .ok (.aload_n 1, 1) := by decide +kernel
theorem d_S_mayStore_22 : decode prog_7_method_12_code 22 = .ok (.aload_n 0, 1) := by decide +kernel
theorem d_S_mayStore_23 : decode prog_7_method_12_code 23 = .ok (.getfield 9, 3) := by decide +kernel
theorem d_S_mayStore_26 : decode prog_7_method_12_code 26 = .ok (.invokevirtual 140, 3) := by decide +kernel
theorem d_S_mayStore_29 : decode prog_7_method_12_code 29 = .ok (.ifCond .ne 7, 3) := by decide +kernel
theorem d_S_mayStore_32 : decode prog_7_method_12_code 32 = .ok (.iconst 1, 1) := by decide +kernel
theorem d_S_mayStore_33 : decode prog_7_method_12_code 33 = .ok (.goto 4, 3) := by decide +kernel
theorem d_S_mayStore_36 : decode prog_7_method_12_code 36 = .ok (.iconst 0, 1) := by decide +kernel
theorem d_S_mayStore_37 : decode prog_7_method_12_code 37 = .ok (.ireturn, 1) := by decide +kernel
theorem d_S_storeFirst_0 : decode prog_7_method_13_code 0 = .ok (.aload_n 0, 1) := by decide +kernel
theorem d_S_storeFirst_1 : decode prog_7_method_13_code 1 = .ok (.getfield 37, 3) := by decide +kernel
theorem d_S_storeFirst_4 : decode prog_7_method_13_code 4 = .ok (.iload_n 1, 1) := by decide +kernel
theorem d_S_storeFirst_5 : decode prog_7_method_13_code 5 = .ok (.aaload, 1) := by decide +kernel
theorem d_S_storeFirst_6 : decode prog_7_method_13_code 6 = .ok (.astore_n 3, 1) := by decide +kernel
theorem d_S_storeFirst_7 : decode prog_7_method_13_code 7 = .ok (.aload_n 3, 1) := by decide +kernel
theorem d_S_storeFirst_8 : decode prog_7_method_13_code 8 = .ok (.getfield 64, 3) := by decide +kernel
theorem d_S_storeFirst_11 : decode prog_7_method_13_code 11 = .ok (.invokevirtual 87, 3) := by decide +kernel
theorem d_S_storeFirst_14 : decode prog_7_method_13_code 14 = .ok (.ifCond .eq 4, 3) := by decide +kernel
theorem d_S_storeFirst_17 : decode prog_7_method_13_code 17 = .ok (.return_, 1) := by decide +kernel
theorem d_S_storeFirst_18 : decode prog_7_method_13_code 18 = .ok (.aload_n 3, 1) := by decide +kernel
theorem d_S_storeFirst_19 : decode prog_7_method_13_code 19 = .ok (.getfield 64, 3) := by decide +kernel
theorem d_S_storeFirst_22 : decode prog_7_method_13_code 22 = .ok (.iconst 0, 1) := by decide +kernel
theorem d_S_storeFirst_23 : decode prog_7_method_13_code 23 = .ok (.invokevirtual 144, 3) := by decide +kernel
theorem d_S_storeFirst_26 : decode prog_7_method_13_code 26 = .ok (.checkcast 148, 3) := by decide +kernel
theorem d_S_storeFirst_29 : decode prog_7_method_13_code 29 = .ok (.astore 4, 2) := by decide +kernel
theorem d_S_storeFirst_31 : decode prog_7_method_13_code 31 = .ok (.aload_n 3, 1) := by decide +kernel
theorem d_S_storeFirst_32 : decode prog_7_method_13_code 32 = .ok (.aload 4, 2) := by decide +kernel
theorem d_S_storeFirst_34 : decode prog_7_method_13_code 34 = .ok (.getfield 150, 3) := by decide +kernel
theorem d_S_storeFirst_37 : decode prog_7_method_13_code 37 = .ok (.putfield 100, 3) := by decide +kernel
theorem d_S_storeFirst_40 : decode prog_7_method_13_code 40 = .ok (.aload_n 3, 1) := by decide +kernel
theorem d_S_storeFirst_41 : decode prog_7_method_13_code 41 = .ok (.dup, 1) := by decide +kernel
theorem d_S_storeFirst_42 : decode prog_7_method_13_code 42 = .ok (.getfield 103, 3) := by decide +kernel
theorem d_S_storeFirst_45 : decode prog_7_method_13_code 45 = .ok (.iconst 1, 1) := by decide +kernel
theorem d_S_storeFirst_46 : decode prog_7_method_13_code 46 = .ok (.iadd, 1) := by decide +kernel
theorem d_S_storeFirst_47 : decode prog_7_method_13_code 47 = .ok (.putfield 103, 3) := by decide +kernel
theorem d_S_storeFirst_50 : decode prog_7_method_13_code 50 = .ok (.aload 4, 2) := by decide +kernel
theorem d_S_storeFirst_52 : decode prog_7_method_13_code 52 = .ok (.getfield 151, 3) := by decide +kernel
theorem d_S_storeFirst_55 : decode prog_7_method_13_code 55 = .ok (.aload_n 0, 1) := by decide +kernel
theorem d_S_storeFirst_56 : decode prog_7_method_13_code 56 = .ok (.getfield 28, 3) := by decide +kernel
theorem d_S_storeFirst_59 : decode prog_7_method_13_code 59 = .ok (.aload 4, 2) := by decide +kernel
theorem d_S_storeFirst_61 : decode prog_7_method_13_code 61 = .ok (.getfield 152, 3) := by decide +kernel
theorem d_S_storeFirst_64 : decode prog_7_method_13_code 64 = .ok (.iaload, 1) := by decide +kernel
theorem d_S_storeFirst_65 : decode prog_7_method_13_code 65 = .ok (.if_icmp .le 32, 3) := by decide +kernel
theorem d_S_storeFirst_68 : decode prog_7_method_13_code 68 = .ok (.aload_n 0, 1) := by decide +kernel
theorem d_S_storeFirst_69 : decode prog_7_method_13_code 69 = .ok (.getfield 28, 3) := by decide +kernel
theorem d_S_storeFirst_72 : decode prog_7_method_13_code 72 = .ok (.aload 4, 2) := by decide +kernel
theorem d_S_storeFirst_74 : decode prog_7_method_13_code 74 = .ok (.getfield 152, 3) := by decide +kernel
theorem d_S_storeFirst_77 : decode prog_7_method_13_code 77 = .ok (.aload 4, 2) := by decide +kernel
theorem d_S_storeFirst_79 : decode prog_7_method_13_code 79 = .ok (.getfield 151, 3) := by decide +kernel
theorem d_S_storeFirst_82 : decode prog_7_method_13_code 82 = .ok (.iastore, 1) := by decide +kernel
theorem d_S_storeFirst_83 : decode prog_7_method_13_code 83 = .ok (.aload_n 0, 1) := by decide +kernel
theorem d_S_storeFirst_84 : decode prog_7_method_13_code 84 = .ok (.getfield 32, 3) := by decide +kernel
theorem d_S_storeFirst_87 : decode prog_7_method_13_code 87 = .ok (.aload 4, 2) := by decide +kernel
theorem d_S_storeFirst_89 : decode prog_7_method_13_code 89 = .ok (.getfield 152, 3) := by decide +kernel
theorem d_S_storeFirst_92 : decode prog_7_method_13_code 92 = .ok (.aload_n 3, 1) := by decide +kernel
theorem d_S_storeFirst_93 : decode prog_7_method_13_code 93 = .ok (.getfield 103, 3) := by decide +kernel
theorem d_S_storeFirst_96 : decode prog_7_method_13_code 96 = .ok (.iastore, 1) := by decide +kernel
theorem d_S_storeFirst_97 : decode prog_7_method_13_code 97 = .ok (.aload_n 2, 1) := by decide +kernel
theorem d_S_storeFirst_98 : decode prog_7_method_13_code 98 = .ok (.iconst 3, 1) := by decide +kernel
theorem d_S_storeFirst_99 : decode prog_7_method_13_code 99 = .ok (.aload 4, 2) := by decide +kernel
theorem d_S_storeFirst_101 : decode prog_7_method_13_code 101 = .ok (.getfield 152, 3) := by decide +kernel
theorem d_S_storeFirst_104 : decode prog_7_method_13_code 104 = .ok (.iload_n 1, 1) := by decide +kernel
theorem d_S_storeFirst_105 : decode prog_7_method_13_code 105 = .ok (.aload 4, 2) := by decide +kernel
theorem d_S_storeFirst_107 : decode prog_7_method_13_code 107 = .ok (.getfield 151, 3) := by decide +kernel
theorem d_S_storeFirst_110 : decode prog_7_method_13_code 110 = .ok (.aload_n 3, 1) := by decide +kernel
theorem d_S_storeFirst_111 : decode prog_7_method_13_code 111 = .ok (.getfield 103, 3) := by decide +kernel
theorem d_S_storeFirst_114 : decode prog_7_method_13_code 114 = .ok (.iconst 0, 1) := by decide +kernel
theorem d_S_storeFirst_115 : decode prog_7_method_13_code 115 = .ok (.iconst 0, 1) := by decide +kernel
theorem d_S_storeFirst_116 : decode prog_7_method_13_code 116 = .ok (.invokevirtual 106, 3) := by decide +kernel
theorem d_S_storeFirst_119 : decode prog_7_method_13_code 119 = .ok (.return_, 1) := by decide +kernel
theorem d_W_init_0 : decode prog_8_method_1_code 0 = .ok (.aload_n 0, 1) := by decide +kernel
theorem d_W_init_1 : decode prog_8_method_1_code 1 = .ok (.invokespecial 1, 3) := by decide +kernel
theorem d_W_init_4 : decode prog_8_method_1_code 4 = .ok (.aload_n 0, 1) := by decide +kernel
theorem d_W_init_5 : decode prog_8_method_1_code 5 = .ok (.iload_n 1, 1) := by decide +kernel
theorem d_W_init_6 : decode prog_8_method_1_code 6 = .ok (.putfield 7, 3) := by decide +kernel
theorem d_W_init_9 : decode prog_8_method_1_code 9 = .ok (.aload_n 0, 1) := by decide +kernel
theorem d_W_init_10 : decode prog_8_method_1_code 10 = .ok (.iload_n 2, 1) := by decide +kernel
theorem d_W_init_11 : decode prog_8_method_1_code 11 = .ok (.putfield 13, 3) := by decide +kernel
theorem d_W_init_14 : decode prog_8_method_1_code 14 = .ok (.aload_n 0, 1) := by decide +kernel
theorem d_W_init_15 : decode prog_8_method_1_code 15 = .ok (.iload_n 3, 1) := by decide +kernel
theorem d_W_init_16 : decode prog_8_method_1_code 16 = .ok (.putfield 16, 3) := by decide +kernel
theorem d_W_init_19 : decode prog_8_method_1_code 19 = .ok (.return_, 1) := by decide +kernel
theorem d_W_isOf_0 : decode prog_8_method_2_code 0 = .ok (.aload_n 0, 1) := by decide +kernel
theorem d_W_isOf_1 : decode prog_8_method_2_code 1 = .ok (.getfield 7, 3) := by decide +kernel
theorem d_W_isOf_4 : decode prog_8_method_2_code 4 = .ok (.iload_n 1, 1) := by decide +kernel
theorem d_W_isOf_5 : decode prog_8_method_2_code 5 = .ok (.if_icmp .ne 15, 3) := by decide +kernel
theorem d_W_isOf_8 : decode prog_8_method_2_code 8 = .ok (.aload_n 0, 1) := by decide +kernel
theorem d_W_isOf_9 : decode prog_8_method_2_code 9 = .ok (.getfield 13, 3) := by decide +kernel
theorem d_W_isOf_12 : decode prog_8_method_2_code 12 = .ok (.iload_n 2, 1) := by decide +kernel
theorem d_W_isOf_13 : decode prog_8_method_2_code 13 = .ok (.if_icmp .ne 7, 3) := by decide +kernel
theorem d_W_isOf_16 : decode prog_8_method_2_code 16 = .ok (.iconst 1, 1) := by decide +kernel
theorem d_W_isOf_17 : decode prog_8_method_2_code 17 = .ok (.goto 4, 3) := by decide +kernel
theorem d_W_isOf_20 : decode prog_8_method_2_code 20 = .ok (.iconst 0, 1) := by decide +kernel
theorem d_W_isOf_21 : decode prog_8_method_2_code 21 = .ok (.ireturn, 1) := by decide +kernel
theorem d_A_init_0 : decode prog_18_method_2_code 0 = .ok (.aload_n 0, 1) := by decide +kernel
theorem d_A_init_1 : decode prog_18_method_2_code 1 = .ok (.invokespecial 1, 3) := by decide +kernel
theorem d_A_init_4 : decode prog_18_method_2_code 4 = .ok (.aload_n 0, 1) := by decide +kernel
theorem d_A_init_5 : decode prog_18_method_2_code 5 = .ok (.getstatic 39, 3) := by decide +kernel
theorem d_A_init_8 : decode prog_18_method_2_code 8 = .ok (.putfield 9, 3) := by decide +kernel
theorem d_A_init_11 : decode prog_18_method_2_code 11 = .ok (.return_, 1) := by decide +kernel
theorem d_A_add0_0 : decode prog_18_method_25_code 0 = .ok (.aload_n 0, 1) := by decide +kernel
theorem d_A_add0_1 : decode prog_18_method_25_code 1 = .ok (.dup, 1) := by decide +kernel
theorem d_A_add0_2 : decode prog_18_method_25_code 2 = .ok (.getfield 63, 3) := by decide +kernel
theorem d_A_add0_5 : decode prog_18_method_25_code 5 = .ok (.iconst 1, 1) := by decide +kernel
theorem d_A_add0_6 : decode prog_18_method_25_code 6 = .ok (.iadd, 1) := by decide +kernel
theorem d_A_add0_7 : decode prog_18_method_25_code 7 = .ok (.putfield 63, 3) := by decide +kernel
theorem d_A_add0_10 : decode prog_18_method_25_code 10 = .ok (.aload_n 0, 1) := by decide +kernel
theorem d_A_add0_11 : decode prog_18_method_25_code 11 = .ok (.aload_n 1, 1) := by decide +kernel
theorem d_A_add0_12 : decode prog_18_method_25_code 12 = .ok (.aload_n 0, 1) := by decide +kernel
theorem d_A_add0_13 : decode prog_18_method_25_code 13 = .ok (.getfield 9, 3) := by decide +kernel
theorem d_A_add0_16 : decode prog_18_method_25_code 16 = .ok (.aload_n 0, 1) := by decide +kernel
theorem d_A_add0_17 : decode prog_18_method_25_code 17 = .ok (.getfield 48, 3) := by decide +kernel
theorem d_A_add0_20 : decode prog_18_method_25_code 20 = .ok (.invokevirtual 131, 3) := by decide +kernel
theorem d_A_add0_23 : decode prog_18_method_25_code 23 = .ok (.iconst 1, 1) := by decide +kernel
theorem d_A_add0_24 : decode prog_18_method_25_code 24 = .ok (.ireturn, 1) := by decide +kernel
theorem d_A_add1_0 : decode prog_18_method_24_code 0 = .ok (.iload_n 3, 1) := by decide +kernel
theorem d_A_add1_1 : decode prog_18_method_24_code 1 = .ok (.aload_n 2, 1) := by decide +kernel
theorem d_A_add1_2 : decode prog_18_method_24_code 2 = .ok (.arraylength, 1) := by decide +kernel
theorem d_A_add1_3 : decode prog_18_method_24_code 3 = .ok (.if_icmp .ne 8, 3) := by decide +kernel
theorem d_A_add1_6 : decode prog_18_method_24_code 6 = .ok (.aload_n 0, 1) := by decide +kernel
theorem d_A_add1_7 : decode prog_18_method_24_code 7 = .ok (.invokevirtual 129, 3) := by decide +kernel
theorem d_A_add1_10 : decode prog_18_method_24_code 10 = .ok (.astore_n 2, 1) := by decide +kernel
theorem d_A_add1_11 : decode prog_18_method_24_code 11 = .ok (.aload_n 2, 1) := by decide +kernel
theorem d_A_add1_12 : decode prog_18_method_24_code 12 = .ok (.iload_n 3, 1) := by decide +kernel
theorem d_A_add1_13 : decode prog_18_method_24_code 13 = .ok (.aload_n 1, 1) := by decide +kernel
theorem d_A_add1_14 : decode prog_18_method_24_code 14 = .ok (.aastore, 1) := by decide +kernel
theorem d_A_add1_15 : decode prog_18_method_24_code 15 = .ok (.aload_n 0, 1) := by decide +kernel
theorem d_A_add1_16 : decode prog_18_method_24_code 16 = .ok (.iload_n 3, 1) := by decide +kernel
theorem d_A_add1_17 : decode prog_18_method_24_code 17 = .ok (.iconst 1, 1) := by decide +kernel
theorem d_A_add1_18 : decode prog_18_method_24_code 18 = .ok (.iadd, 1) := by decide +kernel
theorem d_A_add1_19 : decode prog_18_method_24_code 19 = .ok (.putfield 48, 3) := by decide +kernel
theorem d_A_add1_22 : decode prog_18_method_24_code 22 = .ok (.return_, 1) := by decide +kernel
theorem d_A_clear_0 : decode prog_18_method_40_code 0 = .ok (.aload_n 0, 1) := by decide +kernel
theorem d_A_clear_1 : decode prog_18_method_40_code 1 = .ok (.dup, 1) := by decide +kernel
theorem d_A_clear_2 : decode prog_18_method_40_code 2 = .ok (.getfield 63, 3) := by decide +kernel
theorem d_A_clear_5 : decode prog_18_method_40_code 5 = .ok (.iconst 1, 1) := by decide +kernel
theorem d_A_clear_6 : decode prog_18_method_40_code 6 = .ok (.iadd, 1) := by decide +kernel
theorem d_A_clear_7 : decode prog_18_method_40_code 7 = .ok (.putfield 63, 3) := by decide +kernel
theorem d_A_clear_10 : decode prog_18_method_40_code 10 = .ok (.aload_n 0, 1) := by decide +kernel
theorem d_A_clear_11 : decode prog_18_method_40_code 11 = .ok (.getfield 9, 3) := by decide +kernel
theorem d_A_clear_14 : decode prog_18_method_40_code 14 = .ok (.astore_n 1, 1) := by decide +kernel
theorem d_A_clear_15 : decode prog_18_method_40_code 15 = .ok (.aload_n 0, 1) := by decide +kernel
theorem d_A_clear_16 : decode prog_18_method_40_code 16 = .ok (.getfield 48, 3) := by decide +kernel
theorem d_A_clear_19 : decode prog_18_method_40_code 19 = .ok (.istore_n 2, 1) := by decide +kernel
theorem d_A_clear_20 : decode prog_18_method_40_code 20 = .ok (.aload_n 0, 1) := by decide +kernel
theorem d_A_clear_21 : decode prog_18_method_40_code 21 = .ok (.iconst 0, 1) := by decide +kernel
theorem d_A_clear_22 : decode prog_18_method_40_code 22 = .ok (.dup_x1, 1) := by decide +kernel
theorem d_A_clear_23 : decode prog_18_method_40_code 23 = .ok (.putfield 48, 3) := by decide +kernel
theorem d_A_clear_26 : decode prog_18_method_40_code 26 = .ok (.istore_n 3, 1) := by decide +kernel
theorem d_A_clear_27 : decode prog_18_method_40_code 27 = .ok (.iload_n 3, 1) := by decide +kernel
theorem d_A_clear_28 : decode prog_18_method_40_code 28 = .ok (.iload_n 2, 1) := by decide +kernel
theorem d_A_clear_29 : decode prog_18_method_40_code 29 = .ok (.if_icmp .ge 13, 3) := by decide +kernel
theorem d_A_clear_32 : decode prog_18_method_40_code 32 = .ok (.aload_n 1, 1) := by decide +kernel
theorem d_A_clear_33 : decode prog_18_method_40_code 33 = .ok (.iload_n 3, 1) := by decide +kernel
theorem d_A_clear_34 : decode prog_18_method_40_code 34 = .ok (.aconst_null, 1) := by decide +kernel
theorem d_A_clear_35 : decode prog_18_method_40_code 35 = .ok (.aastore, 1) := by decide +kernel
theorem d_A_clear_36 : decode prog_18_method_40_code 36 = .ok (.iinc 3 1, 3) := by decide +kernel
theorem d_A_clear_39 : decode prog_18_method_40_code 39 = .ok (.goto (-12), 3) := by decide +kernel
theorem d_A_clear_42 : decode prog_18_method_40_code 42 = .ok (.return_, 1) := by decide +kernel
theorem d_A_elementData_0 : decode prog_18_method_18_code 0 = .ok (.aload_n 0, 1) := by decide +kernel
theorem d_A_elementData_1 : decode prog_18_method_18_code 1 = .ok (.getfield 9, 3) := by decide +kernel
theorem d_A_elementData_4 : decode prog_18_method_18_code 4 = .ok (.iload_n 1, 1) := by decide +kernel
theorem d_A_elementData_5 : decode prog_18_method_18_code 5 = .ok (.aaload, 1) := by decide +kernel
theorem d_A_elementData_6 : decode prog_18_method_18_code 6 = .ok (.areturn, 1) := by decide +kernel
theorem d_A_fastRemove_0 : decode prog_18_method_39_code 0 = .ok (.aload_n 0, 1) := by decide +kernel
theorem d_A_fastRemove_1 : decode prog_18_method_39_code 1 = .ok (.dup, 1) := by decide +kernel
theorem d_A_fastRemove_2 : decode prog_18_method_39_code 2 = .ok (.getfield 63, 3) := by decide +kernel
theorem d_A_fastRemove_5 : decode prog_18_method_39_code 5 = .ok (.iconst 1, 1) := by decide +kernel
theorem d_A_fastRemove_6 : decode prog_18_method_39_code 6 = .ok (.iadd, 1) := by decide +kernel
theorem d_A_fastRemove_7 : decode prog_18_method_39_code 7 = .ok (.putfield 63, 3) := by decide +kernel
theorem d_A_fastRemove_10 : decode prog_18_method_39_code 10 = .ok (.aload_n 0, 1) := by decide +kernel
theorem d_A_fastRemove_11 : decode prog_18_method_39_code 11 = .ok (.getfield 48, 3) := by decide +kernel
theorem d_A_fastRemove_14 : decode prog_18_method_39_code 14 = .ok (.iconst 1, 1) := by decide +kernel
theorem d_A_fastRemove_15 : decode prog_18_method_39_code 15 = .ok (.isub, 1) := by decide +kernel
theorem d_A_fastRemove_16 : decode prog_18_method_39_code 16 = .ok (.dup, 1) := by decide +kernel
theorem d_A_fastRemove_17 : decode prog_18_method_39_code 17 = .ok (.istore_n 3, 1) := by decide +kernel
theorem d_A_fastRemove_18 : decode prog_18_method_39_code 18 = .ok (.iload_n 2, 1) := by decide +kernel
theorem d_A_fastRemove_19 : decode prog_18_method_39_code 19 = .ok (.if_icmp .le 15, 3) := by decide +kernel
theorem d_A_fastRemove_22 : decode prog_18_method_39_code 22 = .ok (.aload_n 1, 1) := by decide +kernel
theorem d_A_fastRemove_23 : decode prog_18_method_39_code 23 = .ok (.iload_n 2, 1) := by decide +kernel
theorem d_A_fastRemove_24 : decode prog_18_method_39_code 24 = .ok (.iconst 1, 1) := by decide +kernel
theorem d_A_fastRemove_25 : decode prog_18_method_39_code 25 = .ok (.iadd, 1) := by decide +kernel
theorem d_A_fastRemove_26 : decode prog_18_method_39_code 26 = .ok (.aload_n 1, 1) := by decide +kernel
theorem d_A_fastRemove_27 : decode prog_18_method_39_code 27 = .ok (.iload_n 2, 1) := by decide +kernel
theorem d_A_fastRemove_28 : decode prog_18_method_39_code 28 = .ok (.iload_n 3, 1) := by decide +kernel
theorem d_A_fastRemove_29 : decode prog_18_method_39_code 29 = .ok (.iload_n 2, 1) := by decide +kernel
theorem d_A_fastRemove_30 : decode prog_18_method_39_code 30 = .ok (.isub, 1) := by decide +kernel
theorem d_A_fastRemove_31 : decode prog_18_method_39_code 31 = .ok (.invokestatic 112, 3) := by decide +kernel
theorem d_A_fastRemove_34 : decode prog_18_method_39_code 34 = .ok (.aload_n 1, 1) := by decide +kernel
theorem d_A_fastRemove_35 : decode prog_18_method_39_code 35 = .ok (.aload_n 0, 1) := by decide +kernel
theorem d_A_fastRemove_36 : decode prog_18_method_39_code 36 = .ok (.iload_n 3, 1) := by decide +kernel
theorem d_A_fastRemove_37 : decode prog_18_method_39_code 37 = .ok (.dup_x1, 1) := by decide +kernel
theorem d_A_fastRemove_38 : decode prog_18_method_39_code 38 = .ok (.putfield 48, 3) := by decide +kernel
theorem d_A_fastRemove_41 : decode prog_18_method_39_code 41 = .ok (.aconst_null, 1) := by decide +kernel
theorem d_A_fastRemove_42 : decode prog_18_method_39_code 42 = .ok (.aastore, 1) := by decide +kernel
theorem d_A_fastRemove_43 : decode prog_18_method_39_code 43 = .ok (.return_, 1) := by decide +kernel
theorem d_A_get_0 : decode prog_18_method_20_code 0 = .ok (.iload_n 1, 1) := by decide +kernel
theorem d_A_get_1 : decode prog_18_method_20_code 1 = .ok (.aload_n 0, 1) := by decide +kernel
theorem d_A_get_2 : decode prog_18_method_20_code 2 = .ok (.getfield 48, 3) := by decide +kernel
theorem d_A_get_5 : decode prog_18_method_20_code 5 = .ok (.invokestatic 118, 3) := by decide +kernel
theorem d_A_get_8 : decode prog_18_method_20_code 8 = .ok (.pop, 1) := by decide +kernel
theorem d_A_get_9 : decode prog_18_method_20_code 9 = .ok (.aload_n 0, 1) := by decide +kernel
theorem d_A_get_10 : decode prog_18_method_20_code 10 = .ok (.iload_n 1, 1) := by decide +kernel
theorem d_A_get_11 : decode prog_18_method_20_code 11 = .ok (.invokevirtual 123, 3) := by decide +kernel
theorem d_A_get_14 : decode prog_18_method_20_code 14 = .ok (.areturn, 1) := by decide +kernel
theorem d_A_grow0_0 : decode prog_18_method_7_code 0 = .ok (.aload_n 0, 1) := by decide +kernel
theorem d_A_grow0_1 : decode prog_18_method_7_code 1 = .ok (.aload_n 0, 1) := by decide +kernel
theorem d_A_grow0_2 : decode prog_18_method_7_code 2 = .ok (.getfield 48, 3) := by decide +kernel
theorem d_A_grow0_5 : decode prog_18_method_7_code 5 = .ok (.iconst 1, 1) := by decide +kernel
theorem d_A_grow0_6 : decode prog_18_method_7_code 6 = .ok (.iadd, 1) := by decide +kernel
theorem d_A_grow0_7 : decode prog_18_method_7_code 7 = .ok (.invokevirtual 69, 3) := by decide +kernel
theorem d_A_grow0_10 : decode prog_18_method_7_code 10 = .ok (.areturn, 1) := by decide +kernel
theorem d_A_grow1_0 : decode prog_18_method_6_code 0 = .ok (.aload_n 0, 1) := by decide +kernel
theorem d_A_grow1_1 : decode prog_18_method_6_code 1 = .ok (.getfield 9, 3) := by decide +kernel
theorem d_A_grow1_4 : decode prog_18_method_6_code 4 = .ok (.arraylength, 1) := by decide +kernel
theorem d_A_grow1_5 : decode prog_18_method_6_code 5 = .ok (.istore_n 2, 1) := by decide +kernel
theorem d_A_grow1_6 : decode prog_18_method_6_code 6 = .ok (.iload_n 2, 1) := by decide +kernel
theorem d_A_grow1_7 : decode prog_18_method_6_code 7 = .ok (.ifCond .gt 13, 3) := by decide +kernel
theorem d_A_grow1_10 : decode prog_18_method_6_code 10 = .ok (.aload_n 0, 1) := by decide +kernel
theorem d_A_grow1_11 : decode prog_18_method_6_code 11 = .ok (.getfield 9, 3) := by decide +kernel
theorem d_A_grow1_14 : decode prog_18_method_6_code 14 = .ok (.getstatic 39, 3) := by decide +kernel
theorem d_A_grow1_17 : decode prog_18_method_6_code 17 = .ok (.if_acmp .eq 28, 3) := by decide +kernel
theorem d_A_grow1_20 : decode prog_18_method_6_code 20 = .ok (.iload_n 2, 1) := by decide +kernel
theorem d_A_grow1_21 : decode prog_18_method_6_code 21 = .ok (.iload_n 1, 1) := by decide +kernel
theorem d_A_grow1_22 : decode prog_18_method_6_code 22 = .ok (.iload_n 2, 1) := by decide +kernel
theorem d_A_grow1_23 : decode prog_18_method_6_code 23 = .ok (.isub, 1) := by decide +kernel
theorem d_A_grow1_24 : decode prog_18_method_6_code 24 = .ok (.iload_n 2, 1) := by decide +kernel
theorem d_A_grow1_25 : decode prog_18_method_6_code 25 = .ok (.iconst 1, 1) := by decide +kernel
theorem d_A_grow1_26 : decode prog_18_method_6_code 26 = .ok (.ishr, 1) := by decide +kernel
theorem d_A_grow1_27 : decode prog_18_method_6_code 27 = .ok (.invokestatic 73, 3) := by decide +kernel
theorem d_A_grow1_30 : decode prog_18_method_6_code 30 = .ok (.istore_n 3, 1) := by decide +kernel
theorem d_A_grow1_31 : decode prog_18_method_6_code 31 = .ok (.aload_n 0, 1) := by decide +kernel
theorem d_A_grow1_32 : decode prog_18_method_6_code 32 = .ok (.aload_n 0, 1) := by decide +kernel
theorem d_A_grow1_33 : decode prog_18_method_6_code 33 = .ok (.getfield 9, 3) := by decide +kernel
theorem d_A_grow1_36 : decode prog_18_method_6_code 36 = .ok (.iload_n 3, 1) := by decide +kernel
theorem d_A_grow1_37 : decode prog_18_method_6_code 37 = .ok (.invokestatic 66, 3) := by decide +kernel
theorem d_A_grow1_40 : decode prog_18_method_6_code 40 = .ok (.dup_x1, 1) := by decide +kernel
theorem d_A_grow1_41 : decode prog_18_method_6_code 41 = .ok (.putfield 9, 3) := by decide +kernel
theorem d_A_grow1_44 : decode prog_18_method_6_code 44 = .ok (.areturn, 1) := by decide +kernel
theorem d_A_grow1_45 : decode prog_18_method_6_code 45 = .ok (.aload_n 0, 1) := by decide +kernel
theorem d_A_grow1_46 : decode prog_18_method_6_code 46 = .ok (.bipush 10, 2) := by decide +kernel
theorem d_A_grow1_48 : decode prog_18_method_6_code 48 = .ok (.iload_n 1, 1) := by decide +kernel
theorem d_A_grow1_49 : decode prog_18_method_6_code 49 = .ok (.invokestatic 79, 3) := by decide +kernel
theorem d_A_grow1_52 : decode prog_18_method_6_code 52 = .ok (.anewarray 7, 3) := by decide +kernel
theorem d_A_grow1_55 : decode prog_18_method_6_code 55 = .ok (.dup_x1, 1) := by decide +kernel
theorem d_A_grow1_56 : decode prog_18_method_6_code 56 = .ok (.putfield 9, 3) := by decide +kernel
theorem d_A_grow1_59 : decode prog_18_method_6_code 59 = .ok (.areturn, 1) := by decide +kernel
theorem d_A_isEmpty_0 : decode prog_18_method_9_code 0 = .ok (.aload_n 0, 1) := by decide +kernel
theorem d_A_isEmpty_1 : decode prog_18_method_9_code 1 = .ok (.getfield 48, 3) := by decide +kernel
theorem d_A_isEmpty_4 : decode prog_18_method_9_code 4 = .ok (.ifCond .ne 7, 3) := by decide +kernel
theorem d_A_isEmpty_7 : decode prog_18_method_9_code 7 = .ok (.iconst 1, 1) := by decide +kernel
theorem d_A_isEmpty_8 : decode prog_18_method_9_code 8 = .ok (.goto 4, 3) := by decide +kernel
theorem d_A_isEmpty_11 : decode prog_18_method_9_code 11 = .ok (.iconst 0, 1) := by decide +kernel
theorem d_A_isEmpty_12 : decode prog_18_method_9_code 12 = .ok (.ireturn, 1) := by decide +kernel
theorem d_A_remove_0 : decode prog_18_method_29_code 0 = .ok (.iload_n 1, 1) := by decide +kernel
theorem d_A_remove_1 : decode prog_18_method_29_code 1 = .ok (.aload_n 0, 1) := by decide +kernel
theorem d_A_remove_2 : decode prog_18_method_29_code 2 = .ok (.getfield 48, 3) := by decide +kernel
theorem d_A_remove_5 : decode prog_18_method_29_code 5 = .ok (.invokestatic 118, 3) := by decide +kernel
theorem d_A_remove_8 : decode prog_18_method_29_code 8 = .ok (.pop, 1) := by decide +kernel
theorem d_A_remove_9 : decode prog_18_method_29_code 9 = .ok (.aload_n 0, 1) := by decide +kernel
theorem d_A_remove_10 : decode prog_18_method_29_code 10 = .ok (.getfield 9, 3) := by decide +kernel
theorem d_A_remove_13 : decode prog_18_method_29_code 13 = .ok (.astore_n 2, 1) := by decide +kernel
theorem d_A_remove_14 : decode prog_18_method_29_code 14 = .ok (.aload_n 2, 1) := by decide +kernel
theorem d_A_remove_15 : decode prog_18_method_29_code 15 = .ok (.iload_n 1, 1) := by decide +kernel
theorem d_A_remove_16 : decode prog_18_method_29_code 16 = .ok (.aaload, 1) := by decide +kernel
theorem d_A_remove_17 : decode prog_18_method_29_code 17 = .ok (.astore_n 3, 1) := by decide +kernel
theorem d_A_remove_18 : decode prog_18_method_29_code 18 = .ok (.aload_n 0, 1) := by decide +kernel
theorem d_A_remove_19 : decode prog_18_method_29_code 19 = .ok (.aload_n 2, 1) := by decide +kernel
theorem d_A_remove_20 : decode prog_18_method_29_code 20 = .ok (.iload_n 1, 1) := by decide +kernel
theorem d_A_remove_21 : decode prog_18_method_29_code 21 = .ok (.invokevirtual 144, 3) := by decide +kernel
theorem d_A_remove_24 : decode prog_18_method_29_code 24 = .ok (.aload_n 3, 1) := by decide +kernel
theorem d_A_remove_25 : decode prog_18_method_29_code 25 = .ok (.areturn, 1) := by decide +kernel
theorem d_A_size_0 : decode prog_18_method_8_code 0 = .ok (.aload_n 0, 1) := by decide +kernel
theorem d_A_size_1 : decode prog_18_method_8_code 1 = .ok (.getfield 48, 3) := by decide +kernel
theorem d_A_size_4 : decode prog_18_method_8_code 4 = .ok (.ireturn, 1) := by decide +kernel
theorem d_B_init_0 : decode prog_17_method_1_code 0 = .ok (.aload_n 0, 1) := by decide +kernel
theorem d_B_init_1 : decode prog_17_method_1_code 1 = .ok (.invokespecial 1, 3) := by decide +kernel
theorem d_B_init_4 : decode prog_17_method_1_code 4 = .ok (.aload_n 0, 1) := by decide +kernel
theorem d_B_init_5 : decode prog_17_method_1_code 5 = .ok (.iconst 0, 1) := by decide +kernel
theorem d_B_init_6 : decode prog_17_method_1_code 6 = .ok (.putfield 7, 3) := by decide +kernel
theorem d_B_init_9 : decode prog_17_method_1_code 9 = .ok (.return_, 1) := by decide +kernel
theorem d_D_init_0 : decode prog_16_method_1_code 0 = .ok (.aload_n 0, 1) := by decide +kernel
theorem d_D_init_1 : decode prog_16_method_1_code 1 = .ok (.invokespecial 1, 3) := by decide +kernel
theorem d_D_init_4 : decode prog_16_method_1_code 4 = .ok (.return_, 1) := by decide +kernel
theorem d_O_checkIndex_0 : decode prog_22_method_17_code 0 = .ok (.iload_n 0, 1) := by decide +kernel
theorem d_O_checkIndex_1 : decode prog_22_method_17_code 1 = .ok (.iload_n 1, 1) := by decide +kernel
theorem d_O_checkIndex_2 : decode prog_22_method_17_code 2 = .ok (.aconst_null, 1) := by decide +kernel
theorem d_O_checkIndex_3 : decode prog_22_method_17_code 3 = .ok (.invokestatic 105, 3) := by decide +kernel
theorem d_O_checkIndex_6 : decode prog_22_method_17_code 6 = .ok (.ireturn, 1) := by decide +kernel
end
section
theorem d_U_newLength_0 : decode prog_25_method_27_code 0 = .ok (.iload_n 0, 1) := by decide +kernel
theorem d_U_newLength_1 : decode prog_25_method_27_code 1 = .ok (.iload_n 1, 1) := by decide +kernel
theorem d_U_newLength_2 : decode prog_25_method_27_code 2 = .ok (.iload_n 2, 1) := by decide +kernel
theorem d_U_newLength_3 : decode prog_25_method_27_code 3 = .ok (.invokestatic 194, 3) := by decide +kernel
theorem d_U_newLength_6 : decode prog_25_method_27_code 6 = .ok (.iadd, 1) := by decide +kernel
theorem d_U_newLength_7 : decode prog_25_method_27_code 7 = .ok (.istore_n 3, 1) := by decide +kernel
theorem d_U_newLength_8 : decode prog_25_method_27_code 8 = .ok (.iconst 0, 1) := by decide +kernel
theorem d_U_newLength_9 : decode prog_25_method_27_code 9 = .ok (.iload_n 3, 1) := by decide +kernel
theorem d_U_newLength_10 : decode prog_25_method_27_code 10 = .ok (.if_icmp .ge 11, 3) := by decide +kernel
theorem d_U_newLength_13 : decode prog_25_method_27_code 13 = .ok (.iload_n 3, 1) := by decide +kernel
theorem d_U_newLength_14 : decode prog_25_method_27_code 14 = .ok (.ldc 200, 2) := by decide +kernel
theorem d_U_newLength_16 : decode prog_25_method_27_code 16 = .ok (.if_icmp .gt 5, 3) := by decide +kernel
theorem d_U_newLength_19 : decode prog_25_method_27_code 19 = .ok (.iload_n 3, 1) := by decide +kernel
theorem d_U_newLength_20 : decode prog_25_method_27_code 20 = .ok (.ireturn, 1) := by decide +kernel
theorem d_U_newLength_21 : decode prog_25_method_27_code 21 = .ok (.iload_n 0, 1) := by decide +kernel
theorem d_U_newLength_22 : decode prog_25_method_27_code 22 = .ok (.iload_n 1, 1) := by decide +kernel
theorem d_U_newLength_23 : decode prog_25_method_27_code 23 = .ok (.invokestatic 201, 3) := by decide +kernel
theorem d_U_newLength_26 : decode prog_25_method_27_code 26 = .ok (.ireturn, 1) := by decide +kernel
theorem d_V_copyOf0_0 : decode prog_19_method_119_code 0 = .ok (.aload_n 0, 1) := by decide +kernel
theorem d_V_copyOf0_1 : decode prog_19_method_119_code 1 = .ok (.iload_n 1, 1) := by decide +kernel
theorem d_V_copyOf0_2 : decode prog_19_method_119_code 2 = .ok (.aload_n 0, 1) := by decide +kernel
theorem d_V_copyOf0_3 : decode prog_19_method_119_code 3 = .ok (.invokevirtual 86, 3) := by decide +kernel
theorem d_V_copyOf0_6 : decode prog_19_method_119_code 6 = .ok (.invokestatic 300, 3) := by decide +kernel
theorem d_V_copyOf0_9 : decode prog_19_method_119_code 9 = .ok (.areturn, 1) := by decide +kernel
theorem d_V_copyOf1_0 : decode prog_19_method_120_code 0 = .ok (.aload_n 2, 1) := by decide +kernel
theorem d_V_copyOf1_1 : decode prog_19_method_120_code 1 = .ok (.ldc 110, 2) := by decide +kernel
theorem d_V_copyOf1_3 : decode prog_19_method_120_code 3 = .ok (.if_acmp .ne 10, 3) := by decide +kernel
theorem d_V_copyOf1_6 : decode prog_19_method_120_code 6 = .ok (.iload_n 1, 1) := by decide +kernel
theorem d_V_copyOf1_7 : decode prog_19_method_120_code 7 = .ok (.anewarray 2, 3) := by decide +kernel
theorem d_V_copyOf1_10 : decode prog_19_method_120_code 10 = .ok (.goto 14, 3) := by decide +kernel
theorem d_V_copyOf1_13 : decode prog_19_method_120_code 13 = .ok (.aload_n 2, 1) := by decide +kernel
theorem d_V_copyOf1_14 : decode prog_19_method_120_code 14 = .ok (.invokevirtual 90, 3) := by decide +kernel
theorem d_V_copyOf1_17 : decode prog_19_method_120_code 17 = .ok (.iload_n 1, 1) := by decide +kernel
theorem d_V_copyOf1_18 : decode prog_19_method_120_code 18 = .ok (.invokestatic 95, 3) := by decide +kernel
theorem d_V_copyOf1_21 : decode prog_19_method_120_code 21 = .ok (.checkcast 110, 3) := by decide +kernel
theorem d_V_copyOf1_24 : decode prog_19_method_120_code 24 = .ok (.astore_n 3, 1) := by decide +kernel
theorem d_V_copyOf1_25 : decode prog_19_method_120_code 25 = .ok (.aload_n 0, 1) := by decide +kernel
theorem d_V_copyOf1_26 : decode prog_19_method_120_code 26 = .ok (.iconst 0, 1) := by decide +kernel
theorem d_V_copyOf1_27 : decode prog_19_method_120_code 27 = .ok (.aload_n 3, 1) := by decide +kernel
theorem d_V_copyOf1_28 : decode prog_19_method_120_code 28 = .ok (.iconst 0, 1) := by decide +kernel
theorem d_V_copyOf1_29 : decode prog_19_method_120_code 29 = .ok (.aload_n 0, 1) := by decide +kernel
theorem d_V_copyOf1_30 : decode prog_19_method_120_code 30 = .ok (.arraylength, 1) := by decide +kernel
theorem d_V_copyOf1_31 : decode prog_19_method_120_code 31 = .ok (.iload_n 1, 1) := by decide +kernel
theorem d_V_copyOf1_32 : decode prog_19_method_120_code 32 = .ok (.invokestatic 304, 3) := by decide +kernel
theorem d_V_copyOf1_35 : decode prog_19_method_120_code 35 = .ok (.invokestatic 150, 3) := by decide +kernel
theorem d_V_copyOf1_38 : decode prog_19_method_120_code 38 = .ok (.aload_n 3, 1) := by decide +kernel
theorem d_V_copyOf1_39 : decode prog_19_method_120_code 39 = .ok (.areturn, 1) := by decide +kernel
end
