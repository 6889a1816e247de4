section
-- ===== PART A: goes FIRST, ahead of the names: the tables' words, and 'selects' of the private methods out of them =====
/-- a private method of a class that the tables say can be made, by its rows of tables_1 -/
def lw_okq (q : MethodName × Nat) : Prop := (q.1.cls ≠ "java/lang/invoke/MethodHandle" ∧ q.1.cls ≠ "java/lang/invoke/VarHandle") ∧ Cond.instantiable q.1.cls q.2 ∈ tables_1 ∧ Cond.privateMethod q.1 ∈ tables_1 ∧ Cond.instanceMethod q.1 ∈ tables_1
theorem lw_p0 : lw_okq (⟨"LeasedFiles", "hasClient", "(I)Z"⟩, 4) := ⟨⟨by decide +kernel, by decide +kernel⟩, List.mem_of_getElem? (i := 20) (by decide +kernel), List.mem_of_getElem? (i := 283) (by decide +kernel), List.mem_of_getElem? (i := 284) (by decide +kernel)⟩
theorem lw_p1 : lw_okq (⟨"LeasedFiles", "hasFile", "(I)Z"⟩, 4) := ⟨⟨by decide +kernel, by decide +kernel⟩, List.mem_of_getElem? (i := 20) (by decide +kernel), List.mem_of_getElem? (i := 287) (by decide +kernel), List.mem_of_getElem? (i := 288) (by decide +kernel)⟩
theorem lw_p2 : lw_okq (⟨"LeasedFiles$Client", "startOperation", "(IZ)V"⟩, 13) := ⟨⟨by decide +kernel, by decide +kernel⟩, List.mem_of_getElem? (i := 192) (by decide +kernel), List.mem_of_getElem? (i := 295) (by decide +kernel), List.mem_of_getElem? (i := 296) (by decide +kernel)⟩
theorem lw_p3 : lw_okq (⟨"LeasedFiles$Client", "finish", "(II)V"⟩, 13) := ⟨⟨by decide +kernel, by decide +kernel⟩, List.mem_of_getElem? (i := 192) (by decide +kernel), List.mem_of_getElem? (i := 303) (by decide +kernel), List.mem_of_getElem? (i := 304) (by decide +kernel)⟩
theorem lw_p4 : lw_okq (⟨"LeasedFiles$Client", "sendRequest", "(LLeasedFiles$Pool;)V"⟩, 13) := ⟨⟨by decide +kernel, by decide +kernel⟩, List.mem_of_getElem? (i := 192) (by decide +kernel), List.mem_of_getElem? (i := 307) (by decide +kernel), List.mem_of_getElem? (i := 308) (by decide +kernel)⟩
theorem lw_p5 : lw_okq (⟨"LeasedFiles", "isDone", "(I)Z"⟩, 4) := ⟨⟨by decide +kernel, by decide +kernel⟩, List.mem_of_getElem? (i := 20) (by decide +kernel), List.mem_of_getElem? (i := 339) (by decide +kernel), List.mem_of_getElem? (i := 340) (by decide +kernel)⟩
theorem lw_p6 : lw_okq (⟨"LeasedFiles$Server", "receiveAsk", "(LLeasedFiles$Message;LLeasedFiles$Pool;)V"⟩, 8) := ⟨⟨by decide +kernel, by decide +kernel⟩, List.mem_of_getElem? (i := 105) (by decide +kernel), List.mem_of_getElem? (i := 367) (by decide +kernel), List.mem_of_getElem? (i := 368) (by decide +kernel)⟩
theorem lw_p7 : lw_okq (⟨"LeasedFiles$Server", "receivePut", "(LLeasedFiles$Message;LLeasedFiles$Pool;)V"⟩, 8) := ⟨⟨by decide +kernel, by decide +kernel⟩, List.mem_of_getElem? (i := 105) (by decide +kernel), List.mem_of_getElem? (i := 376) (by decide +kernel), List.mem_of_getElem? (i := 377) (by decide +kernel)⟩
theorem lw_p8 : lw_okq (⟨"java/util/ArrayList", "add", "(Ljava/lang/Object;[Ljava/lang/Object;I)V"⟩, 3) := ⟨⟨by decide +kernel, by decide +kernel⟩, List.mem_of_getElem? (i := 118) (by decide +kernel), List.mem_of_getElem? (i := 434) (by decide +kernel), List.mem_of_getElem? (i := 435) (by decide +kernel)⟩
theorem lw_p9 : lw_okq (⟨"java/util/ArrayList", "grow", "()[Ljava/lang/Object;"⟩, 3) := ⟨⟨by decide +kernel, by decide +kernel⟩, List.mem_of_getElem? (i := 118) (by decide +kernel), List.mem_of_getElem? (i := 438) (by decide +kernel), List.mem_of_getElem? (i := 439) (by decide +kernel)⟩
theorem lw_p10 : lw_okq (⟨"java/util/ArrayList", "grow", "(I)[Ljava/lang/Object;"⟩, 3) := ⟨⟨by decide +kernel, by decide +kernel⟩, List.mem_of_getElem? (i := 118) (by decide +kernel), List.mem_of_getElem? (i := 442) (by decide +kernel), List.mem_of_getElem? (i := 443) (by decide +kernel)⟩
theorem lw_p11 : lw_okq (⟨"LeasedFiles$Server", "recall", "(LLeasedFiles$Message;LLeasedFiles$Pool;)V"⟩, 8) := ⟨⟨by decide +kernel, by decide +kernel⟩, List.mem_of_getElem? (i := 105) (by decide +kernel), List.mem_of_getElem? (i := 488) (by decide +kernel), List.mem_of_getElem? (i := 489) (by decide +kernel)⟩
theorem lw_p12 : lw_okq (⟨"LeasedFiles$Server", "receiveFree", "(LLeasedFiles$Message;)V"⟩, 8) := ⟨⟨by decide +kernel, by decide +kernel⟩, List.mem_of_getElem? (i := 105) (by decide +kernel), List.mem_of_getElem? (i := 492) (by decide +kernel), List.mem_of_getElem? (i := 493) (by decide +kernel)⟩
theorem lw_p13 : lw_okq (⟨"LeasedFiles$Server", "storeWhatMay", "(LLeasedFiles$Pool;)I"⟩, 8) := ⟨⟨by decide +kernel, by decide +kernel⟩, List.mem_of_getElem? (i := 105) (by decide +kernel), List.mem_of_getElem? (i := 496) (by decide +kernel), List.mem_of_getElem? (i := 497) (by decide +kernel)⟩
theorem lw_p14 : lw_okq (⟨"LeasedFiles$Server", "mayStore", "(LLeasedFiles$ServedFile;)Z"⟩, 8) := ⟨⟨by decide +kernel, by decide +kernel⟩, List.mem_of_getElem? (i := 105) (by decide +kernel), List.mem_of_getElem? (i := 500) (by decide +kernel), List.mem_of_getElem? (i := 501) (by decide +kernel)⟩
theorem lw_p15 : lw_okq (⟨"LeasedFiles$Server", "storeFirst", "(ILLeasedFiles$Pool;)V"⟩, 8) := ⟨⟨by decide +kernel, by decide +kernel⟩, List.mem_of_getElem? (i := 105) (by decide +kernel), List.mem_of_getElem? (i := 508) (by decide +kernel), List.mem_of_getElem? (i := 509) (by decide +kernel)⟩
def lw_privs_1 : List (MethodName × Nat) := [(⟨"LeasedFiles", "hasClient", "(I)Z"⟩, 4), (⟨"LeasedFiles", "hasFile", "(I)Z"⟩, 4), (⟨"LeasedFiles$Client", "startOperation", "(IZ)V"⟩, 13), (⟨"LeasedFiles$Client", "finish", "(II)V"⟩, 13), (⟨"LeasedFiles$Client", "sendRequest", "(LLeasedFiles$Pool;)V"⟩, 13), (⟨"LeasedFiles", "isDone", "(I)Z"⟩, 4), (⟨"LeasedFiles$Server", "receiveAsk", "(LLeasedFiles$Message;LLeasedFiles$Pool;)V"⟩, 8), (⟨"LeasedFiles$Server", "receivePut", "(LLeasedFiles$Message;LLeasedFiles$Pool;)V"⟩, 8), (⟨"java/util/ArrayList", "add", "(Ljava/lang/Object;[Ljava/lang/Object;I)V"⟩, 3), (⟨"java/util/ArrayList", "grow", "()[Ljava/lang/Object;"⟩, 3), (⟨"java/util/ArrayList", "grow", "(I)[Ljava/lang/Object;"⟩, 3), (⟨"LeasedFiles$Server", "recall", "(LLeasedFiles$Message;LLeasedFiles$Pool;)V"⟩, 8), (⟨"LeasedFiles$Server", "receiveFree", "(LLeasedFiles$Message;)V"⟩, 8), (⟨"LeasedFiles$Server", "storeWhatMay", "(LLeasedFiles$Pool;)I"⟩, 8), (⟨"LeasedFiles$Server", "mayStore", "(LLeasedFiles$ServedFile;)Z"⟩, 8), (⟨"LeasedFiles$Server", "storeFirst", "(ILLeasedFiles$Pool;)V"⟩, 8)]
theorem lw_r1 : ∀ q ∈ lw_privs_1, lw_okq q := List.forall_mem_cons.mpr ⟨lw_p0, List.forall_mem_cons.mpr ⟨lw_p1, List.forall_mem_cons.mpr ⟨lw_p2, List.forall_mem_cons.mpr ⟨lw_p3, List.forall_mem_cons.mpr ⟨lw_p4, List.forall_mem_cons.mpr ⟨lw_p5, List.forall_mem_cons.mpr ⟨lw_p6, List.forall_mem_cons.mpr ⟨lw_p7, List.forall_mem_cons.mpr ⟨lw_p8, List.forall_mem_cons.mpr ⟨lw_p9, List.forall_mem_cons.mpr ⟨lw_p10, List.forall_mem_cons.mpr ⟨lw_p11, List.forall_mem_cons.mpr ⟨lw_p12, List.forall_mem_cons.mpr ⟨lw_p13, List.forall_mem_cons.mpr ⟨lw_p14, List.forall_mem_cons.mpr ⟨lw_p15, fun _ h => absurd h List.not_mem_nil⟩⟩⟩⟩⟩⟩⟩⟩⟩⟩⟩⟩⟩⟩⟩⟩
theorem lw_p16 : lw_okq (⟨"java/util/ArrayList", "fastRemove", "([Ljava/lang/Object;I)V"⟩, 3) := ⟨⟨by decide +kernel, by decide +kernel⟩, List.mem_of_getElem? (i := 118) (by decide +kernel), List.mem_of_getElem? (i := 516) (by decide +kernel), List.mem_of_getElem? (i := 517) (by decide +kernel)⟩
theorem lw_p17 : lw_okq (⟨"LeasedFiles$Client", "receiveGiven", "(LLeasedFiles$Message;)V"⟩, 13) := ⟨⟨by decide +kernel, by decide +kernel⟩, List.mem_of_getElem? (i := 192) (by decide +kernel), List.mem_of_getElem? (i := 526) (by decide +kernel), List.mem_of_getElem? (i := 527) (by decide +kernel)⟩
theorem lw_p18 : lw_okq (⟨"LeasedFiles$Client", "waitsToRead", "()Z"⟩, 13) := ⟨⟨by decide +kernel, by decide +kernel⟩, List.mem_of_getElem? (i := 192) (by decide +kernel), List.mem_of_getElem? (i := 530) (by decide +kernel), List.mem_of_getElem? (i := 531) (by decide +kernel)⟩
theorem lw_p19 : lw_okq (⟨"LeasedFiles$Client", "receiveStored", "(LLeasedFiles$Message;)V"⟩, 13) := ⟨⟨by decide +kernel, by decide +kernel⟩, List.mem_of_getElem? (i := 192) (by decide +kernel), List.mem_of_getElem? (i := 538) (by decide +kernel), List.mem_of_getElem? (i := 539) (by decide +kernel)⟩
theorem lw_p20 : lw_okq (⟨"LeasedFiles$Client", "waitsToWrite", "()Z"⟩, 13) := ⟨⟨by decide +kernel, by decide +kernel⟩, List.mem_of_getElem? (i := 192) (by decide +kernel), List.mem_of_getElem? (i := 542) (by decide +kernel), List.mem_of_getElem? (i := 543) (by decide +kernel)⟩
theorem lw_p21 : lw_okq (⟨"LeasedFiles$Client", "receiveRecall", "(LLeasedFiles$Message;LLeasedFiles$Pool;)V"⟩, 13) := ⟨⟨by decide +kernel, by decide +kernel⟩, List.mem_of_getElem? (i := 192) (by decide +kernel), List.mem_of_getElem? (i := 546) (by decide +kernel), List.mem_of_getElem? (i := 547) (by decide +kernel)⟩
theorem lw_p22 : lw_okq (⟨"LeasedFilesModel", "isClient", "(I)Z"⟩, 34) := ⟨⟨by decide +kernel, by decide +kernel⟩, List.mem_of_getElem? (i := 658) (by decide +kernel), List.mem_of_getElem? (i := 772) (by decide +kernel), List.mem_of_getElem? (i := 773) (by decide +kernel)⟩
theorem lw_p23 : lw_okq (⟨"LeasedFilesModel", "isFile", "(I)Z"⟩, 34) := ⟨⟨by decide +kernel, by decide +kernel⟩, List.mem_of_getElem? (i := 658) (by decide +kernel), List.mem_of_getElem? (i := 776) (by decide +kernel), List.mem_of_getElem? (i := 777) (by decide +kernel)⟩
theorem lw_p24 : lw_okq (⟨"LeasedFilesModel", "begin", "(IIZI)V"⟩, 34) := ⟨⟨by decide +kernel, by decide +kernel⟩, List.mem_of_getElem? (i := 658) (by decide +kernel), List.mem_of_getElem? (i := 780) (by decide +kernel), List.mem_of_getElem? (i := 781) (by decide +kernel)⟩
theorem lw_p25 : lw_okq (⟨"LeasedFilesModel", "finish", "(III)V"⟩, 34) := ⟨⟨by decide +kernel, by decide +kernel⟩, List.mem_of_getElem? (i := 658) (by decide +kernel), List.mem_of_getElem? (i := 784) (by decide +kernel), List.mem_of_getElem? (i := 785) (by decide +kernel)⟩
theorem lw_p26 : lw_okq (⟨"LeasedFilesModel", "sendOperation", "(I)V"⟩, 34) := ⟨⟨by decide +kernel, by decide +kernel⟩, List.mem_of_getElem? (i := 658) (by decide +kernel), List.mem_of_getElem? (i := 788) (by decide +kernel), List.mem_of_getElem? (i := 789) (by decide +kernel)⟩
theorem lw_p27 : lw_okq (⟨"LeasedFilesModel", "send", "(IIIIIII)V"⟩, 34) := ⟨⟨by decide +kernel, by decide +kernel⟩, List.mem_of_getElem? (i := 658) (by decide +kernel), List.mem_of_getElem? (i := 792) (by decide +kernel), List.mem_of_getElem? (i := 793) (by decide +kernel)⟩
theorem lw_p28 : lw_okq (⟨"LeasedFilesModel", "isMessage", "(I)Z"⟩, 34) := ⟨⟨by decide +kernel, by decide +kernel⟩, List.mem_of_getElem? (i := 658) (by decide +kernel), List.mem_of_getElem? (i := 820) (by decide +kernel), List.mem_of_getElem? (i := 821) (by decide +kernel)⟩
theorem lw_p29 : lw_okq (⟨"LeasedFilesModel", "takeOut", "(I)V"⟩, 34) := ⟨⟨by decide +kernel, by decide +kernel⟩, List.mem_of_getElem? (i := 658) (by decide +kernel), List.mem_of_getElem? (i := 824) (by decide +kernel), List.mem_of_getElem? (i := 825) (by decide +kernel)⟩
theorem lw_p30 : lw_okq (⟨"LeasedFilesModel", "given", "(IIIIII)V"⟩, 34) := ⟨⟨by decide +kernel, by decide +kernel⟩, List.mem_of_getElem? (i := 658) (by decide +kernel), List.mem_of_getElem? (i := 828) (by decide +kernel), List.mem_of_getElem? (i := 829) (by decide +kernel)⟩
theorem lw_p31 : lw_okq (⟨"LeasedFilesModel", "stored", "(III)V"⟩, 34) := ⟨⟨by decide +kernel, by decide +kernel⟩, List.mem_of_getElem? (i := 658) (by decide +kernel), List.mem_of_getElem? (i := 832) (by decide +kernel), List.mem_of_getElem? (i := 833) (by decide +kernel)⟩
def lw_privs_2 : List (MethodName × Nat) := [(⟨"java/util/ArrayList", "fastRemove", "([Ljava/lang/Object;I)V"⟩, 3), (⟨"LeasedFiles$Client", "receiveGiven", "(LLeasedFiles$Message;)V"⟩, 13), (⟨"LeasedFiles$Client", "waitsToRead", "()Z"⟩, 13), (⟨"LeasedFiles$Client", "receiveStored", "(LLeasedFiles$Message;)V"⟩, 13), (⟨"LeasedFiles$Client", "waitsToWrite", "()Z"⟩, 13), (⟨"LeasedFiles$Client", "receiveRecall", "(LLeasedFiles$Message;LLeasedFiles$Pool;)V"⟩, 13), (⟨"LeasedFilesModel", "isClient", "(I)Z"⟩, 34), (⟨"LeasedFilesModel", "isFile", "(I)Z"⟩, 34), (⟨"LeasedFilesModel", "begin", "(IIZI)V"⟩, 34), (⟨"LeasedFilesModel", "finish", "(III)V"⟩, 34), (⟨"LeasedFilesModel", "sendOperation", "(I)V"⟩, 34), (⟨"LeasedFilesModel", "send", "(IIIIIII)V"⟩, 34), (⟨"LeasedFilesModel", "isMessage", "(I)Z"⟩, 34), (⟨"LeasedFilesModel", "takeOut", "(I)V"⟩, 34), (⟨"LeasedFilesModel", "given", "(IIIIII)V"⟩, 34), (⟨"LeasedFilesModel", "stored", "(III)V"⟩, 34)]
theorem lw_r2 : ∀ q ∈ lw_privs_2, lw_okq q := List.forall_mem_cons.mpr ⟨lw_p16, List.forall_mem_cons.mpr ⟨lw_p17, List.forall_mem_cons.mpr ⟨lw_p18, List.forall_mem_cons.mpr ⟨lw_p19, List.forall_mem_cons.mpr ⟨lw_p20, List.forall_mem_cons.mpr ⟨lw_p21, List.forall_mem_cons.mpr ⟨lw_p22, List.forall_mem_cons.mpr ⟨lw_p23, List.forall_mem_cons.mpr ⟨lw_p24, List.forall_mem_cons.mpr ⟨lw_p25, List.forall_mem_cons.mpr ⟨lw_p26, List.forall_mem_cons.mpr ⟨lw_p27, List.forall_mem_cons.mpr ⟨lw_p28, List.forall_mem_cons.mpr ⟨lw_p29, List.forall_mem_cons.mpr ⟨lw_p30, List.forall_mem_cons.mpr ⟨lw_p31, fun _ h => absurd h List.not_mem_nil⟩⟩⟩⟩⟩⟩⟩⟩⟩⟩⟩⟩⟩⟩⟩⟩
theorem lw_p32 : lw_okq (⟨"LeasedFilesModel", "recalled", "(IIIII)V"⟩, 34) := ⟨⟨by decide +kernel, by decide +kernel⟩, List.mem_of_getElem? (i := 658) (by decide +kernel), List.mem_of_getElem? (i := 836) (by decide +kernel), List.mem_of_getElem? (i := 837) (by decide +kernel)⟩
theorem lw_p33 : lw_okq (⟨"LeasedFilesModel", "asked", "(III)V"⟩, 34) := ⟨⟨by decide +kernel, by decide +kernel⟩, List.mem_of_getElem? (i := 658) (by decide +kernel), List.mem_of_getElem? (i := 840) (by decide +kernel), List.mem_of_getElem? (i := 841) (by decide +kernel)⟩
theorem lw_p34 : lw_okq (⟨"LeasedFilesModel", "firstOf", "(I)I"⟩, 34) := ⟨⟨by decide +kernel, by decide +kernel⟩, List.mem_of_getElem? (i := 658) (by decide +kernel), List.mem_of_getElem? (i := 844) (by decide +kernel), List.mem_of_getElem? (i := 845) (by decide +kernel)⟩
theorem lw_p35 : lw_okq (⟨"LeasedFilesModel", "putCame", "(IIII)V"⟩, 34) := ⟨⟨by decide +kernel, by decide +kernel⟩, List.mem_of_getElem? (i := 658) (by decide +kernel), List.mem_of_getElem? (i := 848) (by decide +kernel), List.mem_of_getElem? (i := 849) (by decide +kernel)⟩
theorem lw_p36 : lw_okq (⟨"LeasedFilesModel", "isLeased", "(II)Z"⟩, 34) := ⟨⟨by decide +kernel, by decide +kernel⟩, List.mem_of_getElem? (i := 658) (by decide +kernel), List.mem_of_getElem? (i := 852) (by decide +kernel), List.mem_of_getElem? (i := 853) (by decide +kernel)⟩
theorem lw_p37 : lw_okq (⟨"LeasedFilesModel", "freed", "(IIIII)V"⟩, 34) := ⟨⟨by decide +kernel, by decide +kernel⟩, List.mem_of_getElem? (i := 658) (by decide +kernel), List.mem_of_getElem? (i := 856) (by decide +kernel), List.mem_of_getElem? (i := 857) (by decide +kernel)⟩
theorem lw_p38 : lw_okq (⟨"LeasedFilesModel", "storeAll", "()I"⟩, 34) := ⟨⟨by decide +kernel, by decide +kernel⟩, List.mem_of_getElem? (i := 658) (by decide +kernel), List.mem_of_getElem? (i := 860) (by decide +kernel), List.mem_of_getElem? (i := 861) (by decide +kernel)⟩
theorem lw_p39 : lw_okq (⟨"LeasedFilesModel", "isFree", "(I)Z"⟩, 34) := ⟨⟨by decide +kernel, by decide +kernel⟩, List.mem_of_getElem? (i := 658) (by decide +kernel), List.mem_of_getElem? (i := 864) (by decide +kernel), List.mem_of_getElem? (i := 865) (by decide +kernel)⟩
theorem lw_p40 : lw_okq (⟨"LeasedFilesModel", "store", "(I)V"⟩, 34) := ⟨⟨by decide +kernel, by decide +kernel⟩, List.mem_of_getElem? (i := 658) (by decide +kernel), List.mem_of_getElem? (i := 868) (by decide +kernel), List.mem_of_getElem? (i := 869) (by decide +kernel)⟩
def lw_privs_3 : List (MethodName × Nat) := [(⟨"LeasedFilesModel", "recalled", "(IIIII)V"⟩, 34), (⟨"LeasedFilesModel", "asked", "(III)V"⟩, 34), (⟨"LeasedFilesModel", "firstOf", "(I)I"⟩, 34), (⟨"LeasedFilesModel", "putCame", "(IIII)V"⟩, 34), (⟨"LeasedFilesModel", "isLeased", "(II)Z"⟩, 34), (⟨"LeasedFilesModel", "freed", "(IIIII)V"⟩, 34), (⟨"LeasedFilesModel", "storeAll", "()I"⟩, 34), (⟨"LeasedFilesModel", "isFree", "(I)Z"⟩, 34), (⟨"LeasedFilesModel", "store", "(I)V"⟩, 34)]
theorem lw_r3 : ∀ q ∈ lw_privs_3, lw_okq q := List.forall_mem_cons.mpr ⟨lw_p32, List.forall_mem_cons.mpr ⟨lw_p33, List.forall_mem_cons.mpr ⟨lw_p34, List.forall_mem_cons.mpr ⟨lw_p35, List.forall_mem_cons.mpr ⟨lw_p36, List.forall_mem_cons.mpr ⟨lw_p37, List.forall_mem_cons.mpr ⟨lw_p38, List.forall_mem_cons.mpr ⟨lw_p39, List.forall_mem_cons.mpr ⟨lw_p40, fun _ h => absurd h List.not_mem_nil⟩⟩⟩⟩⟩⟩⟩⟩⟩
def lw_privs : List (MethodName × Nat) := lw_privs_1 ++ (lw_privs_2 ++ (lw_privs_3))
def lw_tbl : List Cond := k2_sels lw_privs ++ tables_1
theorem lw_privs_ok : ∀ q ∈ lw_privs, lw_okq q := by
  show ∀ q ∈ lw_privs_1 ++ (lw_privs_2 ++ (lw_privs_3)), lw_okq q
  exact List.forall_mem_append.mpr ⟨lw_r1, List.forall_mem_append.mpr ⟨lw_r2, lw_r3⟩⟩
end
section
def T_R : u_T := fun k => match k with
  | 0 => ("LeasedFilesModel", "clients", "I", true)
  | 1 => ("LeasedFilesModel", "files", "I", true)
  | 2 => ("LeasedFilesModel", "term", "I", true)
  | 3 => ("LeasedFilesModel", "shorter", "I", true)
  | 4 => ("LeasedFilesModel", "values", "[I", true)
  | 5 => ("LeasedFilesModel", "versions", "[I", true)
  | 6 => ("LeasedFilesModel", "clock", "I", false)
  | 7 => ("LeasedFilesModel", "down", "Z", false)
  | 8 => ("LeasedFilesModel", "epoch", "I", false)
  | 9 => ("LeasedFilesModel", "grace", "I", false)
  | 10 => ("LeasedFilesModel", "leases", "[I", true)
  | 11 => ("LeasedFilesModel", "lastWords", "[I", true)
  | 12 => ("LeasedFilesModel", "lastVersions", "[I", true)
  | 13 => ("LeasedFilesModel", "waiting", "I", false)
  | 14 => ("LeasedFilesModel", "waitClients", "[I", true)
  | 15 => ("LeasedFilesModel", "waitFiles", "[I", true)
  | 16 => ("LeasedFilesModel", "waitWords", "[I", true)
  | 17 => ("LeasedFilesModel", "waitValues", "[I", true)
  | 18 => ("LeasedFilesModel", "clocks", "[I", true)
  | 19 => ("LeasedFilesModel", "words", "[I", true)
  | 20 => ("LeasedFilesModel", "states", "[I", true)
  | 21 => ("LeasedFilesModel", "writing", "[Z", true)
  | 22 => ("LeasedFilesModel", "onFiles", "[I", true)
  | 23 => ("LeasedFilesModel", "toWrite", "[I", true)
  | 24 => ("LeasedFilesModel", "begun", "[I", true)
  | 25 => ("LeasedFilesModel", "spoiled", "[Z", true)
  | 26 => ("LeasedFilesModel", "results", "[I", true)
  | 27 => ("LeasedFilesModel", "resultVersions", "[I", true)
  | 28 => ("LeasedFilesModel", "copies", "[Z", true)
  | 29 => ("LeasedFilesModel", "copyEnds", "[I", true)
  | 30 => ("LeasedFilesModel", "copyValues", "[I", true)
  | 31 => ("LeasedFilesModel", "copyVersions", "[I", true)
  | 32 => ("LeasedFilesModel", "pool", "I", false)
  | _ => ("LeasedFilesModel", "numbers", "[I", true)
def t_R : Nat → FieldType := fun k => match k with
  | 0 => .int
  | 1 => .int
  | 2 => .int
  | 3 => .int
  | 4 => .array .int
  | 5 => .array .int
  | 6 => .int
  | 7 => .boolean
  | 8 => .int
  | 9 => .int
  | 10 => .array .int
  | 11 => .array .int
  | 12 => .array .int
  | 13 => .int
  | 14 => .array .int
  | 15 => .array .int
  | 16 => .array .int
  | 17 => .array .int
  | 18 => .array .int
  | 19 => .array .int
  | 20 => .array .int
  | 21 => .array .boolean
  | 22 => .array .int
  | 23 => .array .int
  | 24 => .array .int
  | 25 => .array .boolean
  | 26 => .array .int
  | 27 => .array .int
  | 28 => .array .boolean
  | 29 => .array .int
  | 30 => .array .int
  | 31 => .array .int
  | 32 => .int
  | _ => .array .int
def T_L : u_T := fun k => match k with
  | 0 => ("LeasedFiles", "pool", "LLeasedFiles$Pool;", true)
  | 1 => ("LeasedFiles", "server", "LLeasedFiles$Server;", true)
  | 2 => ("LeasedFiles", "clients", "[LLeasedFiles$Client;", true)
  | _ => ("LeasedFiles", "files", "I", true)
def t_L : Nat → FieldType := fun k => match k with
  | 0 => .object "LeasedFiles$Pool"
  | 1 => .object "LeasedFiles$Server"
  | 2 => .array (.object "LeasedFiles$Client")
  | _ => .int
def T_C : u_T := fun k => match k with
  | 0 => ("LeasedFiles$Client", "number", "I", true)
  | 1 => ("LeasedFiles$Client", "term", "I", true)
  | 2 => ("LeasedFiles$Client", "copies", "[LLeasedFiles$Copy;", true)
  | 3 => ("LeasedFiles$Client", "clock", "I", false)
  | 4 => ("LeasedFiles$Client", "state", "I", false)
  | 5 => ("LeasedFiles$Client", "word", "I", false)
  | 6 => ("LeasedFiles$Client", "reads", "Z", false)
  | 7 => ("LeasedFiles$Client", "file", "I", false)
  | 8 => ("LeasedFiles$Client", "value", "I", false)
  | 9 => ("LeasedFiles$Client", "startedAt", "I", false)
  | 10 => ("LeasedFiles$Client", "spoiled", "Z", false)
  | 11 => ("LeasedFiles$Client", "doneResult", "I", false)
  | _ => ("LeasedFiles$Client", "doneVersion", "I", false)
def t_C : Nat → FieldType := fun k => match k with
  | 0 => .int
  | 1 => .int
  | 2 => .array (.object "LeasedFiles$Copy")
  | 3 => .int
  | 4 => .int
  | 5 => .int
  | 6 => .boolean
  | 7 => .int
  | 8 => .int
  | 9 => .int
  | 10 => .boolean
  | 11 => .int
  | _ => .int
def T_Y : u_T := fun k => match k with
  | 0 => ("LeasedFiles$Copy", "held", "Z", false)
  | 1 => ("LeasedFiles$Copy", "value", "I", false)
  | 2 => ("LeasedFiles$Copy", "version", "I", false)
  | _ => ("LeasedFiles$Copy", "leaseEnd", "I", false)
def t_Y : Nat → FieldType := fun k => match k with
  | 0 => .boolean
  | 1 => .int
  | 2 => .int
  | _ => .int
def T_M : u_T := fun k => match k with
  | 0 => ("LeasedFiles$Message", "kind", "I", false)
  | 1 => ("LeasedFiles$Message", "client", "I", false)
  | 2 => ("LeasedFiles$Message", "file", "I", false)
  | 3 => ("LeasedFiles$Message", "word", "I", false)
  | 4 => ("LeasedFiles$Message", "a", "I", false)
  | 5 => ("LeasedFiles$Message", "b", "I", false)
  | _ => ("LeasedFiles$Message", "c", "I", false)
def t_M : Nat → FieldType := fun k => match k with
  | 0 => .int
  | 1 => .int
  | 2 => .int
  | 3 => .int
  | 4 => .int
  | 5 => .int
  | _ => .int
def T_P : u_T := fun k => match k with
  | 0 => ("LeasedFiles$Pool", "messages", "[LLeasedFiles$Message;", true)
  | 1 => ("LeasedFiles$Pool", "count", "I", false)
  | _ => ("LeasedFiles$Pool", "takenOut", "LLeasedFiles$Message;", false)
def t_P : Nat → FieldType := fun k => match k with
  | 0 => .array (.object "LeasedFiles$Message")
  | 1 => .int
  | _ => .object "LeasedFiles$Message"
def T_F : u_T := fun k => match k with
  | 0 => ("LeasedFiles$ServedFile", "leaseEnds", "[I", true)
  | 1 => ("LeasedFiles$ServedFile", "waiting", "Ljava/util/ArrayList;", true)
  | 2 => ("LeasedFiles$ServedFile", "value", "I", false)
  | _ => ("LeasedFiles$ServedFile", "version", "I", false)
def t_F : Nat → FieldType := fun k => match k with
  | 0 => .array .int
  | 1 => .object "java/util/ArrayList"
  | 2 => .int
  | _ => .int
def T_S : u_T := fun k => match k with
  | 0 => ("LeasedFiles$Server", "term", "I", true)
  | 1 => ("LeasedFiles$Server", "files", "[LLeasedFiles$ServedFile;", true)
  | 2 => ("LeasedFiles$Server", "lastWords", "[I", true)
  | 3 => ("LeasedFiles$Server", "lastVersions", "[I", true)
  | 4 => ("LeasedFiles$Server", "clock", "I", false)
  | 5 => ("LeasedFiles$Server", "up", "Z", false)
  | 6 => ("LeasedFiles$Server", "epoch", "I", false)
  | _ => ("LeasedFiles$Server", "graceEnd", "I", false)
def t_S : Nat → FieldType := fun k => match k with
  | 0 => .int
  | 1 => .array (.object "LeasedFiles$ServedFile")
  | 2 => .array .int
  | 3 => .array .int
  | 4 => .int
  | 5 => .boolean
  | 6 => .int
  | _ => .int
def T_W : u_T := fun k => match k with
  | 0 => ("LeasedFiles$Write", "client", "I", true)
  | 1 => ("LeasedFiles$Write", "word", "I", true)
  | _ => ("LeasedFiles$Write", "value", "I", true)
def t_W : Nat → FieldType := fun k => match k with
  | 0 => .int
  | 1 => .int
  | _ => .int
def T_A : u_T := fun k => match k with
  | 0 => ("java/util/ArrayList", "elementData", "[Ljava/lang/Object;", false)
  | 1 => ("java/util/ArrayList", "size", "I", false)
  | _ => ("java/util/AbstractList", "modCount", "I", false)
def t_A : Nat → FieldType := fun k => match k with
  | 0 => .array (.object "java/lang/Object")
  | 1 => .int
  | _ => .int
abbrev vwCl : List vw_C := [("LeasedFilesModel", T_R, 34), ("LeasedFiles", T_L, 4), ("LeasedFiles$Client", T_C, 13), ("LeasedFiles$Copy", T_Y, 4), ("LeasedFiles$Message", T_M, 7), ("LeasedFiles$Pool", T_P, 3), ("LeasedFiles$ServedFile", T_F, 4), ("LeasedFiles$Server", T_S, 8), ("LeasedFiles$Write", T_W, 3), ("java/util/ArrayList", T_A, 3)]
def WS : List Cond := lw_tbl.filter goodWord
theorem ws_in {w : Cond} (h : w ∈ lw_tbl) (hg : goodWord w = true) : w ∈ WS := List.mem_filter.mpr ⟨h, hg⟩
theorem ws_at {w : Cond} (i : Nat) (h : tables_1[i]? = some w) (hg : goodWord w = true) : w ∈ WS := ws_in (List.mem_append_right _ (List.mem_of_getElem? h)) hg
theorem ws_sel (i : Nat) {q : MethodName × Nat} (h : lw_privs[i]? = some q) : Cond.selects q.1.cls q.1 q.1 ∈ WS := ws_in (List.mem_append_left _ (List.mem_map.mpr ⟨q, List.mem_of_getElem? h, rfl⟩)) rfl
theorem ws_pl {ws : List Cond} (ps : List Nat) (h : ws = ps.filterMap (fun i => tables_1[i]?)) (hg : ws.all goodWord = true) : ∀ w ∈ ws, w ∈ WS := by
  intro w hw
  have h1 := List.all_eq_true.mp hg w hw
  rw [h] at hw
  obtain ⟨i, -, hi⟩ := List.mem_filterMap.mp hw
  exact ws_at i hi h1
theorem n_R : ∀ a, a < 34 → ∀ b, b < 34 → a ≠ b → (T_R a).2.1 ≠ (T_R b).2.1 := by decide +kernel
theorem tk_R : ∀ k, k < 34 → parseFieldDescriptor (T_R k).2.2.1 = some (t_R k) := by decide +kernel
theorem u_R : ∀ w ∈ u_ws "LeasedFilesModel" T_R 34, w ∈ WS := ws_pl [697, 699, 701, 703, 705, 707, 709, 711, 713, 715, 717, 719, 721, 723, 725, 727, 729, 731, 733, 735, 737, 739, 741, 743, 745, 747, 749, 751, 753, 755, 757, 759, 761, 763] (by decide +kernel) (by decide +kernel)
theorem n_L : ∀ a, a < 4 → ∀ b, b < 4 → a ≠ b → (T_L a).2.1 ≠ (T_L b).2.1 := by decide +kernel
theorem tk_L : ∀ k, k < 4 → parseFieldDescriptor (T_L k).2.2.1 = some (t_L k) := by decide +kernel
theorem u_L : ∀ w ∈ u_ws "LeasedFiles" T_L 4, w ∈ WS := ws_pl [269, 271, 273, 275] (by decide +kernel) (by decide +kernel)
theorem n_C : ∀ a, a < 13 → ∀ b, b < 13 → a ≠ b → (T_C a).2.1 ≠ (T_C b).2.1 := by decide +kernel
theorem tk_C : ∀ k, k < 13 → parseFieldDescriptor (T_C k).2.2.1 = some (t_C k) := by decide +kernel
theorem u_C : ∀ w ∈ u_ws "LeasedFiles$Client" T_C 13, w ∈ WS := ws_pl [238, 240, 242, 244, 246, 248, 250, 252, 254, 256, 258, 260, 262] (by decide +kernel) (by decide +kernel)
theorem n_Y : ∀ a, a < 4 → ∀ b, b < 4 → a ≠ b → (T_Y a).2.1 ≠ (T_Y b).2.1 := by decide +kernel
theorem tk_Y : ∀ k, k < 4 → parseFieldDescriptor (T_Y k).2.2.1 = some (t_Y k) := by decide +kernel
theorem u_Y : ∀ w ∈ u_ws "LeasedFiles$Copy" T_Y 4, w ∈ WS := ws_pl [211, 213, 215, 217] (by decide +kernel) (by decide +kernel)
theorem n_M : ∀ a, a < 7 → ∀ b, b < 7 → a ≠ b → (T_M a).2.1 ≠ (T_M b).2.1 := by decide +kernel
theorem tk_M : ∀ k, k < 7 → parseFieldDescriptor (T_M k).2.2.1 = some (t_M k) := by decide +kernel
theorem u_M : ∀ w ∈ u_ws "LeasedFiles$Message" T_M 7, w ∈ WS := ws_pl [77, 79, 81, 83, 85, 87, 89] (by decide +kernel) (by decide +kernel)
theorem n_P : ∀ a, a < 3 → ∀ b, b < 3 → a ≠ b → (T_P a).2.1 ≠ (T_P b).2.1 := by decide +kernel
theorem tk_P : ∀ k, k < 3 → parseFieldDescriptor (T_P k).2.2.1 = some (t_P k) := by decide +kernel
theorem u_P : ∀ w ∈ u_ws "LeasedFiles$Pool" T_P 3, w ∈ WS := ws_pl [97, 99, 101] (by decide +kernel) (by decide +kernel)
theorem n_F : ∀ a, a < 4 → ∀ b, b < 4 → a ≠ b → (T_F a).2.1 ≠ (T_F b).2.1 := by decide +kernel
theorem tk_F : ∀ k, k < 4 → parseFieldDescriptor (T_F k).2.2.1 = some (t_F k) := by decide +kernel
theorem u_F : ∀ w ∈ u_ws "LeasedFiles$ServedFile" T_F 4, w ∈ WS := ws_pl [153, 155, 157, 159] (by decide +kernel) (by decide +kernel)
theorem n_S : ∀ a, a < 8 → ∀ b, b < 8 → a ≠ b → (T_S a).2.1 ≠ (T_S b).2.1 := by decide +kernel
theorem tk_S : ∀ k, k < 8 → parseFieldDescriptor (T_S k).2.2.1 = some (t_S k) := by decide +kernel
theorem u_S : ∀ w ∈ u_ws "LeasedFiles$Server" T_S 8, w ∈ WS := ws_pl [173, 175, 177, 179, 181, 183, 185, 187] (by decide +kernel) (by decide +kernel)
theorem n_W : ∀ a, a < 3 → ∀ b, b < 3 → a ≠ b → (T_W a).2.1 ≠ (T_W b).2.1 := by decide +kernel
theorem tk_W : ∀ k, k < 3 → parseFieldDescriptor (T_W k).2.2.1 = some (t_W k) := by decide +kernel
theorem u_W : ∀ w ∈ u_ws "LeasedFiles$Write" T_W 3, w ∈ WS := ws_pl [422, 424, 426] (by decide +kernel) (by decide +kernel)
theorem n_A : ∀ a, a < 3 → ∀ b, b < 3 → a ≠ b → (T_A a).2.1 ≠ (T_A b).2.1 := by decide +kernel
theorem tk_A : ∀ k, k < 3 → parseFieldDescriptor (T_A k).2.2.1 = some (t_A k) := by decide +kernel
theorem u_A : ∀ w ∈ u_ws "java/util/ArrayList" T_A 3, w ∈ WS := ws_pl [136, 138, 140] (by decide +kernel) (by decide +kernel)
end
section
/-! worlds as maps: the addresses, and what each holds -/
abbrev wd : Type := List Nat × (Nat → va_E)
abbrev wl (w : wd) : va_W := va_pl w.1 w.2
def wh (w : wd) (a : Nat) (e : va_E) : Prop := a ∈ w.1 ∧ w.2 a = e
def wu (w : wd) (a : Nat) (e : va_E) : wd := (w.1, va_up w.2 a e)
def wn (w : wd) (a : Nat) (e : va_E) : wd := (w.1 ++ [a], va_up w.2 a e)
theorem wh.us {w : wd} {a : Nat} {e e0 : va_E} (h : wh w a e0) : wh (wu w a e) a e := ⟨h.1, va_up_self _ _ _⟩
theorem wh.un {w : wd} {a b : Nat} {e e' : va_E} (h : wh w b e') (hn : b ≠ a) : wh (wu w a e) b e' := ⟨h.1, (va_up_ne w.2 e hn).trans h.2⟩
theorem wh.ns {w : wd} {a : Nat} {e : va_E} : wh (wn w a e) a e := ⟨List.mem_append_right _ (List.mem_singleton.mpr rfl), va_up_self _ _ _⟩
theorem wh.nn {w : wd} {a b : Nat} {e e' : va_E} (h : wh w b e') (hq : a ∉ w.1) : wh (wn w a e) b e' := ⟨List.mem_append_left _ h.1, (va_up_ne (k := a) (j := b) w.2 e (fun z => hq (by rw [← z]; exact h.1))).trans h.2⟩
theorem wh.inj {w : wd} {a : Nat} {e e' : va_E} (h : wh w a e) (h' : wh w a e') : e = e' := h.2.symm.trans h'.2
theorem wh.ne {w : wd} {a b : Nat} {e e' : va_E} (h : wh w a e) (h' : wh w b e') (hn : e ≠ e') : a ≠ b := fun z => hn (wh.inj h (z ▸ h'))
theorem wu_wu (w : wd) (a : Nat) (e e' : va_E) : wu (wu w a e) a e' = wu w a e' := by
  refine Prod.ext rfl (funext fun j => ?_)
  show va_up (va_up w.2 a e) a e' j = va_up w.2 a e' j
  by_cases h : j = a
  · rw [h, va_up_self, va_up_self]
  · rw [va_up_ne _ _ h, va_up_ne _ _ h, va_up_ne _ _ h]
theorem wh.at {w : wd} {a : Nat} {e : va_E} (h : wh w a e) : ∃ k : Nat, (wl w)[k]? = some (a, e) := by
  obtain ⟨k, hk⟩ := va_pl_get (X := []) (f := w.2) h.1
  exact ⟨k, by rw [← h.2]; exact hk⟩
theorem wh.set {A : Nat → Prop} {w : wd} {a k : Nat} {e e' : va_E} (hD : va_D A (wl w)) (h : wh w a e) (hk : (wl w)[k]? = some (a, e)) : (wl w).set k (a, e') = wl (wu w a e') :=
  va_pl_set (X := []) hD h.1 (by rw [h.2]; exact hk)
theorem wl.push {A : Nat → Prop} {w : wd} {q : Nat} {e : va_E} (hD : va_D A (wl w ++ [(q, e)])) : q ∉ w.1 ∧ wl w ++ [(q, e)] = wl (wn w q e) := by
  have h : q ∉ w.1 := va_pl_fresh2 (X := []) hD
  exact ⟨h, va_pl_push h⟩
/-! what every method fixes -/
abbrev mY : Type := MethodName × ByteArray × Nat × Option FieldType
abbrev gE : Type := Launch × va_G × (Nat → ClassId) × (Nat → Nat)
/-- the room, which cells may change, the end, what more is known of the start -/
abbrev gZ : Type := Room × (Nat → Prop) × (Option Value → wd → Prop) × (State → Prop)
abbrev rmD (d mc ms : Nat) : Room := { frames := d, cells := mc, slots := ms, locals := 37 * d }
def gQ (E : gE) (Z : gZ) : Array Value → State → Outcome → State → Prop := fun _ st oc t => (∃ (r : Option Value) (w : wd), oc = .returned r ∧ Z.2.2.1 r w ∧ va_P E.2.1 vwCl (wl w) t.heap ∧ va_D Z.2.1 (wl w)) ∧ va_F Z.2.1 st t
theorem ws_good {w : Cond} (h : w ∈ WS) : (w.onTables && w.keeps) = true ∨ ∃ ty, w = .arrayClass ty := good_of_word (List.mem_filter.mp h).2
/-- words that no reader of steady words carries -/
def nestW : Cond → Bool
  | .fieldLinkNest .. => true
  | .methodLinkNest .. => true
  | .castable .. => true
  | .declares .. => true
  | _ => false
def tyl (E : gE) : List (ClassId × FieldType) := [(E.2.2.1 0, .int), (E.2.2.1 1, .boolean), (E.2.2.1 2, .object "LeasedFiles$Message"), (E.2.2.1 3, .object "LeasedFiles$Client"), (E.2.2.1 4, .object "LeasedFiles$Copy"), (E.2.2.1 5, .object "LeasedFiles$ServedFile"), (E.2.2.1 6, .object "java/lang/Object")]
def arrO : List String := ["LeasedFiles$Message", "LeasedFiles$Client", "LeasedFiles$Copy", "LeasedFiles$ServedFile", "java/lang/Object"]
def Kg (E : gE) (U : State) : Prop := va_K E.2.1 vwCl (tyl E) U ∧ (∀ w ∈ lw_tbl, nestW w = true → va_Nw w U) ∧ (∀ C ∈ arrO, va_AO C U) ∧ va_Mi "[Ljava/lang/Object;" (E.2.2.2 1) U
theorem Kg.warm {E : gE} {s U : State} (hW : s.WarmedH U.vm) (h : Kg E s) : Kg E U := by
  refine ⟨va_K.moved hW.alike h.1, fun w hw hn => ?_, fun C hC => (h.2.2.1 C hC).moved hW.alike, h.2.2.2.moved hW.alike⟩
  have hz := h.2.1 w hw hn
  cases w <;> first | (simp [nestW] at hn; done) | exact va_Nw.warmF hW hz | exact va_Nw.warmM hW hz | exact va_Nw.warmC hW hz | exact va_Nw.warmD hW hz
theorem Kg.call {E : gE} {U : State} {g : JFrame} {mk : MethodId} {a : Array Value} (h : Kg E U) : Kg E (U.calling g mk a) := by
  refine ⟨va_K.moved (u := U) (U := U.calling g mk a) (Vm.Alike.refl U.vm) h.1, fun w hw hn => ?_, fun C hC => (h.2.2.1 C hC).moved (u := U) (U := U.calling g mk a) (Vm.Alike.refl U.vm), h.2.2.2.moved (u := U) (U := U.calling g mk a) (Vm.Alike.refl U.vm)⟩
  refine va_Nw.same (u := U) (U := U.calling g mk a) ?_ rfl (h.2.1 w hw hn)
  cases w <;> first | (simp [nestW] at hn; done) | rfl
/-- statics that nobody writes: the list's empty array -/
def Zg (E : gE) (A : Nat → Prop) (U : State) (H : Heap) : Prop := va_Z "java/util/ArrayList" "DEFAULTCAPACITY_EMPTY_ELEMENTDATA" "[Ljava/lang/Object;" (.ref (E.2.2.2 0)) A U H ∧ va_T (.object "java/lang/Object") (E.2.2.2 0) 0 (fun _ => .null) A U H
theorem Zg.moved {E : gE} {A : Nat → Prop} {u U : State} {H : Heap} (hvm : u.vm.Alike U.vm) (h : Zg E A u H) : Zg E A U H := ⟨va_Z.moved hvm h.1, va_T.moved hvm h.2⟩
theorem Zg.kept {E : gE} {A : Nat → Prop} {U : State} {H H1 : Heap} (h : Zg E A U H) (hq : ∀ a : Nat, a < H.size → ¬ A a → H1[a]? = H[a]?) : Zg E A U H1 := ⟨h.1.kept hq, h.2.kept hq⟩
theorem Zg.narrow {E : gE} {A B : Nat → Prop} {U : State} {H : Heap} (h : Zg E A U H) (hAB : ∀ q, B q → A q) : Zg E B U H := ⟨h.1.narrow hAB, h.2.narrow hAB⟩
def gX (E : gE) (Y : mY) (Z : gZ) (p : Program) (s : State) (m : MethodId) (args : Array Value) (meth : Method) (c : Code) : Prop :=
  p.tables.exec = Jvm.exec ∧ c.code = Y.2.1 ∧ c.maxLocals = Y.2.2.1 ∧ s.vm.findClass Y.1.cls = some m.cls ∧ (∀ w ∈ WS, w.before args s = true) ∧ meth.locks = false ∧ meth.sig.returnType = Y.2.2.2 ∧ meth.name = Y.1.name ∧ Kg E s ∧ Zg E Z.2.1 s s.heap ∧ (∀ q : Nat, s.heap.size ≤ q → Z.2.1 q) ∧ Z.2.2.2 s
section GX
variable {E : gE} {Y : mY} {Z : gZ} {p : Program} {s : State} {m : MethodId} {args : Array Value} {meth : Method} {c : Code}
theorem gX.x (X : gX E Y Z p s m args meth c) : p.tables.exec = Jvm.exec := X.1
theorem gX.b (X : gX E Y Z p s m args meth c) : c.code = Y.2.1 := X.2.1
theorem gX.ml (X : gX E Y Z p s m args meth c) : c.maxLocals = Y.2.2.1 := X.2.2.1
theorem gX.own (X : gX E Y Z p s m args meth c) : s.vm.findClass Y.1.cls = some m.cls := X.2.2.2.1
theorem gX.ts (X : gX E Y Z p s m args meth c) : ∀ w ∈ WS, w.before args s = true := X.2.2.2.2.1
theorem gX.lk (X : gX E Y Z p s m args meth c) : meth.locks = false := X.2.2.2.2.2.1
theorem gX.rt (X : gX E Y Z p s m args meth c) : meth.sig.returnType = Y.2.2.2 := X.2.2.2.2.2.2.1
theorem gX.nm (X : gX E Y Z p s m args meth c) : meth.name = Y.1.name := X.2.2.2.2.2.2.2.1
theorem gX.K (X : gX E Y Z p s m args meth c) : Kg E s := X.2.2.2.2.2.2.2.2.1
theorem gX.Zs (X : gX E Y Z p s m args meth c) : Zg E Z.2.1 s s.heap := X.2.2.2.2.2.2.2.2.2.1
theorem gX.A (X : gX E Y Z p s m args meth c) : ∀ q : Nat, s.heap.size ≤ q → Z.2.1 q := X.2.2.2.2.2.2.2.2.2.2.1
theorem gX.ex (X : gX E Y Z p s m args meth c) : Z.2.2.2 s := X.2.2.2.2.2.2.2.2.2.2.2
end GX
/-- the machine, at pc with these locals, this stack, this world, so many cells and slots made: comes to the contract's end -/
def G (E : gE) (Y : mY) (Z : gZ) (pc : Nat) (lv : List (Nat × Value)) (st : List Value) (w : wd) (ce sl : Nat) : Prop :=
  ∀ (p : Program) (e : Env) (s : State) (m : MethodId) (args : Array Value) (below : List Frame) (meth : Method) (c : Code) (H : Heap) (locs : List Loc) (ls : Array Slot),
    gX E Y Z p s m args meth c → lv_has ls Y.2.2.1 lv → va_P E.2.1 vwCl (wl w) H → va_D Z.2.1 (wl w) → va_S Z.2.1 s.heap H locs →
    W p E.1 e (Z.1) s m args below meth c H locs ce sl (MQ below (gQ E Z) args s Z.1.cells Z.1.slots Z.2.1) (F0 m pc ls st)
def gP (E : gE) (av : List Value) (w : wd) (n0 : Nat) : Array Value → State → Prop := fun v U => v = av.toArray ∧ U.heap.size = n0 ∧ va_P E.2.1 vwCl (wl w) U.heap ∧ va_D (fun _ => True) (wl w) ∧ Kg E U ∧ Zg E (va_A (wl w) n0) U U.heap
/-- a method's contract from the world w: it ends with Q -/
def Cn (E : gE) (Y : mY) (d mc ms : Nat) (av : List Value) (w : wd) (Q : Option Value → wd → Prop) : Prop :=
  ∀ n0 : Nat, Met E.1 Y.1 (.code Y.1 Y.2.1 Y.2.2.1 Y.2.2.2 :: WS) (rmD d mc ms) (gP E av w n0) (gQ E (rmD d mc ms, va_A (wl w) n0, Q, fun _ => True)) mc ms (va_A (wl w) n0)
theorem Cn.of {E : gE} {Y : mY} {d mc ms : Nat} {av : List Value} {w : wd} {Q : Option Value → wd → Prop} (hy : plainName Y.1.cls = true) (hn : (lg_sl av).length ≤ Y.2.2.1) (h : ∀ A : Nat → Prop, G E Y (rmD d mc ms, A, Q, fun _ => True) 0 (lv_args 0 av) [] w 0 0) : Cn E Y d mc ms av w Q := by
  intro n0
  refine Met.ofW (cc := Y.2.1) (maxL := Y.2.2.1) (ret := Y.2.2.2) hy rfl ?_
  intro p e s m args below meth c s₁ B hml hv
  obtain ⟨rfl, hsz, hP, hD, hK, hZ⟩ := hv
  subst hsz
  rw [lg_entry_eq]
  exact h _ p e s m _ below meth c s.heap [] _ ⟨B.exec, B.bytes, hml, findClass_of_methodNamed B.named, fun w hw => atoms_spec B.pre w (List.mem_cons_of_mem _ hw), B.notSynchronized, B.returns, (name_of_methodNamed B.named B.method).1, hK, hZ, fun q h => Or.inr h, trivial⟩ (lv_entry av hn) hP hD.self va_S.rf
end
section
section GG
variable {E : gE} {Y : mY} {Z : gZ} {pc : Nat} {lv : List (Nat × Value)} {st : List Value} {w : wd} {ce sl : Nat}
theorem g_iconst {n : Int} {v : Int32} (hd : decode Y.2.1 pc = .ok (.iconst n, 1)) (hv : Int32.ofInt n = v) (k : G E Y Z (pc + 1) lv (.int v :: st) w ce sl) : G E Y Z pc lv (st) w ce sl := by
  intro p e s m args below meth c H locs ls X hl hP hD hS
  exact lv_iconst X.x X.b hd hv (k p e s m args below meth c H locs ls X hl hP hD hS)
theorem g_bipush {n : Int} {v : Int32} (hd : decode Y.2.1 pc = .ok (.bipush n, 2)) (hv : (Int8.ofInt n).toInt32 = v) (k : G E Y Z (pc + 2) lv (.int v :: st) w ce sl) : G E Y Z pc lv (st) w ce sl := by
  intro p e s m args below meth c H locs ls X hl hP hD hS
  exact lv_bipush X.x X.b hd hv (k p e s m args below meth c H locs ls X hl hP hD hS)
theorem g_sipush {n : Int} {v : Int32} (hd : decode Y.2.1 pc = .ok (.sipush n, 3)) (hv : (Int16.ofInt n).toInt32 = v) (k : G E Y Z (pc + 3) lv (.int v :: st) w ce sl) : G E Y Z pc lv (st) w ce sl := by
  intro p e s m args below meth c H locs ls X hl hP hD hS
  exact lv_sipush X.x X.b hd hv (k p e s m args below meth c H locs ls X hl hP hD hS)
theorem g_iload_n {j : Nat} {i : Fin 4} {x : Int32} (hd : decode Y.2.1 pc = .ok (.iload_n i, 1)) (hk : lv[j]? = some (i.val, .int x)) (k : G E Y Z (pc + 1) lv (.int x :: st) w ce sl) : G E Y Z pc lv (st) w ce sl := by
  intro p e s m args below meth c H locs ls X hl hP hD hS
  exact lv_iload_n X.x X.b hd rfl (lv_at hl j hk) (k p e s m args below meth c H locs ls X hl hP hD hS)
theorem g_iload {j i : Nat} {x : Int32} (hd : decode Y.2.1 pc = .ok (.iload i, 2)) (hk : lv[j]? = some (i, .int x)) (k : G E Y Z (pc + 2) lv (.int x :: st) w ce sl) : G E Y Z pc lv (st) w ce sl := by
  intro p e s m args below meth c H locs ls X hl hP hD hS
  exact lv_iload X.x X.b hd (lv_at hl j hk) (k p e s m args below meth c H locs ls X hl hP hD hS)
theorem g_aload_n {j : Nat} {i : Fin 4} {x : Nat} (hd : decode Y.2.1 pc = .ok (.aload_n i, 1)) (hk : lv[j]? = some (i.val, .ref x)) (k : G E Y Z (pc + 1) lv (.ref x :: st) w ce sl) : G E Y Z pc lv (st) w ce sl := by
  intro p e s m args below meth c H locs ls X hl hP hD hS
  exact lv_aload_n X.x X.b hd rfl (lv_at hl j hk) (k p e s m args below meth c H locs ls X hl hP hD hS)
theorem g_aload {j i : Nat} {x : Nat} (hd : decode Y.2.1 pc = .ok (.aload i, 2)) (hk : lv[j]? = some (i, .ref x)) (k : G E Y Z (pc + 2) lv (.ref x :: st) w ce sl) : G E Y Z pc lv (st) w ce sl := by
  intro p e s m args below meth c H locs ls X hl hP hD hS
  exact lv_aload X.x X.b hd (lv_at hl j hk) (k p e s m args below meth c H locs ls X hl hP hD hS)
theorem g_aload_nN {j : Nat} {i : Fin 4} (hd : decode Y.2.1 pc = .ok (.aload_n i, 1)) (hk : lv[j]? = some (i.val, .null)) (k : G E Y Z (pc + 1) lv (.null :: st) w ce sl) : G E Y Z pc lv (st) w ce sl := by
  intro p e s m args below meth c H locs ls X hl hP hD hS
  exact lv_aload_nN X.x X.b hd rfl (lv_at hl j hk) (k p e s m args below meth c H locs ls X hl hP hD hS)
theorem g_istore_n {i : Fin 4} {x : Int32} {lv' : List (Nat × Value)} (hd : decode Y.2.1 pc = .ok (.istore_n i, 1)) (hn : i.val < Y.2.2.1) (hl' : (i.val, Value.int x) :: lv.filter (fun q => !(q.1 == i.val) && !(q.1 + 1 == i.val && q.2.category == 2)) = lv') (k : G E Y Z (pc + 1) lv' st w ce sl) : G E Y Z pc lv (.int x :: st) w ce sl := by
  intro p e s m args below meth c H locs ls X hl hP hD hS
  exact lv_istore_n X.x X.b hd rfl hl hn hl' (fun ls' h' => k p e s m args below meth c H locs ls' X h' hP hD hS)
theorem g_istore {i : Nat} {x : Int32} {lv' : List (Nat × Value)} (hd : decode Y.2.1 pc = .ok (.istore i, 2)) (hn : i < Y.2.2.1) (hl' : (i, Value.int x) :: lv.filter (fun q => !(q.1 == i) && !(q.1 + 1 == i && q.2.category == 2)) = lv') (k : G E Y Z (pc + 2) lv' st w ce sl) : G E Y Z pc lv (.int x :: st) w ce sl := by
  intro p e s m args below meth c H locs ls X hl hP hD hS
  exact lv_istore X.x X.b hd hl hn hl' (fun ls' h' => k p e s m args below meth c H locs ls' X h' hP hD hS)
theorem g_astore_n {i : Fin 4} {x : Nat} {lv' : List (Nat × Value)} (hd : decode Y.2.1 pc = .ok (.astore_n i, 1)) (hn : i.val < Y.2.2.1) (hl' : (i.val, Value.ref x) :: lv.filter (fun q => !(q.1 == i.val) && !(q.1 + 1 == i.val && q.2.category == 2)) = lv') (k : G E Y Z (pc + 1) lv' st w ce sl) : G E Y Z pc lv (.ref x :: st) w ce sl := by
  intro p e s m args below meth c H locs ls X hl hP hD hS
  exact lv_astore_n X.x X.b hd rfl hl hn hl' (fun ls' h' => k p e s m args below meth c H locs ls' X h' hP hD hS)
theorem g_astore {i : Nat} {x : Nat} {lv' : List (Nat × Value)} (hd : decode Y.2.1 pc = .ok (.astore i, 2)) (hn : i < Y.2.2.1) (hl' : (i, Value.ref x) :: lv.filter (fun q => !(q.1 == i) && !(q.1 + 1 == i && q.2.category == 2)) = lv') (k : G E Y Z (pc + 2) lv' st w ce sl) : G E Y Z pc lv (.ref x :: st) w ce sl := by
  intro p e s m args below meth c H locs ls X hl hP hD hS
  exact lv_astore X.x X.b hd hl hn hl' (fun ls' h' => k p e s m args below meth c H locs ls' X h' hP hD hS)
theorem g_iinc {i j : Nat} {n : Int} {x v : Int32} {lv' : List (Nat × Value)} (hd : decode Y.2.1 pc = .ok (.iinc i n, 3)) (hk : lv[j]? = some (i, .int x)) (hv : x + Int32.ofInt n = v) (hn : i < Y.2.2.1) (hl' : (i, Value.int v) :: lv.filter (fun q => !(q.1 == i) && !(q.1 + 1 == i && q.2.category == 2)) = lv') (k : G E Y Z (pc + 3) lv' st w ce sl) : G E Y Z pc lv st w ce sl := by
  intro p e s m args below meth c H locs ls X hl hP hD hS
  exact lv_iinc X.x X.b hd hl hk hv hn hl' (fun ls' h' => k p e s m args below meth c H locs ls' X h' hP hD hS)
theorem g_iadd {x y : Int32} (hd : decode Y.2.1 pc = .ok (.iadd, 1)) (k : G E Y Z (pc + 1) lv (.int (x + y) :: st) w ce sl) : G E Y Z pc lv (.int y :: .int x :: st) w ce sl := by
  intro p e s m args below meth c H locs ls X hl hP hD hS
  exact lv_iadd X.x X.b hd (k p e s m args below meth c H locs ls X hl hP hD hS)
theorem g_isub {x y : Int32} (hd : decode Y.2.1 pc = .ok (.isub, 1)) (k : G E Y Z (pc + 1) lv (.int (x - y) :: st) w ce sl) : G E Y Z pc lv (.int y :: .int x :: st) w ce sl := by
  intro p e s m args below meth c H locs ls X hl hP hD hS
  exact lv_isub X.x X.b hd (k p e s m args below meth c H locs ls X hl hP hD hS)
theorem g_imul {x y : Int32} (hd : decode Y.2.1 pc = .ok (.imul, 1)) (k : G E Y Z (pc + 1) lv (.int (x * y) :: st) w ce sl) : G E Y Z pc lv (.int y :: .int x :: st) w ce sl := by
  intro p e s m args below meth c H locs ls X hl hP hD hS
  exact lv_imul X.x X.b hd (k p e s m args below meth c H locs ls X hl hP hD hS)
theorem g_iand {x y : Int32} (hd : decode Y.2.1 pc = .ok (.iand, 1)) (k : G E Y Z (pc + 1) lv (.int (x &&& y) :: st) w ce sl) : G E Y Z pc lv (.int y :: .int x :: st) w ce sl := by
  intro p e s m args below meth c H locs ls X hl hP hD hS
  exact lv_iand X.x X.b hd (k p e s m args below meth c H locs ls X hl hP hD hS)
theorem g_ishr {x y : Int32} (hd : decode Y.2.1 pc = .ok (.ishr, 1)) (k : G E Y Z (pc + 1) lv (.int (x >>> (y &&& 31)) :: st) w ce sl) : G E Y Z pc lv (.int y :: .int x :: st) w ce sl := by
  intro p e s m args below meth c H locs ls X hl hP hD hS
  exact lv_ishr X.x X.b hd (k p e s m args below meth c H locs ls X hl hP hD hS)
theorem g_dup {va : Value} (hd : decode Y.2.1 pc = .ok (.dup, 1)) (hc : va.category = 1) (k : G E Y Z (pc + 1) lv (va :: va :: st) w ce sl) : G E Y Z pc lv (va :: st) w ce sl := by
  intro p e s m args below meth c H locs ls X hl hP hD hS
  exact lv_dup X.x X.b hd hc (k p e s m args below meth c H locs ls X hl hP hD hS)
theorem g_pop {va : Value} (hd : decode Y.2.1 pc = .ok (.pop, 1)) (hc : va.category = 1) (k : G E Y Z (pc + 1) lv (st) w ce sl) : G E Y Z pc lv (va :: st) w ce sl := by
  intro p e s m args below meth c H locs ls X hl hP hD hS
  exact lv_pop X.x X.b hd hc (k p e s m args below meth c H locs ls X hl hP hD hS)
theorem g_dup_x1 {va vb : Value} (hd : decode Y.2.1 pc = .ok (.dup_x1, 1)) (hc : va.category = 1) (hc2 : vb.category = 1) (k : G E Y Z (pc + 1) lv (va :: vb :: va :: st) w ce sl) : G E Y Z pc lv (va :: vb :: st) w ce sl := by
  intro p e s m args below meth c H locs ls X hl hP hD hS
  exact lv_dup_x1 X.x X.b hd hc hc2 (k p e s m args below meth c H locs ls X hl hP hD hS)
theorem g_dup_x2 {va vb vd : Value} (hd : decode Y.2.1 pc = .ok (.dup_x2, 1)) (hc : va.category = 1) (hc2 : vb.category = 1) (hc3 : vd.category = 1) (k : G E Y Z (pc + 1) lv (va :: vb :: vd :: va :: st) w ce sl) : G E Y Z pc lv (va :: vb :: vd :: st) w ce sl := by
  intro p e s m args below meth c H locs ls X hl hP hD hS
  exact lv_dup_x2 X.x X.b hd hc hc2 hc3 (k p e s m args below meth c H locs ls X hl hP hD hS)
theorem g_dup2 {va vb : Value} (hd : decode Y.2.1 pc = .ok (.dup2, 1)) (hc : va.category = 1) (hc2 : vb.category = 1) (k : G E Y Z (pc + 1) lv (va :: vb :: va :: vb :: st) w ce sl) : G E Y Z pc lv (va :: vb :: st) w ce sl := by
  intro p e s m args below meth c H locs ls X hl hP hD hS
  exact lv_dup2_11 X.x X.b hd hc hc2 (k p e s m args below meth c H locs ls X hl hP hD hS)
theorem g_null (hd : decode Y.2.1 pc = .ok (.aconst_null, 1)) (k : G E Y Z (pc + 1) lv (.null :: st) w ce sl) : G E Y Z pc lv (st) w ce sl := by
  intro p e s m args below meth c H locs ls X hl hP hD hS
  exact lv_null X.x X.b hd (k p e s m args below meth c H locs ls X hl hP hD hS)
theorem g_goto {off : Int} {tgt : Nat} (hd : decode Y.2.1 pc = .ok (.goto off, 3)) (ht : (pc : Int) + off = (tgt : Int)) (k : G E Y Z tgt lv st w ce sl) : G E Y Z pc lv st w ce sl := by
  intro p e s m args below meth c H locs ls X hl hP hD hS
  exact lv_goto X.x X.b hd ht (k p e s m args below meth c H locs ls X hl hP hD hS)
theorem g_if_eq {x : Int32} {off : Int} {tgt : Nat} (hd : decode Y.2.1 pc = .ok (.ifCond .eq off, 3)) (ht : (pc : Int) + off = (tgt : Int)) (kt : x = 0 → G E Y Z tgt lv st w ce sl) (kf : ¬ x = 0 → G E Y Z (pc + 3) lv st w ce sl) : G E Y Z pc lv (.int x :: st) w ce sl := by
  intro p e s m args below meth c H locs ls X hl hP hD hS
  exact lv_if_eq X.x X.b hd ht (fun h => kt h p e s m args below meth c H locs ls X hl hP hD hS) (fun h => kf h p e s m args below meth c H locs ls X hl hP hD hS)
theorem g_icmp_eq {x y : Int32} {off : Int} {tgt : Nat} (hd : decode Y.2.1 pc = .ok (.if_icmp .eq off, 3)) (ht : (pc : Int) + off = (tgt : Int)) (kt : x = y → G E Y Z tgt lv st w ce sl) (kf : ¬ x = y → G E Y Z (pc + 3) lv st w ce sl) : G E Y Z pc lv (.int y :: .int x :: st) w ce sl := by
  intro p e s m args below meth c H locs ls X hl hP hD hS
  exact lv_icmp_eq X.x X.b hd ht (fun h => kt h p e s m args below meth c H locs ls X hl hP hD hS) (fun h => kf h p e s m args below meth c H locs ls X hl hP hD hS)
theorem g_if_ne {x : Int32} {off : Int} {tgt : Nat} (hd : decode Y.2.1 pc = .ok (.ifCond .ne off, 3)) (ht : (pc : Int) + off = (tgt : Int)) (kt : ¬ x = 0 → G E Y Z tgt lv st w ce sl) (kf : x = 0 → G E Y Z (pc + 3) lv st w ce sl) : G E Y Z pc lv (.int x :: st) w ce sl := by
  intro p e s m args below meth c H locs ls X hl hP hD hS
  exact lv_if_ne X.x X.b hd ht (fun h => kt h p e s m args below meth c H locs ls X hl hP hD hS) (fun h => kf h p e s m args below meth c H locs ls X hl hP hD hS)
theorem g_icmp_ne {x y : Int32} {off : Int} {tgt : Nat} (hd : decode Y.2.1 pc = .ok (.if_icmp .ne off, 3)) (ht : (pc : Int) + off = (tgt : Int)) (kt : ¬ x = y → G E Y Z tgt lv st w ce sl) (kf : x = y → G E Y Z (pc + 3) lv st w ce sl) : G E Y Z pc lv (.int y :: .int x :: st) w ce sl := by
  intro p e s m args below meth c H locs ls X hl hP hD hS
  exact lv_icmp_ne X.x X.b hd ht (fun h => kt h p e s m args below meth c H locs ls X hl hP hD hS) (fun h => kf h p e s m args below meth c H locs ls X hl hP hD hS)
theorem g_if_lt {x : Int32} {off : Int} {tgt : Nat} (hd : decode Y.2.1 pc = .ok (.ifCond .lt off, 3)) (ht : (pc : Int) + off = (tgt : Int)) (kt : x < 0 → G E Y Z tgt lv st w ce sl) (kf : ¬ x < 0 → G E Y Z (pc + 3) lv st w ce sl) : G E Y Z pc lv (.int x :: st) w ce sl := by
  intro p e s m args below meth c H locs ls X hl hP hD hS
  exact lv_if_lt X.x X.b hd ht (fun h => kt h p e s m args below meth c H locs ls X hl hP hD hS) (fun h => kf h p e s m args below meth c H locs ls X hl hP hD hS)
theorem g_icmp_lt {x y : Int32} {off : Int} {tgt : Nat} (hd : decode Y.2.1 pc = .ok (.if_icmp .lt off, 3)) (ht : (pc : Int) + off = (tgt : Int)) (kt : x < y → G E Y Z tgt lv st w ce sl) (kf : ¬ x < y → G E Y Z (pc + 3) lv st w ce sl) : G E Y Z pc lv (.int y :: .int x :: st) w ce sl := by
  intro p e s m args below meth c H locs ls X hl hP hD hS
  exact lv_icmp_lt X.x X.b hd ht (fun h => kt h p e s m args below meth c H locs ls X hl hP hD hS) (fun h => kf h p e s m args below meth c H locs ls X hl hP hD hS)
theorem g_if_ge {x : Int32} {off : Int} {tgt : Nat} (hd : decode Y.2.1 pc = .ok (.ifCond .ge off, 3)) (ht : (pc : Int) + off = (tgt : Int)) (kt : 0 ≤ x → G E Y Z tgt lv st w ce sl) (kf : ¬ 0 ≤ x → G E Y Z (pc + 3) lv st w ce sl) : G E Y Z pc lv (.int x :: st) w ce sl := by
  intro p e s m args below meth c H locs ls X hl hP hD hS
  exact lv_if_ge X.x X.b hd ht (fun h => kt h p e s m args below meth c H locs ls X hl hP hD hS) (fun h => kf h p e s m args below meth c H locs ls X hl hP hD hS)
theorem g_icmp_ge {x y : Int32} {off : Int} {tgt : Nat} (hd : decode Y.2.1 pc = .ok (.if_icmp .ge off, 3)) (ht : (pc : Int) + off = (tgt : Int)) (kt : y ≤ x → G E Y Z tgt lv st w ce sl) (kf : ¬ y ≤ x → G E Y Z (pc + 3) lv st w ce sl) : G E Y Z pc lv (.int y :: .int x :: st) w ce sl := by
  intro p e s m args below meth c H locs ls X hl hP hD hS
  exact lv_icmp_ge X.x X.b hd ht (fun h => kt h p e s m args below meth c H locs ls X hl hP hD hS) (fun h => kf h p e s m args below meth c H locs ls X hl hP hD hS)
theorem g_if_gt {x : Int32} {off : Int} {tgt : Nat} (hd : decode Y.2.1 pc = .ok (.ifCond .gt off, 3)) (ht : (pc : Int) + off = (tgt : Int)) (kt : 0 < x → G E Y Z tgt lv st w ce sl) (kf : ¬ 0 < x → G E Y Z (pc + 3) lv st w ce sl) : G E Y Z pc lv (.int x :: st) w ce sl := by
  intro p e s m args below meth c H locs ls X hl hP hD hS
  exact lv_if_gt X.x X.b hd ht (fun h => kt h p e s m args below meth c H locs ls X hl hP hD hS) (fun h => kf h p e s m args below meth c H locs ls X hl hP hD hS)
theorem g_icmp_gt {x y : Int32} {off : Int} {tgt : Nat} (hd : decode Y.2.1 pc = .ok (.if_icmp .gt off, 3)) (ht : (pc : Int) + off = (tgt : Int)) (kt : y < x → G E Y Z tgt lv st w ce sl) (kf : ¬ y < x → G E Y Z (pc + 3) lv st w ce sl) : G E Y Z pc lv (.int y :: .int x :: st) w ce sl := by
  intro p e s m args below meth c H locs ls X hl hP hD hS
  exact lv_icmp_gt X.x X.b hd ht (fun h => kt h p e s m args below meth c H locs ls X hl hP hD hS) (fun h => kf h p e s m args below meth c H locs ls X hl hP hD hS)
theorem g_if_le {x : Int32} {off : Int} {tgt : Nat} (hd : decode Y.2.1 pc = .ok (.ifCond .le off, 3)) (ht : (pc : Int) + off = (tgt : Int)) (kt : x ≤ 0 → G E Y Z tgt lv st w ce sl) (kf : ¬ x ≤ 0 → G E Y Z (pc + 3) lv st w ce sl) : G E Y Z pc lv (.int x :: st) w ce sl := by
  intro p e s m args below meth c H locs ls X hl hP hD hS
  exact lv_if_le X.x X.b hd ht (fun h => kt h p e s m args below meth c H locs ls X hl hP hD hS) (fun h => kf h p e s m args below meth c H locs ls X hl hP hD hS)
theorem g_icmp_le {x y : Int32} {off : Int} {tgt : Nat} (hd : decode Y.2.1 pc = .ok (.if_icmp .le off, 3)) (ht : (pc : Int) + off = (tgt : Int)) (kt : x ≤ y → G E Y Z tgt lv st w ce sl) (kf : ¬ x ≤ y → G E Y Z (pc + 3) lv st w ce sl) : G E Y Z pc lv (.int y :: .int x :: st) w ce sl := by
  intro p e s m args below meth c H locs ls X hl hP hD hS
  exact lv_icmp_le X.x X.b hd ht (fun h => kt h p e s m args below meth c H locs ls X hl hP hD hS) (fun h => kf h p e s m args below meth c H locs ls X hl hP hD hS)
theorem g_acmp_eq {rx ry : Option Nat} {off : Int} {tgt : Nat} (hd : decode Y.2.1 pc = .ok (.if_acmp .eq off, 3)) (ht : (pc : Int) + off = (tgt : Int)) (kt : rx = ry → G E Y Z tgt lv st w ce sl) (kf : ¬ rx = ry → G E Y Z (pc + 3) lv st w ce sl) : G E Y Z pc lv (va_rf ry :: va_rf rx :: st) w ce sl := by
  intro p e s m args below meth c H locs ls X hl hP hD hS
  exact lv_acmp_eq X.x X.b hd ht (fun h => kt h p e s m args below meth c H locs ls X hl hP hD hS) (fun h => kf h p e s m args below meth c H locs ls X hl hP hD hS)
theorem g_acmp_ne {rx ry : Option Nat} {off : Int} {tgt : Nat} (hd : decode Y.2.1 pc = .ok (.if_acmp .ne off, 3)) (ht : (pc : Int) + off = (tgt : Int)) (kt : ¬ rx = ry → G E Y Z tgt lv st w ce sl) (kf : rx = ry → G E Y Z (pc + 3) lv st w ce sl) : G E Y Z pc lv (va_rf ry :: va_rf rx :: st) w ce sl := by
  intro p e s m args below meth c H locs ls X hl hP hD hS
  exact lv_acmp_ne X.x X.b hd ht (fun h => kt h p e s m args below meth c H locs ls X hl hP hD hS) (fun h => kf h p e s m args below meth c H locs ls X hl hP hD hS)
theorem g_tableOut {dflt lo hi : Int} {offs : Array Int} {len : Nat} {x : Int32} {tgt : Nat} (hd : decode Y.2.1 pc = .ok (.tableswitch dflt lo hi offs, len)) (h : x.toInt < lo ∨ hi < x.toInt) (ht : (pc : Int) + dflt = (tgt : Int)) (k : G E Y Z tgt lv st w ce sl) : G E Y Z pc lv (.int x :: st) w ce sl := by
  intro p e s m args below meth c H locs ls X hl hP hD hS
  exact lv_tableOut X.x X.b hd h ht (k p e s m args below meth c H locs ls X hl hP hD hS)
theorem g_tableIn {dflt lo hi : Int} {offs : Array Int} {len : Nat} {x : Int32} {off : Int} {tgt : Nat} (hd : decode Y.2.1 pc = .ok (.tableswitch dflt lo hi offs, len)) (h1 : ¬ x.toInt < lo) (h2 : ¬ hi < x.toInt) (ho : offs[(x.toInt - lo).toNat]? = some off) (ht : (pc : Int) + off = (tgt : Int)) (k : G E Y Z tgt lv st w ce sl) : G E Y Z pc lv (.int x :: st) w ce sl := by
  intro p e s m args below meth c H locs ls X hl hP hD hS
  exact lv_tableIn X.x X.b hd h1 h2 ho ht (k p e s m args below meth c H locs ls X hl hP hD hS)
theorem g_lookup {dflt : Int} {ps : Array (Int × Int)} {len : Nat} {x : Int32} {off : Int} {tgt : Nat} (hd : decode Y.2.1 pc = .ok (.lookupswitch dflt ps, len)) (hp : (ps.toList.zip (ps.toList.drop 1)).all (fun (a, next) => a.1 < next.1) = true) (ho : Op.lookupswitch.offset ps.toList dflt x.toInt = off) (ht : (pc : Int) + off = (tgt : Int)) (k : G E Y Z tgt lv st w ce sl) : G E Y Z pc lv (.int x :: st) w ce sl := by
  intro p e s m args below meth c H locs ls X hl hP hD hS
  exact lv_lookup X.x X.b hd hp ho ht (k p e s m args below meth c H locs ls X hl hP hD hS)
theorem g_topi {x : Int32} (k : ∀ y : Int32, y = x → G E Y Z pc lv (.int y :: st) w ce sl) : G E Y Z pc lv (.int x :: st) w ce sl := k x rfl
/-- the same state in other words -/
theorem g_eq {lv' : List (Nat × Value)} {st' : List Value} {w' : wd} (h1 : lv = lv') (h2 : st = st') (h3 : w = w') (k : G E Y Z pc lv' st' w' ce sl) : G E Y Z pc lv st w ce sl := by
  subst h1 h2 h3
  exact k
/-- fewer locals, by their places -/
theorem g_lv {lv' : List (Nat × Value)} (ks : List Nat) (hl' : lv_pick lv ks = lv') (k : G E Y Z pc lv' st w ce sl) : G E Y Z pc lv st w ce sl := by
  intro p e s m args below meth c H locs ls X hl hP hD hS
  exact k p e s m args below meth c H locs ls X (lv_sub hl ks hl') hP hD hS
/-- a field by its class's place, its place there, and the number in the pool of the class that reads it -/
def fdl (own : String) (ci j index : Nat) : Prop := ∃ (C : String) (T : u_T) (N : Nat) (ref : String), vwCl[ci]? = some (C, T, N) ∧ (∀ w ∈ u_ws C T N, w ∈ WS) ∧ j < N ∧ Cond.fieldLink own index ref (T j).2.1 (T j).2.2.1 ∈ WS ∧ (ref = (T j).1 ∨ Cond.sameField ref (T j).1 (T j).2.1 (T j).2.2.1 ∈ WS)
theorem fd_same {s : State} {args : Array Value} {ref C n d : String} (hts : ∀ w ∈ WS, w.before args s = true) (h : ref = C ∨ Cond.sameField ref C n d ∈ WS) : ∀ x, s.fieldFound? C n d = some x → s.fieldFound? ref n d = some x := by
  rcases h with h | h
  · subst h
    exact fun _ z => z
  · exact fun x z => u_same (hts _ h) x z
theorem g_get {a ci j index : Nat} {fs : List Value} {v : Value} (hd : decode Y.2.1 pc = .ok (.getfield index, 3)) (hf : fdl Y.1.cls ci j index) (ha : wh w a (.inr (ci, fs))) (hv : fs[j]? = some v) (k : G E Y Z (pc + 3) lv (v :: st) w ce sl) : G E Y Z pc lv (.ref a :: st) w ce sl := by
  intro p e s m args below meth c H locs ls X hl hP hD hS
  obtain ⟨C, T, N, ref, h1, h2, h3, h4, h5⟩ := hf
  obtain ⟨q0, hq⟩ := ha.at
  exact va_get X.x X.b X.ts h2 X.own X.K.1 hP q0 hq h1 j h3 (X.ts _ h4) (fd_same X.ts h5) hv hd (k p e s m args below meth c H locs ls X hl hP hD hS)
/-- a field that may be written -/
def fdw (own : String) (ci j index : Nat) (ty : FieldType) (fin : Bool) : Prop := ∃ (C : String) (T : u_T) (N : Nat) (ref : String) (ty0 : Nat → FieldType), vwCl[ci]? = some (C, T, N) ∧ (∀ w ∈ u_ws C T N, w ∈ WS) ∧ j < N ∧ Cond.fieldLink own index ref (T j).2.1 (T j).2.2.1 ∈ WS ∧ (ref = (T j).1 ∨ Cond.sameField ref (T j).1 (T j).2.1 (T j).2.2.1 ∈ WS) ∧ (∀ k, k < N → parseFieldDescriptor (T k).2.2.1 = some (ty0 k)) ∧ (∀ a, a < N → ∀ b, b < N → a ≠ b → (T a).2.1 ≠ (T b).2.1) ∧ parseFieldDescriptor (T j).2.2.1 = some ty ∧ (T j).2.2.2 = fin ∧ (fin = true → (T j).1 = own)
theorem g_put {a ci j index : Nat} {fs : List Value} {v : Value} {ty : FieldType} {fin : Bool} (hd : decode Y.2.1 pc = .ok (.putfield index, 3)) (hf : fdw Y.1.cls ci j index ty fin) (hi : fin = false ∨ Y.1.name = "<init>") (ha : wh w a (.inr (ci, fs))) (hn : narrow ty v = v) (hfit : fits ty v = true) (hl0 : j < fs.length) (k : G E Y Z (pc + 3) lv st (wu w a (.inr (ci, fs.set j v))) ce sl) : G E Y Z pc lv (v :: .ref a :: st) w ce sl := by
  intro p e s m args below meth c H locs ls X hl hP hD hS
  obtain ⟨C, T, N, ref, ty0, h1, h2, h3, h4, h5, h6, h7, h8, h9, h10⟩ := hf
  obtain ⟨q0, hq⟩ := ha.at
  have kk : ∀ (H1 : Heap) (locs1 : List Loc), va_P E.2.1 vwCl ((wl w).set q0 (a, .inr (ci, fs.set j v))) H1 → va_D Z.2.1 ((wl w).set q0 (a, .inr (ci, fs.set j v))) → va_S Z.2.1 s.heap H1 locs1 → W p E.1 e (Z.1) s m args below meth c H1 locs1 ce sl (MQ below (gQ E Z) args s Z.1.cells Z.1.slots Z.2.1) (F0 m (pc + 3) ls st) := by
    intro H1 locs1 hP1 hD1 hS1
    rw [ha.set hD hq] at hP1 hD1
    exact k p e s m args below meth c H1 locs1 ls X hl hP1 hD1 hS1
  cases hfn : fin with
  | false => exact va_put X.x X.b X.ts h2 ty0 h6 h7 X.own X.K.1 hP hD hS q0 hq h1 j h3 (X.ts _ h4) (fd_same X.ts h5) (h9.trans hfn) h8 hn hfit hl0 hd kk
  | true =>
    rcases hi with hz | hz
    · rw [hfn] at hz; cases hz
    · exact va_putF X.x X.b X.ts h2 ty0 h6 h7 X.own X.K.1 hP hD hS q0 hq h1 j h3 (X.ts _ h4) (fd_same X.ts h5) (h9.trans hfn) (X.nm.trans hz) (h10 hfn) h8 hn hfit hl0 hd kk
theorem g_iald {a n j : Nat} {f : Nat → Int32} {i : Int32} (hd : decode Y.2.1 pc = .ok (.iaload, 1)) (ha : wh w a (.inl (E.2.2.1 0, n, .inl f))) (hi : i = nI j) (hj : j < n) (hn : n < 2 ^ 31) (k : G E Y Z (pc + 1) lv (.int (f j) :: st) w ce sl) : G E Y Z pc lv (.int i :: .ref a :: st) w ce sl := by
  intro p e s m args below meth c H locs ls X hl hP hD hS
  obtain ⟨q0, hq⟩ := ha.at
  refine va_iald X.x X.b X.K.1 hP q0 0 hq rfl (pk_in j n hj hi hn) hd ?_
  rw [pk_cl j hi (by omega)]
  exact k p e s m args below meth c H locs ls X hl hP hD hS
theorem g_zald {a n j : Nat} {f : Nat → Int32} {i : Int32} (hd : decode Y.2.1 pc = .ok (.baload, 1)) (ha : wh w a (.inl (E.2.2.1 1, n, .inl f))) (hi : i = nI j) (hj : j < n) (hn : n < 2 ^ 31) (k : G E Y Z (pc + 1) lv (.int (f j) :: st) w ce sl) : G E Y Z pc lv (.int i :: .ref a :: st) w ce sl := by
  intro p e s m args below meth c H locs ls X hl hP hD hS
  obtain ⟨q0, hq⟩ := ha.at
  refine va_zald X.x X.b X.K.1 hP q0 1 hq rfl (pk_in j n hj hi hn) hd ?_
  rw [pk_cl j hi (by omega)]
  exact k p e s m args below meth c H locs ls X hl hP hD hS
theorem g_iast {a n j : Nat} {f : Nat → Int32} {i x : Int32} (hd : decode Y.2.1 pc = .ok (.iastore, 1)) (ha : wh w a (.inl (E.2.2.1 0, n, .inl f))) (hi : i = nI j) (hj : j < n) (hn : n < 2 ^ 31) (k : G E Y Z (pc + 1) lv st (wu w a (.inl (E.2.2.1 0, n, .inl (upd f j x)))) ce sl) : G E Y Z pc lv (.int x :: .int i :: .ref a :: st) w ce sl := by
  intro p e s m args below meth c H locs ls X hl hP hD hS
  obtain ⟨q0, hq⟩ := ha.at
  refine va_iast X.x X.b X.K.1 hP hD hS q0 0 hq rfl (pk_in j n hj hi hn) hd (fun H1 locs1 hP1 hD1 hS1 => ?_)
  rw [pk_cl j hi (by omega), ha.set hD hq] at hP1 hD1
  exact k p e s m args below meth c H1 locs1 ls X hl hP1 hD1 hS1
theorem g_zast {a n j : Nat} {f : Nat → Int32} {i x : Int32} (hd : decode Y.2.1 pc = .ok (.bastore, 1)) (ha : wh w a (.inl (E.2.2.1 1, n, .inl f))) (hi : i = nI j) (hj : j < n) (hn : n < 2 ^ 31) (hx : vp_nar .boolean x = x) (k : G E Y Z (pc + 1) lv st (wu w a (.inl (E.2.2.1 1, n, .inl (upd f j x)))) ce sl) : G E Y Z pc lv (.int x :: .int i :: .ref a :: st) w ce sl := by
  intro p e s m args below meth c H locs ls X hl hP hD hS
  obtain ⟨q0, hq⟩ := ha.at
  refine va_zast X.x X.b X.K.1 hP hD hS q0 1 hq rfl (pk_in j n hj hi hn) hd (fun H1 locs1 hP1 hD1 hS1 => ?_)
  rw [hx, pk_cl j hi (by omega), ha.set hD hq] at hP1 hD1
  exact k p e s m args below meth c H1 locs1 ls X hl hP1 hD1 hS1
theorem g_aald {a n j t0 : Nat} {cA : ClassId} {C : String} {f : Nat → Option Nat} {i : Int32} {v : Value} (hd : decode Y.2.1 pc = .ok (.aaload, 1)) (ha : wh w a (.inl (cA, n, .inr (.inr (.inr (.inr f)))))) (ht : (tyl E)[t0]? = some (cA, .object C)) (hi : i = nI j) (hj : j < n) (hn : n < 2 ^ 31) (hv : va_rf (f j) = v) (k : G E Y Z (pc + 1) lv (v :: st) w ce sl) : G E Y Z pc lv (.int i :: .ref a :: st) w ce sl := by
  intro p e s m args below meth c H locs ls X hl hP hD hS
  obtain ⟨q0, hq⟩ := ha.at
  refine va_aldq X.x X.b X.K.1 hP q0 t0 hq ht (pk_in j n hj hi hn) hd ?_
  rw [pk_cl j hi (by omega), hv]
  exact k p e s m args below meth c H locs ls X hl hP hD hS
theorem g_aast {a n j t0 v ci : Nat} {cA : ClassId} {r : vw_C} {f : Nat → Option Nat} {i : Int32} {vs : List Value} (hd : decode Y.2.1 pc = .ok (.aastore, 1)) (ha : wh w a (.inl (cA, n, .inr (.inr (.inr (.inr f)))))) (ht : (tyl E)[t0]? = some (cA, .object r.1)) (hv : wh w v (.inr (ci, vs))) (hc : vwCl[ci]? = some r) (hi : i = nI j) (hj : j < n) (hn : n < 2 ^ 31) (k : G E Y Z (pc + 1) lv st (wu w a (.inl (cA, n, .inr (.inr (.inr (.inr (va_up f j (some v)))))))) ce sl) : G E Y Z pc lv (.ref v :: .int i :: .ref a :: st) w ce sl := by
  intro p e s m args below meth c H locs ls X hl hP hD hS
  obtain ⟨q0, hq⟩ := ha.at
  obtain ⟨q1, hq1⟩ := hv.at
  refine va_astq X.x X.b X.K.1 hP hD hS q0 t0 q1 ci hq ht hq1 hc (pk_in j n hj hi hn) hd (fun H1 locs1 hP1 hD1 hS1 => ?_)
  rw [pk_cl j hi (by omega), ha.set hD hq] at hP1 hD1
  exact k p e s m args below meth c H1 locs1 ls X hl hP1 hD1 hS1
/-- into a row of a wider kind -/
theorem g_aastO {a n j t0 v ci : Nat} {cA : ClassId} {r : vw_C} {O : String} {f : Nat → Option Nat} {i : Int32} {vs : List Value} (hd : decode Y.2.1 pc = .ok (.aastore, 1)) (ha : wh w a (.inl (cA, n, .inr (.inr (.inr (.inr f)))))) (ht : (tyl E)[t0]? = some (cA, .object O)) (hca : Cond.castable r.1 O ∈ lw_tbl) (hv : wh w v (.inr (ci, vs))) (hc : vwCl[ci]? = some r) (hi : i = nI j) (hj : j < n) (hn : n < 2 ^ 31) (k : G E Y Z (pc + 1) lv st (wu w a (.inl (cA, n, .inr (.inr (.inr (.inr (va_up f j (some v)))))))) ce sl) : G E Y Z pc lv (.ref v :: .int i :: .ref a :: st) w ce sl := by
  intro p e s m args below meth c H locs ls X hl hP hD hS
  obtain ⟨q0, hq⟩ := ha.at
  obtain ⟨q1, hq1⟩ := hv.at
  refine va_astqO X.x X.b X.K.1 hP hD hS q0 t0 q1 ci hq ht (X.K.2.1 _ hca rfl) hq1 hc (pk_in j n hj hi hn) hd (fun H1 locs1 hP1 hD1 hS1 => ?_)
  rw [pk_cl j hi (by omega), ha.set hD hq] at hP1 hD1
  exact k p e s m args below meth c H1 locs1 ls X hl hP1 hD1 hS1
theorem g_aastN {a n j t0 : Nat} {cA : ClassId} {C : String} {f : Nat → Option Nat} {i : Int32} (hd : decode Y.2.1 pc = .ok (.aastore, 1)) (ha : wh w a (.inl (cA, n, .inr (.inr (.inr (.inr f)))))) (ht : (tyl E)[t0]? = some (cA, .object C)) (hi : i = nI j) (hj : j < n) (hn : n < 2 ^ 31) (k : G E Y Z (pc + 1) lv st (wu w a (.inl (cA, n, .inr (.inr (.inr (.inr (va_up f j none))))))) ce sl) : G E Y Z pc lv (.null :: .int i :: .ref a :: st) w ce sl := by
  intro p e s m args below meth c H locs ls X hl hP hD hS
  obtain ⟨q0, hq⟩ := ha.at
  refine va_astqN X.x X.b X.K.1 hP hD hS q0 t0 hq ht (pk_in j n hj hi hn) hd (fun H1 locs1 hP1 hD1 hS1 => ?_)
  rw [pk_cl j hi (by omega), ha.set hD hq] at hP1 hD1
  exact k p e s m args below meth c H1 locs1 ls X hl hP1 hD1 hS1
theorem g_alen {a t0 : Nat} {cA : ClassId} {x : vp_A} {ty : FieldType} (hd : decode Y.2.1 pc = .ok (.arraylength, 1)) (ha : wh w a (.inl (cA, x))) (ht : (tyl E)[t0]? = some (cA, ty)) (k : G E Y Z (pc + 1) lv (.int (nI x.1) :: st) w ce sl) : G E Y Z pc lv (.ref a :: st) w ce sl := by
  intro p e s m args below meth c H locs ls X hl hP hD hS
  obtain ⟨q0, hq⟩ := ha.at
  exact va_alen X.x X.b X.K.1 hP q0 t0 hq ht rfl hd (k p e s m args below meth c H locs ls X hl hP hD hS)
theorem g_new {ci index N : Nat} {C : String} {T : u_T} {fs : List Value} (ty : Nat → FieldType) (hd : decode Y.2.1 pc = .ok (.new index, 3)) (hc : vwCl[ci]? = some (C, T, N)) (hin : ∀ w ∈ u_ws C T N, w ∈ WS) (hty : ∀ k, k < N → parseFieldDescriptor (T k).2.2.1 = some (ty k)) (hcl : Cond.classLink Y.1.cls index C ∈ WS) (hinst : Cond.instantiable C N ∈ WS) (hini : Cond.initialized C ∈ WS) (hfs : ∀ j, j < N → defaultValue (ty j) = vp_V fs j) (hce : ce + 1 ≤ Z.1.cells) (hsl : sl + N ≤ Z.1.slots) (k : ∀ q : Nat, q ∉ w.1 → G E Y Z (pc + 3) lv (.ref q :: st) (wn w q (.inr (ci, fs))) (ce + 1) (sl + N)) : G E Y Z pc lv st w ce sl := by
  intro p e s m args below meth c H locs ls X hl hP hD hS
  refine va_new X.x X.b X.ts hin ty hty X.own (X.ts _ hcl) (X.ts _ hinst) (X.ts _ hini) X.K.1 hP hD hS X.A hc hfs hce hsl hd (fun q H1 hP1 hD1 hS1 => ?_)
  obtain ⟨hq, he⟩ := wl.push hD1
  rw [he] at hP1 hD1
  exact k q hq p e s m args below meth c H1 locs ls X hl hP1 hD1 hS1
theorem g_ireturn {v : Int32} (hd : decode Y.2.1 pc = .ok (.ireturn, 1)) (hr : Y.2.2.2 = some .int) (hce : ce ≤ Z.1.cells) (hsl : sl ≤ Z.1.slots) (hq : Z.2.2.1 (some (.int v)) w) : G E Y Z pc lv [.int v] w ce sl := by
  intro p e s m args below meth c H locs ls X hl hP hD hS
  refine W.widen hce hsl ?_
  exact W.iret X.x X.b (X.rt.trans hr) (fun t ht _ => ⟨⟨_, w, rfl, hq, by rw [ht]; exact hP, hD⟩, hS.F ht⟩) hS.2.2 hd X.lk
theorem g_zreturn {v : Int32} (hd : decode Y.2.1 pc = .ok (.ireturn, 1)) (hr : Y.2.2.2 = some .boolean) (hn : narrow .boolean (.int v) = .int v) (hce : ce ≤ Z.1.cells) (hsl : sl ≤ Z.1.slots) (hq : Z.2.2.1 (some (.int v)) w) : G E Y Z pc lv [.int v] w ce sl := by
  intro p e s m args below meth c H locs ls X hl hP hD hS
  refine W.widen hce hsl ?_
  exact W.zret X.x X.b (X.rt.trans hr) hn (fun t ht _ => ⟨⟨_, w, rfl, hq, by rw [ht]; exact hP, hD⟩, hS.F ht⟩) hS.2.2 hd X.lk
theorem g_areturn {v : Value} {C : String} (hd : decode Y.2.1 pc = .ok (.areturn, 1)) (hr : Y.2.2.2 = some (.object C)) (hv : v = .null ∨ ∃ a, v = .ref a) (hce : ce ≤ Z.1.cells) (hsl : sl ≤ Z.1.slots) (hq : Z.2.2.1 (some v) w) : G E Y Z pc lv [v] w ce sl := by
  intro p e s m args below meth c H locs ls X hl hP hD hS
  refine W.widen hce hsl ?_
  exact W.aret X.x X.b (X.rt.trans hr) (Or.inl ⟨C, rfl⟩) hv (fun t ht _ => ⟨⟨_, w, rfl, hq, by rw [ht]; exact hP, hD⟩, hS.F ht⟩) hS.2.2 hd X.lk
theorem g_return (hd : decode Y.2.1 pc = .ok (.return_, 1)) (hr : Y.2.2.2 = none) (hce : ce ≤ Z.1.cells) (hsl : sl ≤ Z.1.slots) (hq : Z.2.2.1 none w) : G E Y Z pc lv [] w ce sl := by
  intro p e s m args below meth c H locs ls X hl hP hD hS
  refine W.widen hce hsl ?_
  exact W.vret X.x X.b (X.rt.trans hr) (fun t ht _ => ⟨⟨_, w, rfl, hq, by rw [ht]; exact hP, hD⟩, hS.F ht⟩) hS.2.2 hd X.lk
end GG
end
section
section GH
variable {E : gE} {Y : mY} {Z : gZ} {pc : Nat} {lv : List (Nat × Value)} {st : List Value} {w : wd} {ce sl : Nat}
theorem newa_id {s : State} {D : va_G} {t1 : List (ClassId × FieldType)} {cA c0 : ClassId} {ty : FieldType} {k : Nat} (hK : va_K D vwCl t1 s) (h0 : t1[k]? = some (c0, ty)) (h : va_K D vwCl (t1 ++ [(cA, ty)]) s) : cA = c0 := by
  have h1 := (hK.2 k _ h0).2
  have h2 := (h.2 t1.length (cA, ty) (by rw [List.getElem?_append_right (Nat.le_refl _), Nat.sub_self]; rfl)).2
  cases ty with
  | object C =>
    obtain ⟨_, _, _, _, _, g1⟩ := h1
    obtain ⟨_, _, _, _, _, g2⟩ := h2
    exact Option.some.inj (g2.symm.trans g1)
  | _ => exact Option.some.inj (Eq.trans (Eq.symm h2) h1)
theorem g_newI {N : Nat} {n : Int32} (hd : decode Y.2.1 pc = .ok (.newarray .int, 2)) (harr : Cond.arrayClass .int ∈ WS) (hn : n = nI N) (hN : N ≤ 100000) (hce : ce + 1 ≤ Z.1.cells) (hsl : sl + N ≤ Z.1.slots) (k : ∀ q : Nat, q ∉ w.1 → G E Y Z (pc + 2) lv (.ref q :: st) (wn w q (.inl (E.2.2.1 0, N, .inl (fun _ => 0)))) (ce + 1) (sl + N)) : G E Y Z pc lv (.int n :: st) w ce sl := by
  intro p e s m args below meth c H locs ls X hl hP hD hS
  refine va_newa (atype := .int) X.x X.b (X.ts _ harr) (ty := .int) rfl X.K.1 hP hD hS X.A (N' := N) (a0 := (N, .inl (fun _ => 0))) (fun cA => rfl) (by rw [hn]; exact nI_pos (by omega)) (pk_cl N hn (by omega)) (by show N * 4 ≤ _; omega) hce hsl hd (fun q cA H1 hK1 hP1 hD1 hS1 => ?_)
  have hc := newa_id (k := 0) X.K.1 rfl hK1
  subst hc
  obtain ⟨hq, he⟩ := wl.push hD1
  rw [he] at hP1 hD1
  exact k q hq p e s m args below meth c H1 locs ls X hl hP1 hD1 hS1
theorem g_newZ {N : Nat} {n : Int32} (hd : decode Y.2.1 pc = .ok (.newarray .boolean, 2)) (harr : Cond.arrayClass .boolean ∈ WS) (hn : n = nI N) (hN : N ≤ 100000) (hce : ce + 1 ≤ Z.1.cells) (hsl : sl + N ≤ Z.1.slots) (k : ∀ q : Nat, q ∉ w.1 → G E Y Z (pc + 2) lv (.ref q :: st) (wn w q (.inl (E.2.2.1 1, N, .inl (fun _ => 0)))) (ce + 1) (sl + N)) : G E Y Z pc lv (.int n :: st) w ce sl := by
  intro p e s m args below meth c H locs ls X hl hP hD hS
  refine va_newa (atype := .boolean) X.x X.b (X.ts _ harr) (ty := .boolean) rfl X.K.1 hP hD hS X.A (N' := N) (a0 := (N, .inl (fun _ => 0))) (fun cA => rfl) (by rw [hn]; exact nI_pos (by omega)) (pk_cl N hn (by omega)) (by show N * 1 ≤ _; omega) hce hsl hd (fun q cA H1 hK1 hP1 hD1 hS1 => ?_)
  have hc := newa_id (k := 1) X.K.1 rfl hK1
  subst hc
  obtain ⟨hq, he⟩ := wl.push hD1
  rw [he] at hP1 hD1
  exact k q hq p e s m args below meth c H1 locs ls X hl hP1 hD1 hS1
theorem g_newA {N index t0 : Nat} {n : Int32} {C : String} {cA : ClassId} (hd : decode Y.2.1 pc = .ok (.anewarray index, 3)) (hcl : Cond.classLink Y.1.cls index C ∈ WS) (ho : C ∈ arrO) (ht : (tyl E)[t0]? = some (cA, .object C)) (hn : n = nI N) (hN : N ≤ 100000) (hce : ce + 1 ≤ Z.1.cells) (hsl : sl + N ≤ Z.1.slots) (k : ∀ q : Nat, q ∉ w.1 → G E Y Z (pc + 3) lv (.ref q :: st) (wn w q (.inl (cA, N, .inr (.inr (.inr (.inr (fun _ => none))))))) (ce + 1) (sl + N)) : G E Y Z pc lv (.int n :: st) w ce sl := by
  intro p e s m args below meth c H locs ls X hl hP hD hS
  refine va_newq X.x X.b X.own (X.ts _ hcl) (X.K.2.2.1 _ ho) X.K.1 hP hD hS X.A (N' := N) (by rw [hn]; exact nI_pos (by omega)) (pk_cl N hn (by omega)) (by omega) hce hsl hd (fun q cA H1 hK1 hP1 hD1 hS1 => ?_)
  have hc := newa_id X.K.1 ht hK1
  subst hc
  obtain ⟨hq, he⟩ := wl.push hD1
  rw [he] at hP1 hD1
  exact k q hq p e s m args below meth c H1 locs ls X hl hP1 hD1 hS1
theorem g_objInit {a index : Nat} (hd : decode Y.2.1 pc = .ok (.invokespecial index, 3)) (hlk : Cond.methodLink Y.1.cls index Lib.objectInit ∈ WS) (hin : Cond.instanceMethod Lib.objectInit ∈ WS) (hco : Cond.code Lib.objectInit ⟨#[0xb1]⟩ 1 none ∈ WS) (hZ : 1 ≤ Z.1.frames ∧ 24 ≤ Z.1.locals) (hcat : (st.map fun v => v.category).sum ≤ 8) (k : G E Y Z (pc + 3) lv st w ce sl) : G E Y Z pc lv (.ref a :: st) w ce sl := by
  intro p e s m args below meth c H locs ls X hl hP hD hS
  refine W.objInit X.x X.b X.own (X.ts _ hlk) (X.ts _ hin) (X.ts _ hco) rfl (by rw [X.ml]; exact hl.1) rfl hd hZ.1 ?_ (k p e s m args below meth c H locs ls X hl hP hD hS)
  have := hZ.2
  show 2 * 0 + _ + 12 ≤ Z.1.locals
  omega
theorem g_max {index : Nat} {x y : Int32} (hd : decode Y.2.1 pc = .ok (.invokestatic index, 3)) (hlk : Cond.methodLink Y.1.cls index Lib.Math.max.name ∈ WS) (hst : Cond.static Lib.Math.max.name ∈ WS) (hini : Cond.initialized "java/lang/Math" ∈ WS) (hco : Cond.code Lib.Math.max.name Lib.Math.max.code 2 (some .int) ∈ WS) (hZ : 1 ≤ Z.1.frames ∧ 24 ≤ Z.1.locals) (hcat : (st.map fun v => v.category).sum ≤ 8) (hce : ce ≤ Z.1.cells) (hsl : sl ≤ Z.1.slots) (k : G E Y Z (pc + 3) lv (.int (if x < y then y else x) :: st) w ce sl) : G E Y Z pc lv (.int y :: .int x :: st) w ce sl := by
  intro p e s m args below meth c H locs ls X hl hP hD hS
  refine va_mmax X.x X.b (by rw [X.ml]; exact hl.1.symm) X.own (X.ts _ hlk) (X.ts _ hst) (X.ts _ hini) (X.ts _ hco) hZ.1 ?_ hce hsl hd (k p e s m args below meth c H locs ls X hl hP hD hS)
  have := hZ.2
  omega
theorem g_min {index : Nat} {x y : Int32} (hd : decode Y.2.1 pc = .ok (.invokestatic index, 3)) (hlk : Cond.methodLink Y.1.cls index Lib.Math.min.name ∈ WS) (hst : Cond.static Lib.Math.min.name ∈ WS) (hini : Cond.initialized "java/lang/Math" ∈ WS) (hco : Cond.code Lib.Math.min.name Lib.Math.min.code 2 (some .int) ∈ WS) (hZ : 1 ≤ Z.1.frames ∧ 24 ≤ Z.1.locals) (hcat : (st.map fun v => v.category).sum ≤ 8) (hce : ce ≤ Z.1.cells) (hsl : sl ≤ Z.1.slots) (k : G E Y Z (pc + 3) lv (.int (if y < x then y else x) :: st) w ce sl) : G E Y Z pc lv (.int y :: .int x :: st) w ce sl := by
  intro p e s m args below meth c H locs ls X hl hP hD hS
  refine va_mmin X.x X.b (by rw [X.ml]; exact hl.1.symm) X.own (X.ts _ hlk) (X.ts _ hst) (X.ts _ hini) (X.ts _ hco) hZ.1 ?_ hce hsl hd (k p e s m args below meth c H locs ls X hl hP hD hS)
  have := hZ.2
  omega
/-- behind a call: the callee had the whole world -/
theorem g_back {p : Program} {e : Env} {R : Room} {s : State} {m : MethodId} {args : Array Value} {below : List Frame} {meth : Method} {c : Code} {H : Heap} {locs : List Loc} {Qf : State → Prop} {ls : Array Slot} {st0 rest : List Value} {a : Array Value} {A : Nat → Prop} {R' : Room} {mc' ms' : Nat} {Q' : Option Value → wd → Prop} {ex : State → Prop}
    (hr : va_Run p E.1 e R s m args below meth c H locs ce sl mc' ms' (F0 m pc ls st0) rest (gQ E (R', va_A (wl w) H.size, Q', ex) a) (va_A (wl w) H.size)) (hS : va_S A s.heap H locs) (hD : va_D A (wl w)) (hA : ∀ q : Nat, s.heap.size ≤ q → A q)
    (kk : ∀ (r : Option Value) (w' : wd) (H1 : Heap) (locs1 : List Loc), Q' r w' → va_P E.2.1 vwCl (wl w') H1 → va_D A (wl w') → va_S A s.heap H1 locs1 → W p E.1 e R s m args below meth c H1 locs1 (ce + mc') (sl + ms') Qf (F0 m (pc + 3) ls (r.toList ++ rest))) : W p E.1 e R s m args below meth c H locs ce sl Qf (F0 m pc ls st0) := by
  intro T hT X
  obtain ⟨v, st₀, t, T', L, h0, X', hL, e1, e2, ⟨⟨r, w', hv, hq, hP1, hD1⟩, hz, hk⟩, st⟩ := hr T hT X
  cases hv
  rw [h0] at hz hk
  have hF : ∀ q, va_A (wl w) H.size q → A q := by
    intro q h
    rcases h with ⟨k, e, h⟩ | h
    · exact hD.2 k (q, e) h
    · exact hA q (Nat.le_trans hS.1 h)
  obtain ⟨t2, a1, b1⟩ := kk v w' T'.heap (locs ++ L) hq (by rw [e1]; exact hP1) (hD1.weaken (fun k q _ h => hF q.1 h))
    ⟨Nat.le_trans hS.1 (by rw [e1]; exact hz), fun q h1 h2 => by rw [e1, hk q (Nat.lt_of_lt_of_le h1 hS.1) (fun z => h2 (hF q z))]; exact hS.2.1 q h1 h2, fun q hq => by
      rcases List.mem_append.mp hq with h | h
      · exact hS.2.2 q h
      · exact hF _ (hL q h)⟩ T' rfl X'
  exact ⟨t2, st t2 a1, b1⟩
/-- a method that may be called: its code stands in the tables, its class is ready, so many parameters, few places -/
def okY (Y' : mY) (n : Nat) : Prop := Cond.code Y'.1 Y'.2.1 Y'.2.2.1 Y'.2.2.2 ∈ WS ∧ Cond.initialized Y'.1.cls ∈ WS ∧ (Y'.1.cls ≠ "java/lang/invoke/MethodHandle" ∧ Y'.1.cls ≠ "java/lang/invoke/VarHandle") ∧ (parseMethodDescriptor Y'.1.desc).map (fun d => d.parameters.length) = some n ∧ Y'.2.2.1 ≤ 18
theorem g_pre {p : Program} {s : State} {m : MethodId} {args : Array Value} {meth : Method} {c : Code} {H : Heap} {locs : List Loc} {av : List Value} (X : gX E Y Z p s m args meth c) (hP : va_P E.2.1 vwCl (wl w) H) (hD : va_D Z.2.1 (wl w)) (hS : va_S Z.2.1 s.heap H locs) : PreS s H (gP E av w H.size) av := by
  refine ⟨fun a U g mk q => ⟨q.1, q.2.1, q.2.2.1, q.2.2.2.1, q.2.2.2.2.1.call, Zg.moved (u := U) (U := U.calling g mk a) (Vm.Alike.refl U.vm) q.2.2.2.2.2⟩, fun U hU hW => ⟨rfl, by rw [hU], by rw [hU]; exact hP, hD.weaken (fun _ _ _ _ => trivial), X.K.warm hW, ?_⟩⟩
  rw [hU]
  refine Zg.moved hW.alike (Zg.narrow (A := Z.2.1) (X.Zs.kept (fun a h1 h2 => hS.2.1 a h1 h2)) ?_)
  intro q h
  rcases h with ⟨k, e, h⟩ | h
  · exact hD.2 k (q, e) h
  · exact X.A q (Nat.le_trans hS.1 h)
theorem g_callB {p : Program} {s : State} {m : MethodId} {args : Array Value} {meth : Method} {c : Code} {Y' : mY} {n d' mc' ms' : Nat} (X : gX E Y Z p s m args meth c) (ok : okY Y' n) (hdd : d' + 1 ≤ Z.1.frames ∧ 37 * d' + 37 ≤ Z.1.locals) :
    (rmD d' mc' ms').frames + 1 ≤ Z.1.frames ∧ 8 + (Y'.2.2.1 + 11) + (rmD d' mc' ms').locals ≤ Z.1.locals ∧ (∀ w ∈ Cond.code Y'.1 Y'.2.1 Y'.2.2.1 Y'.2.2.2 :: WS, ∀ (a' : Array Value) (U : State), s.WarmedH U.vm → w.before a' U = true) ∧ (∀ sig, parseMethodDescriptor Y'.1.desc = some sig → n = sig.parameters.length) := by
  obtain ⟨o1, o2, o3, o4, o5⟩ := ok
  refine ⟨hdd.1, ?_, fun w hw a' U hW => ?_, fun sig h => ?_⟩
  · show 8 + (Y'.2.2.1 + 11) + 37 * d' ≤ Z.1.locals
    have := hdd.2
    omega
  · rcases List.mem_cons.mp hw with rfl | hw
    · exact word_at hW (ws_good o1) (X.ts _ o1)
    · exact word_at hW (ws_good hw) (X.ts _ hw)
  · rw [h] at o4
    exact (Option.some.inj o4).symm
theorem g_recv {s : State} {H : Heap} {b ci N : Nat} {fs : List Value} {C : String} {T : u_T} (hK : Kg E s) (hP : va_P E.2.1 vwCl (wl w) H) (hb : wh w b (.inr (ci, fs))) (hc : vwCl[ci]? = some (C, T, N)) : ∃ cellB : Cell, H[b]? = some cellB ∧ cellB.vm.isStatics = false ∧ s.vm.findClass C = some cellB.cls := by
  obtain ⟨q0, hq⟩ := hb.at
  exact va_recv hK.1 hP hc hq
theorem g_callV {Y' : mY} {d' mc' ms' n b ci index N : Nat} {Q' : Option Value → wd → Prop} {As rest : List Value} {fs : List Value} {T : u_T} (hC : Cn E Y' d' mc' ms' (.ref b :: As) w Q') (ok : okY Y' n) (hlk : Cond.methodLink Y.1.cls index Y'.1 ∈ WS) (hin : Cond.instanceMethod Y'.1 ∈ WS) (hse : Cond.selects Y'.1.cls Y'.1 Y'.1 ∈ WS) (hb : wh w b (.inr (ci, fs))) (hc : vwCl[ci]? = some (Y'.1.cls, T, N)) (hd : decode Y.2.1 pc = .ok (.invokevirtual index, 3)) (hst : st = As.reverse ++ .ref b :: rest) (hn : As.length = n) (hcat : (rest.map fun v => v.category).sum ≤ 8) (hdd : d' + 1 ≤ Z.1.frames ∧ 37 * d' + 37 ≤ Z.1.locals) (hce : ce + mc' ≤ Z.1.cells) (hsl : sl + ms' ≤ Z.1.slots)
    (k : ∀ (r : Option Value) (w' : wd), Q' r w' → G E Y Z (pc + 3) lv (r.toList ++ rest) w' (ce + mc') (sl + ms')) : G E Y Z pc lv st w ce sl := by
  intro p e s m args below meth c H locs ls X hl hP hD hS
  obtain ⟨r1, r2, r3, r4⟩ := g_callB (mc' := mc') (ms' := ms') X ok hdd
  have hp := g_pre (av := .ref b :: As) X hP hD hS
  exact g_back (va_runV (C := Y'.1.cls) (As := As) (rest := rest) ⟨X.x, X.b, X.ml, X.own, X.ts⟩ (hC H.size) ⟨⟨rfl, rfl, r1, r2, r3, List.mem_cons_self, X.ts _ ok.1, X.ts _ ok.2.1, ok.2.2.1, r4, X.ts _ hlk⟩, X.ts _ hin, X.ts _ hse⟩ ⟨hp.1, g_recv X.K hP hb hc, hp.2⟩ rfl hn hl.1 hst (lv_room hcat) hd ⟨hce, hsl⟩) hS hD X.A (fun r w' H1 locs1 hq hP1 hD1 hS1 => k r w' hq p e s m args below meth c H1 locs1 ls X hl hP1 hD1 hS1)
theorem g_callVN {Y' : mY} {d' mc' ms' n b ci index N : Nat} {host : String} {Q' : Option Value → wd → Prop} {As rest : List Value} {fs : List Value} {T : u_T} (hC : Cn E Y' d' mc' ms' (.ref b :: As) w Q') (ok : okY Y' n) (hlk : Cond.methodLinkNest Y.1.cls index Y'.1 host ∈ lw_tbl) (hin : Cond.instanceMethod Y'.1 ∈ WS) (hse : Cond.selects Y'.1.cls Y'.1 Y'.1 ∈ WS) (hb : wh w b (.inr (ci, fs))) (hc : vwCl[ci]? = some (Y'.1.cls, T, N)) (hd : decode Y.2.1 pc = .ok (.invokevirtual index, 3)) (hst : st = As.reverse ++ .ref b :: rest) (hn : As.length = n) (hcat : (rest.map fun v => v.category).sum ≤ 8) (hdd : d' + 1 ≤ Z.1.frames ∧ 37 * d' + 37 ≤ Z.1.locals) (hce : ce + mc' ≤ Z.1.cells) (hsl : sl + ms' ≤ Z.1.slots)
    (k : ∀ (r : Option Value) (w' : wd), Q' r w' → G E Y Z (pc + 3) lv (r.toList ++ rest) w' (ce + mc') (sl + ms')) : G E Y Z pc lv st w ce sl := by
  intro p e s m args below meth c H locs ls X hl hP hD hS
  obtain ⟨r1, r2, r3, r4⟩ := g_callB (mc' := mc') (ms' := ms') X ok hdd
  have hp := g_pre (av := .ref b :: As) X hP hD hS
  exact g_back (va_runVN (C := Y'.1.cls) (host := host) (As := As) (rest := rest) ⟨X.x, X.b, X.ml, X.own, X.ts⟩ (hC H.size) ⟨⟨⟨rfl, rfl, r1, r2, r3, List.mem_cons_self⟩, X.ts _ ok.1, X.ts _ ok.2.1, ok.2.2.1, r4, va_Nw.use rfl (X.K.2.1 _ hlk rfl)⟩, X.ts _ hin, X.ts _ hse⟩ ⟨hp.1, g_recv X.K hP hb hc, hp.2⟩ rfl hn hl.1 hst (lv_room hcat) hd ⟨hce, hsl⟩) hS hD X.A (fun r w' H1 locs1 hq hP1 hD1 hS1 => k r w' hq p e s m args below meth c H1 locs1 ls X hl hP1 hD1 hS1)
theorem g_callI {Y' : mY} {d' mc' ms' n b index : Nat} {Q' : Option Value → wd → Prop} {As rest : List Value} (hC : Cn E Y' d' mc' ms' (.ref b :: As) w Q') (ok : okY Y' n) (hrv : Y'.2.2.2 = none) (hnm : Y'.1.name = "<init>") (hlk : Cond.methodLink Y.1.cls index Y'.1 ∈ WS) (hin : Cond.instanceMethod Y'.1 ∈ WS) (hd : decode Y.2.1 pc = .ok (.invokespecial index, 3)) (hst : st = As.reverse ++ .ref b :: rest) (hn : As.length = n) (hcat : (rest.map fun v => v.category).sum ≤ 8) (hdd : d' + 1 ≤ Z.1.frames ∧ 37 * d' + 37 ≤ Z.1.locals) (hce : ce + mc' ≤ Z.1.cells) (hsl : sl + ms' ≤ Z.1.slots)
    (k : ∀ (r : Option Value) (w' : wd), Q' r w' → G E Y Z (pc + 3) lv (r.toList ++ rest) w' (ce + mc') (sl + ms')) : G E Y Z pc lv st w ce sl := by
  intro p e s m args below meth c H locs ls X hl hP hD hS
  obtain ⟨r1, r2, r3, r4⟩ := g_callB (mc' := mc') (ms' := ms') X ok hdd
  have hp := g_pre (av := .ref b :: As) X hP hD hS
  have o1 := ok.1
  have hM := hC H.size
  rw [hrv] at o1 r3 hM
  exact g_back (va_runI (As := As) (rest := rest) ⟨X.x, X.b, X.ml, X.own, X.ts⟩ hM ⟨⟨rfl, rfl, r1, r2, r3, List.mem_cons_self, X.ts _ o1, X.ts _ ok.2.1, ok.2.2.1, r4, X.ts _ hlk⟩, hnm, X.ts _ hin⟩ hp rfl hn hl.1 hst (lv_room hcat) hd ⟨hce, hsl⟩) hS hD X.A (fun r w' H1 locs1 hq hP1 hD1 hS1 => k r w' hq p e s m args below meth c H1 locs1 ls X hl hP1 hD1 hS1)
theorem g_callS {Y' : mY} {d' mc' ms' n index : Nat} {Q' : Option Value → wd → Prop} {As rest : List Value} (hC : Cn E Y' d' mc' ms' As w Q') (ok : okY Y' n) (hlk : Cond.methodLink Y.1.cls index Y'.1 ∈ WS) (hsc : Cond.static Y'.1 ∈ WS) (hd : decode Y.2.1 pc = .ok (.invokestatic index, 3)) (hst : st = As.reverse ++ rest) (hn : As.length = n) (hcat : (rest.map fun v => v.category).sum ≤ 8) (hdd : d' + 1 ≤ Z.1.frames ∧ 37 * d' + 37 ≤ Z.1.locals) (hce : ce + mc' ≤ Z.1.cells) (hsl : sl + ms' ≤ Z.1.slots)
    (k : ∀ (r : Option Value) (w' : wd), Q' r w' → G E Y Z (pc + 3) lv (r.toList ++ rest) w' (ce + mc') (sl + ms')) : G E Y Z pc lv st w ce sl := by
  intro p e s m args below meth c H locs ls X hl hP hD hS
  obtain ⟨r1, r2, r3, r4⟩ := g_callB (mc' := mc') (ms' := ms') X ok hdd
  have hp := g_pre (av := As) X hP hD hS
  exact g_back (va_runS (As := As) (rest := rest) ⟨X.x, X.b, X.ml, X.own, X.ts⟩ (hC H.size) ⟨⟨rfl, rfl, r1, r2, r3, List.mem_cons_self, X.ts _ ok.1, X.ts _ ok.2.1, ok.2.2.1, r4, X.ts _ hlk⟩, X.ts _ hsc⟩ hp rfl hn hl.1 hst (lv_room hcat) hd ⟨hce, hsl⟩) hS hD X.A (fun r w' H1 locs1 hq hP1 hD1 hS1 => k r w' hq p e s m args below meth c H1 locs1 ls X hl hP1 hD1 hS1)
theorem g_callSN {Y' : mY} {d' mc' ms' n index : Nat} {host : String} {Q' : Option Value → wd → Prop} {As rest : List Value} (hC : Cn E Y' d' mc' ms' As w Q') (ok : okY Y' n) (hlk : Cond.methodLinkNest Y.1.cls index Y'.1 host ∈ lw_tbl) (hsc : Cond.static Y'.1 ∈ WS) (hd : decode Y.2.1 pc = .ok (.invokestatic index, 3)) (hst : st = As.reverse ++ rest) (hn : As.length = n) (hcat : (rest.map fun v => v.category).sum ≤ 8) (hdd : d' + 1 ≤ Z.1.frames ∧ 37 * d' + 37 ≤ Z.1.locals) (hce : ce + mc' ≤ Z.1.cells) (hsl : sl + ms' ≤ Z.1.slots)
    (k : ∀ (r : Option Value) (w' : wd), Q' r w' → G E Y Z (pc + 3) lv (r.toList ++ rest) w' (ce + mc') (sl + ms')) : G E Y Z pc lv st w ce sl := by
  intro p e s m args below meth c H locs ls X hl hP hD hS
  obtain ⟨r1, r2, r3, r4⟩ := g_callB (mc' := mc') (ms' := ms') X ok hdd
  have hp := g_pre (av := As) X hP hD hS
  exact g_back (va_runSN (host := host) (As := As) (rest := rest) ⟨X.x, X.b, X.ml, X.own, X.ts⟩ (hC H.size) ⟨⟨⟨rfl, rfl, r1, r2, r3, List.mem_cons_self⟩, X.ts _ ok.1, X.ts _ ok.2.1, ok.2.2.1, r4, va_Nw.use rfl (X.K.2.1 _ hlk rfl)⟩, X.ts _ hsc, trivial⟩ hp rfl hn hl.1 hst (lv_room hcat) hd ⟨hce, hsl⟩) hS hD X.A (fun r w' H1 locs1 hq hP1 hD1 hS1 => k r w' hq p e s m args below meth c H1 locs1 ls X hl hP1 hD1 hS1)
end GH
end
