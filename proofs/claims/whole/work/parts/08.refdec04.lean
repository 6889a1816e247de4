theorem d_R_server_52 : decode prog_10_method_40_code 52 = .ok (.aload_n 0, 1) := by decide +kernel
theorem d_R_server_53 : decode prog_10_method_40_code 53 = .ok (.getfield 122, 3) := by decide +kernel
theorem d_R_server_56 : decode prog_10_method_40_code 56 = .ok (.invokestatic 183, 3) := by decide +kernel
theorem d_R_server_59 : decode prog_10_method_40_code 59 = .ok (.goto 4, 3) := by decide +kernel
theorem d_R_server_62 : decode prog_10_method_40_code 62 = .ok (.iconst (-1), 1) := by decide +kernel
theorem d_R_server_63 : decode prog_10_method_40_code 63 = .ok (.ireturn, 1) := by decide +kernel
theorem d_R_client_0 : decode prog_10_method_41_code 0 = .ok (.aload_n 0, 1) := by decide +kernel
theorem d_R_client_1 : decode prog_10_method_41_code 1 = .ok (.iload_n 1, 1) := by decide +kernel
theorem d_R_client_2 : decode prog_10_method_41_code 2 = .ok (.invokevirtual 103, 3) := by decide +kernel
theorem d_R_client_5 : decode prog_10_method_41_code 5 = .ok (.ifCond .ne 5, 3) := by decide +kernel
theorem d_R_client_8 : decode prog_10_method_41_code 8 = .ok (.iconst (-1), 1) := by decide +kernel
theorem d_R_client_9 : decode prog_10_method_41_code 9 = .ok (.ireturn, 1) := by decide +kernel
theorem d_R_client_10 : decode prog_10_method_41_code 10 = .ok (.aload_n 0, 1) := by decide +kernel
theorem d_R_client_11 : decode prog_10_method_41_code 11 = .ok (.getfield 43, 3) := by decide +kernel
theorem d_R_client_14 : decode prog_10_method_41_code 14 = .ok (.iload_n 1, 1) := by decide +kernel
theorem d_R_client_15 : decode prog_10_method_41_code 15 = .ok (.iaload, 1) := by decide +kernel
theorem d_R_client_16 : decode prog_10_method_41_code 16 = .ok (.iconst 2, 1) := by decide +kernel
theorem d_R_client_17 : decode prog_10_method_41_code 17 = .ok (.if_icmp .ne 25, 3) := by decide +kernel
theorem d_R_client_20 : decode prog_10_method_41_code 20 = .ok (.aload_n 0, 1) := by decide +kernel
theorem d_R_client_21 : decode prog_10_method_41_code 21 = .ok (.getfield 46, 3) := by decide +kernel
theorem d_R_client_24 : decode prog_10_method_41_code 24 = .ok (.iload_n 1, 1) := by decide +kernel
theorem d_R_client_25 : decode prog_10_method_41_code 25 = .ok (.baload, 1) := by decide +kernel
theorem d_R_client_26 : decode prog_10_method_41_code 26 = .ok (.ifCond .ne 16, 3) := by decide +kernel
theorem d_R_client_29 : decode prog_10_method_41_code 29 = .ok (.aload_n 0, 1) := by decide +kernel
theorem d_R_client_30 : decode prog_10_method_41_code 30 = .ok (.getfield 59, 3) := by decide +kernel
theorem d_R_client_33 : decode prog_10_method_41_code 33 = .ok (.iload_n 1, 1) := by decide +kernel
theorem d_R_client_34 : decode prog_10_method_41_code 34 = .ok (.baload, 1) := by decide +kernel
theorem d_R_client_35 : decode prog_10_method_41_code 35 = .ok (.ifCond .eq 7, 3) := by decide +kernel
theorem d_R_client_38 : decode prog_10_method_41_code 38 = .ok (.iconst 1, 1) := by decide +kernel
theorem d_R_client_39 : decode prog_10_method_41_code 39 = .ok (.goto 4, 3) := by decide +kernel
theorem d_R_client_42 : decode prog_10_method_41_code 42 = .ok (.iconst 0, 1) := by decide +kernel
theorem d_R_client_43 : decode prog_10_method_41_code 43 = .ok (.istore_n 3, 1) := by decide +kernel
theorem d_R_client_44 : decode prog_10_method_41_code 44 = .ok (.iload_n 2, 1) := by decide +kernel
theorem d_R_client_45 : decode prog_10_method_41_code 45 = .ok (.ifCond .ne 12, 3) := by decide +kernel
theorem d_R_client_48 : decode prog_10_method_41_code 48 = .ok (.aload_n 0, 1) := by decide +kernel
theorem d_R_client_49 : decode prog_10_method_41_code 49 = .ok (.getfield 40, 3) := by decide +kernel
theorem d_R_client_52 : decode prog_10_method_41_code 52 = .ok (.iload_n 1, 1) := by decide +kernel
theorem d_R_client_53 : decode prog_10_method_41_code 53 = .ok (.iaload, 1) := by decide +kernel
theorem d_R_client_54 : decode prog_10_method_41_code 54 = .ok (.goto 26, 3) := by decide +kernel
theorem d_R_client_57 : decode prog_10_method_41_code 57 = .ok (.iload_n 2, 1) := by decide +kernel
theorem d_R_client_58 : decode prog_10_method_41_code 58 = .ok (.iconst 1, 1) := by decide +kernel
theorem d_R_client_59 : decode prog_10_method_41_code 59 = .ok (.if_icmp .ne 15, 3) := by decide +kernel
theorem d_R_client_62 : decode prog_10_method_41_code 62 = .ok (.iload_n 3, 1) := by decide +kernel
theorem d_R_client_63 : decode prog_10_method_41_code 63 = .ok (.ifCond .eq 7, 3) := by decide +kernel
theorem d_R_client_66 : decode prog_10_method_41_code 66 = .ok (.iconst 1, 1) := by decide +kernel
theorem d_R_client_67 : decode prog_10_method_41_code 67 = .ok (.goto 13, 3) := by decide +kernel
theorem d_R_client_70 : decode prog_10_method_41_code 70 = .ok (.iconst 0, 1) := by decide +kernel
theorem d_R_client_71 : decode prog_10_method_41_code 71 = .ok (.goto 9, 3) := by decide +kernel
theorem d_R_client_74 : decode prog_10_method_41_code 74 = .ok (.aload_n 0, 1) := by decide +kernel
theorem d_R_client_75 : decode prog_10_method_41_code 75 = .ok (.getfield 37, 3) := by decide +kernel
theorem d_R_client_78 : decode prog_10_method_41_code 78 = .ok (.iload_n 1, 1) := by decide +kernel
theorem d_R_client_79 : decode prog_10_method_41_code 79 = .ok (.iaload, 1) := by decide +kernel
theorem d_R_client_80 : decode prog_10_method_41_code 80 = .ok (.ireturn, 1) := by decide +kernel
