theorem d_Q_checkIndex_0 : decode prog_26_method_11_code 0 = .ok (.iload_n 0, 1) := by decide +kernel
theorem d_Q_checkIndex_1 : decode prog_26_method_11_code 1 = .ok (.ifCond .lt 8, 3) := by decide +kernel
theorem d_Q_checkIndex_4 : decode prog_26_method_11_code 4 = .ok (.iload_n 0, 1) := by decide +kernel
theorem d_Q_checkIndex_5 : decode prog_26_method_11_code 5 = .ok (.iload_n 1, 1) := by decide +kernel
theorem d_Q_checkIndex_6 : decode prog_26_method_11_code 6 = .ok (.if_icmp .lt 10, 3) := by decide +kernel
theorem d_Q_checkIndex_9 : decode prog_26_method_11_code 9 = .ok (.aload_n 2, 1) := by decide +kernel
theorem d_Q_checkIndex_10 : decode prog_26_method_11_code 10 = .ok (.iload_n 0, 1) := by decide +kernel
theorem d_Q_checkIndex_11 : decode prog_26_method_11_code 11 = .ok (.iload_n 1, 1) := by decide +kernel
theorem d_Q_checkIndex_12 : decode prog_26_method_11_code 12 = .ok (.invokestatic 95, 3) := by decide +kernel
theorem d_Q_checkIndex_15 : decode prog_26_method_11_code 15 = .ok (.athrow, 1) := by decide +kernel
theorem d_Q_checkIndex_16 : decode prog_26_method_11_code 16 = .ok (.iload_n 0, 1) := by decide +kernel
theorem d_Q_checkIndex_17 : decode prog_26_method_11_code 17 = .ok (.ireturn, 1) := by decide +kernel
theorem d_U_newLength_0 : decode prog_25_method_27_code 0 = .ok (.iload_n 0, 1) := by decide +kernel
theorem d_U_newLength_1 : decode prog_25_method_27_code 1 = .ok (.iload_n 1, 1) := by decide +kernel
theorem d_U_newLength_2 : decode prog_25_method_27_code 2 = .ok (.iload_n 2, 1) := by decide +kernel
theorem d_U_newLength_3 : decode prog_25_method_27_code 3 = .ok (.invokestatic 194, 3) := by decide +kernel
theorem d_U_newLength_6 : decode prog_25_method_27_code 6 = .ok (.iadd, 1) := by decide +kernel
theorem d_U_newLength_7 : decode prog_25_method_27_code 7 = .ok (.istore_n 3, 1) := by decide +kernel
theorem d_U_newLength_8 : decode prog_25_method_27_code 8 = .ok (.iconst 0, 1) := by decide +kernel
theorem d_U_newLength_9 : decode prog_25_method_27_code 9 = .ok (.iload_n 3, 1) := by decide +kernel
theorem d_U_newLength_10 : decode prog_25_method_27_code 10 = .ok (.if_icmp .ge 11, 3) := by decide +kernel
theorem d_U_newLength_13 : decode prog_25_method_27_code 13 = .ok (.iload_n 3, 1) := by decide +kernel
theorem d_U_newLength_14 : decode prog_25_method_27_code 14 = .ok (.ldc 200, 2) := by decide +kernel
theorem d_U_newLength_16 : decode prog_25_method_27_code 16 = .ok (.if_icmp .gt 5, 3) := by decide +kernel
theorem d_U_newLength_19 : decode prog_25_method_27_code 19 = .ok (.iload_n 3, 1) := by decide +kernel
theorem d_U_newLength_20 : decode prog_25_method_27_code 20 = .ok (.ireturn, 1) := by decide +kernel
theorem d_U_newLength_21 : decode prog_25_method_27_code 21 = .ok (.iload_n 0, 1) := by decide +kernel
theorem d_U_newLength_22 : decode prog_25_method_27_code 22 = .ok (.iload_n 1, 1) := by decide +kernel
theorem d_U_newLength_23 : decode prog_25_method_27_code 23 = .ok (.invokestatic 201, 3) := by decide +kernel
theorem d_U_newLength_26 : decode prog_25_method_27_code 26 = .ok (.ireturn, 1) := by decide +kernel
theorem d_V_copyOf0_0 : decode prog_19_method_119_code 0 = .ok (.aload_n 0, 1) := by decide +kernel
theorem d_V_copyOf0_1 : decode prog_19_method_119_code 1 = .ok (.iload_n 1, 1) := by decide +kernel
theorem d_V_copyOf0_2 : decode prog_19_method_119_code 2 = .ok (.aload_n 0, 1) := by decide +kernel
theorem d_V_copyOf0_3 : decode prog_19_method_119_code 3 = .ok (.invokevirtual 86, 3) := by decide +kernel
theorem d_V_copyOf0_6 : decode prog_19_method_119_code 6 = .ok (.invokestatic 300, 3) := by decide +kernel
theorem d_V_copyOf0_9 : decode prog_19_method_119_code 9 = .ok (.areturn, 1) := by decide +kernel
theorem d_V_copyOf1_0 : decode prog_19_method_120_code 0 = .ok (.aload_n 2, 1) := by decide +kernel
theorem d_V_copyOf1_1 : decode prog_19_method_120_code 1 = .ok (.ldc 110, 2) := by decide +kernel
theorem d_V_copyOf1_3 : decode prog_19_method_120_code 3 = .ok (.if_acmp .ne 10, 3) := by decide +kernel
theorem d_V_copyOf1_6 : decode prog_19_method_120_code 6 = .ok (.iload_n 1, 1) := by decide +kernel
theorem d_V_copyOf1_7 : decode prog_19_method_120_code 7 = .ok (.anewarray 2, 3) := by decide +kernel
theorem d_V_copyOf1_10 : decode prog_19_method_120_code 10 = .ok (.goto 14, 3) := by decide +kernel
theorem d_V_copyOf1_13 : decode prog_19_method_120_code 13 = .ok (.aload_n 2, 1) := by decide +kernel
theorem d_V_copyOf1_14 : decode prog_19_method_120_code 14 = .ok (.invokevirtual 90, 3) := by decide +kernel
theorem d_V_copyOf1_17 : decode prog_19_method_120_code 17 = .ok (.iload_n 1, 1) := by decide +kernel
theorem d_V_copyOf1_18 : decode prog_19_method_120_code 18 = .ok (.invokestatic 95, 3) := by decide +kernel
theorem d_V_copyOf1_21 : decode prog_19_method_120_code 21 = .ok (.checkcast 110, 3) := by decide +kernel
theorem d_V_copyOf1_24 : decode prog_19_method_120_code 24 = .ok (.astore_n 3, 1) := by decide +kernel
theorem d_V_copyOf1_25 : decode prog_19_method_120_code 25 = .ok (.aload_n 0, 1) := by decide +kernel
theorem d_V_copyOf1_26 : decode prog_19_method_120_code 26 = .ok (.iconst 0, 1) := by decide +kernel
theorem d_V_copyOf1_27 : decode prog_19_method_120_code 27 = .ok (.aload_n 3, 1) := by decide +kernel
theorem d_V_copyOf1_28 : decode prog_19_method_120_code 28 = .ok (.iconst 0, 1) := by decide +kernel
theorem d_V_copyOf1_29 : decode prog_19_method_120_code 29 = .ok (.aload_n 0, 1) := by decide +kernel
theorem d_V_copyOf1_30 : decode prog_19_method_120_code 30 = .ok (.arraylength, 1) := by decide +kernel
theorem d_V_copyOf1_31 : decode prog_19_method_120_code 31 = .ok (.iload_n 1, 1) := by decide +kernel
theorem d_V_copyOf1_32 : decode prog_19_method_120_code 32 = .ok (.invokestatic 304, 3) := by decide +kernel
theorem d_V_copyOf1_35 : decode prog_19_method_120_code 35 = .ok (.invokestatic 150, 3) := by decide +kernel
theorem d_V_copyOf1_38 : decode prog_19_method_120_code 38 = .ok (.aload_n 3, 1) := by decide +kernel
theorem d_V_copyOf1_39 : decode prog_19_method_120_code 39 = .ok (.areturn, 1) := by decide +kernel
