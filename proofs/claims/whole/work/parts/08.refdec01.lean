theorem d_R_read_40 : decode prog_10_method_10_code 40 = .ok (.imul, 1) := by decide +kernel
theorem d_R_read_41 : decode prog_10_method_10_code 41 = .ok (.iload_n 2, 1) := by decide +kernel
theorem d_R_read_42 : decode prog_10_method_10_code 42 = .ok (.iadd, 1) := by decide +kernel
theorem d_R_read_43 : decode prog_10_method_10_code 43 = .ok (.istore_n 3, 1) := by decide +kernel
theorem d_R_read_44 : decode prog_10_method_10_code 44 = .ok (.aload_n 0, 1) := by decide +kernel
theorem d_R_read_45 : decode prog_10_method_10_code 45 = .ok (.getfield 68, 3) := by decide +kernel
theorem d_R_read_48 : decode prog_10_method_10_code 48 = .ok (.iload_n 3, 1) := by decide +kernel
theorem d_R_read_49 : decode prog_10_method_10_code 49 = .ok (.baload, 1) := by decide +kernel
theorem d_R_read_50 : decode prog_10_method_10_code 50 = .ok (.ifCond .eq 37, 3) := by decide +kernel
theorem d_R_read_53 : decode prog_10_method_10_code 53 = .ok (.aload_n 0, 1) := by decide +kernel
theorem d_R_read_54 : decode prog_10_method_10_code 54 = .ok (.getfield 71, 3) := by decide +kernel
theorem d_R_read_57 : decode prog_10_method_10_code 57 = .ok (.iload_n 3, 1) := by decide +kernel
theorem d_R_read_58 : decode prog_10_method_10_code 58 = .ok (.iaload, 1) := by decide +kernel
theorem d_R_read_59 : decode prog_10_method_10_code 59 = .ok (.aload_n 0, 1) := by decide +kernel
theorem d_R_read_60 : decode prog_10_method_10_code 60 = .ok (.getfield 37, 3) := by decide +kernel
theorem d_R_read_63 : decode prog_10_method_10_code 63 = .ok (.iload_n 1, 1) := by decide +kernel
theorem d_R_read_64 : decode prog_10_method_10_code 64 = .ok (.iaload, 1) := by decide +kernel
theorem d_R_read_65 : decode prog_10_method_10_code 65 = .ok (.if_icmp .le 22, 3) := by decide +kernel
theorem d_R_read_68 : decode prog_10_method_10_code 68 = .ok (.aload_n 0, 1) := by decide +kernel
theorem d_R_read_69 : decode prog_10_method_10_code 69 = .ok (.iload_n 1, 1) := by decide +kernel
theorem d_R_read_70 : decode prog_10_method_10_code 70 = .ok (.aload_n 0, 1) := by decide +kernel
theorem d_R_read_71 : decode prog_10_method_10_code 71 = .ok (.getfield 74, 3) := by decide +kernel
theorem d_R_read_74 : decode prog_10_method_10_code 74 = .ok (.iload_n 3, 1) := by decide +kernel
theorem d_R_read_75 : decode prog_10_method_10_code 75 = .ok (.iaload, 1) := by decide +kernel
theorem d_R_read_76 : decode prog_10_method_10_code 76 = .ok (.aload_n 0, 1) := by decide +kernel
theorem d_R_read_77 : decode prog_10_method_10_code 77 = .ok (.getfield 77, 3) := by decide +kernel
theorem d_R_read_80 : decode prog_10_method_10_code 80 = .ok (.iload_n 3, 1) := by decide +kernel
theorem d_R_read_81 : decode prog_10_method_10_code 81 = .ok (.iaload, 1) := by decide +kernel
theorem d_R_read_82 : decode prog_10_method_10_code 82 = .ok (.invokevirtual 114, 3) := by decide +kernel
theorem d_R_read_85 : decode prog_10_method_10_code 85 = .ok (.iconst 1, 1) := by decide +kernel
theorem d_R_read_86 : decode prog_10_method_10_code 86 = .ok (.ireturn, 1) := by decide +kernel
theorem d_R_read_87 : decode prog_10_method_10_code 87 = .ok (.aload_n 0, 1) := by decide +kernel
theorem d_R_read_88 : decode prog_10_method_10_code 88 = .ok (.iload_n 1, 1) := by decide +kernel
theorem d_R_read_89 : decode prog_10_method_10_code 89 = .ok (.invokevirtual 118, 3) := by decide +kernel
theorem d_R_read_92 : decode prog_10_method_10_code 92 = .ok (.iconst 2, 1) := by decide +kernel
theorem d_R_read_93 : decode prog_10_method_10_code 93 = .ok (.ireturn, 1) := by decide +kernel
theorem d_R_write_0 : decode prog_10_method_11_code 0 = .ok (.aload_n 0, 1) := by decide +kernel
theorem d_R_write_1 : decode prog_10_method_11_code 1 = .ok (.iload_n 1, 1) := by decide +kernel
theorem d_R_write_2 : decode prog_10_method_11_code 2 = .ok (.invokevirtual 103, 3) := by decide +kernel
theorem d_R_write_5 : decode prog_10_method_11_code 5 = .ok (.ifCond .eq 11, 3) := by decide +kernel
theorem d_R_write_8 : decode prog_10_method_11_code 8 = .ok (.aload_n 0, 1) := by decide +kernel
theorem d_R_write_9 : decode prog_10_method_11_code 9 = .ok (.iload_n 2, 1) := by decide +kernel
theorem d_R_write_10 : decode prog_10_method_11_code 10 = .ok (.invokevirtual 107, 3) := by decide +kernel
theorem d_R_write_13 : decode prog_10_method_11_code 13 = .ok (.ifCond .ne 5, 3) := by decide +kernel
theorem d_R_write_16 : decode prog_10_method_11_code 16 = .ok (.iconst (-1), 1) := by decide +kernel
theorem d_R_write_17 : decode prog_10_method_11_code 17 = .ok (.ireturn, 1) := by decide +kernel
theorem d_R_write_18 : decode prog_10_method_11_code 18 = .ok (.aload_n 0, 1) := by decide +kernel
theorem d_R_write_19 : decode prog_10_method_11_code 19 = .ok (.getfield 43, 3) := by decide +kernel
theorem d_R_write_22 : decode prog_10_method_11_code 22 = .ok (.iload_n 1, 1) := by decide +kernel
theorem d_R_write_23 : decode prog_10_method_11_code 23 = .ok (.iaload, 1) := by decide +kernel
theorem d_R_write_24 : decode prog_10_method_11_code 24 = .ok (.iconst 2, 1) := by decide +kernel
theorem d_R_write_25 : decode prog_10_method_11_code 25 = .ok (.if_icmp .ne 5, 3) := by decide +kernel
theorem d_R_write_28 : decode prog_10_method_11_code 28 = .ok (.iconst 0, 1) := by decide +kernel
theorem d_R_write_29 : decode prog_10_method_11_code 29 = .ok (.ireturn, 1) := by decide +kernel
theorem d_R_write_30 : decode prog_10_method_11_code 30 = .ok (.aload_n 0, 1) := by decide +kernel
theorem d_R_write_31 : decode prog_10_method_11_code 31 = .ok (.iload_n 1, 1) := by decide +kernel
theorem d_R_write_32 : decode prog_10_method_11_code 32 = .ok (.iload_n 2, 1) := by decide +kernel
theorem d_R_write_33 : decode prog_10_method_11_code 33 = .ok (.iconst 1, 1) := by decide +kernel
theorem d_R_write_34 : decode prog_10_method_11_code 34 = .ok (.iload_n 3, 1) := by decide +kernel
theorem d_R_write_35 : decode prog_10_method_11_code 35 = .ok (.invokevirtual 110, 3) := by decide +kernel
theorem d_R_write_38 : decode prog_10_method_11_code 38 = .ok (.aload_n 0, 1) := by decide +kernel
theorem d_R_write_39 : decode prog_10_method_11_code 39 = .ok (.getfield 68, 3) := by decide +kernel
theorem d_R_write_42 : decode prog_10_method_11_code 42 = .ok (.iconst 4, 1) := by decide +kernel
theorem d_R_write_43 : decode prog_10_method_11_code 43 = .ok (.iload_n 1, 1) := by decide +kernel
theorem d_R_write_44 : decode prog_10_method_11_code 44 = .ok (.imul, 1) := by decide +kernel
theorem d_R_write_45 : decode prog_10_method_11_code 45 = .ok (.iload_n 2, 1) := by decide +kernel
theorem d_R_write_46 : decode prog_10_method_11_code 46 = .ok (.iadd, 1) := by decide +kernel
theorem d_R_write_47 : decode prog_10_method_11_code 47 = .ok (.iconst 0, 1) := by decide +kernel
theorem d_R_write_48 : decode prog_10_method_11_code 48 = .ok (.bastore, 1) := by decide +kernel
theorem d_R_write_49 : decode prog_10_method_11_code 49 = .ok (.aload_n 0, 1) := by decide +kernel
theorem d_R_write_50 : decode prog_10_method_11_code 50 = .ok (.iload_n 1, 1) := by decide +kernel
theorem d_R_write_51 : decode prog_10_method_11_code 51 = .ok (.invokevirtual 118, 3) := by decide +kernel
theorem d_R_write_54 : decode prog_10_method_11_code 54 = .ok (.iconst 2, 1) := by decide +kernel
theorem d_R_write_55 : decode prog_10_method_11_code 55 = .ok (.ireturn, 1) := by decide +kernel
theorem d_R_retry_0 : decode prog_10_method_12_code 0 = .ok (.aload_n 0, 1) := by decide +kernel
theorem d_R_retry_1 : decode prog_10_method_12_code 1 = .ok (.iload_n 1, 1) := by decide +kernel
theorem d_R_retry_2 : decode prog_10_method_12_code 2 = .ok (.invokevirtual 103, 3) := by decide +kernel
theorem d_R_retry_5 : decode prog_10_method_12_code 5 = .ok (.ifCond .ne 5, 3) := by decide +kernel
theorem d_R_retry_8 : decode prog_10_method_12_code 8 = .ok (.iconst (-1), 1) := by decide +kernel
theorem d_R_retry_9 : decode prog_10_method_12_code 9 = .ok (.ireturn, 1) := by decide +kernel
theorem d_R_retry_10 : decode prog_10_method_12_code 10 = .ok (.aload_n 0, 1) := by decide +kernel
theorem d_R_retry_11 : decode prog_10_method_12_code 11 = .ok (.getfield 43, 3) := by decide +kernel
theorem d_R_retry_14 : decode prog_10_method_12_code 14 = .ok (.iload_n 1, 1) := by decide +kernel
theorem d_R_retry_15 : decode prog_10_method_12_code 15 = .ok (.iaload, 1) := by decide +kernel
theorem d_R_retry_16 : decode prog_10_method_12_code 16 = .ok (.iconst 2, 1) := by decide +kernel
theorem d_R_retry_17 : decode prog_10_method_12_code 17 = .ok (.if_icmp .eq 5, 3) := by decide +kernel
theorem d_R_retry_20 : decode prog_10_method_12_code 20 = .ok (.iconst 0, 1) := by decide +kernel
theorem d_R_retry_21 : decode prog_10_method_12_code 21 = .ok (.ireturn, 1) := by decide +kernel
theorem d_R_retry_22 : decode prog_10_method_12_code 22 = .ok (.aload_n 0, 1) := by decide +kernel
theorem d_R_retry_23 : decode prog_10_method_12_code 23 = .ok (.iload_n 1, 1) := by decide +kernel
theorem d_R_retry_24 : decode prog_10_method_12_code 24 = .ok (.invokevirtual 118, 3) := by decide +kernel
theorem d_R_retry_27 : decode prog_10_method_12_code 27 = .ok (.aload_n 0, 1) := by decide +kernel
theorem d_R_retry_28 : decode prog_10_method_12_code 28 = .ok (.getfield 40, 3) := by decide +kernel
theorem d_R_retry_31 : decode prog_10_method_12_code 31 = .ok (.iload_n 1, 1) := by decide +kernel
theorem d_R_retry_32 : decode prog_10_method_12_code 32 = .ok (.iaload, 1) := by decide +kernel
theorem d_R_retry_33 : decode prog_10_method_12_code 33 = .ok (.ireturn, 1) := by decide +kernel
theorem d_R_status_0 : decode prog_10_method_13_code 0 = .ok (.aload_n 0, 1) := by decide +kernel
theorem d_R_status_1 : decode prog_10_method_13_code 1 = .ok (.iload_n 1, 1) := by decide +kernel
theorem d_R_status_2 : decode prog_10_method_13_code 2 = .ok (.invokevirtual 103, 3) := by decide +kernel
theorem d_R_status_5 : decode prog_10_method_13_code 5 = .ok (.ifCond .eq 12, 3) := by decide +kernel
theorem d_R_status_8 : decode prog_10_method_13_code 8 = .ok (.aload_n 0, 1) := by decide +kernel
theorem d_R_status_9 : decode prog_10_method_13_code 9 = .ok (.getfield 43, 3) := by decide +kernel
theorem d_R_status_12 : decode prog_10_method_13_code 12 = .ok (.iload_n 1, 1) := by decide +kernel
theorem d_R_status_13 : decode prog_10_method_13_code 13 = .ok (.iaload, 1) := by decide +kernel
theorem d_R_status_14 : decode prog_10_method_13_code 14 = .ok (.goto 4, 3) := by decide +kernel
theorem d_R_status_17 : decode prog_10_method_13_code 17 = .ok (.iconst (-1), 1) := by decide +kernel
theorem d_R_status_18 : decode prog_10_method_13_code 18 = .ok (.ireturn, 1) := by decide +kernel
theorem d_R_result_0 : decode prog_10_method_14_code 0 = .ok (.aload_n 0, 1) := by decide +kernel
theorem d_R_result_1 : decode prog_10_method_14_code 1 = .ok (.iload_n 1, 1) := by decide +kernel
theorem d_R_result_2 : decode prog_10_method_14_code 2 = .ok (.invokevirtual 103, 3) := by decide +kernel
theorem d_R_result_5 : decode prog_10_method_14_code 5 = .ok (.ifCond .eq 22, 3) := by decide +kernel
theorem d_R_result_8 : decode prog_10_method_14_code 8 = .ok (.aload_n 0, 1) := by decide +kernel
theorem d_R_result_9 : decode prog_10_method_14_code 9 = .ok (.getfield 43, 3) := by decide +kernel
theorem d_R_result_12 : decode prog_10_method_14_code 12 = .ok (.iload_n 1, 1) := by decide +kernel
theorem d_R_result_13 : decode prog_10_method_14_code 13 = .ok (.iaload, 1) := by decide +kernel
theorem d_R_result_14 : decode prog_10_method_14_code 14 = .ok (.iconst 1, 1) := by decide +kernel
theorem d_R_result_15 : decode prog_10_method_14_code 15 = .ok (.if_icmp .ne 12, 3) := by decide +kernel
theorem d_R_result_18 : decode prog_10_method_14_code 18 = .ok (.aload_n 0, 1) := by decide +kernel
theorem d_R_result_19 : decode prog_10_method_14_code 19 = .ok (.getfield 62, 3) := by decide +kernel
theorem d_R_result_22 : decode prog_10_method_14_code 22 = .ok (.iload_n 1, 1) := by decide +kernel
theorem d_R_result_23 : decode prog_10_method_14_code 23 = .ok (.iaload, 1) := by decide +kernel
theorem d_R_result_24 : decode prog_10_method_14_code 24 = .ok (.goto 4, 3) := by decide +kernel
theorem d_R_result_27 : decode prog_10_method_14_code 27 = .ok (.iconst 0, 1) := by decide +kernel
theorem d_R_result_28 : decode prog_10_method_14_code 28 = .ok (.ireturn, 1) := by decide +kernel
theorem d_R_version_0 : decode prog_10_method_15_code 0 = .ok (.aload_n 0, 1) := by decide +kernel
theorem d_R_version_1 : decode prog_10_method_15_code 1 = .ok (.iload_n 1, 1) := by decide +kernel
theorem d_R_version_2 : decode prog_10_method_15_code 2 = .ok (.invokevirtual 103, 3) := by decide +kernel
theorem d_R_version_5 : decode prog_10_method_15_code 5 = .ok (.ifCond .eq 22, 3) := by decide +kernel
theorem d_R_version_8 : decode prog_10_method_15_code 8 = .ok (.aload_n 0, 1) := by decide +kernel
theorem d_R_version_9 : decode prog_10_method_15_code 9 = .ok (.getfield 43, 3) := by decide +kernel
theorem d_R_version_12 : decode prog_10_method_15_code 12 = .ok (.iload_n 1, 1) := by decide +kernel
theorem d_R_version_13 : decode prog_10_method_15_code 13 = .ok (.iaload, 1) := by decide +kernel
theorem d_R_version_14 : decode prog_10_method_15_code 14 = .ok (.iconst 1, 1) := by decide +kernel
theorem d_R_version_15 : decode prog_10_method_15_code 15 = .ok (.if_icmp .ne 12, 3) := by decide +kernel
theorem d_R_version_18 : decode prog_10_method_15_code 18 = .ok (.aload_n 0, 1) := by decide +kernel
theorem d_R_version_19 : decode prog_10_method_15_code 19 = .ok (.getfield 65, 3) := by decide +kernel
theorem d_R_version_22 : decode prog_10_method_15_code 22 = .ok (.iload_n 1, 1) := by decide +kernel
theorem d_R_version_23 : decode prog_10_method_15_code 23 = .ok (.iaload, 1) := by decide +kernel
theorem d_R_version_24 : decode prog_10_method_15_code 24 = .ok (.goto 4, 3) := by decide +kernel
theorem d_R_version_27 : decode prog_10_method_15_code 27 = .ok (.iconst (-1), 1) := by decide +kernel
theorem d_R_version_28 : decode prog_10_method_15_code 28 = .ok (.ireturn, 1) := by decide +kernel
theorem d_R_given_0 : decode prog_10_method_16_code 0 = .ok (.aload_n 0, 1) := by decide +kernel
theorem d_R_given_1 : decode prog_10_method_16_code 1 = .ok (.getfield 43, 3) := by decide +kernel
theorem d_R_given_4 : decode prog_10_method_16_code 4 = .ok (.iload_n 1, 1) := by decide +kernel
theorem d_R_given_5 : decode prog_10_method_16_code 5 = .ok (.iaload, 1) := by decide +kernel
theorem d_R_given_6 : decode prog_10_method_16_code 6 = .ok (.iconst 2, 1) := by decide +kernel
theorem d_R_given_7 : decode prog_10_method_16_code 7 = .ok (.if_icmp .ne 22, 3) := by decide +kernel
theorem d_R_given_10 : decode prog_10_method_16_code 10 = .ok (.aload_n 0, 1) := by decide +kernel
theorem d_R_given_11 : decode prog_10_method_16_code 11 = .ok (.getfield 46, 3) := by decide +kernel
theorem d_R_given_14 : decode prog_10_method_16_code 14 = .ok (.iload_n 1, 1) := by decide +kernel
theorem d_R_given_15 : decode prog_10_method_16_code 15 = .ok (.baload, 1) := by decide +kernel
theorem d_R_given_16 : decode prog_10_method_16_code 16 = .ok (.ifCond .ne 13, 3) := by decide +kernel
theorem d_R_given_19 : decode prog_10_method_16_code 19 = .ok (.aload_n 0, 1) := by decide +kernel
theorem d_R_given_20 : decode prog_10_method_16_code 20 = .ok (.getfield 40, 3) := by decide +kernel
theorem d_R_given_23 : decode prog_10_method_16_code 23 = .ok (.iload_n 1, 1) := by decide +kernel
theorem d_R_given_24 : decode prog_10_method_16_code 24 = .ok (.iaload, 1) := by decide +kernel
theorem d_R_given_25 : decode prog_10_method_16_code 25 = .ok (.iload_n 3, 1) := by decide +kernel
theorem d_R_given_26 : decode prog_10_method_16_code 26 = .ok (.if_icmp .eq 4, 3) := by decide +kernel
theorem d_R_given_29 : decode prog_10_method_16_code 29 = .ok (.return_, 1) := by decide +kernel
theorem d_R_given_30 : decode prog_10_method_16_code 30 = .ok (.aload_n 0, 1) := by decide +kernel
theorem d_R_given_31 : decode prog_10_method_16_code 31 = .ok (.iload_n 1, 1) := by decide +kernel
theorem d_R_given_32 : decode prog_10_method_16_code 32 = .ok (.iload 4, 2) := by decide +kernel
theorem d_R_given_34 : decode prog_10_method_16_code 34 = .ok (.iload 5, 2) := by decide +kernel
theorem d_R_given_36 : decode prog_10_method_16_code 36 = .ok (.invokevirtual 114, 3) := by decide +kernel
theorem d_R_given_39 : decode prog_10_method_16_code 39 = .ok (.iload 6, 2) := by decide +kernel
theorem d_R_given_41 : decode prog_10_method_16_code 41 = .ok (.iconst 1, 1) := by decide +kernel
theorem d_R_given_42 : decode prog_10_method_16_code 42 = .ok (.if_icmp .ne 63, 3) := by decide +kernel
theorem d_R_given_45 : decode prog_10_method_16_code 45 = .ok (.aload_n 0, 1) := by decide +kernel
theorem d_R_given_46 : decode prog_10_method_16_code 46 = .ok (.getfield 59, 3) := by decide +kernel
theorem d_R_given_49 : decode prog_10_method_16_code 49 = .ok (.iload_n 1, 1) := by decide +kernel
theorem d_R_given_50 : decode prog_10_method_16_code 50 = .ok (.baload, 1) := by decide +kernel
theorem d_R_given_51 : decode prog_10_method_16_code 51 = .ok (.ifCond .ne 54, 3) := by decide +kernel
theorem d_R_given_54 : decode prog_10_method_16_code 54 = .ok (.iconst 4, 1) := by decide +kernel
theorem d_R_given_55 : decode prog_10_method_16_code 55 = .ok (.iload_n 1, 1) := by decide +kernel
theorem d_R_given_56 : decode prog_10_method_16_code 56 = .ok (.imul, 1) := by decide +kernel
theorem d_R_given_57 : decode prog_10_method_16_code 57 = .ok (.iload_n 2, 1) := by decide +kernel
theorem d_R_given_58 : decode prog_10_method_16_code 58 = .ok (.iadd, 1) := by decide +kernel
theorem d_R_given_59 : decode prog_10_method_16_code 59 = .ok (.istore 7, 2) := by decide +kernel
theorem d_R_given_61 : decode prog_10_method_16_code 61 = .ok (.aload_n 0, 1) := by decide +kernel
theorem d_R_given_62 : decode prog_10_method_16_code 62 = .ok (.getfield 68, 3) := by decide +kernel
theorem d_R_given_65 : decode prog_10_method_16_code 65 = .ok (.iload 7, 2) := by decide +kernel
theorem d_R_given_67 : decode prog_10_method_16_code 67 = .ok (.iconst 1, 1) := by decide +kernel
theorem d_R_given_68 : decode prog_10_method_16_code 68 = .ok (.bastore, 1) := by decide +kernel
theorem d_R_given_69 : decode prog_10_method_16_code 69 = .ok (.aload_n 0, 1) := by decide +kernel
theorem d_R_given_70 : decode prog_10_method_16_code 70 = .ok (.getfield 71, 3) := by decide +kernel
theorem d_R_given_73 : decode prog_10_method_16_code 73 = .ok (.iload 7, 2) := by decide +kernel
theorem d_R_given_75 : decode prog_10_method_16_code 75 = .ok (.aload_n 0, 1) := by decide +kernel
theorem d_R_given_76 : decode prog_10_method_16_code 76 = .ok (.getfield 56, 3) := by decide +kernel
theorem d_R_given_79 : decode prog_10_method_16_code 79 = .ok (.iload_n 1, 1) := by decide +kernel
theorem d_R_given_80 : decode prog_10_method_16_code 80 = .ok (.iaload, 1) := by decide +kernel
theorem d_R_given_81 : decode prog_10_method_16_code 81 = .ok (.aload_n 0, 1) := by decide +kernel
theorem d_R_given_82 : decode prog_10_method_16_code 82 = .ok (.getfield 93, 3) := by decide +kernel
theorem d_R_given_85 : decode prog_10_method_16_code 85 = .ok (.iadd, 1) := by decide +kernel
theorem d_R_given_86 : decode prog_10_method_16_code 86 = .ok (.iastore, 1) := by decide +kernel
theorem d_R_given_87 : decode prog_10_method_16_code 87 = .ok (.aload_n 0, 1) := by decide +kernel
theorem d_R_given_88 : decode prog_10_method_16_code 88 = .ok (.getfield 74, 3) := by decide +kernel
theorem d_R_given_91 : decode prog_10_method_16_code 91 = .ok (.iload 7, 2) := by decide +kernel
theorem d_R_given_93 : decode prog_10_method_16_code 93 = .ok (.iload 4, 2) := by decide +kernel
theorem d_R_given_95 : decode prog_10_method_16_code 95 = .ok (.iastore, 1) := by decide +kernel
theorem d_R_given_96 : decode prog_10_method_16_code 96 = .ok (.aload_n 0, 1) := by decide +kernel
theorem d_R_given_97 : decode prog_10_method_16_code 97 = .ok (.getfield 77, 3) := by decide +kernel
theorem d_R_given_100 : decode prog_10_method_16_code 100 = .ok (.iload 7, 2) := by decide +kernel
theorem d_R_given_102 : decode prog_10_method_16_code 102 = .ok (.iload 5, 2) := by decide +kernel
theorem d_R_given_104 : decode prog_10_method_16_code 104 = .ok (.iastore, 1) := by decide +kernel
theorem d_R_given_105 : decode prog_10_method_16_code 105 = .ok (.return_, 1) := by decide +kernel
theorem d_R_stored_0 : decode prog_10_method_17_code 0 = .ok (.aload_n 0, 1) := by decide +kernel
theorem d_R_stored_1 : decode prog_10_method_17_code 1 = .ok (.getfield 43, 3) := by decide +kernel
theorem d_R_stored_4 : decode prog_10_method_17_code 4 = .ok (.iload_n 1, 1) := by decide +kernel
theorem d_R_stored_5 : decode prog_10_method_17_code 5 = .ok (.iaload, 1) := by decide +kernel
theorem d_R_stored_6 : decode prog_10_method_17_code 6 = .ok (.iconst 2, 1) := by decide +kernel
theorem d_R_stored_7 : decode prog_10_method_17_code 7 = .ok (.if_icmp .ne 29, 3) := by decide +kernel
theorem d_R_stored_10 : decode prog_10_method_17_code 10 = .ok (.aload_n 0, 1) := by decide +kernel
theorem d_R_stored_11 : decode prog_10_method_17_code 11 = .ok (.getfield 46, 3) := by decide +kernel
theorem d_R_stored_14 : decode prog_10_method_17_code 14 = .ok (.iload_n 1, 1) := by decide +kernel
theorem d_R_stored_15 : decode prog_10_method_17_code 15 = .ok (.baload, 1) := by decide +kernel
theorem d_R_stored_16 : decode prog_10_method_17_code 16 = .ok (.ifCond .eq 20, 3) := by decide +kernel
theorem d_R_stored_19 : decode prog_10_method_17_code 19 = .ok (.aload_n 0, 1) := by decide +kernel
theorem d_R_stored_20 : decode prog_10_method_17_code 20 = .ok (.getfield 40, 3) := by decide +kernel
theorem d_R_stored_23 : decode prog_10_method_17_code 23 = .ok (.iload_n 1, 1) := by decide +kernel
theorem d_R_stored_24 : decode prog_10_method_17_code 24 = .ok (.iaload, 1) := by decide +kernel
theorem d_R_stored_25 : decode prog_10_method_17_code 25 = .ok (.iload_n 2, 1) := by decide +kernel
theorem d_R_stored_26 : decode prog_10_method_17_code 26 = .ok (.if_icmp .ne 10, 3) := by decide +kernel
theorem d_R_stored_29 : decode prog_10_method_17_code 29 = .ok (.aload_n 0, 1) := by decide +kernel
theorem d_R_stored_30 : decode prog_10_method_17_code 30 = .ok (.iload_n 1, 1) := by decide +kernel
theorem d_R_stored_31 : decode prog_10_method_17_code 31 = .ok (.iload_n 3, 1) := by decide +kernel
theorem d_R_stored_32 : decode prog_10_method_17_code 32 = .ok (.iload_n 3, 1) := by decide +kernel
theorem d_R_stored_33 : decode prog_10_method_17_code 33 = .ok (.invokevirtual 114, 3) := by decide +kernel
theorem d_R_stored_36 : decode prog_10_method_17_code 36 = .ok (.return_, 1) := by decide +kernel
theorem d_R_recalled_0 : decode prog_10_method_18_code 0 = .ok (.aload_n 0, 1) := by decide +kernel
theorem d_R_recalled_1 : decode prog_10_method_18_code 1 = .ok (.getfield 68, 3) := by decide +kernel
theorem d_R_recalled_4 : decode prog_10_method_18_code 4 = .ok (.iconst 4, 1) := by decide +kernel
theorem d_R_recalled_5 : decode prog_10_method_18_code 5 = .ok (.iload_n 1, 1) := by decide +kernel
theorem d_R_recalled_6 : decode prog_10_method_18_code 6 = .ok (.imul, 1) := by decide +kernel
theorem d_R_recalled_7 : decode prog_10_method_18_code 7 = .ok (.iload_n 2, 1) := by decide +kernel
theorem d_R_recalled_8 : decode prog_10_method_18_code 8 = .ok (.iadd, 1) := by decide +kernel
theorem d_R_recalled_9 : decode prog_10_method_18_code 9 = .ok (.iconst 0, 1) := by decide +kernel
theorem d_R_recalled_10 : decode prog_10_method_18_code 10 = .ok (.bastore, 1) := by decide +kernel
theorem d_R_recalled_11 : decode prog_10_method_18_code 11 = .ok (.aload_n 0, 1) := by decide +kernel
theorem d_R_recalled_12 : decode prog_10_method_18_code 12 = .ok (.getfield 43, 3) := by decide +kernel
theorem d_R_recalled_15 : decode prog_10_method_18_code 15 = .ok (.iload_n 1, 1) := by decide +kernel
theorem d_R_recalled_16 : decode prog_10_method_18_code 16 = .ok (.iaload, 1) := by decide +kernel
theorem d_R_recalled_17 : decode prog_10_method_18_code 17 = .ok (.iconst 2, 1) := by decide +kernel
theorem d_R_recalled_18 : decode prog_10_method_18_code 18 = .ok (.if_icmp .ne 29, 3) := by decide +kernel
theorem d_R_recalled_21 : decode prog_10_method_18_code 21 = .ok (.aload_n 0, 1) := by decide +kernel
theorem d_R_recalled_22 : decode prog_10_method_18_code 22 = .ok (.getfield 46, 3) := by decide +kernel
theorem d_R_recalled_25 : decode prog_10_method_18_code 25 = .ok (.iload_n 1, 1) := by decide +kernel
theorem d_R_recalled_26 : decode prog_10_method_18_code 26 = .ok (.baload, 1) := by decide +kernel
theorem d_R_recalled_27 : decode prog_10_method_18_code 27 = .ok (.ifCond .ne 20, 3) := by decide +kernel
theorem d_R_recalled_30 : decode prog_10_method_18_code 30 = .ok (.aload_n 0, 1) := by decide +kernel
theorem d_R_recalled_31 : decode prog_10_method_18_code 31 = .ok (.getfield 50, 3) := by decide +kernel
theorem d_R_recalled_34 : decode prog_10_method_18_code 34 = .ok (.iload_n 1, 1) := by decide +kernel
theorem d_R_recalled_35 : decode prog_10_method_18_code 35 = .ok (.iaload, 1) := by decide +kernel
theorem d_R_recalled_36 : decode prog_10_method_18_code 36 = .ok (.iload_n 2, 1) := by decide +kernel
theorem d_R_recalled_37 : decode prog_10_method_18_code 37 = .ok (.if_icmp .ne 10, 3) := by decide +kernel
theorem d_R_recalled_40 : decode prog_10_method_18_code 40 = .ok (.aload_n 0, 1) := by decide +kernel
theorem d_R_recalled_41 : decode prog_10_method_18_code 41 = .ok (.getfield 59, 3) := by decide +kernel
theorem d_R_recalled_44 : decode prog_10_method_18_code 44 = .ok (.iload_n 1, 1) := by decide +kernel
theorem d_R_recalled_45 : decode prog_10_method_18_code 45 = .ok (.iconst 1, 1) := by decide +kernel
theorem d_R_recalled_46 : decode prog_10_method_18_code 46 = .ok (.bastore, 1) := by decide +kernel
theorem d_R_recalled_47 : decode prog_10_method_18_code 47 = .ok (.aload_n 0, 1) := by decide +kernel
theorem d_R_recalled_48 : decode prog_10_method_18_code 48 = .ok (.iconst 5, 1) := by decide +kernel
theorem d_R_recalled_49 : decode prog_10_method_18_code 49 = .ok (.iload_n 1, 1) := by decide +kernel
theorem d_R_recalled_50 : decode prog_10_method_18_code 50 = .ok (.iload_n 2, 1) := by decide +kernel
theorem d_R_recalled_51 : decode prog_10_method_18_code 51 = .ok (.iload_n 3, 1) := by decide +kernel
theorem d_R_recalled_52 : decode prog_10_method_18_code 52 = .ok (.iload 4, 2) := by decide +kernel
theorem d_R_recalled_54 : decode prog_10_method_18_code 54 = .ok (.iload 5, 2) := by decide +kernel
theorem d_R_recalled_56 : decode prog_10_method_18_code 56 = .ok (.iconst 0, 1) := by decide +kernel
theorem d_R_recalled_57 : decode prog_10_method_18_code 57 = .ok (.invokevirtual 99, 3) := by decide +kernel
theorem d_R_recalled_60 : decode prog_10_method_18_code 60 = .ok (.return_, 1) := by decide +kernel
theorem d_R_isLeased_0 : decode prog_10_method_19_code 0 = .ok (.aload_n 0, 1) := by decide +kernel
theorem d_R_isLeased_1 : decode prog_10_method_19_code 1 = .ok (.getfield 16, 3) := by decide +kernel
theorem d_R_isLeased_4 : decode prog_10_method_19_code 4 = .ok (.iconst 4, 1) := by decide +kernel
theorem d_R_isLeased_5 : decode prog_10_method_19_code 5 = .ok (.iload_n 1, 1) := by decide +kernel
theorem d_R_isLeased_6 : decode prog_10_method_19_code 6 = .ok (.imul, 1) := by decide +kernel
theorem d_R_isLeased_7 : decode prog_10_method_19_code 7 = .ok (.iload_n 2, 1) := by decide +kernel
theorem d_R_isLeased_8 : decode prog_10_method_19_code 8 = .ok (.iadd, 1) := by decide +kernel
theorem d_R_isLeased_9 : decode prog_10_method_19_code 9 = .ok (.iaload, 1) := by decide +kernel
theorem d_R_isLeased_10 : decode prog_10_method_19_code 10 = .ok (.aload_n 0, 1) := by decide +kernel
theorem d_R_isLeased_11 : decode prog_10_method_19_code 11 = .ok (.getfield 122, 3) := by decide +kernel
theorem d_R_isLeased_14 : decode prog_10_method_19_code 14 = .ok (.if_icmp .le 7, 3) := by decide +kernel
theorem d_R_isLeased_17 : decode prog_10_method_19_code 17 = .ok (.iconst 1, 1) := by decide +kernel
theorem d_R_isLeased_18 : decode prog_10_method_19_code 18 = .ok (.goto 4, 3) := by decide +kernel
theorem d_R_isLeased_21 : decode prog_10_method_19_code 21 = .ok (.iconst 0, 1) := by decide +kernel
theorem d_R_isLeased_22 : decode prog_10_method_19_code 22 = .ok (.ireturn, 1) := by decide +kernel
theorem d_R_firstOf_0 : decode prog_10_method_20_code 0 = .ok (.iconst (-1), 1) := by decide +kernel
theorem d_R_firstOf_1 : decode prog_10_method_20_code 1 = .ok (.istore_n 2, 1) := by decide +kernel
theorem d_R_firstOf_2 : decode prog_10_method_20_code 2 = .ok (.aload_n 0, 1) := by decide +kernel
theorem d_R_firstOf_3 : decode prog_10_method_20_code 3 = .ok (.getfield 125, 3) := by decide +kernel
theorem d_R_firstOf_6 : decode prog_10_method_20_code 6 = .ok (.iconst 1, 1) := by decide +kernel
theorem d_R_firstOf_7 : decode prog_10_method_20_code 7 = .ok (.isub, 1) := by decide +kernel
theorem d_R_firstOf_8 : decode prog_10_method_20_code 8 = .ok (.istore_n 3, 1) := by decide +kernel
theorem d_R_firstOf_9 : decode prog_10_method_20_code 9 = .ok (.iload_n 3, 1) := by decide +kernel
theorem d_R_firstOf_10 : decode prog_10_method_20_code 10 = .ok (.ifCond .lt 25, 3) := by decide +kernel
theorem d_R_firstOf_13 : decode prog_10_method_20_code 13 = .ok (.aload_n 0, 1) := by decide +kernel
theorem d_R_firstOf_14 : decode prog_10_method_20_code 14 = .ok (.getfield 28, 3) := by decide +kernel
theorem d_R_firstOf_17 : decode prog_10_method_20_code 17 = .ok (.iload_n 3, 1) := by decide +kernel
theorem d_R_firstOf_18 : decode prog_10_method_20_code 18 = .ok (.iaload, 1) := by decide +kernel
theorem d_R_firstOf_19 : decode prog_10_method_20_code 19 = .ok (.iload_n 1, 1) := by decide +kernel
theorem d_R_firstOf_20 : decode prog_10_method_20_code 20 = .ok (.if_icmp .ne 7, 3) := by decide +kernel
theorem d_R_firstOf_23 : decode prog_10_method_20_code 23 = .ok (.iload_n 3, 1) := by decide +kernel
theorem d_R_firstOf_24 : decode prog_10_method_20_code 24 = .ok (.goto 4, 3) := by decide +kernel
theorem d_R_firstOf_27 : decode prog_10_method_20_code 27 = .ok (.iload_n 2, 1) := by decide +kernel
theorem d_R_firstOf_28 : decode prog_10_method_20_code 28 = .ok (.istore_n 2, 1) := by decide +kernel
theorem d_R_firstOf_29 : decode prog_10_method_20_code 29 = .ok (.iinc 3 (-1), 3) := by decide +kernel
theorem d_R_firstOf_32 : decode prog_10_method_20_code 32 = .ok (.goto (-23), 3) := by decide +kernel
theorem d_R_firstOf_35 : decode prog_10_method_20_code 35 = .ok (.iload_n 2, 1) := by decide +kernel
theorem d_R_firstOf_36 : decode prog_10_method_20_code 36 = .ok (.ireturn, 1) := by decide +kernel
theorem d_R_asked_0 : decode prog_10_method_21_code 0 = .ok (.aload_n 0, 1) := by decide +kernel
theorem d_R_asked_1 : decode prog_10_method_21_code 1 = .ok (.iload_n 2, 1) := by decide +kernel
theorem d_R_asked_2 : decode prog_10_method_21_code 2 = .ok (.invokevirtual 128, 3) := by decide +kernel
theorem d_R_asked_5 : decode prog_10_method_21_code 5 = .ok (.ifCond .ge 7, 3) := by decide +kernel
theorem d_R_asked_8 : decode prog_10_method_21_code 8 = .ok (.iconst 1, 1) := by decide +kernel
theorem d_R_asked_9 : decode prog_10_method_21_code 9 = .ok (.goto 4, 3) := by decide +kernel
theorem d_R_asked_12 : decode prog_10_method_21_code 12 = .ok (.iconst 0, 1) := by decide +kernel
theorem d_R_asked_13 : decode prog_10_method_21_code 13 = .ok (.istore 4, 2) := by decide +kernel
theorem d_R_asked_15 : decode prog_10_method_21_code 15 = .ok (.aload_n 0, 1) := by decide +kernel
theorem d_R_asked_16 : decode prog_10_method_21_code 16 = .ok (.iconst 2, 1) := by decide +kernel
theorem d_R_asked_17 : decode prog_10_method_21_code 17 = .ok (.iload_n 1, 1) := by decide +kernel
theorem d_R_asked_18 : decode prog_10_method_21_code 18 = .ok (.iload_n 2, 1) := by decide +kernel
theorem d_R_asked_19 : decode prog_10_method_21_code 19 = .ok (.iload_n 3, 1) := by decide +kernel
theorem d_R_asked_20 : decode prog_10_method_21_code 20 = .ok (.aload_n 0, 1) := by decide +kernel
theorem d_R_asked_21 : decode prog_10_method_21_code 21 = .ok (.getfield 7, 3) := by decide +kernel
theorem d_R_asked_24 : decode prog_10_method_21_code 24 = .ok (.iload_n 2, 1) := by decide +kernel
theorem d_R_asked_25 : decode prog_10_method_21_code 25 = .ok (.iaload, 1) := by decide +kernel
theorem d_R_asked_26 : decode prog_10_method_21_code 26 = .ok (.aload_n 0, 1) := by decide +kernel
theorem d_R_asked_27 : decode prog_10_method_21_code 27 = .ok (.getfield 13, 3) := by decide +kernel
theorem d_R_asked_30 : decode prog_10_method_21_code 30 = .ok (.iload_n 2, 1) := by decide +kernel
theorem d_R_asked_31 : decode prog_10_method_21_code 31 = .ok (.iaload, 1) := by decide +kernel
theorem d_R_asked_32 : decode prog_10_method_21_code 32 = .ok (.iload 4, 2) := by decide +kernel
theorem d_R_asked_34 : decode prog_10_method_21_code 34 = .ok (.ifCond .eq 7, 3) := by decide +kernel
theorem d_R_asked_37 : decode prog_10_method_21_code 37 = .ok (.iconst 1, 1) := by decide +kernel
theorem d_R_asked_38 : decode prog_10_method_21_code 38 = .ok (.goto 4, 3) := by decide +kernel
theorem d_R_asked_41 : decode prog_10_method_21_code 41 = .ok (.iconst 0, 1) := by decide +kernel
theorem d_R_asked_42 : decode prog_10_method_21_code 42 = .ok (.invokevirtual 99, 3) := by decide +kernel
theorem d_R_asked_45 : decode prog_10_method_21_code 45 = .ok (.iload 4, 2) := by decide +kernel
theorem d_R_asked_47 : decode prog_10_method_21_code 47 = .ok (.ifCond .eq 22, 3) := by decide +kernel
theorem d_R_asked_50 : decode prog_10_method_21_code 50 = .ok (.aload_n 0, 1) := by decide +kernel
theorem d_R_asked_51 : decode prog_10_method_21_code 51 = .ok (.getfield 16, 3) := by decide +kernel
theorem d_R_asked_54 : decode prog_10_method_21_code 54 = .ok (.iconst 4, 1) := by decide +kernel
theorem d_R_asked_55 : decode prog_10_method_21_code 55 = .ok (.iload_n 1, 1) := by decide +kernel
theorem d_R_asked_56 : decode prog_10_method_21_code 56 = .ok (.imul, 1) := by decide +kernel
theorem d_R_asked_57 : decode prog_10_method_21_code 57 = .ok (.iload_n 2, 1) := by decide +kernel
theorem d_R_asked_58 : decode prog_10_method_21_code 58 = .ok (.iadd, 1) := by decide +kernel
theorem d_R_asked_59 : decode prog_10_method_21_code 59 = .ok (.aload_n 0, 1) := by decide +kernel
theorem d_R_asked_60 : decode prog_10_method_21_code 60 = .ok (.getfield 122, 3) := by decide +kernel
theorem d_R_asked_63 : decode prog_10_method_21_code 63 = .ok (.aload_n 0, 1) := by decide +kernel
theorem d_R_asked_64 : decode prog_10_method_21_code 64 = .ok (.getfield 90, 3) := by decide +kernel
theorem d_R_asked_67 : decode prog_10_method_21_code 67 = .ok (.iadd, 1) := by decide +kernel
theorem d_R_asked_68 : decode prog_10_method_21_code 68 = .ok (.iastore, 1) := by decide +kernel
theorem d_R_asked_69 : decode prog_10_method_21_code 69 = .ok (.return_, 1) := by decide +kernel
theorem d_R_putCame_0 : decode prog_10_method_22_code 0 = .ok (.iload_n 3, 1) := by decide +kernel
theorem d_R_putCame_1 : decode prog_10_method_22_code 1 = .ok (.aload_n 0, 1) := by decide +kernel
theorem d_R_putCame_2 : decode prog_10_method_22_code 2 = .ok (.getfield 19, 3) := by decide +kernel
theorem d_R_putCame_5 : decode prog_10_method_22_code 5 = .ok (.iload_n 1, 1) := by decide +kernel
theorem d_R_putCame_6 : decode prog_10_method_22_code 6 = .ok (.iaload, 1) := by decide +kernel
theorem d_R_putCame_7 : decode prog_10_method_22_code 7 = .ok (.if_icmp .ne 20, 3) := by decide +kernel
theorem d_R_putCame_10 : decode prog_10_method_22_code 10 = .ok (.aload_n 0, 1) := by decide +kernel
theorem d_R_putCame_11 : decode prog_10_method_22_code 11 = .ok (.iconst 3, 1) := by decide +kernel
theorem d_R_putCame_12 : decode prog_10_method_22_code 12 = .ok (.iload_n 1, 1) := by decide +kernel
theorem d_R_putCame_13 : decode prog_10_method_22_code 13 = .ok (.iload_n 2, 1) := by decide +kernel
theorem d_R_putCame_14 : decode prog_10_method_22_code 14 = .ok (.iload_n 3, 1) := by decide +kernel
theorem d_R_putCame_15 : decode prog_10_method_22_code 15 = .ok (.aload_n 0, 1) := by decide +kernel
theorem d_R_putCame_16 : decode prog_10_method_22_code 16 = .ok (.getfield 22, 3) := by decide +kernel
theorem d_R_putCame_19 : decode prog_10_method_22_code 19 = .ok (.iload_n 1, 1) := by decide +kernel
theorem d_R_putCame_20 : decode prog_10_method_22_code 20 = .ok (.iaload, 1) := by decide +kernel
theorem d_R_putCame_21 : decode prog_10_method_22_code 21 = .ok (.iconst 0, 1) := by decide +kernel
theorem d_R_putCame_22 : decode prog_10_method_22_code 22 = .ok (.iconst 0, 1) := by decide +kernel
theorem d_R_putCame_23 : decode prog_10_method_22_code 23 = .ok (.invokevirtual 99, 3) := by decide +kernel
theorem d_R_putCame_26 : decode prog_10_method_22_code 26 = .ok (.return_, 1) := by decide +kernel
theorem d_R_putCame_27 : decode prog_10_method_22_code 27 = .ok (.iload_n 3, 1) := by decide +kernel
theorem d_R_putCame_28 : decode prog_10_method_22_code 28 = .ok (.aload_n 0, 1) := by decide +kernel
theorem d_R_putCame_29 : decode prog_10_method_22_code 29 = .ok (.getfield 19, 3) := by decide +kernel
theorem d_R_putCame_32 : decode prog_10_method_22_code 32 = .ok (.iload_n 1, 1) := by decide +kernel
theorem d_R_putCame_33 : decode prog_10_method_22_code 33 = .ok (.iaload, 1) := by decide +kernel
theorem d_R_putCame_34 : decode prog_10_method_22_code 34 = .ok (.if_icmp .ge 4, 3) := by decide +kernel
theorem d_R_putCame_37 : decode prog_10_method_22_code 37 = .ok (.return_, 1) := by decide +kernel
theorem d_R_putCame_38 : decode prog_10_method_22_code 38 = .ok (.iconst 0, 1) := by decide +kernel
theorem d_R_putCame_39 : decode prog_10_method_22_code 39 = .ok (.istore 5, 2) := by decide +kernel
theorem d_R_putCame_41 : decode prog_10_method_22_code 41 = .ok (.iconst 0, 1) := by decide +kernel
theorem d_R_putCame_42 : decode prog_10_method_22_code 42 = .ok (.istore 6, 2) := by decide +kernel
theorem d_R_putCame_44 : decode prog_10_method_22_code 44 = .ok (.iload 6, 2) := by decide +kernel
theorem d_R_putCame_46 : decode prog_10_method_22_code 46 = .ok (.aload_n 0, 1) := by decide +kernel
theorem d_R_putCame_47 : decode prog_10_method_22_code 47 = .ok (.getfield 125, 3) := by decide +kernel
theorem d_R_putCame_50 : decode prog_10_method_22_code 50 = .ok (.if_icmp .ge 54, 3) := by decide +kernel
theorem d_R_putCame_53 : decode prog_10_method_22_code 53 = .ok (.iload 5, 2) := by decide +kernel
theorem d_R_putCame_55 : decode prog_10_method_22_code 55 = .ok (.ifCond .ne 36, 3) := by decide +kernel
theorem d_R_putCame_58 : decode prog_10_method_22_code 58 = .ok (.aload_n 0, 1) := by decide +kernel
theorem d_R_putCame_59 : decode prog_10_method_22_code 59 = .ok (.getfield 25, 3) := by decide +kernel
theorem d_R_putCame_62 : decode prog_10_method_22_code 62 = .ok (.iload 6, 2) := by decide +kernel
theorem d_R_putCame_64 : decode prog_10_method_22_code 64 = .ok (.iaload, 1) := by decide +kernel
theorem d_R_putCame_65 : decode prog_10_method_22_code 65 = .ok (.iload_n 1, 1) := by decide +kernel
theorem d_R_putCame_66 : decode prog_10_method_22_code 66 = .ok (.if_icmp .ne 29, 3) := by decide +kernel
theorem d_R_putCame_69 : decode prog_10_method_22_code 69 = .ok (.aload_n 0, 1) := by decide +kernel
theorem d_R_putCame_70 : decode prog_10_method_22_code 70 = .ok (.getfield 28, 3) := by decide +kernel
theorem d_R_putCame_73 : decode prog_10_method_22_code 73 = .ok (.iload 6, 2) := by decide +kernel
theorem d_R_putCame_75 : decode prog_10_method_22_code 75 = .ok (.iaload, 1) := by decide +kernel
theorem d_R_putCame_76 : decode prog_10_method_22_code 76 = .ok (.iload_n 2, 1) := by decide +kernel
theorem d_R_putCame_77 : decode prog_10_method_22_code 77 = .ok (.if_icmp .ne 18, 3) := by decide +kernel
theorem d_R_putCame_80 : decode prog_10_method_22_code 80 = .ok (.aload_n 0, 1) := by decide +kernel
theorem d_R_putCame_81 : decode prog_10_method_22_code 81 = .ok (.getfield 31, 3) := by decide +kernel
