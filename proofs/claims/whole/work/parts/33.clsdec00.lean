theorem d_L_init_0 : decode prog_1_method_1_code 0 = .ok (.aload_n 0, 1) := by decide +kernel
theorem d_L_init_1 : decode prog_1_method_1_code 1 = .ok (.invokespecial 1, 3) := by decide +kernel
theorem d_L_init_4 : decode prog_1_method_1_code 4 = .ok (.iload_n 1, 1) := by decide +kernel
theorem d_L_init_5 : decode prog_1_method_1_code 5 = .ok (.iconst 4, 1) := by decide +kernel
theorem d_L_init_6 : decode prog_1_method_1_code 6 = .ok (.invokestatic 9, 3) := by decide +kernel
theorem d_L_init_9 : decode prog_1_method_1_code 9 = .ok (.istore 5, 2) := by decide +kernel
theorem d_L_init_11 : decode prog_1_method_1_code 11 = .ok (.iload_n 3, 1) := by decide +kernel
theorem d_L_init_12 : decode prog_1_method_1_code 12 = .ok (.sipush 1000, 3) := by decide +kernel
theorem d_L_init_15 : decode prog_1_method_1_code 15 = .ok (.invokestatic 9, 3) := by decide +kernel
theorem d_L_init_18 : decode prog_1_method_1_code 18 = .ok (.istore 6, 2) := by decide +kernel
theorem d_L_init_20 : decode prog_1_method_1_code 20 = .ok (.iload 4, 2) := by decide +kernel
theorem d_L_init_22 : decode prog_1_method_1_code 22 = .ok (.iload 6, 2) := by decide +kernel
theorem d_L_init_24 : decode prog_1_method_1_code 24 = .ok (.invokestatic 9, 3) := by decide +kernel
theorem d_L_init_27 : decode prog_1_method_1_code 27 = .ok (.istore 7, 2) := by decide +kernel
theorem d_L_init_29 : decode prog_1_method_1_code 29 = .ok (.aload_n 0, 1) := by decide +kernel
theorem d_L_init_30 : decode prog_1_method_1_code 30 = .ok (.iload_n 2, 1) := by decide +kernel
theorem d_L_init_31 : decode prog_1_method_1_code 31 = .ok (.iconst 4, 1) := by decide +kernel
theorem d_L_init_32 : decode prog_1_method_1_code 32 = .ok (.invokestatic 9, 3) := by decide +kernel
theorem d_L_init_35 : decode prog_1_method_1_code 35 = .ok (.putfield 13, 3) := by decide +kernel
theorem d_L_init_38 : decode prog_1_method_1_code 38 = .ok (.aload_n 0, 1) := by decide +kernel
theorem d_L_init_39 : decode prog_1_method_1_code 39 = .ok (.new 17, 3) := by decide +kernel
theorem d_L_init_42 : decode prog_1_method_1_code 42 = .ok (.dup, 1) := by decide +kernel
theorem d_L_init_43 : decode prog_1_method_1_code 43 = .ok (.invokespecial 19, 3) := by decide +kernel
theorem d_L_init_46 : decode prog_1_method_1_code 46 = .ok (.putfield 20, 3) := by decide +kernel
theorem d_L_init_49 : decode prog_1_method_1_code 49 = .ok (.aload_n 0, 1) := by decide +kernel
theorem d_L_init_50 : decode prog_1_method_1_code 50 = .ok (.new 24, 3) := by decide +kernel
theorem d_L_init_53 : decode prog_1_method_1_code 53 = .ok (.dup, 1) := by decide +kernel
theorem d_L_init_54 : decode prog_1_method_1_code 54 = .ok (.iload 5, 2) := by decide +kernel
theorem d_L_init_56 : decode prog_1_method_1_code 56 = .ok (.aload_n 0, 1) := by decide +kernel
theorem d_L_init_57 : decode prog_1_method_1_code 57 = .ok (.getfield 13, 3) := by decide +kernel
theorem d_L_init_60 : decode prog_1_method_1_code 60 = .ok (.iload 6, 2) := by decide +kernel
theorem d_L_init_62 : decode prog_1_method_1_code 62 = .ok (.invokespecial 26, 3) := by decide +kernel
theorem d_L_init_65 : decode prog_1_method_1_code 65 = .ok (.putfield 29, 3) := by decide +kernel
theorem d_L_init_68 : decode prog_1_method_1_code 68 = .ok (.aload_n 0, 1) := by decide +kernel
theorem d_L_init_69 : decode prog_1_method_1_code 69 = .ok (.iload 5, 2) := by decide +kernel
theorem d_L_init_71 : decode prog_1_method_1_code 71 = .ok (.anewarray 33, 3) := by decide +kernel
theorem d_L_init_74 : decode prog_1_method_1_code 74 = .ok (.putfield 35, 3) := by decide +kernel
theorem d_L_init_77 : decode prog_1_method_1_code 77 = .ok (.iconst 0, 1) := by decide +kernel
theorem d_L_init_78 : decode prog_1_method_1_code 78 = .ok (.istore 8, 2) := by decide +kernel
theorem d_L_init_80 : decode prog_1_method_1_code 80 = .ok (.iload 8, 2) := by decide +kernel
theorem d_L_init_82 : decode prog_1_method_1_code 82 = .ok (.iload 5, 2) := by decide +kernel
theorem d_L_init_84 : decode prog_1_method_1_code 84 = .ok (.if_icmp .ge 31, 3) := by decide +kernel
theorem d_L_init_87 : decode prog_1_method_1_code 87 = .ok (.aload_n 0, 1) := by decide +kernel
theorem d_L_init_88 : decode prog_1_method_1_code 88 = .ok (.getfield 35, 3) := by decide +kernel
theorem d_L_init_91 : decode prog_1_method_1_code 91 = .ok (.iload 8, 2) := by decide +kernel
theorem d_L_init_93 : decode prog_1_method_1_code 93 = .ok (.new 33, 3) := by decide +kernel
theorem d_L_init_96 : decode prog_1_method_1_code 96 = .ok (.dup, 1) := by decide +kernel
theorem d_L_init_97 : decode prog_1_method_1_code 97 = .ok (.iload 8, 2) := by decide +kernel
theorem d_L_init_99 : decode prog_1_method_1_code 99 = .ok (.aload_n 0, 1) := by decide +kernel
theorem d_L_init_100 : decode prog_1_method_1_code 100 = .ok (.getfield 13, 3) := by decide +kernel
theorem d_L_init_103 : decode prog_1_method_1_code 103 = .ok (.iload 7, 2) := by decide +kernel
theorem d_L_init_105 : decode prog_1_method_1_code 105 = .ok (.invokespecial 39, 3) := by decide +kernel
theorem d_L_init_108 : decode prog_1_method_1_code 108 = .ok (.aastore, 1) := by decide +kernel
theorem d_L_init_109 : decode prog_1_method_1_code 109 = .ok (.iinc 8 1, 3) := by decide +kernel
theorem d_L_init_112 : decode prog_1_method_1_code 112 = .ok (.goto (-32), 3) := by decide +kernel
theorem d_L_init_115 : decode prog_1_method_1_code 115 = .ok (.return_, 1) := by decide +kernel
theorem d_L_read_0 : decode prog_1_method_2_code 0 = .ok (.aload_n 0, 1) := by decide +kernel
theorem d_L_read_1 : decode prog_1_method_2_code 1 = .ok (.iload_n 1, 1) := by decide +kernel
theorem d_L_read_2 : decode prog_1_method_2_code 2 = .ok (.invokevirtual 40, 3) := by decide +kernel
theorem d_L_read_5 : decode prog_1_method_2_code 5 = .ok (.ifCond .eq 11, 3) := by decide +kernel
theorem d_L_read_8 : decode prog_1_method_2_code 8 = .ok (.aload_n 0, 1) := by decide +kernel
theorem d_L_read_9 : decode prog_1_method_2_code 9 = .ok (.iload_n 2, 1) := by decide +kernel
theorem d_L_read_10 : decode prog_1_method_2_code 10 = .ok (.invokevirtual 44, 3) := by decide +kernel
theorem d_L_read_13 : decode prog_1_method_2_code 13 = .ok (.ifCond .ne 5, 3) := by decide +kernel
theorem d_L_read_16 : decode prog_1_method_2_code 16 = .ok (.iconst (-1), 1) := by decide +kernel
theorem d_L_read_17 : decode prog_1_method_2_code 17 = .ok (.ireturn, 1) := by decide +kernel
theorem d_L_read_18 : decode prog_1_method_2_code 18 = .ok (.aload_n 0, 1) := by decide +kernel
theorem d_L_read_19 : decode prog_1_method_2_code 19 = .ok (.getfield 35, 3) := by decide +kernel
theorem d_L_read_22 : decode prog_1_method_2_code 22 = .ok (.iload_n 1, 1) := by decide +kernel
theorem d_L_read_23 : decode prog_1_method_2_code 23 = .ok (.aaload, 1) := by decide +kernel
theorem d_L_read_24 : decode prog_1_method_2_code 24 = .ok (.iload_n 2, 1) := by decide +kernel
theorem d_L_read_25 : decode prog_1_method_2_code 25 = .ok (.aload_n 0, 1) := by decide +kernel
theorem d_L_read_26 : decode prog_1_method_2_code 26 = .ok (.getfield 20, 3) := by decide +kernel
theorem d_L_read_29 : decode prog_1_method_2_code 29 = .ok (.invokevirtual 47, 3) := by decide +kernel
theorem d_L_read_32 : decode prog_1_method_2_code 32 = .ok (.ireturn, 1) := by decide +kernel
theorem d_L_write_0 : decode prog_1_method_3_code 0 = .ok (.aload_n 0, 1) := by decide +kernel
theorem d_L_write_1 : decode prog_1_method_3_code 1 = .ok (.iload_n 1, 1) := by decide +kernel
theorem d_L_write_2 : decode prog_1_method_3_code 2 = .ok (.invokevirtual 40, 3) := by decide +kernel
theorem d_L_write_5 : decode prog_1_method_3_code 5 = .ok (.ifCond .eq 11, 3) := by decide +kernel
theorem d_L_write_8 : decode prog_1_method_3_code 8 = .ok (.aload_n 0, 1) := by decide +kernel
theorem d_L_write_9 : decode prog_1_method_3_code 9 = .ok (.iload_n 2, 1) := by decide +kernel
theorem d_L_write_10 : decode prog_1_method_3_code 10 = .ok (.invokevirtual 44, 3) := by decide +kernel
theorem d_L_write_13 : decode prog_1_method_3_code 13 = .ok (.ifCond .ne 5, 3) := by decide +kernel
theorem d_L_write_16 : decode prog_1_method_3_code 16 = .ok (.iconst (-1), 1) := by decide +kernel
theorem d_L_write_17 : decode prog_1_method_3_code 17 = .ok (.ireturn, 1) := by decide +kernel
theorem d_L_write_18 : decode prog_1_method_3_code 18 = .ok (.aload_n 0, 1) := by decide +kernel
theorem d_L_write_19 : decode prog_1_method_3_code 19 = .ok (.getfield 35, 3) := by decide +kernel
theorem d_L_write_22 : decode prog_1_method_3_code 22 = .ok (.iload_n 1, 1) := by decide +kernel
theorem d_L_write_23 : decode prog_1_method_3_code 23 = .ok (.aaload, 1) := by decide +kernel
theorem d_L_write_24 : decode prog_1_method_3_code 24 = .ok (.iload_n 2, 1) := by decide +kernel
theorem d_L_write_25 : decode prog_1_method_3_code 25 = .ok (.iload_n 3, 1) := by decide +kernel
theorem d_L_write_26 : decode prog_1_method_3_code 26 = .ok (.aload_n 0, 1) := by decide +kernel
theorem d_L_write_27 : decode prog_1_method_3_code 27 = .ok (.getfield 20, 3) := by decide +kernel
theorem d_L_write_30 : decode prog_1_method_3_code 30 = .ok (.invokevirtual 51, 3) := by decide +kernel
theorem d_L_write_33 : decode prog_1_method_3_code 33 = .ok (.ireturn, 1) := by decide +kernel
theorem d_L_retry_0 : decode prog_1_method_4_code 0 = .ok (.aload_n 0, 1) := by decide +kernel
theorem d_L_retry_1 : decode prog_1_method_4_code 1 = .ok (.iload_n 1, 1) := by decide +kernel
theorem d_L_retry_2 : decode prog_1_method_4_code 2 = .ok (.invokevirtual 40, 3) := by decide +kernel
theorem d_L_retry_5 : decode prog_1_method_4_code 5 = .ok (.ifCond .eq 19, 3) := by decide +kernel
theorem d_L_retry_8 : decode prog_1_method_4_code 8 = .ok (.aload_n 0, 1) := by decide +kernel
theorem d_L_retry_9 : decode prog_1_method_4_code 9 = .ok (.getfield 35, 3) := by decide +kernel
theorem d_L_retry_12 : decode prog_1_method_4_code 12 = .ok (.iload_n 1, 1) := by decide +kernel
theorem d_L_retry_13 : decode prog_1_method_4_code 13 = .ok (.aaload, 1) := by decide +kernel
theorem d_L_retry_14 : decode prog_1_method_4_code 14 = .ok (.aload_n 0, 1) := by decide +kernel
theorem d_L_retry_15 : decode prog_1_method_4_code 15 = .ok (.getfield 20, 3) := by decide +kernel
theorem d_L_retry_18 : decode prog_1_method_4_code 18 = .ok (.invokevirtual 55, 3) := by decide +kernel
theorem d_L_retry_21 : decode prog_1_method_4_code 21 = .ok (.goto 4, 3) := by decide +kernel
theorem d_L_retry_24 : decode prog_1_method_4_code 24 = .ok (.iconst (-1), 1) := by decide +kernel
theorem d_L_retry_25 : decode prog_1_method_4_code 25 = .ok (.ireturn, 1) := by decide +kernel
theorem d_L_status_0 : decode prog_1_method_5_code 0 = .ok (.aload_n 0, 1) := by decide +kernel
theorem d_L_status_1 : decode prog_1_method_5_code 1 = .ok (.iload_n 1, 1) := by decide +kernel
theorem d_L_status_2 : decode prog_1_method_5_code 2 = .ok (.invokevirtual 40, 3) := by decide +kernel
theorem d_L_status_5 : decode prog_1_method_5_code 5 = .ok (.ifCond .eq 15, 3) := by decide +kernel
theorem d_L_status_8 : decode prog_1_method_5_code 8 = .ok (.aload_n 0, 1) := by decide +kernel
theorem d_L_status_9 : decode prog_1_method_5_code 9 = .ok (.getfield 35, 3) := by decide +kernel
theorem d_L_status_12 : decode prog_1_method_5_code 12 = .ok (.iload_n 1, 1) := by decide +kernel
theorem d_L_status_13 : decode prog_1_method_5_code 13 = .ok (.aaload, 1) := by decide +kernel
theorem d_L_status_14 : decode prog_1_method_5_code 14 = .ok (.getfield 59, 3) := by decide +kernel
theorem d_L_status_17 : decode prog_1_method_5_code 17 = .ok (.goto 4, 3) := by decide +kernel
theorem d_L_status_20 : decode prog_1_method_5_code 20 = .ok (.iconst (-1), 1) := by decide +kernel
theorem d_L_status_21 : decode prog_1_method_5_code 21 = .ok (.ireturn, 1) := by decide +kernel
theorem d_L_result_0 : decode prog_1_method_6_code 0 = .ok (.aload_n 0, 1) := by decide +kernel
theorem d_L_result_1 : decode prog_1_method_6_code 1 = .ok (.iload_n 1, 1) := by decide +kernel
theorem d_L_result_2 : decode prog_1_method_6_code 2 = .ok (.invokevirtual 62, 3) := by decide +kernel
theorem d_L_result_5 : decode prog_1_method_6_code 5 = .ok (.ifCond .eq 15, 3) := by decide +kernel
theorem d_L_result_8 : decode prog_1_method_6_code 8 = .ok (.aload_n 0, 1) := by decide +kernel
theorem d_L_result_9 : decode prog_1_method_6_code 9 = .ok (.getfield 35, 3) := by decide +kernel
theorem d_L_result_12 : decode prog_1_method_6_code 12 = .ok (.iload_n 1, 1) := by decide +kernel
theorem d_L_result_13 : decode prog_1_method_6_code 13 = .ok (.aaload, 1) := by decide +kernel
theorem d_L_result_14 : decode prog_1_method_6_code 14 = .ok (.getfield 65, 3) := by decide +kernel
theorem d_L_result_17 : decode prog_1_method_6_code 17 = .ok (.goto 4, 3) := by decide +kernel
theorem d_L_result_20 : decode prog_1_method_6_code 20 = .ok (.iconst 0, 1) := by decide +kernel
theorem d_L_result_21 : decode prog_1_method_6_code 21 = .ok (.ireturn, 1) := by decide +kernel
theorem d_L_version_0 : decode prog_1_method_7_code 0 = .ok (.aload_n 0, 1) := by decide +kernel
theorem d_L_version_1 : decode prog_1_method_7_code 1 = .ok (.iload_n 1, 1) := by decide +kernel
theorem d_L_version_2 : decode prog_1_method_7_code 2 = .ok (.invokevirtual 62, 3) := by decide +kernel
theorem d_L_version_5 : decode prog_1_method_7_code 5 = .ok (.ifCond .eq 15, 3) := by decide +kernel
theorem d_L_version_8 : decode prog_1_method_7_code 8 = .ok (.aload_n 0, 1) := by decide +kernel
theorem d_L_version_9 : decode prog_1_method_7_code 9 = .ok (.getfield 35, 3) := by decide +kernel
theorem d_L_version_12 : decode prog_1_method_7_code 12 = .ok (.iload_n 1, 1) := by decide +kernel
theorem d_L_version_13 : decode prog_1_method_7_code 13 = .ok (.aaload, 1) := by decide +kernel
theorem d_L_version_14 : decode prog_1_method_7_code 14 = .ok (.getfield 68, 3) := by decide +kernel
theorem d_L_version_17 : decode prog_1_method_7_code 17 = .ok (.goto 4, 3) := by decide +kernel
theorem d_L_version_20 : decode prog_1_method_7_code 20 = .ok (.iconst (-1), 1) := by decide +kernel
theorem d_L_version_21 : decode prog_1_method_7_code 21 = .ok (.ireturn, 1) := by decide +kernel
theorem d_L_deliver_0 : decode prog_1_method_8_code 0 = .ok (.aload_n 0, 1) := by decide +kernel
theorem d_L_deliver_1 : decode prog_1_method_8_code 1 = .ok (.getfield 20, 3) := by decide +kernel
theorem d_L_deliver_4 : decode prog_1_method_8_code 4 = .ok (.iload_n 1, 1) := by decide +kernel
theorem d_L_deliver_5 : decode prog_1_method_8_code 5 = .ok (.invokevirtual 71, 3) := by decide +kernel
theorem d_L_deliver_8 : decode prog_1_method_8_code 8 = .ok (.ifCond .ne 5, 3) := by decide +kernel
theorem d_L_deliver_11 : decode prog_1_method_8_code 11 = .ok (.iconst (-1), 1) := by decide +kernel
theorem d_L_deliver_12 : decode prog_1_method_8_code 12 = .ok (.ireturn, 1) := by decide +kernel
theorem d_L_deliver_13 : decode prog_1_method_8_code 13 = .ok (.aload_n 0, 1) := by decide +kernel
theorem d_L_deliver_14 : decode prog_1_method_8_code 14 = .ok (.getfield 20, 3) := by decide +kernel
theorem d_L_deliver_17 : decode prog_1_method_8_code 17 = .ok (.iload_n 1, 1) := by decide +kernel
theorem d_L_deliver_18 : decode prog_1_method_8_code 18 = .ok (.invokevirtual 74, 3) := by decide +kernel
theorem d_L_deliver_21 : decode prog_1_method_8_code 21 = .ok (.astore_n 2, 1) := by decide +kernel
theorem d_L_deliver_22 : decode prog_1_method_8_code 22 = .ok (.aload_n 2, 1) := by decide +kernel
theorem d_L_deliver_23 : decode prog_1_method_8_code 23 = .ok (.invokevirtual 78, 3) := by decide +kernel
theorem d_L_deliver_26 : decode prog_1_method_8_code 26 = .ok (.ifCond .eq 28, 3) := by decide +kernel
theorem d_L_deliver_29 : decode prog_1_method_8_code 29 = .ok (.aload_n 0, 1) := by decide +kernel
theorem d_L_deliver_30 : decode prog_1_method_8_code 30 = .ok (.getfield 29, 3) := by decide +kernel
theorem d_L_deliver_33 : decode prog_1_method_8_code 33 = .ok (.aload_n 2, 1) := by decide +kernel
theorem d_L_deliver_34 : decode prog_1_method_8_code 34 = .ok (.aload_n 0, 1) := by decide +kernel
theorem d_L_deliver_35 : decode prog_1_method_8_code 35 = .ok (.getfield 20, 3) := by decide +kernel
theorem d_L_deliver_38 : decode prog_1_method_8_code 38 = .ok (.invokevirtual 84, 3) := by decide +kernel
theorem d_L_deliver_41 : decode prog_1_method_8_code 41 = .ok (.ifCond .eq 10, 3) := by decide +kernel
theorem d_L_deliver_44 : decode prog_1_method_8_code 44 = .ok (.aload_n 2, 1) := by decide +kernel
theorem d_L_deliver_45 : decode prog_1_method_8_code 45 = .ok (.getfield 88, 3) := by decide +kernel
theorem d_L_deliver_48 : decode prog_1_method_8_code 48 = .ok (.goto 5, 3) := by decide +kernel
theorem d_L_deliver_51 : decode prog_1_method_8_code 51 = .ok (.bipush 9, 2) := by decide +kernel
theorem d_L_deliver_53 : decode prog_1_method_8_code 53 = .ok (.ireturn, 1) := by decide +kernel
theorem d_L_deliver_54 : decode prog_1_method_8_code 54 = .ok (.aload_n 0, 1) := by decide +kernel
theorem d_L_deliver_55 : decode prog_1_method_8_code 55 = .ok (.getfield 35, 3) := by decide +kernel
theorem d_L_deliver_58 : decode prog_1_method_8_code 58 = .ok (.aload_n 2, 1) := by decide +kernel
theorem d_L_deliver_59 : decode prog_1_method_8_code 59 = .ok (.getfield 91, 3) := by decide +kernel
theorem d_L_deliver_62 : decode prog_1_method_8_code 62 = .ok (.aaload, 1) := by decide +kernel
theorem d_L_deliver_63 : decode prog_1_method_8_code 63 = .ok (.aload_n 2, 1) := by decide +kernel
theorem d_L_deliver_64 : decode prog_1_method_8_code 64 = .ok (.aload_n 0, 1) := by decide +kernel
theorem d_L_deliver_65 : decode prog_1_method_8_code 65 = .ok (.getfield 20, 3) := by decide +kernel
theorem d_L_deliver_68 : decode prog_1_method_8_code 68 = .ok (.invokevirtual 94, 3) := by decide +kernel
theorem d_L_deliver_71 : decode prog_1_method_8_code 71 = .ok (.aload_n 2, 1) := by decide +kernel
theorem d_L_deliver_72 : decode prog_1_method_8_code 72 = .ok (.getfield 88, 3) := by decide +kernel
theorem d_L_deliver_75 : decode prog_1_method_8_code 75 = .ok (.ireturn, 1) := by decide +kernel
theorem d_L_lose_0 : decode prog_1_method_9_code 0 = .ok (.aload_n 0, 1) := by decide +kernel
theorem d_L_lose_1 : decode prog_1_method_9_code 1 = .ok (.getfield 20, 3) := by decide +kernel
theorem d_L_lose_4 : decode prog_1_method_9_code 4 = .ok (.iload_n 1, 1) := by decide +kernel
theorem d_L_lose_5 : decode prog_1_method_9_code 5 = .ok (.invokevirtual 71, 3) := by decide +kernel
theorem d_L_lose_8 : decode prog_1_method_9_code 8 = .ok (.ifCond .ne 5, 3) := by decide +kernel
theorem d_L_lose_11 : decode prog_1_method_9_code 11 = .ok (.iconst 0, 1) := by decide +kernel
theorem d_L_lose_12 : decode prog_1_method_9_code 12 = .ok (.ireturn, 1) := by decide +kernel
theorem d_L_lose_13 : decode prog_1_method_9_code 13 = .ok (.aload_n 0, 1) := by decide +kernel
theorem d_L_lose_14 : decode prog_1_method_9_code 14 = .ok (.getfield 20, 3) := by decide +kernel
theorem d_L_lose_17 : decode prog_1_method_9_code 17 = .ok (.iload_n 1, 1) := by decide +kernel
theorem d_L_lose_18 : decode prog_1_method_9_code 18 = .ok (.invokevirtual 74, 3) := by decide +kernel
theorem d_L_lose_21 : decode prog_1_method_9_code 21 = .ok (.pop, 1) := by decide +kernel
theorem d_L_lose_22 : decode prog_1_method_9_code 22 = .ok (.iconst 1, 1) := by decide +kernel
theorem d_L_lose_23 : decode prog_1_method_9_code 23 = .ok (.ireturn, 1) := by decide +kernel
theorem d_L_pending_0 : decode prog_1_method_10_code 0 = .ok (.aload_n 0, 1) := by decide +kernel
theorem d_L_pending_1 : decode prog_1_method_10_code 1 = .ok (.getfield 20, 3) := by decide +kernel
theorem d_L_pending_4 : decode prog_1_method_10_code 4 = .ok (.getfield 97, 3) := by decide +kernel
theorem d_L_pending_7 : decode prog_1_method_10_code 7 = .ok (.ireturn, 1) := by decide +kernel
theorem d_L_message_0 : decode prog_1_method_11_code 0 = .ok (.aload_n 0, 1) := by decide +kernel
theorem d_L_message_1 : decode prog_1_method_11_code 1 = .ok (.getfield 20, 3) := by decide +kernel
theorem d_L_message_4 : decode prog_1_method_11_code 4 = .ok (.iload_n 1, 1) := by decide +kernel
theorem d_L_message_5 : decode prog_1_method_11_code 5 = .ok (.invokevirtual 71, 3) := by decide +kernel
theorem d_L_message_8 : decode prog_1_method_11_code 8 = .ok (.ifCond .eq 19, 3) := by decide +kernel
theorem d_L_message_11 : decode prog_1_method_11_code 11 = .ok (.aload_n 0, 1) := by decide +kernel
theorem d_L_message_12 : decode prog_1_method_11_code 12 = .ok (.getfield 20, 3) := by decide +kernel
theorem d_L_message_15 : decode prog_1_method_11_code 15 = .ok (.getfield 100, 3) := by decide +kernel
theorem d_L_message_18 : decode prog_1_method_11_code 18 = .ok (.iload_n 1, 1) := by decide +kernel
theorem d_L_message_19 : decode prog_1_method_11_code 19 = .ok (.aaload, 1) := by decide +kernel
theorem d_L_message_20 : decode prog_1_method_11_code 20 = .ok (.iload_n 2, 1) := by decide +kernel
theorem d_L_message_21 : decode prog_1_method_11_code 21 = .ok (.invokevirtual 104, 3) := by decide +kernel
theorem d_L_message_24 : decode prog_1_method_11_code 24 = .ok (.goto 4, 3) := by decide +kernel
theorem d_L_message_27 : decode prog_1_method_11_code 27 = .ok (.iconst (-1), 1) := by decide +kernel
theorem d_L_message_28 : decode prog_1_method_11_code 28 = .ok (.ireturn, 1) := by decide +kernel
theorem d_L_tick_0 : decode prog_1_method_12_code 0 = .ok (.iload_n 1, 1) := by decide +kernel
theorem d_L_tick_1 : decode prog_1_method_12_code 1 = .ok (.invokestatic 108, 3) := by decide +kernel
theorem d_L_tick_4 : decode prog_1_method_12_code 4 = .ok (.ifCond .eq 18, 3) := by decide +kernel
theorem d_L_tick_7 : decode prog_1_method_12_code 7 = .ok (.aload_n 0, 1) := by decide +kernel
theorem d_L_tick_8 : decode prog_1_method_12_code 8 = .ok (.getfield 29, 3) := by decide +kernel
theorem d_L_tick_11 : decode prog_1_method_12_code 11 = .ok (.iload_n 1, 1) := by decide +kernel
theorem d_L_tick_12 : decode prog_1_method_12_code 12 = .ok (.aload_n 0, 1) := by decide +kernel
theorem d_L_tick_13 : decode prog_1_method_12_code 13 = .ok (.getfield 20, 3) := by decide +kernel
theorem d_L_tick_16 : decode prog_1_method_12_code 16 = .ok (.invokevirtual 111, 3) := by decide +kernel
theorem d_L_tick_19 : decode prog_1_method_12_code 19 = .ok (.goto 4, 3) := by decide +kernel
theorem d_L_tick_22 : decode prog_1_method_12_code 22 = .ok (.iconst (-1), 1) := by decide +kernel
theorem d_L_tick_23 : decode prog_1_method_12_code 23 = .ok (.ireturn, 1) := by decide +kernel
theorem d_L_pass_0 : decode prog_1_method_13_code 0 = .ok (.aload_n 0, 1) := by decide +kernel
theorem d_L_pass_1 : decode prog_1_method_13_code 1 = .ok (.iload_n 1, 1) := by decide +kernel
theorem d_L_pass_2 : decode prog_1_method_13_code 2 = .ok (.invokevirtual 40, 3) := by decide +kernel
theorem d_L_pass_5 : decode prog_1_method_13_code 5 = .ok (.ifCond .eq 10, 3) := by decide +kernel
theorem d_L_pass_8 : decode prog_1_method_13_code 8 = .ok (.iload_n 2, 1) := by decide +kernel
theorem d_L_pass_9 : decode prog_1_method_13_code 9 = .ok (.invokestatic 108, 3) := by decide +kernel
theorem d_L_pass_12 : decode prog_1_method_13_code 12 = .ok (.ifCond .ne 5, 3) := by decide +kernel
theorem d_L_pass_15 : decode prog_1_method_13_code 15 = .ok (.iconst (-1), 1) := by decide +kernel
theorem d_L_pass_16 : decode prog_1_method_13_code 16 = .ok (.ireturn, 1) := by decide +kernel
theorem d_L_pass_17 : decode prog_1_method_13_code 17 = .ok (.aload_n 0, 1) := by decide +kernel
theorem d_L_pass_18 : decode prog_1_method_13_code 18 = .ok (.getfield 35, 3) := by decide +kernel
theorem d_L_pass_21 : decode prog_1_method_13_code 21 = .ok (.iload_n 1, 1) := by decide +kernel
theorem d_L_pass_22 : decode prog_1_method_13_code 22 = .ok (.aaload, 1) := by decide +kernel
theorem d_L_pass_23 : decode prog_1_method_13_code 23 = .ok (.dup, 1) := by decide +kernel
theorem d_L_pass_24 : decode prog_1_method_13_code 24 = .ok (.getfield 114, 3) := by decide +kernel
theorem d_L_pass_27 : decode prog_1_method_13_code 27 = .ok (.iload_n 2, 1) := by decide +kernel
theorem d_L_pass_28 : decode prog_1_method_13_code 28 = .ok (.iadd, 1) := by decide +kernel
theorem d_L_pass_29 : decode prog_1_method_13_code 29 = .ok (.putfield 114, 3) := by decide +kernel
theorem d_L_pass_32 : decode prog_1_method_13_code 32 = .ok (.aload_n 0, 1) := by decide +kernel
theorem d_L_pass_33 : decode prog_1_method_13_code 33 = .ok (.getfield 35, 3) := by decide +kernel
theorem d_L_pass_36 : decode prog_1_method_13_code 36 = .ok (.iload_n 1, 1) := by decide +kernel
theorem d_L_pass_37 : decode prog_1_method_13_code 37 = .ok (.aaload, 1) := by decide +kernel
theorem d_L_pass_38 : decode prog_1_method_13_code 38 = .ok (.getfield 114, 3) := by decide +kernel
theorem d_L_pass_41 : decode prog_1_method_13_code 41 = .ok (.ireturn, 1) := by decide +kernel
theorem d_L_crash_0 : decode prog_1_method_14_code 0 = .ok (.aload_n 0, 1) := by decide +kernel
theorem d_L_crash_1 : decode prog_1_method_14_code 1 = .ok (.iload_n 1, 1) := by decide +kernel
theorem d_L_crash_2 : decode prog_1_method_14_code 2 = .ok (.invokevirtual 40, 3) := by decide +kernel
theorem d_L_crash_5 : decode prog_1_method_14_code 5 = .ok (.ifCond .eq 15, 3) := by decide +kernel
theorem d_L_crash_8 : decode prog_1_method_14_code 8 = .ok (.aload_n 0, 1) := by decide +kernel
theorem d_L_crash_9 : decode prog_1_method_14_code 9 = .ok (.getfield 35, 3) := by decide +kernel
theorem d_L_crash_12 : decode prog_1_method_14_code 12 = .ok (.iload_n 1, 1) := by decide +kernel
theorem d_L_crash_13 : decode prog_1_method_14_code 13 = .ok (.aaload, 1) := by decide +kernel
theorem d_L_crash_14 : decode prog_1_method_14_code 14 = .ok (.invokevirtual 117, 3) := by decide +kernel
theorem d_L_crash_17 : decode prog_1_method_14_code 17 = .ok (.goto 4, 3) := by decide +kernel
theorem d_L_crash_20 : decode prog_1_method_14_code 20 = .ok (.iconst (-1), 1) := by decide +kernel
theorem d_L_crash_21 : decode prog_1_method_14_code 21 = .ok (.ireturn, 1) := by decide +kernel
theorem d_L_halt_0 : decode prog_1_method_15_code 0 = .ok (.aload_n 0, 1) := by decide +kernel
theorem d_L_halt_1 : decode prog_1_method_15_code 1 = .ok (.getfield 29, 3) := by decide +kernel
theorem d_L_halt_4 : decode prog_1_method_15_code 4 = .ok (.getfield 121, 3) := by decide +kernel
theorem d_L_halt_7 : decode prog_1_method_15_code 7 = .ok (.ifCond .eq 13, 3) := by decide +kernel
theorem d_L_halt_10 : decode prog_1_method_15_code 10 = .ok (.aload_n 0, 1) := by decide +kernel
theorem d_L_halt_11 : decode prog_1_method_15_code 11 = .ok (.getfield 29, 3) := by decide +kernel
theorem d_L_halt_14 : decode prog_1_method_15_code 14 = .ok (.invokevirtual 125, 3) := by decide +kernel
theorem d_L_halt_17 : decode prog_1_method_15_code 17 = .ok (.goto 4, 3) := by decide +kernel
theorem d_L_halt_20 : decode prog_1_method_15_code 20 = .ok (.iconst (-1), 1) := by decide +kernel
theorem d_L_halt_21 : decode prog_1_method_15_code 21 = .ok (.ireturn, 1) := by decide +kernel
theorem d_L_restart_0 : decode prog_1_method_16_code 0 = .ok (.aload_n 0, 1) := by decide +kernel
theorem d_L_restart_1 : decode prog_1_method_16_code 1 = .ok (.getfield 29, 3) := by decide +kernel
theorem d_L_restart_4 : decode prog_1_method_16_code 4 = .ok (.getfield 121, 3) := by decide +kernel
theorem d_L_restart_7 : decode prog_1_method_16_code 7 = .ok (.ifCond .eq 7, 3) := by decide +kernel
theorem d_L_restart_10 : decode prog_1_method_16_code 10 = .ok (.iconst (-1), 1) := by decide +kernel
theorem d_L_restart_11 : decode prog_1_method_16_code 11 = .ok (.goto 10, 3) := by decide +kernel
theorem d_L_restart_14 : decode prog_1_method_16_code 14 = .ok (.aload_n 0, 1) := by decide +kernel
theorem d_L_restart_15 : decode prog_1_method_16_code 15 = .ok (.getfield 29, 3) := by decide +kernel
theorem d_L_restart_18 : decode prog_1_method_16_code 18 = .ok (.invokevirtual 128, 3) := by decide +kernel
theorem d_L_restart_21 : decode prog_1_method_16_code 21 = .ok (.ireturn, 1) := by decide +kernel
theorem d_L_copy_0 : decode prog_1_method_17_code 0 = .ok (.aload_n 0, 1) := by decide +kernel
theorem d_L_copy_1 : decode prog_1_method_17_code 1 = .ok (.iload_n 1, 1) := by decide +kernel
theorem d_L_copy_2 : decode prog_1_method_17_code 2 = .ok (.invokevirtual 40, 3) := by decide +kernel
theorem d_L_copy_5 : decode prog_1_method_17_code 5 = .ok (.ifCond .eq 11, 3) := by decide +kernel
theorem d_L_copy_8 : decode prog_1_method_17_code 8 = .ok (.aload_n 0, 1) := by decide +kernel
theorem d_L_copy_9 : decode prog_1_method_17_code 9 = .ok (.iload_n 2, 1) := by decide +kernel
theorem d_L_copy_10 : decode prog_1_method_17_code 10 = .ok (.invokevirtual 44, 3) := by decide +kernel
theorem d_L_copy_13 : decode prog_1_method_17_code 13 = .ok (.ifCond .ne 5, 3) := by decide +kernel
theorem d_L_copy_16 : decode prog_1_method_17_code 16 = .ok (.iconst (-1), 1) := by decide +kernel
theorem d_L_copy_17 : decode prog_1_method_17_code 17 = .ok (.ireturn, 1) := by decide +kernel
theorem d_L_copy_18 : decode prog_1_method_17_code 18 = .ok (.aload_n 0, 1) := by decide +kernel
theorem d_L_copy_19 : decode prog_1_method_17_code 19 = .ok (.getfield 35, 3) := by decide +kernel
theorem d_L_copy_22 : decode prog_1_method_17_code 22 = .ok (.iload_n 1, 1) := by decide +kernel
theorem d_L_copy_23 : decode prog_1_method_17_code 23 = .ok (.aaload, 1) := by decide +kernel
theorem d_L_copy_24 : decode prog_1_method_17_code 24 = .ok (.getfield 131, 3) := by decide +kernel
theorem d_L_copy_27 : decode prog_1_method_17_code 27 = .ok (.iload_n 2, 1) := by decide +kernel
theorem d_L_copy_28 : decode prog_1_method_17_code 28 = .ok (.aaload, 1) := by decide +kernel
theorem d_L_copy_29 : decode prog_1_method_17_code 29 = .ok (.iload_n 3, 1) := by decide +kernel
theorem d_L_copy_30 : decode prog_1_method_17_code 30 = .ok (.aload_n 0, 1) := by decide +kernel
theorem d_L_copy_31 : decode prog_1_method_17_code 31 = .ok (.getfield 35, 3) := by decide +kernel
theorem d_L_copy_34 : decode prog_1_method_17_code 34 = .ok (.iload_n 1, 1) := by decide +kernel
theorem d_L_copy_35 : decode prog_1_method_17_code 35 = .ok (.aaload, 1) := by decide +kernel
theorem d_L_copy_36 : decode prog_1_method_17_code 36 = .ok (.getfield 114, 3) := by decide +kernel
theorem d_L_copy_39 : decode prog_1_method_17_code 39 = .ok (.invokevirtual 135, 3) := by decide +kernel
theorem d_L_copy_42 : decode prog_1_method_17_code 42 = .ok (.ireturn, 1) := by decide +kernel
theorem d_L_lease_0 : decode prog_1_method_18_code 0 = .ok (.aload_n 0, 1) := by decide +kernel
theorem d_L_lease_1 : decode prog_1_method_18_code 1 = .ok (.iload_n 1, 1) := by decide +kernel
theorem d_L_lease_2 : decode prog_1_method_18_code 2 = .ok (.invokevirtual 40, 3) := by decide +kernel
theorem d_L_lease_5 : decode prog_1_method_18_code 5 = .ok (.ifCond .eq 11, 3) := by decide +kernel
theorem d_L_lease_8 : decode prog_1_method_18_code 8 = .ok (.aload_n 0, 1) := by decide +kernel
theorem d_L_lease_9 : decode prog_1_method_18_code 9 = .ok (.iload_n 2, 1) := by decide +kernel
theorem d_L_lease_10 : decode prog_1_method_18_code 10 = .ok (.invokevirtual 44, 3) := by decide +kernel
theorem d_L_lease_13 : decode prog_1_method_18_code 13 = .ok (.ifCond .ne 5, 3) := by decide +kernel
theorem d_L_lease_16 : decode prog_1_method_18_code 16 = .ok (.iconst (-1), 1) := by decide +kernel
theorem d_L_lease_17 : decode prog_1_method_18_code 17 = .ok (.ireturn, 1) := by decide +kernel
theorem d_L_lease_18 : decode prog_1_method_18_code 18 = .ok (.aload_n 0, 1) := by decide +kernel
theorem d_L_lease_19 : decode prog_1_method_18_code 19 = .ok (.getfield 29, 3) := by decide +kernel
theorem d_L_lease_22 : decode prog_1_method_18_code 22 = .ok (.getfield 139, 3) := by decide +kernel
theorem d_L_lease_25 : decode prog_1_method_18_code 25 = .ok (.iload_n 2, 1) := by decide +kernel
theorem d_L_lease_26 : decode prog_1_method_18_code 26 = .ok (.aaload, 1) := by decide +kernel
theorem d_L_lease_27 : decode prog_1_method_18_code 27 = .ok (.getfield 142, 3) := by decide +kernel
theorem d_L_lease_30 : decode prog_1_method_18_code 30 = .ok (.iload_n 1, 1) := by decide +kernel
theorem d_L_lease_31 : decode prog_1_method_18_code 31 = .ok (.iaload, 1) := by decide +kernel
theorem d_L_lease_32 : decode prog_1_method_18_code 32 = .ok (.aload_n 0, 1) := by decide +kernel
theorem d_L_lease_33 : decode prog_1_method_18_code 33 = .ok (.getfield 29, 3) := by decide +kernel
theorem d_L_lease_36 : decode prog_1_method_18_code 36 = .ok (.getfield 148, 3) := by decide +kernel
theorem d_L_lease_39 : decode prog_1_method_18_code 39 = .ok (.invokestatic 149, 3) := by decide +kernel
theorem d_L_lease_42 : decode prog_1_method_18_code 42 = .ok (.ireturn, 1) := by decide +kernel
theorem d_L_file_0 : decode prog_1_method_19_code 0 = .ok (.aload_n 0, 1) := by decide +kernel
theorem d_L_file_1 : decode prog_1_method_19_code 1 = .ok (.iload_n 1, 1) := by decide +kernel
theorem d_L_file_2 : decode prog_1_method_19_code 2 = .ok (.invokevirtual 44, 3) := by decide +kernel
theorem d_L_file_5 : decode prog_1_method_19_code 5 = .ok (.ifCond .eq 19, 3) := by decide +kernel
theorem d_L_file_8 : decode prog_1_method_19_code 8 = .ok (.aload_n 0, 1) := by decide +kernel
theorem d_L_file_9 : decode prog_1_method_19_code 9 = .ok (.getfield 29, 3) := by decide +kernel
theorem d_L_file_12 : decode prog_1_method_19_code 12 = .ok (.getfield 139, 3) := by decide +kernel
theorem d_L_file_15 : decode prog_1_method_19_code 15 = .ok (.iload_n 1, 1) := by decide +kernel
theorem d_L_file_16 : decode prog_1_method_19_code 16 = .ok (.aaload, 1) := by decide +kernel
theorem d_L_file_17 : decode prog_1_method_19_code 17 = .ok (.iload_n 2, 1) := by decide +kernel
theorem d_L_file_18 : decode prog_1_method_19_code 18 = .ok (.invokevirtual 152, 3) := by decide +kernel
theorem d_L_file_21 : decode prog_1_method_19_code 21 = .ok (.goto 4, 3) := by decide +kernel
theorem d_L_file_24 : decode prog_1_method_19_code 24 = .ok (.iconst (-1), 1) := by decide +kernel
theorem d_L_file_25 : decode prog_1_method_19_code 25 = .ok (.ireturn, 1) := by decide +kernel
theorem d_L_server_0 : decode prog_1_method_20_code 0 = .ok (.aload_n 0, 1) := by decide +kernel
theorem d_L_server_1 : decode prog_1_method_20_code 1 = .ok (.getfield 29, 3) := by decide +kernel
theorem d_L_server_4 : decode prog_1_method_20_code 4 = .ok (.iload_n 1, 1) := by decide +kernel
theorem d_L_server_5 : decode prog_1_method_20_code 5 = .ok (.invokevirtual 153, 3) := by decide +kernel
theorem d_L_server_8 : decode prog_1_method_20_code 8 = .ok (.ireturn, 1) := by decide +kernel
theorem d_L_client_0 : decode prog_1_method_21_code 0 = .ok (.aload_n 0, 1) := by decide +kernel
theorem d_L_client_1 : decode prog_1_method_21_code 1 = .ok (.iload_n 1, 1) := by decide +kernel
theorem d_L_client_2 : decode prog_1_method_21_code 2 = .ok (.invokevirtual 40, 3) := by decide +kernel
theorem d_L_client_5 : decode prog_1_method_21_code 5 = .ok (.ifCond .eq 16, 3) := by decide +kernel
theorem d_L_client_8 : decode prog_1_method_21_code 8 = .ok (.aload_n 0, 1) := by decide +kernel
theorem d_L_client_9 : decode prog_1_method_21_code 9 = .ok (.getfield 35, 3) := by decide +kernel
theorem d_L_client_12 : decode prog_1_method_21_code 12 = .ok (.iload_n 1, 1) := by decide +kernel
theorem d_L_client_13 : decode prog_1_method_21_code 13 = .ok (.aaload, 1) := by decide +kernel
theorem d_L_client_14 : decode prog_1_method_21_code 14 = .ok (.iload_n 2, 1) := by decide +kernel
theorem d_L_client_15 : decode prog_1_method_21_code 15 = .ok (.invokevirtual 154, 3) := by decide +kernel
theorem d_L_client_18 : decode prog_1_method_21_code 18 = .ok (.goto 4, 3) := by decide +kernel
theorem d_L_client_21 : decode prog_1_method_21_code 21 = .ok (.iconst (-1), 1) := by decide +kernel
theorem d_L_client_22 : decode prog_1_method_21_code 22 = .ok (.ireturn, 1) := by decide +kernel
theorem d_L_hasClient_0 : decode prog_1_method_22_code 0 = .ok (.iload_n 1, 1) := by decide +kernel
theorem d_L_hasClient_1 : decode prog_1_method_22_code 1 = .ok (.ifCond .lt 16, 3) := by decide +kernel
theorem d_L_hasClient_4 : decode prog_1_method_22_code 4 = .ok (.iload_n 1, 1) := by decide +kernel
theorem d_L_hasClient_5 : decode prog_1_method_22_code 5 = .ok (.aload_n 0, 1) := by decide +kernel
theorem d_L_hasClient_6 : decode prog_1_method_22_code 6 = .ok (.getfield 35, 3) := by decide +kernel
theorem d_L_hasClient_9 : decode prog_1_method_22_code 9 = .ok (.arraylength, 1) := by decide +kernel
theorem d_L_hasClient_10 : decode prog_1_method_22_code 10 = .ok (.if_icmp .ge 7, 3) := by decide +kernel
theorem d_L_hasClient_13 : decode prog_1_method_22_code 13 = .ok (.iconst 1, 1) := by decide +kernel
theorem d_L_hasClient_14 : decode prog_1_method_22_code 14 = .ok (.goto 4, 3) := by decide +kernel
theorem d_L_hasClient_17 : decode prog_1_method_22_code 17 = .ok (.iconst 0, 1) := by decide +kernel
theorem d_L_hasClient_18 : decode prog_1_method_22_code 18 = .ok (.ireturn, 1) := by decide +kernel
theorem d_L_hasFile_0 : decode prog_1_method_23_code 0 = .ok (.iload_n 1, 1) := by decide +kernel
theorem d_L_hasFile_1 : decode prog_1_method_23_code 1 = .ok (.ifCond .lt 15, 3) := by decide +kernel
theorem d_L_hasFile_4 : decode prog_1_method_23_code 4 = .ok (.iload_n 1, 1) := by decide +kernel
theorem d_L_hasFile_5 : decode prog_1_method_23_code 5 = .ok (.aload_n 0, 1) := by decide +kernel
theorem d_L_hasFile_6 : decode prog_1_method_23_code 6 = .ok (.getfield 13, 3) := by decide +kernel
theorem d_L_hasFile_9 : decode prog_1_method_23_code 9 = .ok (.if_icmp .ge 7, 3) := by decide +kernel
theorem d_L_hasFile_12 : decode prog_1_method_23_code 12 = .ok (.iconst 1, 1) := by decide +kernel
theorem d_L_hasFile_13 : decode prog_1_method_23_code 13 = .ok (.goto 4, 3) := by decide +kernel
theorem d_L_hasFile_16 : decode prog_1_method_23_code 16 = .ok (.iconst 0, 1) := by decide +kernel
theorem d_L_hasFile_17 : decode prog_1_method_23_code 17 = .ok (.ireturn, 1) := by decide +kernel
theorem d_L_isDone_0 : decode prog_1_method_24_code 0 = .ok (.aload_n 0, 1) := by decide +kernel
theorem d_L_isDone_1 : decode prog_1_method_24_code 1 = .ok (.iload_n 1, 1) := by decide +kernel
theorem d_L_isDone_2 : decode prog_1_method_24_code 2 = .ok (.invokevirtual 40, 3) := by decide +kernel
theorem d_L_isDone_5 : decode prog_1_method_24_code 5 = .ok (.ifCond .eq 20, 3) := by decide +kernel
theorem d_L_isDone_8 : decode prog_1_method_24_code 8 = .ok (.aload_n 0, 1) := by decide +kernel
theorem d_L_isDone_9 : decode prog_1_method_24_code 9 = .ok (.getfield 35, 3) := by decide +kernel
theorem d_L_isDone_12 : decode prog_1_method_24_code 12 = .ok (.iload_n 1, 1) := by decide +kernel
theorem d_L_isDone_13 : decode prog_1_method_24_code 13 = .ok (.aaload, 1) := by decide +kernel
theorem d_L_isDone_14 : decode prog_1_method_24_code 14 = .ok (.getfield 59, 3) := by decide +kernel
theorem d_L_isDone_17 : decode prog_1_method_24_code 17 = .ok (.iconst 1, 1) := by decide +kernel
theorem d_L_isDone_18 : decode prog_1_method_24_code 18 = .ok (.if_icmp .ne 7, 3) := by decide +kernel
theorem d_L_isDone_21 : decode prog_1_method_24_code 21 = .ok (.iconst 1, 1) := by decide +kernel
theorem d_L_isDone_22 : decode prog_1_method_24_code 22 = .ok (.goto 4, 3) := by decide +kernel
theorem d_L_isDone_25 : decode prog_1_method_24_code 25 = .ok (.iconst 0, 1) := by decide +kernel
theorem d_L_isDone_26 : decode prog_1_method_24_code 26 = .ok (.ireturn, 1) := by decide +kernel
theorem d_L_isStep_0 : decode prog_1_method_25_code 0 = .ok (.iload_n 0, 1) := by decide +kernel
theorem d_L_isStep_1 : decode prog_1_method_25_code 1 = .ok (.ifCond .lt 14, 3) := by decide +kernel
theorem d_L_isStep_4 : decode prog_1_method_25_code 4 = .ok (.iload_n 0, 1) := by decide +kernel
theorem d_L_isStep_5 : decode prog_1_method_25_code 5 = .ok (.sipush 1000, 3) := by decide +kernel
theorem d_L_isStep_8 : decode prog_1_method_25_code 8 = .ok (.if_icmp .gt 7, 3) := by decide +kernel
theorem d_L_isStep_11 : decode prog_1_method_25_code 11 = .ok (.iconst 1, 1) := by decide +kernel
theorem d_L_isStep_12 : decode prog_1_method_25_code 12 = .ok (.goto 4, 3) := by decide +kernel
theorem d_L_isStep_15 : decode prog_1_method_25_code 15 = .ok (.iconst 0, 1) := by decide +kernel
theorem d_L_isStep_16 : decode prog_1_method_25_code 16 = .ok (.ireturn, 1) := by decide +kernel
theorem d_L_clamp_0 : decode prog_1_method_26_code 0 = .ok (.iconst 1, 1) := by decide +kernel
theorem d_L_clamp_1 : decode prog_1_method_26_code 1 = .ok (.iload_n 0, 1) := by decide +kernel
theorem d_L_clamp_2 : decode prog_1_method_26_code 2 = .ok (.iload_n 1, 1) := by decide +kernel
theorem d_L_clamp_3 : decode prog_1_method_26_code 3 = .ok (.invokestatic 155, 3) := by decide +kernel
theorem d_L_clamp_6 : decode prog_1_method_26_code 6 = .ok (.invokestatic 160, 3) := by decide +kernel
theorem d_L_clamp_9 : decode prog_1_method_26_code 9 = .ok (.ireturn, 1) := by decide +kernel
theorem d_L_timeLeft_0 : decode prog_1_method_27_code 0 = .ok (.iconst 0, 1) := by decide +kernel
theorem d_L_timeLeft_1 : decode prog_1_method_27_code 1 = .ok (.iload_n 0, 1) := by decide +kernel
theorem d_L_timeLeft_2 : decode prog_1_method_27_code 2 = .ok (.iload_n 1, 1) := by decide +kernel
theorem d_L_timeLeft_3 : decode prog_1_method_27_code 3 = .ok (.isub, 1) := by decide +kernel
theorem d_L_timeLeft_4 : decode prog_1_method_27_code 4 = .ok (.invokestatic 160, 3) := by decide +kernel
theorem d_L_timeLeft_7 : decode prog_1_method_27_code 7 = .ok (.ireturn, 1) := by decide +kernel
theorem d_C_init_0 : decode prog_2_method_1_code 0 = .ok (.aload_n 0, 1) := by decide +kernel
theorem d_C_init_1 : decode prog_2_method_1_code 1 = .ok (.invokespecial 3, 3) := by decide +kernel
theorem d_C_init_4 : decode prog_2_method_1_code 4 = .ok (.aload_n 0, 1) := by decide +kernel
theorem d_C_init_5 : decode prog_2_method_1_code 5 = .ok (.iconst 0, 1) := by decide +kernel
theorem d_C_init_6 : decode prog_2_method_1_code 6 = .ok (.putfield 9, 3) := by decide +kernel
theorem d_C_init_9 : decode prog_2_method_1_code 9 = .ok (.aload_n 0, 1) := by decide +kernel
theorem d_C_init_10 : decode prog_2_method_1_code 10 = .ok (.iconst 0, 1) := by decide +kernel
theorem d_C_init_11 : decode prog_2_method_1_code 11 = .ok (.putfield 15, 3) := by decide +kernel
theorem d_C_init_14 : decode prog_2_method_1_code 14 = .ok (.aload_n 0, 1) := by decide +kernel
theorem d_C_init_15 : decode prog_2_method_1_code 15 = .ok (.iconst 0, 1) := by decide +kernel
theorem d_C_init_16 : decode prog_2_method_1_code 16 = .ok (.putfield 18, 3) := by decide +kernel
theorem d_C_init_19 : decode prog_2_method_1_code 19 = .ok (.aload_n 0, 1) := by decide +kernel
theorem d_C_init_20 : decode prog_2_method_1_code 20 = .ok (.iconst 0, 1) := by decide +kernel
theorem d_C_init_21 : decode prog_2_method_1_code 21 = .ok (.putfield 21, 3) := by decide +kernel
theorem d_C_init_24 : decode prog_2_method_1_code 24 = .ok (.aload_n 0, 1) := by decide +kernel
theorem d_C_init_25 : decode prog_2_method_1_code 25 = .ok (.iconst 0, 1) := by decide +kernel
theorem d_C_init_26 : decode prog_2_method_1_code 26 = .ok (.putfield 25, 3) := by decide +kernel
theorem d_C_init_29 : decode prog_2_method_1_code 29 = .ok (.aload_n 0, 1) := by decide +kernel
theorem d_C_init_30 : decode prog_2_method_1_code 30 = .ok (.iconst 0, 1) := by decide +kernel
theorem d_C_init_31 : decode prog_2_method_1_code 31 = .ok (.putfield 28, 3) := by decide +kernel
theorem d_C_init_34 : decode prog_2_method_1_code 34 = .ok (.aload_n 0, 1) := by decide +kernel
theorem d_C_init_35 : decode prog_2_method_1_code 35 = .ok (.iconst 0, 1) := by decide +kernel
theorem d_C_init_36 : decode prog_2_method_1_code 36 = .ok (.putfield 31, 3) := by decide +kernel
theorem d_C_init_39 : decode prog_2_method_1_code 39 = .ok (.aload_n 0, 1) := by decide +kernel
theorem d_C_init_40 : decode prog_2_method_1_code 40 = .ok (.iconst 0, 1) := by decide +kernel
theorem d_C_init_41 : decode prog_2_method_1_code 41 = .ok (.putfield 34, 3) := by decide +kernel
theorem d_C_init_44 : decode prog_2_method_1_code 44 = .ok (.aload_n 0, 1) := by decide +kernel
theorem d_C_init_45 : decode prog_2_method_1_code 45 = .ok (.iconst 0, 1) := by decide +kernel
