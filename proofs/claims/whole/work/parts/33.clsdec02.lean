theorem d_P_init_29 : decode prog_5_method_1_code 29 = .ok (.iconst 0, 1) := by decide +kernel
theorem d_P_init_30 : decode prog_5_method_1_code 30 = .ok (.istore_n 1, 1) := by decide +kernel
theorem d_P_init_31 : decode prog_5_method_1_code 31 = .ok (.iload_n 1, 1) := by decide +kernel
theorem d_P_init_32 : decode prog_5_method_1_code 32 = .ok (.bipush 64, 2) := by decide +kernel
theorem d_P_init_34 : decode prog_5_method_1_code 34 = .ok (.if_icmp .ge 22, 3) := by decide +kernel
theorem d_P_init_37 : decode prog_5_method_1_code 37 = .ok (.aload_n 0, 1) := by decide +kernel
theorem d_P_init_38 : decode prog_5_method_1_code 38 = .ok (.getfield 11, 3) := by decide +kernel
theorem d_P_init_41 : decode prog_5_method_1_code 41 = .ok (.iload_n 1, 1) := by decide +kernel
theorem d_P_init_42 : decode prog_5_method_1_code 42 = .ok (.new 9, 3) := by decide +kernel
theorem d_P_init_45 : decode prog_5_method_1_code 45 = .ok (.dup, 1) := by decide +kernel
theorem d_P_init_46 : decode prog_5_method_1_code 46 = .ok (.invokespecial 21, 3) := by decide +kernel
theorem d_P_init_49 : decode prog_5_method_1_code 49 = .ok (.aastore, 1) := by decide +kernel
theorem d_P_init_50 : decode prog_5_method_1_code 50 = .ok (.iinc 1 1, 3) := by decide +kernel
theorem d_P_init_53 : decode prog_5_method_1_code 53 = .ok (.goto (-22), 3) := by decide +kernel
theorem d_P_init_56 : decode prog_5_method_1_code 56 = .ok (.return_, 1) := by decide +kernel
theorem d_P_holds_0 : decode prog_5_method_2_code 0 = .ok (.iload_n 1, 1) := by decide +kernel
theorem d_P_holds_1 : decode prog_5_method_2_code 1 = .ok (.ifCond .lt 15, 3) := by decide +kernel
theorem d_P_holds_4 : decode prog_5_method_2_code 4 = .ok (.iload_n 1, 1) := by decide +kernel
theorem d_P_holds_5 : decode prog_5_method_2_code 5 = .ok (.aload_n 0, 1) := by decide +kernel
theorem d_P_holds_6 : decode prog_5_method_2_code 6 = .ok (.getfield 17, 3) := by decide +kernel
theorem d_P_holds_9 : decode prog_5_method_2_code 9 = .ok (.if_icmp .ge 7, 3) := by decide +kernel
theorem d_P_holds_12 : decode prog_5_method_2_code 12 = .ok (.iconst 1, 1) := by decide +kernel
theorem d_P_holds_13 : decode prog_5_method_2_code 13 = .ok (.goto 4, 3) := by decide +kernel
theorem d_P_holds_16 : decode prog_5_method_2_code 16 = .ok (.iconst 0, 1) := by decide +kernel
theorem d_P_holds_17 : decode prog_5_method_2_code 17 = .ok (.ireturn, 1) := by decide +kernel
theorem d_P_send_0 : decode prog_5_method_3_code 0 = .ok (.aload_n 0, 1) := by decide +kernel
theorem d_P_send_1 : decode prog_5_method_3_code 1 = .ok (.getfield 17, 3) := by decide +kernel
theorem d_P_send_4 : decode prog_5_method_3_code 4 = .ok (.bipush 64, 2) := by decide +kernel
theorem d_P_send_6 : decode prog_5_method_3_code 6 = .ok (.if_icmp .lt 4, 3) := by decide +kernel
theorem d_P_send_9 : decode prog_5_method_3_code 9 = .ok (.return_, 1) := by decide +kernel
theorem d_P_send_10 : decode prog_5_method_3_code 10 = .ok (.aload_n 0, 1) := by decide +kernel
theorem d_P_send_11 : decode prog_5_method_3_code 11 = .ok (.getfield 11, 3) := by decide +kernel
theorem d_P_send_14 : decode prog_5_method_3_code 14 = .ok (.aload_n 0, 1) := by decide +kernel
theorem d_P_send_15 : decode prog_5_method_3_code 15 = .ok (.getfield 17, 3) := by decide +kernel
theorem d_P_send_18 : decode prog_5_method_3_code 18 = .ok (.aaload, 1) := by decide +kernel
theorem d_P_send_19 : decode prog_5_method_3_code 19 = .ok (.astore 8, 2) := by decide +kernel
theorem d_P_send_21 : decode prog_5_method_3_code 21 = .ok (.aload 8, 2) := by decide +kernel
theorem d_P_send_23 : decode prog_5_method_3_code 23 = .ok (.iload_n 1, 1) := by decide +kernel
theorem d_P_send_24 : decode prog_5_method_3_code 24 = .ok (.putfield 26, 3) := by decide +kernel
theorem d_P_send_27 : decode prog_5_method_3_code 27 = .ok (.aload 8, 2) := by decide +kernel
theorem d_P_send_29 : decode prog_5_method_3_code 29 = .ok (.iload_n 2, 1) := by decide +kernel
theorem d_P_send_30 : decode prog_5_method_3_code 30 = .ok (.putfield 29, 3) := by decide +kernel
theorem d_P_send_33 : decode prog_5_method_3_code 33 = .ok (.aload 8, 2) := by decide +kernel
theorem d_P_send_35 : decode prog_5_method_3_code 35 = .ok (.iload_n 3, 1) := by decide +kernel
theorem d_P_send_36 : decode prog_5_method_3_code 36 = .ok (.putfield 32, 3) := by decide +kernel
theorem d_P_send_39 : decode prog_5_method_3_code 39 = .ok (.aload 8, 2) := by decide +kernel
theorem d_P_send_41 : decode prog_5_method_3_code 41 = .ok (.iload 4, 2) := by decide +kernel
theorem d_P_send_43 : decode prog_5_method_3_code 43 = .ok (.putfield 35, 3) := by decide +kernel
theorem d_P_send_46 : decode prog_5_method_3_code 46 = .ok (.aload 8, 2) := by decide +kernel
theorem d_P_send_48 : decode prog_5_method_3_code 48 = .ok (.iload 5, 2) := by decide +kernel
theorem d_P_send_50 : decode prog_5_method_3_code 50 = .ok (.putfield 38, 3) := by decide +kernel
theorem d_P_send_53 : decode prog_5_method_3_code 53 = .ok (.aload 8, 2) := by decide +kernel
theorem d_P_send_55 : decode prog_5_method_3_code 55 = .ok (.iload 6, 2) := by decide +kernel
theorem d_P_send_57 : decode prog_5_method_3_code 57 = .ok (.putfield 41, 3) := by decide +kernel
theorem d_P_send_60 : decode prog_5_method_3_code 60 = .ok (.aload 8, 2) := by decide +kernel
theorem d_P_send_62 : decode prog_5_method_3_code 62 = .ok (.iload 7, 2) := by decide +kernel
theorem d_P_send_64 : decode prog_5_method_3_code 64 = .ok (.putfield 44, 3) := by decide +kernel
theorem d_P_send_67 : decode prog_5_method_3_code 67 = .ok (.aload_n 0, 1) := by decide +kernel
theorem d_P_send_68 : decode prog_5_method_3_code 68 = .ok (.dup, 1) := by decide +kernel
theorem d_P_send_69 : decode prog_5_method_3_code 69 = .ok (.getfield 17, 3) := by decide +kernel
theorem d_P_send_72 : decode prog_5_method_3_code 72 = .ok (.iconst 1, 1) := by decide +kernel
theorem d_P_send_73 : decode prog_5_method_3_code 73 = .ok (.iadd, 1) := by decide +kernel
theorem d_P_send_74 : decode prog_5_method_3_code 74 = .ok (.putfield 17, 3) := by decide +kernel
theorem d_P_send_77 : decode prog_5_method_3_code 77 = .ok (.return_, 1) := by decide +kernel
theorem d_P_takeOut_0 : decode prog_5_method_4_code 0 = .ok (.aload_n 0, 1) := by decide +kernel
theorem d_P_takeOut_1 : decode prog_5_method_4_code 1 = .ok (.getfield 11, 3) := by decide +kernel
theorem d_P_takeOut_4 : decode prog_5_method_4_code 4 = .ok (.iload_n 1, 1) := by decide +kernel
theorem d_P_takeOut_5 : decode prog_5_method_4_code 5 = .ok (.aaload, 1) := by decide +kernel
theorem d_P_takeOut_6 : decode prog_5_method_4_code 6 = .ok (.astore_n 2, 1) := by decide +kernel
theorem d_P_takeOut_7 : decode prog_5_method_4_code 7 = .ok (.iload_n 1, 1) := by decide +kernel
theorem d_P_takeOut_8 : decode prog_5_method_4_code 8 = .ok (.istore_n 3, 1) := by decide +kernel
theorem d_P_takeOut_9 : decode prog_5_method_4_code 9 = .ok (.iload_n 3, 1) := by decide +kernel
theorem d_P_takeOut_10 : decode prog_5_method_4_code 10 = .ok (.aload_n 0, 1) := by decide +kernel
theorem d_P_takeOut_11 : decode prog_5_method_4_code 11 = .ok (.getfield 17, 3) := by decide +kernel
theorem d_P_takeOut_14 : decode prog_5_method_4_code 14 = .ok (.iconst 1, 1) := by decide +kernel
theorem d_P_takeOut_15 : decode prog_5_method_4_code 15 = .ok (.isub, 1) := by decide +kernel
theorem d_P_takeOut_16 : decode prog_5_method_4_code 16 = .ok (.if_icmp .ge 23, 3) := by decide +kernel
theorem d_P_takeOut_19 : decode prog_5_method_4_code 19 = .ok (.aload_n 0, 1) := by decide +kernel
theorem d_P_takeOut_20 : decode prog_5_method_4_code 20 = .ok (.getfield 11, 3) := by decide +kernel
theorem d_P_takeOut_23 : decode prog_5_method_4_code 23 = .ok (.iload_n 3, 1) := by decide +kernel
theorem d_P_takeOut_24 : decode prog_5_method_4_code 24 = .ok (.aload_n 0, 1) := by decide +kernel
theorem d_P_takeOut_25 : decode prog_5_method_4_code 25 = .ok (.getfield 11, 3) := by decide +kernel
theorem d_P_takeOut_28 : decode prog_5_method_4_code 28 = .ok (.iload_n 3, 1) := by decide +kernel
theorem d_P_takeOut_29 : decode prog_5_method_4_code 29 = .ok (.iconst 1, 1) := by decide +kernel
theorem d_P_takeOut_30 : decode prog_5_method_4_code 30 = .ok (.iadd, 1) := by decide +kernel
theorem d_P_takeOut_31 : decode prog_5_method_4_code 31 = .ok (.aaload, 1) := by decide +kernel
theorem d_P_takeOut_32 : decode prog_5_method_4_code 32 = .ok (.aastore, 1) := by decide +kernel
theorem d_P_takeOut_33 : decode prog_5_method_4_code 33 = .ok (.iinc 3 1, 3) := by decide +kernel
theorem d_P_takeOut_36 : decode prog_5_method_4_code 36 = .ok (.goto (-27), 3) := by decide +kernel
theorem d_P_takeOut_39 : decode prog_5_method_4_code 39 = .ok (.aload_n 0, 1) := by decide +kernel
theorem d_P_takeOut_40 : decode prog_5_method_4_code 40 = .ok (.dup, 1) := by decide +kernel
theorem d_P_takeOut_41 : decode prog_5_method_4_code 41 = .ok (.getfield 17, 3) := by decide +kernel
theorem d_P_takeOut_44 : decode prog_5_method_4_code 44 = .ok (.iconst 1, 1) := by decide +kernel
theorem d_P_takeOut_45 : decode prog_5_method_4_code 45 = .ok (.isub, 1) := by decide +kernel
theorem d_P_takeOut_46 : decode prog_5_method_4_code 46 = .ok (.putfield 17, 3) := by decide +kernel
theorem d_P_takeOut_49 : decode prog_5_method_4_code 49 = .ok (.aload_n 0, 1) := by decide +kernel
theorem d_P_takeOut_50 : decode prog_5_method_4_code 50 = .ok (.getfield 11, 3) := by decide +kernel
theorem d_P_takeOut_53 : decode prog_5_method_4_code 53 = .ok (.aload_n 0, 1) := by decide +kernel
theorem d_P_takeOut_54 : decode prog_5_method_4_code 54 = .ok (.getfield 17, 3) := by decide +kernel
theorem d_P_takeOut_57 : decode prog_5_method_4_code 57 = .ok (.aload_n 0, 1) := by decide +kernel
theorem d_P_takeOut_58 : decode prog_5_method_4_code 58 = .ok (.getfield 22, 3) := by decide +kernel
theorem d_P_takeOut_61 : decode prog_5_method_4_code 61 = .ok (.aastore, 1) := by decide +kernel
theorem d_P_takeOut_62 : decode prog_5_method_4_code 62 = .ok (.aload_n 0, 1) := by decide +kernel
theorem d_P_takeOut_63 : decode prog_5_method_4_code 63 = .ok (.aload_n 2, 1) := by decide +kernel
theorem d_P_takeOut_64 : decode prog_5_method_4_code 64 = .ok (.putfield 22, 3) := by decide +kernel
theorem d_P_takeOut_67 : decode prog_5_method_4_code 67 = .ok (.aload_n 2, 1) := by decide +kernel
theorem d_P_takeOut_68 : decode prog_5_method_4_code 68 = .ok (.areturn, 1) := by decide +kernel
theorem d_F_init_0 : decode prog_6_method_1_code 0 = .ok (.aload_n 0, 1) := by decide +kernel
theorem d_F_init_1 : decode prog_6_method_1_code 1 = .ok (.invokespecial 3, 3) := by decide +kernel
theorem d_F_init_4 : decode prog_6_method_1_code 4 = .ok (.aload_n 0, 1) := by decide +kernel
theorem d_F_init_5 : decode prog_6_method_1_code 5 = .ok (.new 9, 3) := by decide +kernel
theorem d_F_init_8 : decode prog_6_method_1_code 8 = .ok (.dup, 1) := by decide +kernel
theorem d_F_init_9 : decode prog_6_method_1_code 9 = .ok (.invokespecial 11, 3) := by decide +kernel
theorem d_F_init_12 : decode prog_6_method_1_code 12 = .ok (.putfield 12, 3) := by decide +kernel
theorem d_F_init_15 : decode prog_6_method_1_code 15 = .ok (.aload_n 0, 1) := by decide +kernel
theorem d_F_init_16 : decode prog_6_method_1_code 16 = .ok (.iconst 0, 1) := by decide +kernel
theorem d_F_init_17 : decode prog_6_method_1_code 17 = .ok (.putfield 18, 3) := by decide +kernel
theorem d_F_init_20 : decode prog_6_method_1_code 20 = .ok (.aload_n 0, 1) := by decide +kernel
theorem d_F_init_21 : decode prog_6_method_1_code 21 = .ok (.iconst 0, 1) := by decide +kernel
theorem d_F_init_22 : decode prog_6_method_1_code 22 = .ok (.putfield 22, 3) := by decide +kernel
theorem d_F_init_25 : decode prog_6_method_1_code 25 = .ok (.aload_n 0, 1) := by decide +kernel
theorem d_F_init_26 : decode prog_6_method_1_code 26 = .ok (.iload_n 1, 1) := by decide +kernel
theorem d_F_init_27 : decode prog_6_method_1_code 27 = .ok (.newarray .int, 2) := by decide +kernel
theorem d_F_init_29 : decode prog_6_method_1_code 29 = .ok (.putfield 25, 3) := by decide +kernel
theorem d_F_init_32 : decode prog_6_method_1_code 32 = .ok (.return_, 1) := by decide +kernel
theorem d_F_isLeasedAt_0 : decode prog_6_method_2_code 0 = .ok (.iconst 0, 1) := by decide +kernel
theorem d_F_isLeasedAt_1 : decode prog_6_method_2_code 1 = .ok (.istore_n 2, 1) := by decide +kernel
theorem d_F_isLeasedAt_2 : decode prog_6_method_2_code 2 = .ok (.iload_n 2, 1) := by decide +kernel
theorem d_F_isLeasedAt_3 : decode prog_6_method_2_code 3 = .ok (.aload_n 0, 1) := by decide +kernel
theorem d_F_isLeasedAt_4 : decode prog_6_method_2_code 4 = .ok (.getfield 25, 3) := by decide +kernel
theorem d_F_isLeasedAt_7 : decode prog_6_method_2_code 7 = .ok (.arraylength, 1) := by decide +kernel
theorem d_F_isLeasedAt_8 : decode prog_6_method_2_code 8 = .ok (.if_icmp .ge 21, 3) := by decide +kernel
theorem d_F_isLeasedAt_11 : decode prog_6_method_2_code 11 = .ok (.aload_n 0, 1) := by decide +kernel
theorem d_F_isLeasedAt_12 : decode prog_6_method_2_code 12 = .ok (.getfield 25, 3) := by decide +kernel
theorem d_F_isLeasedAt_15 : decode prog_6_method_2_code 15 = .ok (.iload_n 2, 1) := by decide +kernel
theorem d_F_isLeasedAt_16 : decode prog_6_method_2_code 16 = .ok (.iaload, 1) := by decide +kernel
theorem d_F_isLeasedAt_17 : decode prog_6_method_2_code 17 = .ok (.iload_n 1, 1) := by decide +kernel
theorem d_F_isLeasedAt_18 : decode prog_6_method_2_code 18 = .ok (.if_icmp .le 5, 3) := by decide +kernel
theorem d_F_isLeasedAt_21 : decode prog_6_method_2_code 21 = .ok (.iconst 1, 1) := by decide +kernel
theorem d_F_isLeasedAt_22 : decode prog_6_method_2_code 22 = .ok (.ireturn, 1) := by decide +kernel
theorem d_F_isLeasedAt_23 : decode prog_6_method_2_code 23 = .ok (.iinc 2 1, 3) := by decide +kernel
theorem d_F_isLeasedAt_26 : decode prog_6_method_2_code 26 = .ok (.goto (-24), 3) := by decide +kernel
theorem d_F_isLeasedAt_29 : decode prog_6_method_2_code 29 = .ok (.iconst 0, 1) := by decide +kernel
theorem d_F_isLeasedAt_30 : decode prog_6_method_2_code 30 = .ok (.ireturn, 1) := by decide +kernel
theorem d_F_endLeases_0 : decode prog_6_method_3_code 0 = .ok (.iconst 0, 1) := by decide +kernel
theorem d_F_endLeases_1 : decode prog_6_method_3_code 1 = .ok (.istore_n 2, 1) := by decide +kernel
theorem d_F_endLeases_2 : decode prog_6_method_3_code 2 = .ok (.iload_n 2, 1) := by decide +kernel
theorem d_F_endLeases_3 : decode prog_6_method_3_code 3 = .ok (.aload_n 0, 1) := by decide +kernel
theorem d_F_endLeases_4 : decode prog_6_method_3_code 4 = .ok (.getfield 25, 3) := by decide +kernel
theorem d_F_endLeases_7 : decode prog_6_method_3_code 7 = .ok (.arraylength, 1) := by decide +kernel
theorem d_F_endLeases_8 : decode prog_6_method_3_code 8 = .ok (.if_icmp .ge 16, 3) := by decide +kernel
theorem d_F_endLeases_11 : decode prog_6_method_3_code 11 = .ok (.aload_n 0, 1) := by decide +kernel
theorem d_F_endLeases_12 : decode prog_6_method_3_code 12 = .ok (.getfield 25, 3) := by decide +kernel
theorem d_F_endLeases_15 : decode prog_6_method_3_code 15 = .ok (.iload_n 2, 1) := by decide +kernel
theorem d_F_endLeases_16 : decode prog_6_method_3_code 16 = .ok (.iload_n 1, 1) := by decide +kernel
theorem d_F_endLeases_17 : decode prog_6_method_3_code 17 = .ok (.iastore, 1) := by decide +kernel
theorem d_F_endLeases_18 : decode prog_6_method_3_code 18 = .ok (.iinc 2 1, 3) := by decide +kernel
theorem d_F_endLeases_21 : decode prog_6_method_3_code 21 = .ok (.goto (-19), 3) := by decide +kernel
theorem d_F_endLeases_24 : decode prog_6_method_3_code 24 = .ok (.return_, 1) := by decide +kernel
theorem d_F_isFirst_0 : decode prog_6_method_4_code 0 = .ok (.aload_n 0, 1) := by decide +kernel
theorem d_F_isFirst_1 : decode prog_6_method_4_code 1 = .ok (.getfield 12, 3) := by decide +kernel
theorem d_F_isFirst_4 : decode prog_6_method_4_code 4 = .ok (.invokevirtual 29, 3) := by decide +kernel
theorem d_F_isFirst_7 : decode prog_6_method_4_code 7 = .ok (.ifCond .ne 26, 3) := by decide +kernel
theorem d_F_isFirst_10 : decode prog_6_method_4_code 10 = .ok (.aload_n 0, 1) := by decide +kernel
theorem d_F_isFirst_11 : decode prog_6_method_4_code 11 = .ok (.getfield 12, 3) := by decide +kernel
theorem d_F_isFirst_14 : decode prog_6_method_4_code 14 = .ok (.iconst 0, 1) := by decide +kernel
theorem d_F_isFirst_15 : decode prog_6_method_4_code 15 = .ok (.invokevirtual 33, 3) := by decide +kernel
theorem d_F_isFirst_18 : decode prog_6_method_4_code 18 = .ok (.checkcast 37, 3) := by decide +kernel
theorem d_F_isFirst_21 : decode prog_6_method_4_code 21 = .ok (.iload_n 1, 1) := by decide +kernel
theorem d_F_isFirst_22 : decode prog_6_method_4_code 22 = .ok (.iload_n 2, 1) := by decide +kernel
theorem d_F_isFirst_23 : decode prog_6_method_4_code 23 = .ok (.invokevirtual 39, 3) := by decide +kernel
theorem d_F_isFirst_26 : decode prog_6_method_4_code 26 = .ok (.ifCond .eq 7, 3) := by decide +kernel
theorem d_F_isFirst_29 : decode prog_6_method_4_code 29 = .ok (.iconst 1, 1) := by decide +kernel
theorem d_F_isFirst_30 : decode prog_6_method_4_code 30 = .ok (.goto 4, 3) := by decide +kernel
theorem d_F_isFirst_33 : decode prog_6_method_4_code 33 = .ok (.iconst 0, 1) := by decide +kernel
theorem d_F_isFirst_34 : decode prog_6_method_4_code 34 = .ok (.ireturn, 1) := by decide +kernel
theorem d_F_isWaiting_0 : decode prog_6_method_5_code 0 = .ok (.iconst 0, 1) := by decide +kernel
theorem d_F_isWaiting_1 : decode prog_6_method_5_code 1 = .ok (.istore_n 3, 1) := by decide +kernel
theorem d_F_isWaiting_2 : decode prog_6_method_5_code 2 = .ok (.iload_n 3, 1) := by decide +kernel
theorem d_F_isWaiting_3 : decode prog_6_method_5_code 3 = .ok (.aload_n 0, 1) := by decide +kernel
theorem d_F_isWaiting_4 : decode prog_6_method_5_code 4 = .ok (.getfield 12, 3) := by decide +kernel
theorem d_F_isWaiting_7 : decode prog_6_method_5_code 7 = .ok (.invokevirtual 43, 3) := by decide +kernel
theorem d_F_isWaiting_10 : decode prog_6_method_5_code 10 = .ok (.if_icmp .ge 30, 3) := by decide +kernel
theorem d_F_isWaiting_13 : decode prog_6_method_5_code 13 = .ok (.aload_n 0, 1) := by decide +kernel
theorem d_F_isWaiting_14 : decode prog_6_method_5_code 14 = .ok (.getfield 12, 3) := by decide +kernel
theorem d_F_isWaiting_17 : decode prog_6_method_5_code 17 = .ok (.iload_n 3, 1) := by decide +kernel
theorem d_F_isWaiting_18 : decode prog_6_method_5_code 18 = .ok (.invokevirtual 33, 3) := by decide +kernel
theorem d_F_isWaiting_21 : decode prog_6_method_5_code 21 = .ok (.checkcast 37, 3) := by decide +kernel
theorem d_F_isWaiting_24 : decode prog_6_method_5_code 24 = .ok (.iload_n 1, 1) := by decide +kernel
theorem d_F_isWaiting_25 : decode prog_6_method_5_code 25 = .ok (.iload_n 2, 1) := by decide +kernel
theorem d_F_isWaiting_26 : decode prog_6_method_5_code 26 = .ok (.invokevirtual 39, 3) := by decide +kernel
theorem d_F_isWaiting_29 : decode prog_6_method_5_code 29 = .ok (.ifCond .eq 5, 3) := by decide +kernel
theorem d_F_isWaiting_32 : decode prog_6_method_5_code 32 = .ok (.iconst 1, 1) := by decide +kernel
theorem d_F_isWaiting_33 : decode prog_6_method_5_code 33 = .ok (.ireturn, 1) := by decide +kernel
theorem d_F_isWaiting_34 : decode prog_6_method_5_code 34 = .ok (.iinc 3 1, 3) := by decide +kernel
theorem d_F_isWaiting_37 : decode prog_6_method_5_code 37 = .ok (.goto (-35), 3) := by decide +kernel
theorem d_F_isWaiting_40 : decode prog_6_method_5_code 40 = .ok (.iconst 0, 1) := by decide +kernel
theorem d_F_isWaiting_41 : decode prog_6_method_5_code 41 = .ok (.ireturn, 1) := by decide +kernel
theorem d_F_addLast_0 : decode prog_6_method_6_code 0 = .ok (.aload_n 0, 1) := by decide +kernel
theorem d_F_addLast_1 : decode prog_6_method_6_code 1 = .ok (.getfield 12, 3) := by decide +kernel
theorem d_F_addLast_4 : decode prog_6_method_6_code 4 = .ok (.invokevirtual 43, 3) := by decide +kernel
theorem d_F_addLast_7 : decode prog_6_method_6_code 7 = .ok (.sipush 256, 3) := by decide +kernel
theorem d_F_addLast_10 : decode prog_6_method_6_code 10 = .ok (.if_icmp .ge 21, 3) := by decide +kernel
theorem d_F_addLast_13 : decode prog_6_method_6_code 13 = .ok (.aload_n 0, 1) := by decide +kernel
theorem d_F_addLast_14 : decode prog_6_method_6_code 14 = .ok (.getfield 12, 3) := by decide +kernel
theorem d_F_addLast_17 : decode prog_6_method_6_code 17 = .ok (.new 37, 3) := by decide +kernel
theorem d_F_addLast_20 : decode prog_6_method_6_code 20 = .ok (.dup, 1) := by decide +kernel
theorem d_F_addLast_21 : decode prog_6_method_6_code 21 = .ok (.iload_n 1, 1) := by decide +kernel
theorem d_F_addLast_22 : decode prog_6_method_6_code 22 = .ok (.iload_n 2, 1) := by decide +kernel
theorem d_F_addLast_23 : decode prog_6_method_6_code 23 = .ok (.iload_n 3, 1) := by decide +kernel
theorem d_F_addLast_24 : decode prog_6_method_6_code 24 = .ok (.invokespecial 47, 3) := by decide +kernel
theorem d_F_addLast_27 : decode prog_6_method_6_code 27 = .ok (.invokevirtual 50, 3) := by decide +kernel
theorem d_F_addLast_30 : decode prog_6_method_6_code 30 = .ok (.pop, 1) := by decide +kernel
theorem d_F_addLast_31 : decode prog_6_method_6_code 31 = .ok (.return_, 1) := by decide +kernel
theorem d_F_part_0 : decode prog_6_method_7_code 0 = .ok (.iload_n 1, 1) := by decide +kernel
theorem d_F_part_1 : decode prog_6_method_7_code 1 = .ok (.tableswitch 78 0 3 #[31, 36, 41, 49], 31) := by decide +kernel
theorem d_F_part_32 : decode prog_6_method_7_code 32 = .ok (.aload_n 0, 1) := by decide +kernel
theorem d_F_part_33 : decode prog_6_method_7_code 33 = .ok (.getfield 18, 3) := by decide +kernel
theorem d_F_part_36 : decode prog_6_method_7_code 36 = .ok (.ireturn, 1) := by decide +kernel
theorem d_F_part_37 : decode prog_6_method_7_code 37 = .ok (.aload_n 0, 1) := by decide +kernel
theorem d_F_part_38 : decode prog_6_method_7_code 38 = .ok (.getfield 22, 3) := by decide +kernel
theorem d_F_part_41 : decode prog_6_method_7_code 41 = .ok (.ireturn, 1) := by decide +kernel
theorem d_F_part_42 : decode prog_6_method_7_code 42 = .ok (.aload_n 0, 1) := by decide +kernel
theorem d_F_part_43 : decode prog_6_method_7_code 43 = .ok (.getfield 12, 3) := by decide +kernel
theorem d_F_part_46 : decode prog_6_method_7_code 46 = .ok (.invokevirtual 43, 3) := by decide +kernel
theorem d_F_part_49 : decode prog_6_method_7_code 49 = .ok (.ireturn, 1) := by decide +kernel
theorem d_F_part_50 : decode prog_6_method_7_code 50 = .ok (.aload_n 0, 1) := by decide +kernel
theorem d_F_part_51 : decode prog_6_method_7_code 51 = .ok (.getfield 12, 3) := by decide +kernel
theorem d_F_part_54 : decode prog_6_method_7_code 54 = .ok (.invokevirtual 29, 3) := by decide +kernel
theorem d_F_part_57 : decode prog_6_method_7_code 57 = .ok (.ifCond .eq 7, 3) := by decide +kernel
theorem d_F_part_60 : decode prog_6_method_7_code 60 = .ok (.iconst (-1), 1) := by decide +kernel
theorem d_F_part_61 : decode prog_6_method_7_code 61 = .ok (.goto 17, 3) := by decide +kernel
theorem d_F_part_64 : decode prog_6_method_7_code 64 = .ok (.aload_n 0, 1) := by decide +kernel
theorem d_F_part_65 : decode prog_6_method_7_code 65 = .ok (.getfield 12, 3) := by decide +kernel
theorem d_F_part_68 : decode prog_6_method_7_code 68 = .ok (.iconst 0, 1) := by decide +kernel
theorem d_F_part_69 : decode prog_6_method_7_code 69 = .ok (.invokevirtual 33, 3) := by decide +kernel
theorem d_F_part_72 : decode prog_6_method_7_code 72 = .ok (.checkcast 37, 3) := by decide +kernel
theorem d_F_part_75 : decode prog_6_method_7_code 75 = .ok (.getfield 54, 3) := by decide +kernel
theorem d_F_part_78 : decode prog_6_method_7_code 78 = .ok (.ireturn, 1) := by decide +kernel
theorem d_F_part_79 : decode prog_6_method_7_code 79 = .ok (.iconst (-1), 1) := by decide +kernel
theorem d_F_part_80 : decode prog_6_method_7_code 80 = .ok (.ireturn, 1) := by decide +kernel
theorem d_S_init_0 : decode prog_7_method_1_code 0 = .ok (.aload_n 0, 1) := by decide +kernel
theorem d_S_init_1 : decode prog_7_method_1_code 1 = .ok (.invokespecial 3, 3) := by decide +kernel
theorem d_S_init_4 : decode prog_7_method_1_code 4 = .ok (.aload_n 0, 1) := by decide +kernel
theorem d_S_init_5 : decode prog_7_method_1_code 5 = .ok (.iconst 0, 1) := by decide +kernel
theorem d_S_init_6 : decode prog_7_method_1_code 6 = .ok (.putfield 9, 3) := by decide +kernel
theorem d_S_init_9 : decode prog_7_method_1_code 9 = .ok (.aload_n 0, 1) := by decide +kernel
theorem d_S_init_10 : decode prog_7_method_1_code 10 = .ok (.iconst 1, 1) := by decide +kernel
theorem d_S_init_11 : decode prog_7_method_1_code 11 = .ok (.putfield 15, 3) := by decide +kernel
theorem d_S_init_14 : decode prog_7_method_1_code 14 = .ok (.aload_n 0, 1) := by decide +kernel
theorem d_S_init_15 : decode prog_7_method_1_code 15 = .ok (.iconst 0, 1) := by decide +kernel
theorem d_S_init_16 : decode prog_7_method_1_code 16 = .ok (.putfield 19, 3) := by decide +kernel
theorem d_S_init_19 : decode prog_7_method_1_code 19 = .ok (.aload_n 0, 1) := by decide +kernel
theorem d_S_init_20 : decode prog_7_method_1_code 20 = .ok (.iconst 0, 1) := by decide +kernel
theorem d_S_init_21 : decode prog_7_method_1_code 21 = .ok (.putfield 22, 3) := by decide +kernel
theorem d_S_init_24 : decode prog_7_method_1_code 24 = .ok (.aload_n 0, 1) := by decide +kernel
theorem d_S_init_25 : decode prog_7_method_1_code 25 = .ok (.iload_n 3, 1) := by decide +kernel
theorem d_S_init_26 : decode prog_7_method_1_code 26 = .ok (.putfield 25, 3) := by decide +kernel
theorem d_S_init_29 : decode prog_7_method_1_code 29 = .ok (.aload_n 0, 1) := by decide +kernel
theorem d_S_init_30 : decode prog_7_method_1_code 30 = .ok (.iload_n 1, 1) := by decide +kernel
theorem d_S_init_31 : decode prog_7_method_1_code 31 = .ok (.newarray .int, 2) := by decide +kernel
theorem d_S_init_33 : decode prog_7_method_1_code 33 = .ok (.putfield 28, 3) := by decide +kernel
theorem d_S_init_36 : decode prog_7_method_1_code 36 = .ok (.aload_n 0, 1) := by decide +kernel
theorem d_S_init_37 : decode prog_7_method_1_code 37 = .ok (.iload_n 1, 1) := by decide +kernel
theorem d_S_init_38 : decode prog_7_method_1_code 38 = .ok (.newarray .int, 2) := by decide +kernel
theorem d_S_init_40 : decode prog_7_method_1_code 40 = .ok (.putfield 32, 3) := by decide +kernel
theorem d_S_init_43 : decode prog_7_method_1_code 43 = .ok (.aload_n 0, 1) := by decide +kernel
theorem d_S_init_44 : decode prog_7_method_1_code 44 = .ok (.iload_n 2, 1) := by decide +kernel
theorem d_S_init_45 : decode prog_7_method_1_code 45 = .ok (.anewarray 35, 3) := by decide +kernel
theorem d_S_init_48 : decode prog_7_method_1_code 48 = .ok (.putfield 37, 3) := by decide +kernel
theorem d_S_init_51 : decode prog_7_method_1_code 51 = .ok (.iconst 0, 1) := by decide +kernel
theorem d_S_init_52 : decode prog_7_method_1_code 52 = .ok (.istore 4, 2) := by decide +kernel
theorem d_S_init_54 : decode prog_7_method_1_code 54 = .ok (.iload 4, 2) := by decide +kernel
theorem d_S_init_56 : decode prog_7_method_1_code 56 = .ok (.iload_n 2, 1) := by decide +kernel
theorem d_S_init_57 : decode prog_7_method_1_code 57 = .ok (.if_icmp .ge 24, 3) := by decide +kernel
theorem d_S_init_60 : decode prog_7_method_1_code 60 = .ok (.aload_n 0, 1) := by decide +kernel
theorem d_S_init_61 : decode prog_7_method_1_code 61 = .ok (.getfield 37, 3) := by decide +kernel
theorem d_S_init_64 : decode prog_7_method_1_code 64 = .ok (.iload 4, 2) := by decide +kernel
theorem d_S_init_66 : decode prog_7_method_1_code 66 = .ok (.new 35, 3) := by decide +kernel
theorem d_S_init_69 : decode prog_7_method_1_code 69 = .ok (.dup, 1) := by decide +kernel
theorem d_S_init_70 : decode prog_7_method_1_code 70 = .ok (.iload_n 1, 1) := by decide +kernel
theorem d_S_init_71 : decode prog_7_method_1_code 71 = .ok (.invokespecial 41, 3) := by decide +kernel
theorem d_S_init_74 : decode prog_7_method_1_code 74 = .ok (.aastore, 1) := by decide +kernel
theorem d_S_init_75 : decode prog_7_method_1_code 75 = .ok (.iinc 4 1, 3) := by decide +kernel
theorem d_S_init_78 : decode prog_7_method_1_code 78 = .ok (.goto (-24), 3) := by decide +kernel
theorem d_S_init_81 : decode prog_7_method_1_code 81 = .ok (.return_, 1) := by decide +kernel
theorem d_S_receive_0 : decode prog_7_method_2_code 0 = .ok (.aload_n 0, 1) := by decide +kernel
theorem d_S_receive_1 : decode prog_7_method_2_code 1 = .ok (.getfield 15, 3) := by decide +kernel
theorem d_S_receive_4 : decode prog_7_method_2_code 4 = .ok (.ifCond .ne 5, 3) := by decide +kernel
theorem d_S_receive_7 : decode prog_7_method_2_code 7 = .ok (.iconst 0, 1) := by decide +kernel
theorem d_S_receive_8 : decode prog_7_method_2_code 8 = .ok (.ireturn, 1) := by decide +kernel
theorem d_S_receive_9 : decode prog_7_method_2_code 9 = .ok (.aload_n 1, 1) := by decide +kernel
theorem d_S_receive_10 : decode prog_7_method_2_code 10 = .ok (.getfield 44, 3) := by decide +kernel
theorem d_S_receive_13 : decode prog_7_method_2_code 13 = .ok (.lookupswitch 61 #[(0, 35), (1, 44), (5, 53)], 35) := by decide +kernel
theorem d_S_receive_48 : decode prog_7_method_2_code 48 = .ok (.aload_n 0, 1) := by decide +kernel
theorem d_S_receive_49 : decode prog_7_method_2_code 49 = .ok (.aload_n 1, 1) := by decide +kernel
theorem d_S_receive_50 : decode prog_7_method_2_code 50 = .ok (.aload_n 2, 1) := by decide +kernel
theorem d_S_receive_51 : decode prog_7_method_2_code 51 = .ok (.invokevirtual 49, 3) := by decide +kernel
theorem d_S_receive_54 : decode prog_7_method_2_code 54 = .ok (.goto 20, 3) := by decide +kernel
theorem d_S_receive_57 : decode prog_7_method_2_code 57 = .ok (.aload_n 0, 1) := by decide +kernel
theorem d_S_receive_58 : decode prog_7_method_2_code 58 = .ok (.aload_n 1, 1) := by decide +kernel
theorem d_S_receive_59 : decode prog_7_method_2_code 59 = .ok (.aload_n 2, 1) := by decide +kernel
theorem d_S_receive_60 : decode prog_7_method_2_code 60 = .ok (.invokevirtual 53, 3) := by decide +kernel
theorem d_S_receive_63 : decode prog_7_method_2_code 63 = .ok (.goto 11, 3) := by decide +kernel
theorem d_S_receive_66 : decode prog_7_method_2_code 66 = .ok (.aload_n 0, 1) := by decide +kernel
theorem d_S_receive_67 : decode prog_7_method_2_code 67 = .ok (.aload_n 1, 1) := by decide +kernel
theorem d_S_receive_68 : decode prog_7_method_2_code 68 = .ok (.invokevirtual 56, 3) := by decide +kernel
theorem d_S_receive_71 : decode prog_7_method_2_code 71 = .ok (.goto 3, 3) := by decide +kernel
theorem d_S_receive_74 : decode prog_7_method_2_code 74 = .ok (.aload_n 0, 1) := by decide +kernel
theorem d_S_receive_75 : decode prog_7_method_2_code 75 = .ok (.aload_n 2, 1) := by decide +kernel
theorem d_S_receive_76 : decode prog_7_method_2_code 76 = .ok (.invokevirtual 60, 3) := by decide +kernel
theorem d_S_receive_79 : decode prog_7_method_2_code 79 = .ok (.pop, 1) := by decide +kernel
theorem d_S_receive_80 : decode prog_7_method_2_code 80 = .ok (.iconst 1, 1) := by decide +kernel
theorem d_S_receive_81 : decode prog_7_method_2_code 81 = .ok (.ireturn, 1) := by decide +kernel
theorem d_S_letTimeGoBy_0 : decode prog_7_method_3_code 0 = .ok (.aload_n 0, 1) := by decide +kernel
theorem d_S_letTimeGoBy_1 : decode prog_7_method_3_code 1 = .ok (.dup, 1) := by decide +kernel
theorem d_S_letTimeGoBy_2 : decode prog_7_method_3_code 2 = .ok (.getfield 9, 3) := by decide +kernel
theorem d_S_letTimeGoBy_5 : decode prog_7_method_3_code 5 = .ok (.iload_n 1, 1) := by decide +kernel
theorem d_S_letTimeGoBy_6 : decode prog_7_method_3_code 6 = .ok (.iadd, 1) := by decide +kernel
theorem d_S_letTimeGoBy_7 : decode prog_7_method_3_code 7 = .ok (.putfield 9, 3) := by decide +kernel
theorem d_S_letTimeGoBy_10 : decode prog_7_method_3_code 10 = .ok (.aload_n 0, 1) := by decide +kernel
theorem d_S_letTimeGoBy_11 : decode prog_7_method_3_code 11 = .ok (.aload_n 2, 1) := by decide +kernel
theorem d_S_letTimeGoBy_12 : decode prog_7_method_3_code 12 = .ok (.invokevirtual 60, 3) := by decide +kernel
theorem d_S_letTimeGoBy_15 : decode prog_7_method_3_code 15 = .ok (.ireturn, 1) := by decide +kernel
theorem d_S_goDown_0 : decode prog_7_method_4_code 0 = .ok (.iconst 0, 1) := by decide +kernel
theorem d_S_goDown_1 : decode prog_7_method_4_code 1 = .ok (.istore_n 1, 1) := by decide +kernel
theorem d_S_goDown_2 : decode prog_7_method_4_code 2 = .ok (.iconst 0, 1) := by decide +kernel
theorem d_S_goDown_3 : decode prog_7_method_4_code 3 = .ok (.istore_n 2, 1) := by decide +kernel
theorem d_S_goDown_4 : decode prog_7_method_4_code 4 = .ok (.iload_n 2, 1) := by decide +kernel
theorem d_S_goDown_5 : decode prog_7_method_4_code 5 = .ok (.aload_n 0, 1) := by decide +kernel
theorem d_S_goDown_6 : decode prog_7_method_4_code 6 = .ok (.getfield 37, 3) := by decide +kernel
theorem d_S_goDown_9 : decode prog_7_method_4_code 9 = .ok (.arraylength, 1) := by decide +kernel
theorem d_S_goDown_10 : decode prog_7_method_4_code 10 = .ok (.if_icmp .ge 49, 3) := by decide +kernel
theorem d_S_goDown_13 : decode prog_7_method_4_code 13 = .ok (.iload_n 1, 1) := by decide +kernel
theorem d_S_goDown_14 : decode prog_7_method_4_code 14 = .ok (.aload_n 0, 1) := by decide +kernel
theorem d_S_goDown_15 : decode prog_7_method_4_code 15 = .ok (.getfield 37, 3) := by decide +kernel
theorem d_S_goDown_18 : decode prog_7_method_4_code 18 = .ok (.iload_n 2, 1) := by decide +kernel
theorem d_S_goDown_19 : decode prog_7_method_4_code 19 = .ok (.aaload, 1) := by decide +kernel
theorem d_S_goDown_20 : decode prog_7_method_4_code 20 = .ok (.getfield 64, 3) := by decide +kernel
theorem d_S_goDown_23 : decode prog_7_method_4_code 23 = .ok (.invokevirtual 68, 3) := by decide +kernel
theorem d_S_goDown_26 : decode prog_7_method_4_code 26 = .ok (.iadd, 1) := by decide +kernel
theorem d_S_goDown_27 : decode prog_7_method_4_code 27 = .ok (.istore_n 1, 1) := by decide +kernel
theorem d_S_goDown_28 : decode prog_7_method_4_code 28 = .ok (.aload_n 0, 1) := by decide +kernel
theorem d_S_goDown_29 : decode prog_7_method_4_code 29 = .ok (.getfield 37, 3) := by decide +kernel
theorem d_S_goDown_32 : decode prog_7_method_4_code 32 = .ok (.iload_n 2, 1) := by decide +kernel
theorem d_S_goDown_33 : decode prog_7_method_4_code 33 = .ok (.aaload, 1) := by decide +kernel
theorem d_S_goDown_34 : decode prog_7_method_4_code 34 = .ok (.getfield 64, 3) := by decide +kernel
theorem d_S_goDown_37 : decode prog_7_method_4_code 37 = .ok (.invokevirtual 74, 3) := by decide +kernel
theorem d_S_goDown_40 : decode prog_7_method_4_code 40 = .ok (.aload_n 0, 1) := by decide +kernel
theorem d_S_goDown_41 : decode prog_7_method_4_code 41 = .ok (.getfield 37, 3) := by decide +kernel
theorem d_S_goDown_44 : decode prog_7_method_4_code 44 = .ok (.iload_n 2, 1) := by decide +kernel
theorem d_S_goDown_45 : decode prog_7_method_4_code 45 = .ok (.aaload, 1) := by decide +kernel
theorem d_S_goDown_46 : decode prog_7_method_4_code 46 = .ok (.aload_n 0, 1) := by decide +kernel
theorem d_S_goDown_47 : decode prog_7_method_4_code 47 = .ok (.getfield 9, 3) := by decide +kernel
theorem d_S_goDown_50 : decode prog_7_method_4_code 50 = .ok (.invokevirtual 77, 3) := by decide +kernel
theorem d_S_goDown_53 : decode prog_7_method_4_code 53 = .ok (.iinc 2 1, 3) := by decide +kernel
theorem d_S_goDown_56 : decode prog_7_method_4_code 56 = .ok (.goto (-52), 3) := by decide +kernel
theorem d_S_goDown_59 : decode prog_7_method_4_code 59 = .ok (.aload_n 0, 1) := by decide +kernel
theorem d_S_goDown_60 : decode prog_7_method_4_code 60 = .ok (.iconst 0, 1) := by decide +kernel
theorem d_S_goDown_61 : decode prog_7_method_4_code 61 = .ok (.putfield 15, 3) := by decide +kernel
theorem d_S_goDown_64 : decode prog_7_method_4_code 64 = .ok (.iload_n 1, 1) := by decide +kernel
theorem d_S_goDown_65 : decode prog_7_method_4_code 65 = .ok (.ireturn, 1) := by decide +kernel
theorem d_S_comeUp_0 : decode prog_7_method_5_code 0 = .ok (.aload_n 0, 1) := by decide +kernel
theorem d_S_comeUp_1 : decode prog_7_method_5_code 1 = .ok (.iconst 1, 1) := by decide +kernel
theorem d_S_comeUp_2 : decode prog_7_method_5_code 2 = .ok (.putfield 15, 3) := by decide +kernel
theorem d_S_comeUp_5 : decode prog_7_method_5_code 5 = .ok (.aload_n 0, 1) := by decide +kernel
theorem d_S_comeUp_6 : decode prog_7_method_5_code 6 = .ok (.dup, 1) := by decide +kernel
theorem d_S_comeUp_7 : decode prog_7_method_5_code 7 = .ok (.getfield 19, 3) := by decide +kernel
theorem d_S_comeUp_10 : decode prog_7_method_5_code 10 = .ok (.iconst 1, 1) := by decide +kernel
theorem d_S_comeUp_11 : decode prog_7_method_5_code 11 = .ok (.iadd, 1) := by decide +kernel
theorem d_S_comeUp_12 : decode prog_7_method_5_code 12 = .ok (.putfield 19, 3) := by decide +kernel
theorem d_S_comeUp_15 : decode prog_7_method_5_code 15 = .ok (.aload_n 0, 1) := by decide +kernel
theorem d_S_comeUp_16 : decode prog_7_method_5_code 16 = .ok (.aload_n 0, 1) := by decide +kernel
theorem d_S_comeUp_17 : decode prog_7_method_5_code 17 = .ok (.getfield 9, 3) := by decide +kernel
theorem d_S_comeUp_20 : decode prog_7_method_5_code 20 = .ok (.aload_n 0, 1) := by decide +kernel
theorem d_S_comeUp_21 : decode prog_7_method_5_code 21 = .ok (.getfield 25, 3) := by decide +kernel
theorem d_S_comeUp_24 : decode prog_7_method_5_code 24 = .ok (.iadd, 1) := by decide +kernel
theorem d_S_comeUp_25 : decode prog_7_method_5_code 25 = .ok (.putfield 22, 3) := by decide +kernel
theorem d_S_comeUp_28 : decode prog_7_method_5_code 28 = .ok (.aload_n 0, 1) := by decide +kernel
theorem d_S_comeUp_29 : decode prog_7_method_5_code 29 = .ok (.getfield 19, 3) := by decide +kernel
theorem d_S_comeUp_32 : decode prog_7_method_5_code 32 = .ok (.ireturn, 1) := by decide +kernel
theorem d_S_part_0 : decode prog_7_method_6_code 0 = .ok (.iload_n 1, 1) := by decide +kernel
theorem d_S_part_1 : decode prog_7_method_6_code 1 = .ok (.tableswitch 66 0 3 #[31, 36, 49, 54], 31) := by decide +kernel
theorem d_S_part_32 : decode prog_7_method_6_code 32 = .ok (.aload_n 0, 1) := by decide +kernel
theorem d_S_part_33 : decode prog_7_method_6_code 33 = .ok (.getfield 9, 3) := by decide +kernel
theorem d_S_part_36 : decode prog_7_method_6_code 36 = .ok (.ireturn, 1) := by decide +kernel
theorem d_S_part_37 : decode prog_7_method_6_code 37 = .ok (.aload_n 0, 1) := by decide +kernel
theorem d_S_part_38 : decode prog_7_method_6_code 38 = .ok (.getfield 15, 3) := by decide +kernel
theorem d_S_part_41 : decode prog_7_method_6_code 41 = .ok (.ifCond .eq 7, 3) := by decide +kernel
theorem d_S_part_44 : decode prog_7_method_6_code 44 = .ok (.iconst 1, 1) := by decide +kernel
theorem d_S_part_45 : decode prog_7_method_6_code 45 = .ok (.goto 4, 3) := by decide +kernel
theorem d_S_part_48 : decode prog_7_method_6_code 48 = .ok (.iconst 0, 1) := by decide +kernel
theorem d_S_part_49 : decode prog_7_method_6_code 49 = .ok (.ireturn, 1) := by decide +kernel
theorem d_S_part_50 : decode prog_7_method_6_code 50 = .ok (.aload_n 0, 1) := by decide +kernel
theorem d_S_part_51 : decode prog_7_method_6_code 51 = .ok (.getfield 19, 3) := by decide +kernel
theorem d_S_part_54 : decode prog_7_method_6_code 54 = .ok (.ireturn, 1) := by decide +kernel
theorem d_S_part_55 : decode prog_7_method_6_code 55 = .ok (.aload_n 0, 1) := by decide +kernel
theorem d_S_part_56 : decode prog_7_method_6_code 56 = .ok (.getfield 22, 3) := by decide +kernel
theorem d_S_part_59 : decode prog_7_method_6_code 59 = .ok (.aload_n 0, 1) := by decide +kernel
theorem d_S_part_60 : decode prog_7_method_6_code 60 = .ok (.getfield 9, 3) := by decide +kernel
theorem d_S_part_63 : decode prog_7_method_6_code 63 = .ok (.invokestatic 80, 3) := by decide +kernel
theorem d_S_part_66 : decode prog_7_method_6_code 66 = .ok (.ireturn, 1) := by decide +kernel
theorem d_S_part_67 : decode prog_7_method_6_code 67 = .ok (.iconst (-1), 1) := by decide +kernel
theorem d_S_part_68 : decode prog_7_method_6_code 68 = .ok (.ireturn, 1) := by decide +kernel
theorem d_S_receiveAsk_0 : decode prog_7_method_7_code 0 = .ok (.aload_n 0, 1) := by decide +kernel
theorem d_S_receiveAsk_1 : decode prog_7_method_7_code 1 = .ok (.getfield 37, 3) := by decide +kernel
theorem d_S_receiveAsk_4 : decode prog_7_method_7_code 4 = .ok (.aload_n 1, 1) := by decide +kernel
theorem d_S_receiveAsk_5 : decode prog_7_method_7_code 5 = .ok (.getfield 84, 3) := by decide +kernel
theorem d_S_receiveAsk_8 : decode prog_7_method_7_code 8 = .ok (.aaload, 1) := by decide +kernel
theorem d_S_receiveAsk_9 : decode prog_7_method_7_code 9 = .ok (.astore_n 3, 1) := by decide +kernel
theorem d_S_receiveAsk_10 : decode prog_7_method_7_code 10 = .ok (.aload_n 3, 1) := by decide +kernel
theorem d_S_receiveAsk_11 : decode prog_7_method_7_code 11 = .ok (.getfield 64, 3) := by decide +kernel
theorem d_S_receiveAsk_14 : decode prog_7_method_7_code 14 = .ok (.invokevirtual 87, 3) := by decide +kernel
theorem d_S_receiveAsk_17 : decode prog_7_method_7_code 17 = .ok (.istore 4, 2) := by decide +kernel
theorem d_S_receiveAsk_19 : decode prog_7_method_7_code 19 = .ok (.iload 4, 2) := by decide +kernel
theorem d_S_receiveAsk_21 : decode prog_7_method_7_code 21 = .ok (.ifCond .eq 21, 3) := by decide +kernel
theorem d_S_receiveAsk_24 : decode prog_7_method_7_code 24 = .ok (.aload_n 3, 1) := by decide +kernel
theorem d_S_receiveAsk_25 : decode prog_7_method_7_code 25 = .ok (.getfield 91, 3) := by decide +kernel
theorem d_S_receiveAsk_28 : decode prog_7_method_7_code 28 = .ok (.aload_n 1, 1) := by decide +kernel
theorem d_S_receiveAsk_29 : decode prog_7_method_7_code 29 = .ok (.getfield 94, 3) := by decide +kernel
theorem d_S_receiveAsk_32 : decode prog_7_method_7_code 32 = .ok (.aload_n 0, 1) := by decide +kernel
theorem d_S_receiveAsk_33 : decode prog_7_method_7_code 33 = .ok (.getfield 9, 3) := by decide +kernel
theorem d_S_receiveAsk_36 : decode prog_7_method_7_code 36 = .ok (.aload_n 0, 1) := by decide +kernel
theorem d_S_receiveAsk_37 : decode prog_7_method_7_code 37 = .ok (.getfield 25, 3) := by decide +kernel
theorem d_S_receiveAsk_40 : decode prog_7_method_7_code 40 = .ok (.iadd, 1) := by decide +kernel
theorem d_S_receiveAsk_41 : decode prog_7_method_7_code 41 = .ok (.iastore, 1) := by decide +kernel
theorem d_S_receiveAsk_42 : decode prog_7_method_7_code 42 = .ok (.aload_n 2, 1) := by decide +kernel
theorem d_S_receiveAsk_43 : decode prog_7_method_7_code 43 = .ok (.iconst 2, 1) := by decide +kernel
theorem d_S_receiveAsk_44 : decode prog_7_method_7_code 44 = .ok (.aload_n 1, 1) := by decide +kernel
theorem d_S_receiveAsk_45 : decode prog_7_method_7_code 45 = .ok (.getfield 94, 3) := by decide +kernel
theorem d_S_receiveAsk_48 : decode prog_7_method_7_code 48 = .ok (.aload_n 1, 1) := by decide +kernel
theorem d_S_receiveAsk_49 : decode prog_7_method_7_code 49 = .ok (.getfield 84, 3) := by decide +kernel
theorem d_S_receiveAsk_52 : decode prog_7_method_7_code 52 = .ok (.aload_n 1, 1) := by decide +kernel
theorem d_S_receiveAsk_53 : decode prog_7_method_7_code 53 = .ok (.getfield 97, 3) := by decide +kernel
theorem d_S_receiveAsk_56 : decode prog_7_method_7_code 56 = .ok (.aload_n 3, 1) := by decide +kernel
theorem d_S_receiveAsk_57 : decode prog_7_method_7_code 57 = .ok (.getfield 100, 3) := by decide +kernel
theorem d_S_receiveAsk_60 : decode prog_7_method_7_code 60 = .ok (.aload_n 3, 1) := by decide +kernel
theorem d_S_receiveAsk_61 : decode prog_7_method_7_code 61 = .ok (.getfield 103, 3) := by decide +kernel
theorem d_S_receiveAsk_64 : decode prog_7_method_7_code 64 = .ok (.iload 4, 2) := by decide +kernel
theorem d_S_receiveAsk_66 : decode prog_7_method_7_code 66 = .ok (.ifCond .eq 7, 3) := by decide +kernel
theorem d_S_receiveAsk_69 : decode prog_7_method_7_code 69 = .ok (.iconst 1, 1) := by decide +kernel
theorem d_S_receiveAsk_70 : decode prog_7_method_7_code 70 = .ok (.goto 4, 3) := by decide +kernel
theorem d_S_receiveAsk_73 : decode prog_7_method_7_code 73 = .ok (.iconst 0, 1) := by decide +kernel
theorem d_S_receiveAsk_74 : decode prog_7_method_7_code 74 = .ok (.invokevirtual 106, 3) := by decide +kernel
theorem d_S_receiveAsk_77 : decode prog_7_method_7_code 77 = .ok (.return_, 1) := by decide +kernel
theorem d_S_receivePut_0 : decode prog_7_method_8_code 0 = .ok (.aload_n 0, 1) := by decide +kernel
theorem d_S_receivePut_1 : decode prog_7_method_8_code 1 = .ok (.getfield 28, 3) := by decide +kernel
theorem d_S_receivePut_4 : decode prog_7_method_8_code 4 = .ok (.aload_n 1, 1) := by decide +kernel
theorem d_S_receivePut_5 : decode prog_7_method_8_code 5 = .ok (.getfield 94, 3) := by decide +kernel
theorem d_S_receivePut_8 : decode prog_7_method_8_code 8 = .ok (.iaload, 1) := by decide +kernel
