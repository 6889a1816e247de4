theorem d_C_init_46 : decode prog_2_method_1_code 46 = .ok (.putfield 37, 3) := by decide +kernel
theorem d_C_init_49 : decode prog_2_method_1_code 49 = .ok (.aload_n 0, 1) := by decide +kernel
theorem d_C_init_50 : decode prog_2_method_1_code 50 = .ok (.iconst 0, 1) := by decide +kernel
theorem d_C_init_51 : decode prog_2_method_1_code 51 = .ok (.putfield 40, 3) := by decide +kernel
theorem d_C_init_54 : decode prog_2_method_1_code 54 = .ok (.aload_n 0, 1) := by decide +kernel
theorem d_C_init_55 : decode prog_2_method_1_code 55 = .ok (.iload_n 1, 1) := by decide +kernel
theorem d_C_init_56 : decode prog_2_method_1_code 56 = .ok (.putfield 43, 3) := by decide +kernel
theorem d_C_init_59 : decode prog_2_method_1_code 59 = .ok (.aload_n 0, 1) := by decide +kernel
theorem d_C_init_60 : decode prog_2_method_1_code 60 = .ok (.iload_n 3, 1) := by decide +kernel
theorem d_C_init_61 : decode prog_2_method_1_code 61 = .ok (.putfield 46, 3) := by decide +kernel
theorem d_C_init_64 : decode prog_2_method_1_code 64 = .ok (.aload_n 0, 1) := by decide +kernel
theorem d_C_init_65 : decode prog_2_method_1_code 65 = .ok (.iload_n 2, 1) := by decide +kernel
theorem d_C_init_66 : decode prog_2_method_1_code 66 = .ok (.anewarray 49, 3) := by decide +kernel
theorem d_C_init_69 : decode prog_2_method_1_code 69 = .ok (.putfield 51, 3) := by decide +kernel
theorem d_C_init_72 : decode prog_2_method_1_code 72 = .ok (.iconst 0, 1) := by decide +kernel
theorem d_C_init_73 : decode prog_2_method_1_code 73 = .ok (.istore 4, 2) := by decide +kernel
theorem d_C_init_75 : decode prog_2_method_1_code 75 = .ok (.iload 4, 2) := by decide +kernel
theorem d_C_init_77 : decode prog_2_method_1_code 77 = .ok (.iload_n 2, 1) := by decide +kernel
theorem d_C_init_78 : decode prog_2_method_1_code 78 = .ok (.if_icmp .ge 23, 3) := by decide +kernel
theorem d_C_init_81 : decode prog_2_method_1_code 81 = .ok (.aload_n 0, 1) := by decide +kernel
theorem d_C_init_82 : decode prog_2_method_1_code 82 = .ok (.getfield 51, 3) := by decide +kernel
theorem d_C_init_85 : decode prog_2_method_1_code 85 = .ok (.iload 4, 2) := by decide +kernel
theorem d_C_init_87 : decode prog_2_method_1_code 87 = .ok (.new 49, 3) := by decide +kernel
theorem d_C_init_90 : decode prog_2_method_1_code 90 = .ok (.dup, 1) := by decide +kernel
theorem d_C_init_91 : decode prog_2_method_1_code 91 = .ok (.invokespecial 55, 3) := by decide +kernel
theorem d_C_init_94 : decode prog_2_method_1_code 94 = .ok (.aastore, 1) := by decide +kernel
theorem d_C_init_95 : decode prog_2_method_1_code 95 = .ok (.iinc 4 1, 3) := by decide +kernel
theorem d_C_init_98 : decode prog_2_method_1_code 98 = .ok (.goto (-23), 3) := by decide +kernel
theorem d_C_init_101 : decode prog_2_method_1_code 101 = .ok (.return_, 1) := by decide +kernel
theorem d_C_startRead_0 : decode prog_2_method_2_code 0 = .ok (.aload_n 0, 1) := by decide +kernel
theorem d_C_startRead_1 : decode prog_2_method_2_code 1 = .ok (.getfield 15, 3) := by decide +kernel
theorem d_C_startRead_4 : decode prog_2_method_2_code 4 = .ok (.iconst 2, 1) := by decide +kernel
theorem d_C_startRead_5 : decode prog_2_method_2_code 5 = .ok (.if_icmp .ne 5, 3) := by decide +kernel
theorem d_C_startRead_8 : decode prog_2_method_2_code 8 = .ok (.iconst 0, 1) := by decide +kernel
theorem d_C_startRead_9 : decode prog_2_method_2_code 9 = .ok (.ireturn, 1) := by decide +kernel
theorem d_C_startRead_10 : decode prog_2_method_2_code 10 = .ok (.aload_n 0, 1) := by decide +kernel
theorem d_C_startRead_11 : decode prog_2_method_2_code 11 = .ok (.iload_n 1, 1) := by decide +kernel
theorem d_C_startRead_12 : decode prog_2_method_2_code 12 = .ok (.iconst 1, 1) := by decide +kernel
theorem d_C_startRead_13 : decode prog_2_method_2_code 13 = .ok (.invokevirtual 56, 3) := by decide +kernel
theorem d_C_startRead_16 : decode prog_2_method_2_code 16 = .ok (.aload_n 0, 1) := by decide +kernel
theorem d_C_startRead_17 : decode prog_2_method_2_code 17 = .ok (.getfield 51, 3) := by decide +kernel
theorem d_C_startRead_20 : decode prog_2_method_2_code 20 = .ok (.iload_n 1, 1) := by decide +kernel
theorem d_C_startRead_21 : decode prog_2_method_2_code 21 = .ok (.aaload, 1) := by decide +kernel
theorem d_C_startRead_22 : decode prog_2_method_2_code 22 = .ok (.astore_n 3, 1) := by decide +kernel
theorem d_C_startRead_23 : decode prog_2_method_2_code 23 = .ok (.aload_n 3, 1) := by decide +kernel
theorem d_C_startRead_24 : decode prog_2_method_2_code 24 = .ok (.aload_n 0, 1) := by decide +kernel
theorem d_C_startRead_25 : decode prog_2_method_2_code 25 = .ok (.getfield 9, 3) := by decide +kernel
theorem d_C_startRead_28 : decode prog_2_method_2_code 28 = .ok (.invokevirtual 60, 3) := by decide +kernel
theorem d_C_startRead_31 : decode prog_2_method_2_code 31 = .ok (.ifCond .eq 18, 3) := by decide +kernel
theorem d_C_startRead_34 : decode prog_2_method_2_code 34 = .ok (.aload_n 0, 1) := by decide +kernel
theorem d_C_startRead_35 : decode prog_2_method_2_code 35 = .ok (.aload_n 3, 1) := by decide +kernel
theorem d_C_startRead_36 : decode prog_2_method_2_code 36 = .ok (.getfield 64, 3) := by decide +kernel
theorem d_C_startRead_39 : decode prog_2_method_2_code 39 = .ok (.aload_n 3, 1) := by decide +kernel
theorem d_C_startRead_40 : decode prog_2_method_2_code 40 = .ok (.getfield 65, 3) := by decide +kernel
theorem d_C_startRead_43 : decode prog_2_method_2_code 43 = .ok (.invokevirtual 68, 3) := by decide +kernel
theorem d_C_startRead_46 : decode prog_2_method_2_code 46 = .ok (.goto 8, 3) := by decide +kernel
theorem d_C_startRead_49 : decode prog_2_method_2_code 49 = .ok (.aload_n 0, 1) := by decide +kernel
theorem d_C_startRead_50 : decode prog_2_method_2_code 50 = .ok (.aload_n 2, 1) := by decide +kernel
theorem d_C_startRead_51 : decode prog_2_method_2_code 51 = .ok (.invokevirtual 72, 3) := by decide +kernel
theorem d_C_startRead_54 : decode prog_2_method_2_code 54 = .ok (.aload_n 0, 1) := by decide +kernel
theorem d_C_startRead_55 : decode prog_2_method_2_code 55 = .ok (.getfield 15, 3) := by decide +kernel
theorem d_C_startRead_58 : decode prog_2_method_2_code 58 = .ok (.ireturn, 1) := by decide +kernel
theorem d_C_startWrite_0 : decode prog_2_method_3_code 0 = .ok (.aload_n 0, 1) := by decide +kernel
theorem d_C_startWrite_1 : decode prog_2_method_3_code 1 = .ok (.getfield 15, 3) := by decide +kernel
theorem d_C_startWrite_4 : decode prog_2_method_3_code 4 = .ok (.iconst 2, 1) := by decide +kernel
theorem d_C_startWrite_5 : decode prog_2_method_3_code 5 = .ok (.if_icmp .ne 5, 3) := by decide +kernel
theorem d_C_startWrite_8 : decode prog_2_method_3_code 8 = .ok (.iconst 0, 1) := by decide +kernel
theorem d_C_startWrite_9 : decode prog_2_method_3_code 9 = .ok (.ireturn, 1) := by decide +kernel
theorem d_C_startWrite_10 : decode prog_2_method_3_code 10 = .ok (.aload_n 0, 1) := by decide +kernel
theorem d_C_startWrite_11 : decode prog_2_method_3_code 11 = .ok (.iload_n 1, 1) := by decide +kernel
theorem d_C_startWrite_12 : decode prog_2_method_3_code 12 = .ok (.iconst 0, 1) := by decide +kernel
theorem d_C_startWrite_13 : decode prog_2_method_3_code 13 = .ok (.invokevirtual 56, 3) := by decide +kernel
theorem d_C_startWrite_16 : decode prog_2_method_3_code 16 = .ok (.aload_n 0, 1) := by decide +kernel
theorem d_C_startWrite_17 : decode prog_2_method_3_code 17 = .ok (.iload_n 2, 1) := by decide +kernel
theorem d_C_startWrite_18 : decode prog_2_method_3_code 18 = .ok (.putfield 28, 3) := by decide +kernel
theorem d_C_startWrite_21 : decode prog_2_method_3_code 21 = .ok (.aload_n 0, 1) := by decide +kernel
theorem d_C_startWrite_22 : decode prog_2_method_3_code 22 = .ok (.getfield 51, 3) := by decide +kernel
theorem d_C_startWrite_25 : decode prog_2_method_3_code 25 = .ok (.iload_n 1, 1) := by decide +kernel
theorem d_C_startWrite_26 : decode prog_2_method_3_code 26 = .ok (.aaload, 1) := by decide +kernel
theorem d_C_startWrite_27 : decode prog_2_method_3_code 27 = .ok (.iconst 0, 1) := by decide +kernel
theorem d_C_startWrite_28 : decode prog_2_method_3_code 28 = .ok (.putfield 76, 3) := by decide +kernel
theorem d_C_startWrite_31 : decode prog_2_method_3_code 31 = .ok (.aload_n 0, 1) := by decide +kernel
theorem d_C_startWrite_32 : decode prog_2_method_3_code 32 = .ok (.aload_n 3, 1) := by decide +kernel
theorem d_C_startWrite_33 : decode prog_2_method_3_code 33 = .ok (.invokevirtual 72, 3) := by decide +kernel
theorem d_C_startWrite_36 : decode prog_2_method_3_code 36 = .ok (.aload_n 0, 1) := by decide +kernel
theorem d_C_startWrite_37 : decode prog_2_method_3_code 37 = .ok (.getfield 15, 3) := by decide +kernel
theorem d_C_startWrite_40 : decode prog_2_method_3_code 40 = .ok (.ireturn, 1) := by decide +kernel
theorem d_C_sendAgain_0 : decode prog_2_method_4_code 0 = .ok (.aload_n 0, 1) := by decide +kernel
theorem d_C_sendAgain_1 : decode prog_2_method_4_code 1 = .ok (.getfield 15, 3) := by decide +kernel
theorem d_C_sendAgain_4 : decode prog_2_method_4_code 4 = .ok (.iconst 2, 1) := by decide +kernel
theorem d_C_sendAgain_5 : decode prog_2_method_4_code 5 = .ok (.if_icmp .eq 5, 3) := by decide +kernel
theorem d_C_sendAgain_8 : decode prog_2_method_4_code 8 = .ok (.iconst 0, 1) := by decide +kernel
theorem d_C_sendAgain_9 : decode prog_2_method_4_code 9 = .ok (.ireturn, 1) := by decide +kernel
theorem d_C_sendAgain_10 : decode prog_2_method_4_code 10 = .ok (.aload_n 0, 1) := by decide +kernel
theorem d_C_sendAgain_11 : decode prog_2_method_4_code 11 = .ok (.aload_n 1, 1) := by decide +kernel
theorem d_C_sendAgain_12 : decode prog_2_method_4_code 12 = .ok (.invokevirtual 72, 3) := by decide +kernel
theorem d_C_sendAgain_15 : decode prog_2_method_4_code 15 = .ok (.aload_n 0, 1) := by decide +kernel
theorem d_C_sendAgain_16 : decode prog_2_method_4_code 16 = .ok (.getfield 18, 3) := by decide +kernel
theorem d_C_sendAgain_19 : decode prog_2_method_4_code 19 = .ok (.ireturn, 1) := by decide +kernel
theorem d_C_forget_0 : decode prog_2_method_5_code 0 = .ok (.iconst 0, 1) := by decide +kernel
theorem d_C_forget_1 : decode prog_2_method_5_code 1 = .ok (.istore_n 1, 1) := by decide +kernel
theorem d_C_forget_2 : decode prog_2_method_5_code 2 = .ok (.iconst 0, 1) := by decide +kernel
theorem d_C_forget_3 : decode prog_2_method_5_code 3 = .ok (.istore_n 2, 1) := by decide +kernel
theorem d_C_forget_4 : decode prog_2_method_5_code 4 = .ok (.iload_n 2, 1) := by decide +kernel
theorem d_C_forget_5 : decode prog_2_method_5_code 5 = .ok (.aload_n 0, 1) := by decide +kernel
theorem d_C_forget_6 : decode prog_2_method_5_code 6 = .ok (.getfield 51, 3) := by decide +kernel
theorem d_C_forget_9 : decode prog_2_method_5_code 9 = .ok (.arraylength, 1) := by decide +kernel
theorem d_C_forget_10 : decode prog_2_method_5_code 10 = .ok (.if_icmp .ge 34, 3) := by decide +kernel
theorem d_C_forget_13 : decode prog_2_method_5_code 13 = .ok (.aload_n 0, 1) := by decide +kernel
theorem d_C_forget_14 : decode prog_2_method_5_code 14 = .ok (.getfield 51, 3) := by decide +kernel
theorem d_C_forget_17 : decode prog_2_method_5_code 17 = .ok (.iload_n 2, 1) := by decide +kernel
theorem d_C_forget_18 : decode prog_2_method_5_code 18 = .ok (.aaload, 1) := by decide +kernel
theorem d_C_forget_19 : decode prog_2_method_5_code 19 = .ok (.getfield 76, 3) := by decide +kernel
theorem d_C_forget_22 : decode prog_2_method_5_code 22 = .ok (.ifCond .eq 6, 3) := by decide +kernel
theorem d_C_forget_25 : decode prog_2_method_5_code 25 = .ok (.iinc 1 1, 3) := by decide +kernel
theorem d_C_forget_28 : decode prog_2_method_5_code 28 = .ok (.aload_n 0, 1) := by decide +kernel
theorem d_C_forget_29 : decode prog_2_method_5_code 29 = .ok (.getfield 51, 3) := by decide +kernel
theorem d_C_forget_32 : decode prog_2_method_5_code 32 = .ok (.iload_n 2, 1) := by decide +kernel
theorem d_C_forget_33 : decode prog_2_method_5_code 33 = .ok (.aaload, 1) := by decide +kernel
theorem d_C_forget_34 : decode prog_2_method_5_code 34 = .ok (.iconst 0, 1) := by decide +kernel
theorem d_C_forget_35 : decode prog_2_method_5_code 35 = .ok (.putfield 76, 3) := by decide +kernel
theorem d_C_forget_38 : decode prog_2_method_5_code 38 = .ok (.iinc 2 1, 3) := by decide +kernel
theorem d_C_forget_41 : decode prog_2_method_5_code 41 = .ok (.goto (-37), 3) := by decide +kernel
theorem d_C_forget_44 : decode prog_2_method_5_code 44 = .ok (.aload_n 0, 1) := by decide +kernel
theorem d_C_forget_45 : decode prog_2_method_5_code 45 = .ok (.iconst 0, 1) := by decide +kernel
theorem d_C_forget_46 : decode prog_2_method_5_code 46 = .ok (.putfield 15, 3) := by decide +kernel
theorem d_C_forget_49 : decode prog_2_method_5_code 49 = .ok (.iload_n 1, 1) := by decide +kernel
theorem d_C_forget_50 : decode prog_2_method_5_code 50 = .ok (.ireturn, 1) := by decide +kernel
theorem d_C_receive_0 : decode prog_2_method_6_code 0 = .ok (.aload_n 1, 1) := by decide +kernel
theorem d_C_receive_1 : decode prog_2_method_6_code 1 = .ok (.getfield 79, 3) := by decide +kernel
theorem d_C_receive_4 : decode prog_2_method_6_code 4 = .ok (.tableswitch 53 2 4 #[28, 36, 44], 28) := by decide +kernel
theorem d_C_receive_32 : decode prog_2_method_6_code 32 = .ok (.aload_n 0, 1) := by decide +kernel
theorem d_C_receive_33 : decode prog_2_method_6_code 33 = .ok (.aload_n 1, 1) := by decide +kernel
theorem d_C_receive_34 : decode prog_2_method_6_code 34 = .ok (.invokevirtual 84, 3) := by decide +kernel
theorem d_C_receive_37 : decode prog_2_method_6_code 37 = .ok (.goto 20, 3) := by decide +kernel
theorem d_C_receive_40 : decode prog_2_method_6_code 40 = .ok (.aload_n 0, 1) := by decide +kernel
theorem d_C_receive_41 : decode prog_2_method_6_code 41 = .ok (.aload_n 1, 1) := by decide +kernel
theorem d_C_receive_42 : decode prog_2_method_6_code 42 = .ok (.invokevirtual 88, 3) := by decide +kernel
theorem d_C_receive_45 : decode prog_2_method_6_code 45 = .ok (.goto 12, 3) := by decide +kernel
theorem d_C_receive_48 : decode prog_2_method_6_code 48 = .ok (.aload_n 0, 1) := by decide +kernel
theorem d_C_receive_49 : decode prog_2_method_6_code 49 = .ok (.aload_n 1, 1) := by decide +kernel
theorem d_C_receive_50 : decode prog_2_method_6_code 50 = .ok (.aload_n 2, 1) := by decide +kernel
theorem d_C_receive_51 : decode prog_2_method_6_code 51 = .ok (.invokevirtual 91, 3) := by decide +kernel
theorem d_C_receive_54 : decode prog_2_method_6_code 54 = .ok (.goto 3, 3) := by decide +kernel
theorem d_C_receive_57 : decode prog_2_method_6_code 57 = .ok (.return_, 1) := by decide +kernel
theorem d_C_part_0 : decode prog_2_method_7_code 0 = .ok (.iload_n 1, 1) := by decide +kernel
theorem d_C_part_1 : decode prog_2_method_7_code 1 = .ok (.lookupswitch 52 #[(0, 27), (1, 32)], 27) := by decide +kernel
theorem d_C_part_28 : decode prog_2_method_7_code 28 = .ok (.aload_n 0, 1) := by decide +kernel
theorem d_C_part_29 : decode prog_2_method_7_code 29 = .ok (.getfield 18, 3) := by decide +kernel
theorem d_C_part_32 : decode prog_2_method_7_code 32 = .ok (.ireturn, 1) := by decide +kernel
theorem d_C_part_33 : decode prog_2_method_7_code 33 = .ok (.aload_n 0, 1) := by decide +kernel
theorem d_C_part_34 : decode prog_2_method_7_code 34 = .ok (.invokevirtual 95, 3) := by decide +kernel
theorem d_C_part_37 : decode prog_2_method_7_code 37 = .ok (.ifCond .eq 14, 3) := by decide +kernel
theorem d_C_part_40 : decode prog_2_method_7_code 40 = .ok (.aload_n 0, 1) := by decide +kernel
theorem d_C_part_41 : decode prog_2_method_7_code 41 = .ok (.getfield 34, 3) := by decide +kernel
theorem d_C_part_44 : decode prog_2_method_7_code 44 = .ok (.ifCond .eq 7, 3) := by decide +kernel
theorem d_C_part_47 : decode prog_2_method_7_code 47 = .ok (.iconst 1, 1) := by decide +kernel
theorem d_C_part_48 : decode prog_2_method_7_code 48 = .ok (.goto 4, 3) := by decide +kernel
theorem d_C_part_51 : decode prog_2_method_7_code 51 = .ok (.iconst 0, 1) := by decide +kernel
theorem d_C_part_52 : decode prog_2_method_7_code 52 = .ok (.ireturn, 1) := by decide +kernel
theorem d_C_part_53 : decode prog_2_method_7_code 53 = .ok (.aload_n 0, 1) := by decide +kernel
theorem d_C_part_54 : decode prog_2_method_7_code 54 = .ok (.getfield 9, 3) := by decide +kernel
theorem d_C_part_57 : decode prog_2_method_7_code 57 = .ok (.ireturn, 1) := by decide +kernel
theorem d_C_startOperation_0 : decode prog_2_method_8_code 0 = .ok (.aload_n 0, 1) := by decide +kernel
theorem d_C_startOperation_1 : decode prog_2_method_8_code 1 = .ok (.dup, 1) := by decide +kernel
theorem d_C_startOperation_2 : decode prog_2_method_8_code 2 = .ok (.getfield 18, 3) := by decide +kernel
theorem d_C_startOperation_5 : decode prog_2_method_8_code 5 = .ok (.iconst 1, 1) := by decide +kernel
theorem d_C_startOperation_6 : decode prog_2_method_8_code 6 = .ok (.iadd, 1) := by decide +kernel
theorem d_C_startOperation_7 : decode prog_2_method_8_code 7 = .ok (.putfield 18, 3) := by decide +kernel
theorem d_C_startOperation_10 : decode prog_2_method_8_code 10 = .ok (.aload_n 0, 1) := by decide +kernel
theorem d_C_startOperation_11 : decode prog_2_method_8_code 11 = .ok (.iconst 2, 1) := by decide +kernel
theorem d_C_startOperation_12 : decode prog_2_method_8_code 12 = .ok (.putfield 15, 3) := by decide +kernel
theorem d_C_startOperation_15 : decode prog_2_method_8_code 15 = .ok (.aload_n 0, 1) := by decide +kernel
theorem d_C_startOperation_16 : decode prog_2_method_8_code 16 = .ok (.iload_n 2, 1) := by decide +kernel
theorem d_C_startOperation_17 : decode prog_2_method_8_code 17 = .ok (.putfield 21, 3) := by decide +kernel
theorem d_C_startOperation_20 : decode prog_2_method_8_code 20 = .ok (.aload_n 0, 1) := by decide +kernel
theorem d_C_startOperation_21 : decode prog_2_method_8_code 21 = .ok (.iload_n 1, 1) := by decide +kernel
theorem d_C_startOperation_22 : decode prog_2_method_8_code 22 = .ok (.putfield 25, 3) := by decide +kernel
theorem d_C_startOperation_25 : decode prog_2_method_8_code 25 = .ok (.aload_n 0, 1) := by decide +kernel
theorem d_C_startOperation_26 : decode prog_2_method_8_code 26 = .ok (.aload_n 0, 1) := by decide +kernel
theorem d_C_startOperation_27 : decode prog_2_method_8_code 27 = .ok (.getfield 9, 3) := by decide +kernel
theorem d_C_startOperation_30 : decode prog_2_method_8_code 30 = .ok (.putfield 31, 3) := by decide +kernel
theorem d_C_startOperation_33 : decode prog_2_method_8_code 33 = .ok (.aload_n 0, 1) := by decide +kernel
theorem d_C_startOperation_34 : decode prog_2_method_8_code 34 = .ok (.iconst 0, 1) := by decide +kernel
theorem d_C_startOperation_35 : decode prog_2_method_8_code 35 = .ok (.putfield 34, 3) := by decide +kernel
theorem d_C_startOperation_38 : decode prog_2_method_8_code 38 = .ok (.return_, 1) := by decide +kernel
theorem d_C_sendRequest_0 : decode prog_2_method_9_code 0 = .ok (.aload_n 0, 1) := by decide +kernel
theorem d_C_sendRequest_1 : decode prog_2_method_9_code 1 = .ok (.getfield 21, 3) := by decide +kernel
theorem d_C_sendRequest_4 : decode prog_2_method_9_code 4 = .ok (.ifCond .eq 26, 3) := by decide +kernel
theorem d_C_sendRequest_7 : decode prog_2_method_9_code 7 = .ok (.aload_n 1, 1) := by decide +kernel
theorem d_C_sendRequest_8 : decode prog_2_method_9_code 8 = .ok (.iconst 0, 1) := by decide +kernel
theorem d_C_sendRequest_9 : decode prog_2_method_9_code 9 = .ok (.aload_n 0, 1) := by decide +kernel
theorem d_C_sendRequest_10 : decode prog_2_method_9_code 10 = .ok (.getfield 43, 3) := by decide +kernel
theorem d_C_sendRequest_13 : decode prog_2_method_9_code 13 = .ok (.aload_n 0, 1) := by decide +kernel
theorem d_C_sendRequest_14 : decode prog_2_method_9_code 14 = .ok (.getfield 25, 3) := by decide +kernel
theorem d_C_sendRequest_17 : decode prog_2_method_9_code 17 = .ok (.aload_n 0, 1) := by decide +kernel
theorem d_C_sendRequest_18 : decode prog_2_method_9_code 18 = .ok (.getfield 18, 3) := by decide +kernel
theorem d_C_sendRequest_21 : decode prog_2_method_9_code 21 = .ok (.iconst 0, 1) := by decide +kernel
theorem d_C_sendRequest_22 : decode prog_2_method_9_code 22 = .ok (.iconst 0, 1) := by decide +kernel
theorem d_C_sendRequest_23 : decode prog_2_method_9_code 23 = .ok (.iconst 0, 1) := by decide +kernel
theorem d_C_sendRequest_24 : decode prog_2_method_9_code 24 = .ok (.invokevirtual 99, 3) := by decide +kernel
theorem d_C_sendRequest_27 : decode prog_2_method_9_code 27 = .ok (.goto 26, 3) := by decide +kernel
theorem d_C_sendRequest_30 : decode prog_2_method_9_code 30 = .ok (.aload_n 1, 1) := by decide +kernel
theorem d_C_sendRequest_31 : decode prog_2_method_9_code 31 = .ok (.iconst 1, 1) := by decide +kernel
theorem d_C_sendRequest_32 : decode prog_2_method_9_code 32 = .ok (.aload_n 0, 1) := by decide +kernel
theorem d_C_sendRequest_33 : decode prog_2_method_9_code 33 = .ok (.getfield 43, 3) := by decide +kernel
theorem d_C_sendRequest_36 : decode prog_2_method_9_code 36 = .ok (.aload_n 0, 1) := by decide +kernel
theorem d_C_sendRequest_37 : decode prog_2_method_9_code 37 = .ok (.getfield 25, 3) := by decide +kernel
theorem d_C_sendRequest_40 : decode prog_2_method_9_code 40 = .ok (.aload_n 0, 1) := by decide +kernel
theorem d_C_sendRequest_41 : decode prog_2_method_9_code 41 = .ok (.getfield 18, 3) := by decide +kernel
theorem d_C_sendRequest_44 : decode prog_2_method_9_code 44 = .ok (.aload_n 0, 1) := by decide +kernel
theorem d_C_sendRequest_45 : decode prog_2_method_9_code 45 = .ok (.getfield 28, 3) := by decide +kernel
theorem d_C_sendRequest_48 : decode prog_2_method_9_code 48 = .ok (.iconst 0, 1) := by decide +kernel
theorem d_C_sendRequest_49 : decode prog_2_method_9_code 49 = .ok (.iconst 0, 1) := by decide +kernel
theorem d_C_sendRequest_50 : decode prog_2_method_9_code 50 = .ok (.invokevirtual 99, 3) := by decide +kernel
theorem d_C_sendRequest_53 : decode prog_2_method_9_code 53 = .ok (.return_, 1) := by decide +kernel
theorem d_C_receiveGiven_0 : decode prog_2_method_10_code 0 = .ok (.aload_n 0, 1) := by decide +kernel
theorem d_C_receiveGiven_1 : decode prog_2_method_10_code 1 = .ok (.invokevirtual 95, 3) := by decide +kernel
theorem d_C_receiveGiven_4 : decode prog_2_method_10_code 4 = .ok (.ifCond .eq 14, 3) := by decide +kernel
theorem d_C_receiveGiven_7 : decode prog_2_method_10_code 7 = .ok (.aload_n 1, 1) := by decide +kernel
theorem d_C_receiveGiven_8 : decode prog_2_method_10_code 8 = .ok (.getfield 105, 3) := by decide +kernel
theorem d_C_receiveGiven_11 : decode prog_2_method_10_code 11 = .ok (.aload_n 0, 1) := by decide +kernel
theorem d_C_receiveGiven_12 : decode prog_2_method_10_code 12 = .ok (.getfield 18, 3) := by decide +kernel
theorem d_C_receiveGiven_15 : decode prog_2_method_10_code 15 = .ok (.if_icmp .eq 4, 3) := by decide +kernel
theorem d_C_receiveGiven_18 : decode prog_2_method_10_code 18 = .ok (.return_, 1) := by decide +kernel
theorem d_C_receiveGiven_19 : decode prog_2_method_10_code 19 = .ok (.aload_n 0, 1) := by decide +kernel
theorem d_C_receiveGiven_20 : decode prog_2_method_10_code 20 = .ok (.aload_n 1, 1) := by decide +kernel
theorem d_C_receiveGiven_21 : decode prog_2_method_10_code 21 = .ok (.getfield 106, 3) := by decide +kernel
theorem d_C_receiveGiven_24 : decode prog_2_method_10_code 24 = .ok (.aload_n 1, 1) := by decide +kernel
theorem d_C_receiveGiven_25 : decode prog_2_method_10_code 25 = .ok (.getfield 109, 3) := by decide +kernel
theorem d_C_receiveGiven_28 : decode prog_2_method_10_code 28 = .ok (.invokevirtual 68, 3) := by decide +kernel
theorem d_C_receiveGiven_31 : decode prog_2_method_10_code 31 = .ok (.aload_n 1, 1) := by decide +kernel
theorem d_C_receiveGiven_32 : decode prog_2_method_10_code 32 = .ok (.getfield 112, 3) := by decide +kernel
theorem d_C_receiveGiven_35 : decode prog_2_method_10_code 35 = .ok (.iconst 1, 1) := by decide +kernel
theorem d_C_receiveGiven_36 : decode prog_2_method_10_code 36 = .ok (.if_icmp .ne 39, 3) := by decide +kernel
theorem d_C_receiveGiven_39 : decode prog_2_method_10_code 39 = .ok (.aload_n 0, 1) := by decide +kernel
theorem d_C_receiveGiven_40 : decode prog_2_method_10_code 40 = .ok (.getfield 34, 3) := by decide +kernel
theorem d_C_receiveGiven_43 : decode prog_2_method_10_code 43 = .ok (.ifCond .ne 32, 3) := by decide +kernel
theorem d_C_receiveGiven_46 : decode prog_2_method_10_code 46 = .ok (.aload_n 0, 1) := by decide +kernel
theorem d_C_receiveGiven_47 : decode prog_2_method_10_code 47 = .ok (.getfield 51, 3) := by decide +kernel
theorem d_C_receiveGiven_50 : decode prog_2_method_10_code 50 = .ok (.aload_n 1, 1) := by decide +kernel
theorem d_C_receiveGiven_51 : decode prog_2_method_10_code 51 = .ok (.getfield 115, 3) := by decide +kernel
theorem d_C_receiveGiven_54 : decode prog_2_method_10_code 54 = .ok (.aaload, 1) := by decide +kernel
theorem d_C_receiveGiven_55 : decode prog_2_method_10_code 55 = .ok (.aload_n 1, 1) := by decide +kernel
theorem d_C_receiveGiven_56 : decode prog_2_method_10_code 56 = .ok (.getfield 106, 3) := by decide +kernel
theorem d_C_receiveGiven_59 : decode prog_2_method_10_code 59 = .ok (.aload_n 1, 1) := by decide +kernel
theorem d_C_receiveGiven_60 : decode prog_2_method_10_code 60 = .ok (.getfield 109, 3) := by decide +kernel
theorem d_C_receiveGiven_63 : decode prog_2_method_10_code 63 = .ok (.aload_n 0, 1) := by decide +kernel
theorem d_C_receiveGiven_64 : decode prog_2_method_10_code 64 = .ok (.getfield 31, 3) := by decide +kernel
theorem d_C_receiveGiven_67 : decode prog_2_method_10_code 67 = .ok (.aload_n 0, 1) := by decide +kernel
theorem d_C_receiveGiven_68 : decode prog_2_method_10_code 68 = .ok (.getfield 46, 3) := by decide +kernel
theorem d_C_receiveGiven_71 : decode prog_2_method_10_code 71 = .ok (.iadd, 1) := by decide +kernel
theorem d_C_receiveGiven_72 : decode prog_2_method_10_code 72 = .ok (.invokevirtual 116, 3) := by decide +kernel
theorem d_C_receiveGiven_75 : decode prog_2_method_10_code 75 = .ok (.return_, 1) := by decide +kernel
theorem d_C_receiveStored_0 : decode prog_2_method_11_code 0 = .ok (.aload_n 0, 1) := by decide +kernel
theorem d_C_receiveStored_1 : decode prog_2_method_11_code 1 = .ok (.invokevirtual 120, 3) := by decide +kernel
theorem d_C_receiveStored_4 : decode prog_2_method_11_code 4 = .ok (.ifCond .eq 26, 3) := by decide +kernel
theorem d_C_receiveStored_7 : decode prog_2_method_11_code 7 = .ok (.aload_n 1, 1) := by decide +kernel
theorem d_C_receiveStored_8 : decode prog_2_method_11_code 8 = .ok (.getfield 105, 3) := by decide +kernel
theorem d_C_receiveStored_11 : decode prog_2_method_11_code 11 = .ok (.aload_n 0, 1) := by decide +kernel
theorem d_C_receiveStored_12 : decode prog_2_method_11_code 12 = .ok (.getfield 18, 3) := by decide +kernel
theorem d_C_receiveStored_15 : decode prog_2_method_11_code 15 = .ok (.if_icmp .ne 15, 3) := by decide +kernel
theorem d_C_receiveStored_18 : decode prog_2_method_11_code 18 = .ok (.aload_n 0, 1) := by decide +kernel
theorem d_C_receiveStored_19 : decode prog_2_method_11_code 19 = .ok (.aload_n 1, 1) := by decide +kernel
theorem d_C_receiveStored_20 : decode prog_2_method_11_code 20 = .ok (.getfield 106, 3) := by decide +kernel
theorem d_C_receiveStored_23 : decode prog_2_method_11_code 23 = .ok (.aload_n 1, 1) := by decide +kernel
theorem d_C_receiveStored_24 : decode prog_2_method_11_code 24 = .ok (.getfield 106, 3) := by decide +kernel
theorem d_C_receiveStored_27 : decode prog_2_method_11_code 27 = .ok (.invokevirtual 68, 3) := by decide +kernel
theorem d_C_receiveStored_30 : decode prog_2_method_11_code 30 = .ok (.return_, 1) := by decide +kernel
theorem d_C_receiveRecall_0 : decode prog_2_method_12_code 0 = .ok (.aload_n 0, 1) := by decide +kernel
theorem d_C_receiveRecall_1 : decode prog_2_method_12_code 1 = .ok (.getfield 51, 3) := by decide +kernel
theorem d_C_receiveRecall_4 : decode prog_2_method_12_code 4 = .ok (.aload_n 1, 1) := by decide +kernel
theorem d_C_receiveRecall_5 : decode prog_2_method_12_code 5 = .ok (.getfield 115, 3) := by decide +kernel
theorem d_C_receiveRecall_8 : decode prog_2_method_12_code 8 = .ok (.aaload, 1) := by decide +kernel
theorem d_C_receiveRecall_9 : decode prog_2_method_12_code 9 = .ok (.iconst 0, 1) := by decide +kernel
theorem d_C_receiveRecall_10 : decode prog_2_method_12_code 10 = .ok (.putfield 76, 3) := by decide +kernel
theorem d_C_receiveRecall_13 : decode prog_2_method_12_code 13 = .ok (.aload_n 0, 1) := by decide +kernel
theorem d_C_receiveRecall_14 : decode prog_2_method_12_code 14 = .ok (.invokevirtual 95, 3) := by decide +kernel
theorem d_C_receiveRecall_17 : decode prog_2_method_12_code 17 = .ok (.ifCond .eq 19, 3) := by decide +kernel
theorem d_C_receiveRecall_20 : decode prog_2_method_12_code 20 = .ok (.aload_n 1, 1) := by decide +kernel
theorem d_C_receiveRecall_21 : decode prog_2_method_12_code 21 = .ok (.getfield 115, 3) := by decide +kernel
theorem d_C_receiveRecall_24 : decode prog_2_method_12_code 24 = .ok (.aload_n 0, 1) := by decide +kernel
theorem d_C_receiveRecall_25 : decode prog_2_method_12_code 25 = .ok (.getfield 25, 3) := by decide +kernel
theorem d_C_receiveRecall_28 : decode prog_2_method_12_code 28 = .ok (.if_icmp .ne 8, 3) := by decide +kernel
theorem d_C_receiveRecall_31 : decode prog_2_method_12_code 31 = .ok (.aload_n 0, 1) := by decide +kernel
theorem d_C_receiveRecall_32 : decode prog_2_method_12_code 32 = .ok (.iconst 1, 1) := by decide +kernel
theorem d_C_receiveRecall_33 : decode prog_2_method_12_code 33 = .ok (.putfield 34, 3) := by decide +kernel
theorem d_C_receiveRecall_36 : decode prog_2_method_12_code 36 = .ok (.aload_n 2, 1) := by decide +kernel
theorem d_C_receiveRecall_37 : decode prog_2_method_12_code 37 = .ok (.iconst 5, 1) := by decide +kernel
theorem d_C_receiveRecall_38 : decode prog_2_method_12_code 38 = .ok (.aload_n 0, 1) := by decide +kernel
theorem d_C_receiveRecall_39 : decode prog_2_method_12_code 39 = .ok (.getfield 43, 3) := by decide +kernel
theorem d_C_receiveRecall_42 : decode prog_2_method_12_code 42 = .ok (.aload_n 1, 1) := by decide +kernel
theorem d_C_receiveRecall_43 : decode prog_2_method_12_code 43 = .ok (.getfield 115, 3) := by decide +kernel
theorem d_C_receiveRecall_46 : decode prog_2_method_12_code 46 = .ok (.aload_n 1, 1) := by decide +kernel
theorem d_C_receiveRecall_47 : decode prog_2_method_12_code 47 = .ok (.getfield 105, 3) := by decide +kernel
theorem d_C_receiveRecall_50 : decode prog_2_method_12_code 50 = .ok (.aload_n 1, 1) := by decide +kernel
theorem d_C_receiveRecall_51 : decode prog_2_method_12_code 51 = .ok (.getfield 106, 3) := by decide +kernel
theorem d_C_receiveRecall_54 : decode prog_2_method_12_code 54 = .ok (.aload_n 1, 1) := by decide +kernel
theorem d_C_receiveRecall_55 : decode prog_2_method_12_code 55 = .ok (.getfield 109, 3) := by decide +kernel
theorem d_C_receiveRecall_58 : decode prog_2_method_12_code 58 = .ok (.iconst 0, 1) := by decide +kernel
theorem d_C_receiveRecall_59 : decode prog_2_method_12_code 59 = .ok (.invokevirtual 99, 3) := by decide +kernel
theorem d_C_receiveRecall_62 : decode prog_2_method_12_code 62 = .ok (.return_, 1) := by decide +kernel
theorem d_C_waitsToRead_0 : decode prog_2_method_13_code 0 = .ok (.aload_n 0, 1) := by decide +kernel
theorem d_C_waitsToRead_1 : decode prog_2_method_13_code 1 = .ok (.getfield 15, 3) := by decide +kernel
theorem d_C_waitsToRead_4 : decode prog_2_method_13_code 4 = .ok (.iconst 2, 1) := by decide +kernel
theorem d_C_waitsToRead_5 : decode prog_2_method_13_code 5 = .ok (.if_icmp .ne 14, 3) := by decide +kernel
theorem d_C_waitsToRead_8 : decode prog_2_method_13_code 8 = .ok (.aload_n 0, 1) := by decide +kernel
theorem d_C_waitsToRead_9 : decode prog_2_method_13_code 9 = .ok (.getfield 21, 3) := by decide +kernel
theorem d_C_waitsToRead_12 : decode prog_2_method_13_code 12 = .ok (.ifCond .eq 7, 3) := by decide +kernel
theorem d_C_waitsToRead_15 : decode prog_2_method_13_code 15 = .ok (.iconst 1, 1) := by decide +kernel
theorem d_C_waitsToRead_16 : decode prog_2_method_13_code 16 = .ok (.goto 4, 3) := by decide +kernel
theorem d_C_waitsToRead_19 : decode prog_2_method_13_code 19 = .ok (.iconst 0, 1) := by decide +kernel
theorem d_C_waitsToRead_20 : decode prog_2_method_13_code 20 = .ok (.ireturn, 1) := by decide +kernel
theorem d_C_waitsToWrite_0 : decode prog_2_method_14_code 0 = .ok (.aload_n 0, 1) := by decide +kernel
theorem d_C_waitsToWrite_1 : decode prog_2_method_14_code 1 = .ok (.getfield 15, 3) := by decide +kernel
theorem d_C_waitsToWrite_4 : decode prog_2_method_14_code 4 = .ok (.iconst 2, 1) := by decide +kernel
theorem d_C_waitsToWrite_5 : decode prog_2_method_14_code 5 = .ok (.if_icmp .ne 14, 3) := by decide +kernel
theorem d_C_waitsToWrite_8 : decode prog_2_method_14_code 8 = .ok (.aload_n 0, 1) := by decide +kernel
theorem d_C_waitsToWrite_9 : decode prog_2_method_14_code 9 = .ok (.getfield 21, 3) := by decide +kernel
theorem d_C_waitsToWrite_12 : decode prog_2_method_14_code 12 = .ok (.ifCond .ne 7, 3) := by decide +kernel
theorem d_C_waitsToWrite_15 : decode prog_2_method_14_code 15 = .ok (.iconst 1, 1) := by decide +kernel
theorem d_C_waitsToWrite_16 : decode prog_2_method_14_code 16 = .ok (.goto 4, 3) := by decide +kernel
theorem d_C_waitsToWrite_19 : decode prog_2_method_14_code 19 = .ok (.iconst 0, 1) := by decide +kernel
theorem d_C_waitsToWrite_20 : decode prog_2_method_14_code 20 = .ok (.ireturn, 1) := by decide +kernel
theorem d_C_finish_0 : decode prog_2_method_15_code 0 = .ok (.aload_n 0, 1) := by decide +kernel
theorem d_C_finish_1 : decode prog_2_method_15_code 1 = .ok (.iconst 1, 1) := by decide +kernel
theorem d_C_finish_2 : decode prog_2_method_15_code 2 = .ok (.putfield 15, 3) := by decide +kernel
theorem d_C_finish_5 : decode prog_2_method_15_code 5 = .ok (.aload_n 0, 1) := by decide +kernel
theorem d_C_finish_6 : decode prog_2_method_15_code 6 = .ok (.iload_n 1, 1) := by decide +kernel
theorem d_C_finish_7 : decode prog_2_method_15_code 7 = .ok (.putfield 37, 3) := by decide +kernel
theorem d_C_finish_10 : decode prog_2_method_15_code 10 = .ok (.aload_n 0, 1) := by decide +kernel
theorem d_C_finish_11 : decode prog_2_method_15_code 11 = .ok (.iload_n 2, 1) := by decide +kernel
theorem d_C_finish_12 : decode prog_2_method_15_code 12 = .ok (.putfield 40, 3) := by decide +kernel
theorem d_C_finish_15 : decode prog_2_method_15_code 15 = .ok (.return_, 1) := by decide +kernel
theorem d_Y_init_0 : decode prog_3_method_1_code 0 = .ok (.aload_n 0, 1) := by decide +kernel
theorem d_Y_init_1 : decode prog_3_method_1_code 1 = .ok (.invokespecial 3, 3) := by decide +kernel
theorem d_Y_init_4 : decode prog_3_method_1_code 4 = .ok (.aload_n 0, 1) := by decide +kernel
theorem d_Y_init_5 : decode prog_3_method_1_code 5 = .ok (.iconst 0, 1) := by decide +kernel
theorem d_Y_init_6 : decode prog_3_method_1_code 6 = .ok (.putfield 9, 3) := by decide +kernel
theorem d_Y_init_9 : decode prog_3_method_1_code 9 = .ok (.aload_n 0, 1) := by decide +kernel
theorem d_Y_init_10 : decode prog_3_method_1_code 10 = .ok (.iconst 0, 1) := by decide +kernel
theorem d_Y_init_11 : decode prog_3_method_1_code 11 = .ok (.putfield 15, 3) := by decide +kernel
theorem d_Y_init_14 : decode prog_3_method_1_code 14 = .ok (.aload_n 0, 1) := by decide +kernel
theorem d_Y_init_15 : decode prog_3_method_1_code 15 = .ok (.iconst 0, 1) := by decide +kernel
theorem d_Y_init_16 : decode prog_3_method_1_code 16 = .ok (.putfield 19, 3) := by decide +kernel
theorem d_Y_init_19 : decode prog_3_method_1_code 19 = .ok (.aload_n 0, 1) := by decide +kernel
theorem d_Y_init_20 : decode prog_3_method_1_code 20 = .ok (.iconst 0, 1) := by decide +kernel
theorem d_Y_init_21 : decode prog_3_method_1_code 21 = .ok (.putfield 22, 3) := by decide +kernel
theorem d_Y_init_24 : decode prog_3_method_1_code 24 = .ok (.return_, 1) := by decide +kernel
theorem d_Y_isGoodAt_0 : decode prog_3_method_2_code 0 = .ok (.aload_n 0, 1) := by decide +kernel
theorem d_Y_isGoodAt_1 : decode prog_3_method_2_code 1 = .ok (.getfield 9, 3) := by decide +kernel
theorem d_Y_isGoodAt_4 : decode prog_3_method_2_code 4 = .ok (.ifCond .eq 15, 3) := by decide +kernel
theorem d_Y_isGoodAt_7 : decode prog_3_method_2_code 7 = .ok (.aload_n 0, 1) := by decide +kernel
theorem d_Y_isGoodAt_8 : decode prog_3_method_2_code 8 = .ok (.getfield 22, 3) := by decide +kernel
theorem d_Y_isGoodAt_11 : decode prog_3_method_2_code 11 = .ok (.iload_n 1, 1) := by decide +kernel
theorem d_Y_isGoodAt_12 : decode prog_3_method_2_code 12 = .ok (.if_icmp .le 7, 3) := by decide +kernel
theorem d_Y_isGoodAt_15 : decode prog_3_method_2_code 15 = .ok (.iconst 1, 1) := by decide +kernel
theorem d_Y_isGoodAt_16 : decode prog_3_method_2_code 16 = .ok (.goto 4, 3) := by decide +kernel
theorem d_Y_isGoodAt_19 : decode prog_3_method_2_code 19 = .ok (.iconst 0, 1) := by decide +kernel
theorem d_Y_isGoodAt_20 : decode prog_3_method_2_code 20 = .ok (.ireturn, 1) := by decide +kernel
theorem d_Y_hold_0 : decode prog_3_method_3_code 0 = .ok (.aload_n 0, 1) := by decide +kernel
theorem d_Y_hold_1 : decode prog_3_method_3_code 1 = .ok (.iconst 1, 1) := by decide +kernel
theorem d_Y_hold_2 : decode prog_3_method_3_code 2 = .ok (.putfield 9, 3) := by decide +kernel
theorem d_Y_hold_5 : decode prog_3_method_3_code 5 = .ok (.aload_n 0, 1) := by decide +kernel
theorem d_Y_hold_6 : decode prog_3_method_3_code 6 = .ok (.iload_n 1, 1) := by decide +kernel
theorem d_Y_hold_7 : decode prog_3_method_3_code 7 = .ok (.putfield 15, 3) := by decide +kernel
theorem d_Y_hold_10 : decode prog_3_method_3_code 10 = .ok (.aload_n 0, 1) := by decide +kernel
theorem d_Y_hold_11 : decode prog_3_method_3_code 11 = .ok (.iload_n 2, 1) := by decide +kernel
theorem d_Y_hold_12 : decode prog_3_method_3_code 12 = .ok (.putfield 19, 3) := by decide +kernel
theorem d_Y_hold_15 : decode prog_3_method_3_code 15 = .ok (.aload_n 0, 1) := by decide +kernel
theorem d_Y_hold_16 : decode prog_3_method_3_code 16 = .ok (.iload_n 3, 1) := by decide +kernel
theorem d_Y_hold_17 : decode prog_3_method_3_code 17 = .ok (.putfield 22, 3) := by decide +kernel
theorem d_Y_hold_20 : decode prog_3_method_3_code 20 = .ok (.return_, 1) := by decide +kernel
theorem d_Y_part_0 : decode prog_3_method_4_code 0 = .ok (.aload_n 0, 1) := by decide +kernel
theorem d_Y_part_1 : decode prog_3_method_4_code 1 = .ok (.getfield 9, 3) := by decide +kernel
theorem d_Y_part_4 : decode prog_3_method_4_code 4 = .ok (.ifCond .ne 5, 3) := by decide +kernel
theorem d_Y_part_7 : decode prog_3_method_4_code 7 = .ok (.iconst (-1), 1) := by decide +kernel
theorem d_Y_part_8 : decode prog_3_method_4_code 8 = .ok (.ireturn, 1) := by decide +kernel
theorem d_Y_part_9 : decode prog_3_method_4_code 9 = .ok (.iload_n 1, 1) := by decide +kernel
theorem d_Y_part_10 : decode prog_3_method_4_code 10 = .ok (.tableswitch 45 0 2 #[26, 35, 40], 26) := by decide +kernel
theorem d_Y_part_36 : decode prog_3_method_4_code 36 = .ok (.aload_n 0, 1) := by decide +kernel
theorem d_Y_part_37 : decode prog_3_method_4_code 37 = .ok (.getfield 22, 3) := by decide +kernel
theorem d_Y_part_40 : decode prog_3_method_4_code 40 = .ok (.iload_n 2, 1) := by decide +kernel
theorem d_Y_part_41 : decode prog_3_method_4_code 41 = .ok (.invokestatic 25, 3) := by decide +kernel
theorem d_Y_part_44 : decode prog_3_method_4_code 44 = .ok (.ireturn, 1) := by decide +kernel
theorem d_Y_part_45 : decode prog_3_method_4_code 45 = .ok (.aload_n 0, 1) := by decide +kernel
theorem d_Y_part_46 : decode prog_3_method_4_code 46 = .ok (.getfield 15, 3) := by decide +kernel
theorem d_Y_part_49 : decode prog_3_method_4_code 49 = .ok (.ireturn, 1) := by decide +kernel
theorem d_Y_part_50 : decode prog_3_method_4_code 50 = .ok (.aload_n 0, 1) := by decide +kernel
theorem d_Y_part_51 : decode prog_3_method_4_code 51 = .ok (.getfield 19, 3) := by decide +kernel
theorem d_Y_part_54 : decode prog_3_method_4_code 54 = .ok (.ireturn, 1) := by decide +kernel
theorem d_Y_part_55 : decode prog_3_method_4_code 55 = .ok (.iconst (-1), 1) := by decide +kernel
theorem d_Y_part_56 : decode prog_3_method_4_code 56 = .ok (.ireturn, 1) := by decide +kernel
theorem d_M_init_0 : decode prog_4_method_1_code 0 = .ok (.aload_n 0, 1) := by decide +kernel
theorem d_M_init_1 : decode prog_4_method_1_code 1 = .ok (.invokespecial 3, 3) := by decide +kernel
theorem d_M_init_4 : decode prog_4_method_1_code 4 = .ok (.return_, 1) := by decide +kernel
theorem d_M_goesToServer_0 : decode prog_4_method_2_code 0 = .ok (.aload_n 0, 1) := by decide +kernel
theorem d_M_goesToServer_1 : decode prog_4_method_2_code 1 = .ok (.getfield 9, 3) := by decide +kernel
theorem d_M_goesToServer_4 : decode prog_4_method_2_code 4 = .ok (.ifCond .eq 19, 3) := by decide +kernel
theorem d_M_goesToServer_7 : decode prog_4_method_2_code 7 = .ok (.aload_n 0, 1) := by decide +kernel
theorem d_M_goesToServer_8 : decode prog_4_method_2_code 8 = .ok (.getfield 9, 3) := by decide +kernel
theorem d_M_goesToServer_11 : decode prog_4_method_2_code 11 = .ok (.iconst 1, 1) := by decide +kernel
theorem d_M_goesToServer_12 : decode prog_4_method_2_code 12 = .ok (.if_icmp .eq 11, 3) := by decide +kernel
theorem d_M_goesToServer_15 : decode prog_4_method_2_code 15 = .ok (.aload_n 0, 1) := by decide +kernel
theorem d_M_goesToServer_16 : decode prog_4_method_2_code 16 = .ok (.getfield 9, 3) := by decide +kernel
theorem d_M_goesToServer_19 : decode prog_4_method_2_code 19 = .ok (.iconst 5, 1) := by decide +kernel
theorem d_M_goesToServer_20 : decode prog_4_method_2_code 20 = .ok (.if_icmp .ne 7, 3) := by decide +kernel
theorem d_M_goesToServer_23 : decode prog_4_method_2_code 23 = .ok (.iconst 1, 1) := by decide +kernel
theorem d_M_goesToServer_24 : decode prog_4_method_2_code 24 = .ok (.goto 4, 3) := by decide +kernel
theorem d_M_goesToServer_27 : decode prog_4_method_2_code 27 = .ok (.iconst 0, 1) := by decide +kernel
theorem d_M_goesToServer_28 : decode prog_4_method_2_code 28 = .ok (.ireturn, 1) := by decide +kernel
theorem d_M_part_0 : decode prog_4_method_3_code 0 = .ok (.iload_n 1, 1) := by decide +kernel
theorem d_M_part_1 : decode prog_4_method_3_code 1 = .ok (.tableswitch 78 0 6 #[43, 48, 53, 58, 63, 68, 73], 43) := by decide +kernel
theorem d_M_part_44 : decode prog_4_method_3_code 44 = .ok (.aload_n 0, 1) := by decide +kernel
theorem d_M_part_45 : decode prog_4_method_3_code 45 = .ok (.getfield 9, 3) := by decide +kernel
theorem d_M_part_48 : decode prog_4_method_3_code 48 = .ok (.ireturn, 1) := by decide +kernel
theorem d_M_part_49 : decode prog_4_method_3_code 49 = .ok (.aload_n 0, 1) := by decide +kernel
theorem d_M_part_50 : decode prog_4_method_3_code 50 = .ok (.getfield 15, 3) := by decide +kernel
theorem d_M_part_53 : decode prog_4_method_3_code 53 = .ok (.ireturn, 1) := by decide +kernel
theorem d_M_part_54 : decode prog_4_method_3_code 54 = .ok (.aload_n 0, 1) := by decide +kernel
theorem d_M_part_55 : decode prog_4_method_3_code 55 = .ok (.getfield 18, 3) := by decide +kernel
theorem d_M_part_58 : decode prog_4_method_3_code 58 = .ok (.ireturn, 1) := by decide +kernel
theorem d_M_part_59 : decode prog_4_method_3_code 59 = .ok (.aload_n 0, 1) := by decide +kernel
theorem d_M_part_60 : decode prog_4_method_3_code 60 = .ok (.getfield 21, 3) := by decide +kernel
theorem d_M_part_63 : decode prog_4_method_3_code 63 = .ok (.ireturn, 1) := by decide +kernel
theorem d_M_part_64 : decode prog_4_method_3_code 64 = .ok (.aload_n 0, 1) := by decide +kernel
theorem d_M_part_65 : decode prog_4_method_3_code 65 = .ok (.getfield 24, 3) := by decide +kernel
theorem d_M_part_68 : decode prog_4_method_3_code 68 = .ok (.ireturn, 1) := by decide +kernel
theorem d_M_part_69 : decode prog_4_method_3_code 69 = .ok (.aload_n 0, 1) := by decide +kernel
theorem d_M_part_70 : decode prog_4_method_3_code 70 = .ok (.getfield 27, 3) := by decide +kernel
theorem d_M_part_73 : decode prog_4_method_3_code 73 = .ok (.ireturn, 1) := by decide +kernel
theorem d_M_part_74 : decode prog_4_method_3_code 74 = .ok (.aload_n 0, 1) := by decide +kernel
theorem d_M_part_75 : decode prog_4_method_3_code 75 = .ok (.getfield 30, 3) := by decide +kernel
theorem d_M_part_78 : decode prog_4_method_3_code 78 = .ok (.ireturn, 1) := by decide +kernel
theorem d_M_part_79 : decode prog_4_method_3_code 79 = .ok (.iconst (-1), 1) := by decide +kernel
theorem d_M_part_80 : decode prog_4_method_3_code 80 = .ok (.ireturn, 1) := by decide +kernel
theorem d_P_init_0 : decode prog_5_method_1_code 0 = .ok (.aload_n 0, 1) := by decide +kernel
theorem d_P_init_1 : decode prog_5_method_1_code 1 = .ok (.invokespecial 3, 3) := by decide +kernel
theorem d_P_init_4 : decode prog_5_method_1_code 4 = .ok (.aload_n 0, 1) := by decide +kernel
theorem d_P_init_5 : decode prog_5_method_1_code 5 = .ok (.bipush 64, 2) := by decide +kernel
theorem d_P_init_7 : decode prog_5_method_1_code 7 = .ok (.anewarray 9, 3) := by decide +kernel
theorem d_P_init_10 : decode prog_5_method_1_code 10 = .ok (.putfield 11, 3) := by decide +kernel
theorem d_P_init_13 : decode prog_5_method_1_code 13 = .ok (.aload_n 0, 1) := by decide +kernel
theorem d_P_init_14 : decode prog_5_method_1_code 14 = .ok (.iconst 0, 1) := by decide +kernel
theorem d_P_init_15 : decode prog_5_method_1_code 15 = .ok (.putfield 17, 3) := by decide +kernel
theorem d_P_init_18 : decode prog_5_method_1_code 18 = .ok (.aload_n 0, 1) := by decide +kernel
theorem d_P_init_19 : decode prog_5_method_1_code 19 = .ok (.new 9, 3) := by decide +kernel
theorem d_P_init_22 : decode prog_5_method_1_code 22 = .ok (.dup, 1) := by decide +kernel
theorem d_P_init_23 : decode prog_5_method_1_code 23 = .ok (.invokespecial 21, 3) := by decide +kernel
theorem d_P_init_26 : decode prog_5_method_1_code 26 = .ok (.putfield 22, 3) := by decide +kernel
