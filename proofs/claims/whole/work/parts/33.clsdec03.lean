theorem d_S_receivePut_9 : decode prog_7_method_8_code 9 = .ok (.istore_n 3, 1) := by decide +kernel
theorem d_S_receivePut_10 : decode prog_7_method_8_code 10 = .ok (.aload_n 1, 1) := by decide +kernel
theorem d_S_receivePut_11 : decode prog_7_method_8_code 11 = .ok (.getfield 97, 3) := by decide +kernel
theorem d_S_receivePut_14 : decode prog_7_method_8_code 14 = .ok (.iload_n 3, 1) := by decide +kernel
theorem d_S_receivePut_15 : decode prog_7_method_8_code 15 = .ok (.if_icmp .ne 31, 3) := by decide +kernel
theorem d_S_receivePut_18 : decode prog_7_method_8_code 18 = .ok (.aload_n 2, 1) := by decide +kernel
theorem d_S_receivePut_19 : decode prog_7_method_8_code 19 = .ok (.iconst 3, 1) := by decide +kernel
theorem d_S_receivePut_20 : decode prog_7_method_8_code 20 = .ok (.aload_n 1, 1) := by decide +kernel
theorem d_S_receivePut_21 : decode prog_7_method_8_code 21 = .ok (.getfield 94, 3) := by decide +kernel
theorem d_S_receivePut_24 : decode prog_7_method_8_code 24 = .ok (.aload_n 1, 1) := by decide +kernel
theorem d_S_receivePut_25 : decode prog_7_method_8_code 25 = .ok (.getfield 84, 3) := by decide +kernel
theorem d_S_receivePut_28 : decode prog_7_method_8_code 28 = .ok (.aload_n 1, 1) := by decide +kernel
theorem d_S_receivePut_29 : decode prog_7_method_8_code 29 = .ok (.getfield 97, 3) := by decide +kernel
theorem d_S_receivePut_32 : decode prog_7_method_8_code 32 = .ok (.aload_n 0, 1) := by decide +kernel
theorem d_S_receivePut_33 : decode prog_7_method_8_code 33 = .ok (.getfield 32, 3) := by decide +kernel
theorem d_S_receivePut_36 : decode prog_7_method_8_code 36 = .ok (.aload_n 1, 1) := by decide +kernel
theorem d_S_receivePut_37 : decode prog_7_method_8_code 37 = .ok (.getfield 94, 3) := by decide +kernel
theorem d_S_receivePut_40 : decode prog_7_method_8_code 40 = .ok (.iaload, 1) := by decide +kernel
theorem d_S_receivePut_41 : decode prog_7_method_8_code 41 = .ok (.iconst 0, 1) := by decide +kernel
theorem d_S_receivePut_42 : decode prog_7_method_8_code 42 = .ok (.iconst 0, 1) := by decide +kernel
theorem d_S_receivePut_43 : decode prog_7_method_8_code 43 = .ok (.invokevirtual 106, 3) := by decide +kernel
theorem d_S_receivePut_46 : decode prog_7_method_8_code 46 = .ok (.aload_n 1, 1) := by decide +kernel
theorem d_S_receivePut_47 : decode prog_7_method_8_code 47 = .ok (.getfield 97, 3) := by decide +kernel
theorem d_S_receivePut_50 : decode prog_7_method_8_code 50 = .ok (.iload_n 3, 1) := by decide +kernel
theorem d_S_receivePut_51 : decode prog_7_method_8_code 51 = .ok (.if_icmp .gt 4, 3) := by decide +kernel
theorem d_S_receivePut_54 : decode prog_7_method_8_code 54 = .ok (.return_, 1) := by decide +kernel
theorem d_S_receivePut_55 : decode prog_7_method_8_code 55 = .ok (.aload_n 0, 1) := by decide +kernel
theorem d_S_receivePut_56 : decode prog_7_method_8_code 56 = .ok (.getfield 37, 3) := by decide +kernel
theorem d_S_receivePut_59 : decode prog_7_method_8_code 59 = .ok (.aload_n 1, 1) := by decide +kernel
theorem d_S_receivePut_60 : decode prog_7_method_8_code 60 = .ok (.getfield 84, 3) := by decide +kernel
theorem d_S_receivePut_63 : decode prog_7_method_8_code 63 = .ok (.aaload, 1) := by decide +kernel
theorem d_S_receivePut_64 : decode prog_7_method_8_code 64 = .ok (.astore 4, 2) := by decide +kernel
theorem d_S_receivePut_66 : decode prog_7_method_8_code 66 = .ok (.aload 4, 2) := by decide +kernel
theorem d_S_receivePut_68 : decode prog_7_method_8_code 68 = .ok (.aload_n 1, 1) := by decide +kernel
theorem d_S_receivePut_69 : decode prog_7_method_8_code 69 = .ok (.getfield 94, 3) := by decide +kernel
theorem d_S_receivePut_72 : decode prog_7_method_8_code 72 = .ok (.aload_n 1, 1) := by decide +kernel
theorem d_S_receivePut_73 : decode prog_7_method_8_code 73 = .ok (.getfield 97, 3) := by decide +kernel
theorem d_S_receivePut_76 : decode prog_7_method_8_code 76 = .ok (.invokevirtual 112, 3) := by decide +kernel
theorem d_S_receivePut_79 : decode prog_7_method_8_code 79 = .ok (.ifCond .ne 20, 3) := by decide +kernel
theorem d_S_receivePut_82 : decode prog_7_method_8_code 82 = .ok (.aload 4, 2) := by decide +kernel
theorem d_S_receivePut_84 : decode prog_7_method_8_code 84 = .ok (.aload_n 1, 1) := by decide +kernel
theorem d_S_receivePut_85 : decode prog_7_method_8_code 85 = .ok (.getfield 94, 3) := by decide +kernel
theorem d_S_receivePut_88 : decode prog_7_method_8_code 88 = .ok (.aload_n 1, 1) := by decide +kernel
theorem d_S_receivePut_89 : decode prog_7_method_8_code 89 = .ok (.getfield 97, 3) := by decide +kernel
theorem d_S_receivePut_92 : decode prog_7_method_8_code 92 = .ok (.aload_n 1, 1) := by decide +kernel
theorem d_S_receivePut_93 : decode prog_7_method_8_code 93 = .ok (.getfield 116, 3) := by decide +kernel
theorem d_S_receivePut_96 : decode prog_7_method_8_code 96 = .ok (.invokevirtual 119, 3) := by decide +kernel
theorem d_S_receivePut_99 : decode prog_7_method_8_code 99 = .ok (.aload 4, 2) := by decide +kernel
theorem d_S_receivePut_101 : decode prog_7_method_8_code 101 = .ok (.aload_n 1, 1) := by decide +kernel
theorem d_S_receivePut_102 : decode prog_7_method_8_code 102 = .ok (.getfield 94, 3) := by decide +kernel
theorem d_S_receivePut_105 : decode prog_7_method_8_code 105 = .ok (.aload_n 1, 1) := by decide +kernel
theorem d_S_receivePut_106 : decode prog_7_method_8_code 106 = .ok (.getfield 97, 3) := by decide +kernel
theorem d_S_receivePut_109 : decode prog_7_method_8_code 109 = .ok (.invokevirtual 123, 3) := by decide +kernel
theorem d_S_receivePut_112 : decode prog_7_method_8_code 112 = .ok (.ifCond .eq 9, 3) := by decide +kernel
theorem d_S_receivePut_115 : decode prog_7_method_8_code 115 = .ok (.aload_n 0, 1) := by decide +kernel
theorem d_S_receivePut_116 : decode prog_7_method_8_code 116 = .ok (.aload_n 1, 1) := by decide +kernel
theorem d_S_receivePut_117 : decode prog_7_method_8_code 117 = .ok (.aload_n 2, 1) := by decide +kernel
theorem d_S_receivePut_118 : decode prog_7_method_8_code 118 = .ok (.invokevirtual 126, 3) := by decide +kernel
theorem d_S_receivePut_121 : decode prog_7_method_8_code 121 = .ok (.return_, 1) := by decide +kernel
theorem d_S_recall_0 : decode prog_7_method_9_code 0 = .ok (.aload_n 0, 1) := by decide +kernel
theorem d_S_recall_1 : decode prog_7_method_9_code 1 = .ok (.getfield 37, 3) := by decide +kernel
theorem d_S_recall_4 : decode prog_7_method_9_code 4 = .ok (.aload_n 1, 1) := by decide +kernel
theorem d_S_recall_5 : decode prog_7_method_9_code 5 = .ok (.getfield 84, 3) := by decide +kernel
theorem d_S_recall_8 : decode prog_7_method_9_code 8 = .ok (.aaload, 1) := by decide +kernel
theorem d_S_recall_9 : decode prog_7_method_9_code 9 = .ok (.getfield 91, 3) := by decide +kernel
theorem d_S_recall_12 : decode prog_7_method_9_code 12 = .ok (.astore_n 3, 1) := by decide +kernel
theorem d_S_recall_13 : decode prog_7_method_9_code 13 = .ok (.iconst 0, 1) := by decide +kernel
theorem d_S_recall_14 : decode prog_7_method_9_code 14 = .ok (.istore 4, 2) := by decide +kernel
theorem d_S_recall_16 : decode prog_7_method_9_code 16 = .ok (.iload 4, 2) := by decide +kernel
theorem d_S_recall_18 : decode prog_7_method_9_code 18 = .ok (.aload_n 3, 1) := by decide +kernel
theorem d_S_recall_19 : decode prog_7_method_9_code 19 = .ok (.arraylength, 1) := by decide +kernel
theorem d_S_recall_20 : decode prog_7_method_9_code 20 = .ok (.if_icmp .ge 44, 3) := by decide +kernel
theorem d_S_recall_23 : decode prog_7_method_9_code 23 = .ok (.aload_n 3, 1) := by decide +kernel
theorem d_S_recall_24 : decode prog_7_method_9_code 24 = .ok (.iload 4, 2) := by decide +kernel
theorem d_S_recall_26 : decode prog_7_method_9_code 26 = .ok (.iaload, 1) := by decide +kernel
theorem d_S_recall_27 : decode prog_7_method_9_code 27 = .ok (.aload_n 0, 1) := by decide +kernel
theorem d_S_recall_28 : decode prog_7_method_9_code 28 = .ok (.getfield 9, 3) := by decide +kernel
theorem d_S_recall_31 : decode prog_7_method_9_code 31 = .ok (.if_icmp .le 27, 3) := by decide +kernel
theorem d_S_recall_34 : decode prog_7_method_9_code 34 = .ok (.aload_n 2, 1) := by decide +kernel
theorem d_S_recall_35 : decode prog_7_method_9_code 35 = .ok (.iconst 4, 1) := by decide +kernel
theorem d_S_recall_36 : decode prog_7_method_9_code 36 = .ok (.iload 4, 2) := by decide +kernel
theorem d_S_recall_38 : decode prog_7_method_9_code 38 = .ok (.aload_n 1, 1) := by decide +kernel
theorem d_S_recall_39 : decode prog_7_method_9_code 39 = .ok (.getfield 84, 3) := by decide +kernel
theorem d_S_recall_42 : decode prog_7_method_9_code 42 = .ok (.aload_n 1, 1) := by decide +kernel
theorem d_S_recall_43 : decode prog_7_method_9_code 43 = .ok (.getfield 97, 3) := by decide +kernel
theorem d_S_recall_46 : decode prog_7_method_9_code 46 = .ok (.aload_n 1, 1) := by decide +kernel
theorem d_S_recall_47 : decode prog_7_method_9_code 47 = .ok (.getfield 94, 3) := by decide +kernel
theorem d_S_recall_50 : decode prog_7_method_9_code 50 = .ok (.aload_n 0, 1) := by decide +kernel
theorem d_S_recall_51 : decode prog_7_method_9_code 51 = .ok (.getfield 19, 3) := by decide +kernel
theorem d_S_recall_54 : decode prog_7_method_9_code 54 = .ok (.iconst 0, 1) := by decide +kernel
theorem d_S_recall_55 : decode prog_7_method_9_code 55 = .ok (.invokevirtual 106, 3) := by decide +kernel
theorem d_S_recall_58 : decode prog_7_method_9_code 58 = .ok (.iinc 4 1, 3) := by decide +kernel
theorem d_S_recall_61 : decode prog_7_method_9_code 61 = .ok (.goto (-45), 3) := by decide +kernel
theorem d_S_recall_64 : decode prog_7_method_9_code 64 = .ok (.return_, 1) := by decide +kernel
theorem d_S_receiveFree_0 : decode prog_7_method_10_code 0 = .ok (.aload_n 0, 1) := by decide +kernel
theorem d_S_receiveFree_1 : decode prog_7_method_10_code 1 = .ok (.getfield 37, 3) := by decide +kernel
theorem d_S_receiveFree_4 : decode prog_7_method_10_code 4 = .ok (.aload_n 1, 1) := by decide +kernel
theorem d_S_receiveFree_5 : decode prog_7_method_10_code 5 = .ok (.getfield 84, 3) := by decide +kernel
theorem d_S_receiveFree_8 : decode prog_7_method_10_code 8 = .ok (.aaload, 1) := by decide +kernel
theorem d_S_receiveFree_9 : decode prog_7_method_10_code 9 = .ok (.astore_n 2, 1) := by decide +kernel
theorem d_S_receiveFree_10 : decode prog_7_method_10_code 10 = .ok (.aload_n 1, 1) := by decide +kernel
theorem d_S_receiveFree_11 : decode prog_7_method_10_code 11 = .ok (.getfield 129, 3) := by decide +kernel
theorem d_S_receiveFree_14 : decode prog_7_method_10_code 14 = .ok (.aload_n 0, 1) := by decide +kernel
theorem d_S_receiveFree_15 : decode prog_7_method_10_code 15 = .ok (.getfield 19, 3) := by decide +kernel
theorem d_S_receiveFree_18 : decode prog_7_method_10_code 18 = .ok (.if_icmp .ne 31, 3) := by decide +kernel
theorem d_S_receiveFree_21 : decode prog_7_method_10_code 21 = .ok (.aload_n 2, 1) := by decide +kernel
theorem d_S_receiveFree_22 : decode prog_7_method_10_code 22 = .ok (.aload_n 1, 1) := by decide +kernel
theorem d_S_receiveFree_23 : decode prog_7_method_10_code 23 = .ok (.getfield 116, 3) := by decide +kernel
theorem d_S_receiveFree_26 : decode prog_7_method_10_code 26 = .ok (.aload_n 1, 1) := by decide +kernel
theorem d_S_receiveFree_27 : decode prog_7_method_10_code 27 = .ok (.getfield 97, 3) := by decide +kernel
theorem d_S_receiveFree_30 : decode prog_7_method_10_code 30 = .ok (.invokevirtual 123, 3) := by decide +kernel
theorem d_S_receiveFree_33 : decode prog_7_method_10_code 33 = .ok (.ifCond .eq 16, 3) := by decide +kernel
theorem d_S_receiveFree_36 : decode prog_7_method_10_code 36 = .ok (.aload_n 2, 1) := by decide +kernel
theorem d_S_receiveFree_37 : decode prog_7_method_10_code 37 = .ok (.getfield 91, 3) := by decide +kernel
theorem d_S_receiveFree_40 : decode prog_7_method_10_code 40 = .ok (.aload_n 1, 1) := by decide +kernel
theorem d_S_receiveFree_41 : decode prog_7_method_10_code 41 = .ok (.getfield 94, 3) := by decide +kernel
theorem d_S_receiveFree_44 : decode prog_7_method_10_code 44 = .ok (.aload_n 0, 1) := by decide +kernel
theorem d_S_receiveFree_45 : decode prog_7_method_10_code 45 = .ok (.getfield 9, 3) := by decide +kernel
theorem d_S_receiveFree_48 : decode prog_7_method_10_code 48 = .ok (.iastore, 1) := by decide +kernel
theorem d_S_receiveFree_49 : decode prog_7_method_10_code 49 = .ok (.return_, 1) := by decide +kernel
theorem d_S_storeWhatMay_0 : decode prog_7_method_11_code 0 = .ok (.iconst 0, 1) := by decide +kernel
theorem d_S_storeWhatMay_1 : decode prog_7_method_11_code 1 = .ok (.istore_n 2, 1) := by decide +kernel
theorem d_S_storeWhatMay_2 : decode prog_7_method_11_code 2 = .ok (.iconst 0, 1) := by decide +kernel
theorem d_S_storeWhatMay_3 : decode prog_7_method_11_code 3 = .ok (.istore_n 3, 1) := by decide +kernel
theorem d_S_storeWhatMay_4 : decode prog_7_method_11_code 4 = .ok (.iload_n 3, 1) := by decide +kernel
theorem d_S_storeWhatMay_5 : decode prog_7_method_11_code 5 = .ok (.aload_n 0, 1) := by decide +kernel
theorem d_S_storeWhatMay_6 : decode prog_7_method_11_code 6 = .ok (.getfield 37, 3) := by decide +kernel
theorem d_S_storeWhatMay_9 : decode prog_7_method_11_code 9 = .ok (.arraylength, 1) := by decide +kernel
theorem d_S_storeWhatMay_10 : decode prog_7_method_11_code 10 = .ok (.if_icmp .ge 48, 3) := by decide +kernel
theorem d_S_storeWhatMay_13 : decode prog_7_method_11_code 13 = .ok (.iconst 0, 1) := by decide +kernel
theorem d_S_storeWhatMay_14 : decode prog_7_method_11_code 14 = .ok (.istore 4, 2) := by decide +kernel
theorem d_S_storeWhatMay_16 : decode prog_7_method_11_code 16 = .ok (.iload 4, 2) := by decide +kernel
theorem d_S_storeWhatMay_18 : decode prog_7_method_11_code 18 = .ok (.sipush 256, 3) := by decide +kernel
theorem d_S_storeWhatMay_21 : decode prog_7_method_11_code 21 = .ok (.if_icmp .ge 31, 3) := by decide +kernel
theorem d_S_storeWhatMay_24 : decode prog_7_method_11_code 24 = .ok (.aload_n 0, 1) := by decide +kernel
theorem d_S_storeWhatMay_25 : decode prog_7_method_11_code 25 = .ok (.aload_n 0, 1) := by decide +kernel
theorem d_S_storeWhatMay_26 : decode prog_7_method_11_code 26 = .ok (.getfield 37, 3) := by decide +kernel
theorem d_S_storeWhatMay_29 : decode prog_7_method_11_code 29 = .ok (.iload_n 3, 1) := by decide +kernel
theorem d_S_storeWhatMay_30 : decode prog_7_method_11_code 30 = .ok (.aaload, 1) := by decide +kernel
theorem d_S_storeWhatMay_31 : decode prog_7_method_11_code 31 = .ok (.invokevirtual 132, 3) := by decide +kernel
theorem d_S_storeWhatMay_34 : decode prog_7_method_11_code 34 = .ok (.ifCond .eq 18, 3) := by decide +kernel
theorem d_S_storeWhatMay_37 : decode prog_7_method_11_code 37 = .ok (.aload_n 0, 1) := by decide +kernel
theorem d_S_storeWhatMay_38 : decode prog_7_method_11_code 38 = .ok (.iload_n 3, 1) := by decide +kernel
theorem d_S_storeWhatMay_39 : decode prog_7_method_11_code 39 = .ok (.aload_n 1, 1) := by decide +kernel
theorem d_S_storeWhatMay_40 : decode prog_7_method_11_code 40 = .ok (.invokevirtual 136, 3) := by decide +kernel
theorem d_S_storeWhatMay_43 : decode prog_7_method_11_code 43 = .ok (.iinc 2 1, 3) := by decide +kernel
theorem d_S_storeWhatMay_46 : decode prog_7_method_11_code 46 = .ok (.iinc 4 1, 3) := by decide +kernel
theorem d_S_storeWhatMay_49 : decode prog_7_method_11_code 49 = .ok (.goto (-33), 3) := by decide +kernel
theorem d_S_storeWhatMay_52 : decode prog_7_method_11_code 52 = .ok (.iinc 3 1, 3) := by decide +kernel
theorem d_S_storeWhatMay_55 : decode prog_7_method_11_code 55 = .ok (.goto (-51), 3) := by decide +kernel
theorem d_S_storeWhatMay_58 : decode prog_7_method_11_code 58 = .ok (.iload_n 2, 1) := by decide +kernel
theorem d_S_storeWhatMay_59 : decode prog_7_method_11_code 59 = .ok (.ireturn, 1) := by decide +kernel
theorem d_S_mayStore_0 : decode prog_7_method_12_code 0 = .ok (.aload_n 1, 1) := by decide +kernel
theorem d_S_mayStore_1 : decode prog_7_method_12_code 1 = .ok (.getfield 64, 3) := by decide +kernel
theorem d_S_mayStore_4 : decode prog_7_method_12_code 4 = .ok (.invokevirtual 87, 3) := by decide +kernel
theorem d_S_mayStore_7 : decode prog_7_method_12_code 7 = .ok (.ifCond .ne 29, 3) := by decide +kernel
theorem d_S_mayStore_10 : decode prog_7_method_12_code 10 = .ok (.aload_n 0, 1) := by decide +kernel
theorem d_S_mayStore_11 : decode prog_7_method_12_code 11 = .ok (.getfield 22, 3) := by decide +kernel
theorem d_S_mayStore_14 : decode prog_7_method_12_code 14 = .ok (.aload_n 0, 1) := by decide +kernel
theorem d_S_mayStore_15 : decode prog_7_method_12_code 15 = .ok (.getfield 9, 3) := by decide +kernel
theorem d_S_mayStore_18 : decode prog_7_method_12_code 18 = .ok (.if_icmp .gt 18, 3) := by decide +kernel
theorem d_S_mayStore_21 : decode prog_7_method_12_code 21 = .ok (.aload_n 1, 1) := by decide +kernel
theorem d_S_mayStore_22 : decode prog_7_method_12_code 22 = .ok (.aload_n 0, 1) := by decide +kernel
theorem d_S_mayStore_23 : decode prog_7_method_12_code 23 = .ok (.getfield 9, 3) := by decide +kernel
theorem d_S_mayStore_26 : decode prog_7_method_12_code 26 = .ok (.invokevirtual 140, 3) := by decide +kernel
theorem d_S_mayStore_29 : decode prog_7_method_12_code 29 = .ok (.ifCond .ne 7, 3) := by decide +kernel
theorem d_S_mayStore_32 : decode prog_7_method_12_code 32 = .ok (.iconst 1, 1) := by decide +kernel
theorem d_S_mayStore_33 : decode prog_7_method_12_code 33 = .ok (.goto 4, 3) := by decide +kernel
theorem d_S_mayStore_36 : decode prog_7_method_12_code 36 = .ok (.iconst 0, 1) := by decide +kernel
theorem d_S_mayStore_37 : decode prog_7_method_12_code 37 = .ok (.ireturn, 1) := by decide +kernel
theorem d_S_storeFirst_0 : decode prog_7_method_13_code 0 = .ok (.aload_n 0, 1) := by decide +kernel
theorem d_S_storeFirst_1 : decode prog_7_method_13_code 1 = .ok (.getfield 37, 3) := by decide +kernel
theorem d_S_storeFirst_4 : decode prog_7_method_13_code 4 = .ok (.iload_n 1, 1) := by decide +kernel
theorem d_S_storeFirst_5 : decode prog_7_method_13_code 5 = .ok (.aaload, 1) := by decide +kernel
theorem d_S_storeFirst_6 : decode prog_7_method_13_code 6 = .ok (.astore_n 3, 1) := by decide +kernel
theorem d_S_storeFirst_7 : decode prog_7_method_13_code 7 = .ok (.aload_n 3, 1) := by decide +kernel
theorem d_S_storeFirst_8 : decode prog_7_method_13_code 8 = .ok (.getfield 64, 3) := by decide +kernel
theorem d_S_storeFirst_11 : decode prog_7_method_13_code 11 = .ok (.invokevirtual 87, 3) := by decide +kernel
theorem d_S_storeFirst_14 : decode prog_7_method_13_code 14 = .ok (.ifCond .eq 4, 3) := by decide +kernel
theorem d_S_storeFirst_17 : decode prog_7_method_13_code 17 = .ok (.return_, 1) := by decide +kernel
theorem d_S_storeFirst_18 : decode prog_7_method_13_code 18 = .ok (.aload_n 3, 1) := by decide +kernel
theorem d_S_storeFirst_19 : decode prog_7_method_13_code 19 = .ok (.getfield 64, 3) := by decide +kernel
theorem d_S_storeFirst_22 : decode prog_7_method_13_code 22 = .ok (.iconst 0, 1) := by decide +kernel
theorem d_S_storeFirst_23 : decode prog_7_method_13_code 23 = .ok (.invokevirtual 144, 3) := by decide +kernel
theorem d_S_storeFirst_26 : decode prog_7_method_13_code 26 = .ok (.checkcast 148, 3) := by decide +kernel
theorem d_S_storeFirst_29 : decode prog_7_method_13_code 29 = .ok (.astore 4, 2) := by decide +kernel
theorem d_S_storeFirst_31 : decode prog_7_method_13_code 31 = .ok (.aload_n 3, 1) := by decide +kernel
theorem d_S_storeFirst_32 : decode prog_7_method_13_code 32 = .ok (.aload 4, 2) := by decide +kernel
theorem d_S_storeFirst_34 : decode prog_7_method_13_code 34 = .ok (.getfield 150, 3) := by decide +kernel
theorem d_S_storeFirst_37 : decode prog_7_method_13_code 37 = .ok (.putfield 100, 3) := by decide +kernel
theorem d_S_storeFirst_40 : decode prog_7_method_13_code 40 = .ok (.aload_n 3, 1) := by decide +kernel
theorem d_S_storeFirst_41 : decode prog_7_method_13_code 41 = .ok (.dup, 1) := by decide +kernel
theorem d_S_storeFirst_42 : decode prog_7_method_13_code 42 = .ok (.getfield 103, 3) := by decide +kernel
theorem d_S_storeFirst_45 : decode prog_7_method_13_code 45 = .ok (.iconst 1, 1) := by decide +kernel
theorem d_S_storeFirst_46 : decode prog_7_method_13_code 46 = .ok (.iadd, 1) := by decide +kernel
theorem d_S_storeFirst_47 : decode prog_7_method_13_code 47 = .ok (.putfield 103, 3) := by decide +kernel
theorem d_S_storeFirst_50 : decode prog_7_method_13_code 50 = .ok (.aload 4, 2) := by decide +kernel
theorem d_S_storeFirst_52 : decode prog_7_method_13_code 52 = .ok (.getfield 151, 3) := by decide +kernel
theorem d_S_storeFirst_55 : decode prog_7_method_13_code 55 = .ok (.aload_n 0, 1) := by decide +kernel
theorem d_S_storeFirst_56 : decode prog_7_method_13_code 56 = .ok (.getfield 28, 3) := by decide +kernel
theorem d_S_storeFirst_59 : decode prog_7_method_13_code 59 = .ok (.aload 4, 2) := by decide +kernel
theorem d_S_storeFirst_61 : decode prog_7_method_13_code 61 = .ok (.getfield 152, 3) := by decide +kernel
theorem d_S_storeFirst_64 : decode prog_7_method_13_code 64 = .ok (.iaload, 1) := by decide +kernel
theorem d_S_storeFirst_65 : decode prog_7_method_13_code 65 = .ok (.if_icmp .le 32, 3) := by decide +kernel
theorem d_S_storeFirst_68 : decode prog_7_method_13_code 68 = .ok (.aload_n 0, 1) := by decide +kernel
theorem d_S_storeFirst_69 : decode prog_7_method_13_code 69 = .ok (.getfield 28, 3) := by decide +kernel
theorem d_S_storeFirst_72 : decode prog_7_method_13_code 72 = .ok (.aload 4, 2) := by decide +kernel
theorem d_S_storeFirst_74 : decode prog_7_method_13_code 74 = .ok (.getfield 152, 3) := by decide +kernel
theorem d_S_storeFirst_77 : decode prog_7_method_13_code 77 = .ok (.aload 4, 2) := by decide +kernel
theorem d_S_storeFirst_79 : decode prog_7_method_13_code 79 = .ok (.getfield 151, 3) := by decide +kernel
theorem d_S_storeFirst_82 : decode prog_7_method_13_code 82 = .ok (.iastore, 1) := by decide +kernel
theorem d_S_storeFirst_83 : decode prog_7_method_13_code 83 = .ok (.aload_n 0, 1) := by decide +kernel
theorem d_S_storeFirst_84 : decode prog_7_method_13_code 84 = .ok (.getfield 32, 3) := by decide +kernel
theorem d_S_storeFirst_87 : decode prog_7_method_13_code 87 = .ok (.aload 4, 2) := by decide +kernel
theorem d_S_storeFirst_89 : decode prog_7_method_13_code 89 = .ok (.getfield 152, 3) := by decide +kernel
theorem d_S_storeFirst_92 : decode prog_7_method_13_code 92 = .ok (.aload_n 3, 1) := by decide +kernel
theorem d_S_storeFirst_93 : decode prog_7_method_13_code 93 = .ok (.getfield 103, 3) := by decide +kernel
theorem d_S_storeFirst_96 : decode prog_7_method_13_code 96 = .ok (.iastore, 1) := by decide +kernel
theorem d_S_storeFirst_97 : decode prog_7_method_13_code 97 = .ok (.aload_n 2, 1) := by decide +kernel
theorem d_S_storeFirst_98 : decode prog_7_method_13_code 98 = .ok (.iconst 3, 1) := by decide +kernel
theorem d_S_storeFirst_99 : decode prog_7_method_13_code 99 = .ok (.aload 4, 2) := by decide +kernel
theorem d_S_storeFirst_101 : decode prog_7_method_13_code 101 = .ok (.getfield 152, 3) := by decide +kernel
theorem d_S_storeFirst_104 : decode prog_7_method_13_code 104 = .ok (.iload_n 1, 1) := by decide +kernel
theorem d_S_storeFirst_105 : decode prog_7_method_13_code 105 = .ok (.aload 4, 2) := by decide +kernel
theorem d_S_storeFirst_107 : decode prog_7_method_13_code 107 = .ok (.getfield 151, 3) := by decide +kernel
theorem d_S_storeFirst_110 : decode prog_7_method_13_code 110 = .ok (.aload_n 3, 1) := by decide +kernel
theorem d_S_storeFirst_111 : decode prog_7_method_13_code 111 = .ok (.getfield 103, 3) := by decide +kernel
theorem d_S_storeFirst_114 : decode prog_7_method_13_code 114 = .ok (.iconst 0, 1) := by decide +kernel
theorem d_S_storeFirst_115 : decode prog_7_method_13_code 115 = .ok (.iconst 0, 1) := by decide +kernel
theorem d_S_storeFirst_116 : decode prog_7_method_13_code 116 = .ok (.invokevirtual 106, 3) := by decide +kernel
theorem d_S_storeFirst_119 : decode prog_7_method_13_code 119 = .ok (.return_, 1) := by decide +kernel
theorem d_W_init_0 : decode prog_8_method_1_code 0 = .ok (.aload_n 0, 1) := by decide +kernel
theorem d_W_init_1 : decode prog_8_method_1_code 1 = .ok (.invokespecial 1, 3) := by decide +kernel
theorem d_W_init_4 : decode prog_8_method_1_code 4 = .ok (.aload_n 0, 1) := by decide +kernel
theorem d_W_init_5 : decode prog_8_method_1_code 5 = .ok (.iload_n 1, 1) := by decide +kernel
theorem d_W_init_6 : decode prog_8_method_1_code 6 = .ok (.putfield 7, 3) := by decide +kernel
theorem d_W_init_9 : decode prog_8_method_1_code 9 = .ok (.aload_n 0, 1) := by decide +kernel
theorem d_W_init_10 : decode prog_8_method_1_code 10 = .ok (.iload_n 2, 1) := by decide +kernel
theorem d_W_init_11 : decode prog_8_method_1_code 11 = .ok (.putfield 13, 3) := by decide +kernel
theorem d_W_init_14 : decode prog_8_method_1_code 14 = .ok (.aload_n 0, 1) := by decide +kernel
theorem d_W_init_15 : decode prog_8_method_1_code 15 = .ok (.iload_n 3, 1) := by decide +kernel
theorem d_W_init_16 : decode prog_8_method_1_code 16 = .ok (.putfield 16, 3) := by decide +kernel
theorem d_W_init_19 : decode prog_8_method_1_code 19 = .ok (.return_, 1) := by decide +kernel
theorem d_W_isOf_0 : decode prog_8_method_2_code 0 = .ok (.aload_n 0, 1) := by decide +kernel
theorem d_W_isOf_1 : decode prog_8_method_2_code 1 = .ok (.getfield 7, 3) := by decide +kernel
theorem d_W_isOf_4 : decode prog_8_method_2_code 4 = .ok (.iload_n 1, 1) := by decide +kernel
theorem d_W_isOf_5 : decode prog_8_method_2_code 5 = .ok (.if_icmp .ne 15, 3) := by decide +kernel
theorem d_W_isOf_8 : decode prog_8_method_2_code 8 = .ok (.aload_n 0, 1) := by decide +kernel
theorem d_W_isOf_9 : decode prog_8_method_2_code 9 = .ok (.getfield 13, 3) := by decide +kernel
theorem d_W_isOf_12 : decode prog_8_method_2_code 12 = .ok (.iload_n 2, 1) := by decide +kernel
theorem d_W_isOf_13 : decode prog_8_method_2_code 13 = .ok (.if_icmp .ne 7, 3) := by decide +kernel
theorem d_W_isOf_16 : decode prog_8_method_2_code 16 = .ok (.iconst 1, 1) := by decide +kernel
theorem d_W_isOf_17 : decode prog_8_method_2_code 17 = .ok (.goto 4, 3) := by decide +kernel
theorem d_W_isOf_20 : decode prog_8_method_2_code 20 = .ok (.iconst 0, 1) := by decide +kernel
theorem d_W_isOf_21 : decode prog_8_method_2_code 21 = .ok (.ireturn, 1) := by decide +kernel
theorem d_A_init_0 : decode prog_18_method_2_code 0 = .ok (.aload_n 0, 1) := by decide +kernel
theorem d_A_init_1 : decode prog_18_method_2_code 1 = .ok (.invokespecial 1, 3) := by decide +kernel
theorem d_A_init_4 : decode prog_18_method_2_code 4 = .ok (.aload_n 0, 1) := by decide +kernel
theorem d_A_init_5 : decode prog_18_method_2_code 5 = .ok (.getstatic 39, 3) := by decide +kernel
theorem d_A_init_8 : decode prog_18_method_2_code 8 = .ok (.putfield 9, 3) := by decide +kernel
theorem d_A_init_11 : decode prog_18_method_2_code 11 = .ok (.return_, 1) := by decide +kernel
theorem d_A_add0_0 : decode prog_18_method_25_code 0 = .ok (.aload_n 0, 1) := by decide +kernel
theorem d_A_add0_1 : decode prog_18_method_25_code 1 = .ok (.dup, 1) := by decide +kernel
theorem d_A_add0_2 : decode prog_18_method_25_code 2 = .ok (.getfield 63, 3) := by decide +kernel
theorem d_A_add0_5 : decode prog_18_method_25_code 5 = .ok (.iconst 1, 1) := by decide +kernel
theorem d_A_add0_6 : decode prog_18_method_25_code 6 = .ok (.iadd, 1) := by decide +kernel
theorem d_A_add0_7 : decode prog_18_method_25_code 7 = .ok (.putfield 63, 3) := by decide +kernel
theorem d_A_add0_10 : decode prog_18_method_25_code 10 = .ok (.aload_n 0, 1) := by decide +kernel
theorem d_A_add0_11 : decode prog_18_method_25_code 11 = .ok (.aload_n 1, 1) := by decide +kernel
theorem d_A_add0_12 : decode prog_18_method_25_code 12 = .ok (.aload_n 0, 1) := by decide +kernel
theorem d_A_add0_13 : decode prog_18_method_25_code 13 = .ok (.getfield 9, 3) := by decide +kernel
theorem d_A_add0_16 : decode prog_18_method_25_code 16 = .ok (.aload_n 0, 1) := by decide +kernel
theorem d_A_add0_17 : decode prog_18_method_25_code 17 = .ok (.getfield 48, 3) := by decide +kernel
theorem d_A_add0_20 : decode prog_18_method_25_code 20 = .ok (.invokevirtual 131, 3) := by decide +kernel
theorem d_A_add0_23 : decode prog_18_method_25_code 23 = .ok (.iconst 1, 1) := by decide +kernel
theorem d_A_add0_24 : decode prog_18_method_25_code 24 = .ok (.ireturn, 1) := by decide +kernel
theorem d_A_add1_0 : decode prog_18_method_24_code 0 = .ok (.iload_n 3, 1) := by decide +kernel
theorem d_A_add1_1 : decode prog_18_method_24_code 1 = .ok (.aload_n 2, 1) := by decide +kernel
theorem d_A_add1_2 : decode prog_18_method_24_code 2 = .ok (.arraylength, 1) := by decide +kernel
theorem d_A_add1_3 : decode prog_18_method_24_code 3 = .ok (.if_icmp .ne 8, 3) := by decide +kernel
theorem d_A_add1_6 : decode prog_18_method_24_code 6 = .ok (.aload_n 0, 1) := by decide +kernel
theorem d_A_add1_7 : decode prog_18_method_24_code 7 = .ok (.invokevirtual 129, 3) := by decide +kernel
theorem d_A_add1_10 : decode prog_18_method_24_code 10 = .ok (.astore_n 2, 1) := by decide +kernel
theorem d_A_add1_11 : decode prog_18_method_24_code 11 = .ok (.aload_n 2, 1) := by decide +kernel
theorem d_A_add1_12 : decode prog_18_method_24_code 12 = .ok (.iload_n 3, 1) := by decide +kernel
theorem d_A_add1_13 : decode prog_18_method_24_code 13 = .ok (.aload_n 1, 1) := by decide +kernel
theorem d_A_add1_14 : decode prog_18_method_24_code 14 = .ok (.aastore, 1) := by decide +kernel
theorem d_A_add1_15 : decode prog_18_method_24_code 15 = .ok (.aload_n 0, 1) := by decide +kernel
theorem d_A_add1_16 : decode prog_18_method_24_code 16 = .ok (.iload_n 3, 1) := by decide +kernel
theorem d_A_add1_17 : decode prog_18_method_24_code 17 = .ok (.iconst 1, 1) := by decide +kernel
theorem d_A_add1_18 : decode prog_18_method_24_code 18 = .ok (.iadd, 1) := by decide +kernel
theorem d_A_add1_19 : decode prog_18_method_24_code 19 = .ok (.putfield 48, 3) := by decide +kernel
theorem d_A_add1_22 : decode prog_18_method_24_code 22 = .ok (.return_, 1) := by decide +kernel
theorem d_A_clear_0 : decode prog_18_method_40_code 0 = .ok (.aload_n 0, 1) := by decide +kernel
theorem d_A_clear_1 : decode prog_18_method_40_code 1 = .ok (.dup, 1) := by decide +kernel
theorem d_A_clear_2 : decode prog_18_method_40_code 2 = .ok (.getfield 63, 3) := by decide +kernel
theorem d_A_clear_5 : decode prog_18_method_40_code 5 = .ok (.iconst 1, 1) := by decide +kernel
theorem d_A_clear_6 : decode prog_18_method_40_code 6 = .ok (.iadd, 1) := by decide +kernel
theorem d_A_clear_7 : decode prog_18_method_40_code 7 = .ok (.putfield 63, 3) := by decide +kernel
theorem d_A_clear_10 : decode prog_18_method_40_code 10 = .ok (.aload_n 0, 1) := by decide +kernel
theorem d_A_clear_11 : decode prog_18_method_40_code 11 = .ok (.getfield 9, 3) := by decide +kernel
theorem d_A_clear_14 : decode prog_18_method_40_code 14 = .ok (.astore_n 1, 1) := by decide +kernel
theorem d_A_clear_15 : decode prog_18_method_40_code 15 = .ok (.aload_n 0, 1) := by decide +kernel
theorem d_A_clear_16 : decode prog_18_method_40_code 16 = .ok (.getfield 48, 3) := by decide +kernel
theorem d_A_clear_19 : decode prog_18_method_40_code 19 = .ok (.istore_n 2, 1) := by decide +kernel
theorem d_A_clear_20 : decode prog_18_method_40_code 20 = .ok (.aload_n 0, 1) := by decide +kernel
theorem d_A_clear_21 : decode prog_18_method_40_code 21 = .ok (.iconst 0, 1) := by decide +kernel
theorem d_A_clear_22 : decode prog_18_method_40_code 22 = .ok (.dup_x1, 1) := by decide +kernel
theorem d_A_clear_23 : decode prog_18_method_40_code 23 = .ok (.putfield 48, 3) := by decide +kernel
theorem d_A_clear_26 : decode prog_18_method_40_code 26 = .ok (.istore_n 3, 1) := by decide +kernel
theorem d_A_clear_27 : decode prog_18_method_40_code 27 = .ok (.iload_n 3, 1) := by decide +kernel
theorem d_A_clear_28 : decode prog_18_method_40_code 28 = .ok (.iload_n 2, 1) := by decide +kernel
theorem d_A_clear_29 : decode prog_18_method_40_code 29 = .ok (.if_icmp .ge 13, 3) := by decide +kernel
theorem d_A_clear_32 : decode prog_18_method_40_code 32 = .ok (.aload_n 1, 1) := by decide +kernel
theorem d_A_clear_33 : decode prog_18_method_40_code 33 = .ok (.iload_n 3, 1) := by decide +kernel
theorem d_A_clear_34 : decode prog_18_method_40_code 34 = .ok (.aconst_null, 1) := by decide +kernel
theorem d_A_clear_35 : decode prog_18_method_40_code 35 = .ok (.aastore, 1) := by decide +kernel
theorem d_A_clear_36 : decode prog_18_method_40_code 36 = .ok (.iinc 3 1, 3) := by decide +kernel
theorem d_A_clear_39 : decode prog_18_method_40_code 39 = .ok (.goto (-12), 3) := by decide +kernel
theorem d_A_clear_42 : decode prog_18_method_40_code 42 = .ok (.return_, 1) := by decide +kernel
theorem d_A_elementData_0 : decode prog_18_method_18_code 0 = .ok (.aload_n 0, 1) := by decide +kernel
theorem d_A_elementData_1 : decode prog_18_method_18_code 1 = .ok (.getfield 9, 3) := by decide +kernel
theorem d_A_elementData_4 : decode prog_18_method_18_code 4 = .ok (.iload_n 1, 1) := by decide +kernel
theorem d_A_elementData_5 : decode prog_18_method_18_code 5 = .ok (.aaload, 1) := by decide +kernel
theorem d_A_elementData_6 : decode prog_18_method_18_code 6 = .ok (.areturn, 1) := by decide +kernel
theorem d_A_fastRemove_0 : decode prog_18_method_39_code 0 = .ok (.aload_n 0, 1) := by decide +kernel
theorem d_A_fastRemove_1 : decode prog_18_method_39_code 1 = .ok (.dup, 1) := by decide +kernel
theorem d_A_fastRemove_2 : decode prog_18_method_39_code 2 = .ok (.getfield 63, 3) := by decide +kernel
theorem d_A_fastRemove_5 : decode prog_18_method_39_code 5 = .ok (.iconst 1, 1) := by decide +kernel
theorem d_A_fastRemove_6 : decode prog_18_method_39_code 6 = .ok (.iadd, 1) := by decide +kernel
theorem d_A_fastRemove_7 : decode prog_18_method_39_code 7 = .ok (.putfield 63, 3) := by decide +kernel
theorem d_A_fastRemove_10 : decode prog_18_method_39_code 10 = .ok (.aload_n 0, 1) := by decide +kernel
theorem d_A_fastRemove_11 : decode prog_18_method_39_code 11 = .ok (.getfield 48, 3) := by decide +kernel
theorem d_A_fastRemove_14 : decode prog_18_method_39_code 14 = .ok (.iconst 1, 1) := by decide +kernel
theorem d_A_fastRemove_15 : decode prog_18_method_39_code 15 = .ok (.isub, 1) := by decide +kernel
theorem d_A_fastRemove_16 : decode prog_18_method_39_code 16 = .ok (.dup, 1) := by decide +kernel
theorem d_A_fastRemove_17 : decode prog_18_method_39_code 17 = .ok (.istore_n 3, 1) := by decide +kernel
theorem d_A_fastRemove_18 : decode prog_18_method_39_code 18 = .ok (.iload_n 2, 1) := by decide +kernel
theorem d_A_fastRemove_19 : decode prog_18_method_39_code 19 = .ok (.if_icmp .le 15, 3) := by decide +kernel
theorem d_A_fastRemove_22 : decode prog_18_method_39_code 22 = .ok (.aload_n 1, 1) := by decide +kernel
theorem d_A_fastRemove_23 : decode prog_18_method_39_code 23 = .ok (.iload_n 2, 1) := by decide +kernel
theorem d_A_fastRemove_24 : decode prog_18_method_39_code 24 = .ok (.iconst 1, 1) := by decide +kernel
theorem d_A_fastRemove_25 : decode prog_18_method_39_code 25 = .ok (.iadd, 1) := by decide +kernel
theorem d_A_fastRemove_26 : decode prog_18_method_39_code 26 = .ok (.aload_n 1, 1) := by decide +kernel
theorem d_A_fastRemove_27 : decode prog_18_method_39_code 27 = .ok (.iload_n 2, 1) := by decide +kernel
theorem d_A_fastRemove_28 : decode prog_18_method_39_code 28 = .ok (.iload_n 3, 1) := by decide +kernel
theorem d_A_fastRemove_29 : decode prog_18_method_39_code 29 = .ok (.iload_n 2, 1) := by decide +kernel
theorem d_A_fastRemove_30 : decode prog_18_method_39_code 30 = .ok (.isub, 1) := by decide +kernel
theorem d_A_fastRemove_31 : decode prog_18_method_39_code 31 = .ok (.invokestatic 112, 3) := by decide +kernel
theorem d_A_fastRemove_34 : decode prog_18_method_39_code 34 = .ok (.aload_n 1, 1) := by decide +kernel
theorem d_A_fastRemove_35 : decode prog_18_method_39_code 35 = .ok (.aload_n 0, 1) := by decide +kernel
theorem d_A_fastRemove_36 : decode prog_18_method_39_code 36 = .ok (.iload_n 3, 1) := by decide +kernel
theorem d_A_fastRemove_37 : decode prog_18_method_39_code 37 = .ok (.dup_x1, 1) := by decide +kernel
theorem d_A_fastRemove_38 : decode prog_18_method_39_code 38 = .ok (.putfield 48, 3) := by decide +kernel
theorem d_A_fastRemove_41 : decode prog_18_method_39_code 41 = .ok (.aconst_null, 1) := by decide +kernel
theorem d_A_fastRemove_42 : decode prog_18_method_39_code 42 = .ok (.aastore, 1) := by decide +kernel
theorem d_A_fastRemove_43 : decode prog_18_method_39_code 43 = .ok (.return_, 1) := by decide +kernel
theorem d_A_get_0 : decode prog_18_method_20_code 0 = .ok (.iload_n 1, 1) := by decide +kernel
theorem d_A_get_1 : decode prog_18_method_20_code 1 = .ok (.aload_n 0, 1) := by decide +kernel
theorem d_A_get_2 : decode prog_18_method_20_code 2 = .ok (.getfield 48, 3) := by decide +kernel
theorem d_A_get_5 : decode prog_18_method_20_code 5 = .ok (.invokestatic 118, 3) := by decide +kernel
theorem d_A_get_8 : decode prog_18_method_20_code 8 = .ok (.pop, 1) := by decide +kernel
theorem d_A_get_9 : decode prog_18_method_20_code 9 = .ok (.aload_n 0, 1) := by decide +kernel
theorem d_A_get_10 : decode prog_18_method_20_code 10 = .ok (.iload_n 1, 1) := by decide +kernel
theorem d_A_get_11 : decode prog_18_method_20_code 11 = .ok (.invokevirtual 123, 3) := by decide +kernel
theorem d_A_get_14 : decode prog_18_method_20_code 14 = .ok (.areturn, 1) := by decide +kernel
theorem d_A_grow0_0 : decode prog_18_method_7_code 0 = .ok (.aload_n 0, 1) := by decide +kernel
theorem d_A_grow0_1 : decode prog_18_method_7_code 1 = .ok (.aload_n 0, 1) := by decide +kernel
theorem d_A_grow0_2 : decode prog_18_method_7_code 2 = .ok (.getfield 48, 3) := by decide +kernel
theorem d_A_grow0_5 : decode prog_18_method_7_code 5 = .ok (.iconst 1, 1) := by decide +kernel
theorem d_A_grow0_6 : decode prog_18_method_7_code 6 = .ok (.iadd, 1) := by decide +kernel
theorem d_A_grow0_7 : decode prog_18_method_7_code 7 = .ok (.invokevirtual 69, 3) := by decide +kernel
theorem d_A_grow0_10 : decode prog_18_method_7_code 10 = .ok (.areturn, 1) := by decide +kernel
theorem d_A_grow1_0 : decode prog_18_method_6_code 0 = .ok (.aload_n 0, 1) := by decide +kernel
theorem d_A_grow1_1 : decode prog_18_method_6_code 1 = .ok (.getfield 9, 3) := by decide +kernel
theorem d_A_grow1_4 : decode prog_18_method_6_code 4 = .ok (.arraylength, 1) := by decide +kernel
theorem d_A_grow1_5 : decode prog_18_method_6_code 5 = .ok (.istore_n 2, 1) := by decide +kernel
theorem d_A_grow1_6 : decode prog_18_method_6_code 6 = .ok (.iload_n 2, 1) := by decide +kernel
theorem d_A_grow1_7 : decode prog_18_method_6_code 7 = .ok (.ifCond .gt 13, 3) := by decide +kernel
theorem d_A_grow1_10 : decode prog_18_method_6_code 10 = .ok (.aload_n 0, 1) := by decide +kernel
theorem d_A_grow1_11 : decode prog_18_method_6_code 11 = .ok (.getfield 9, 3) := by decide +kernel
theorem d_A_grow1_14 : decode prog_18_method_6_code 14 = .ok (.getstatic 39, 3) := by decide +kernel
theorem d_A_grow1_17 : decode prog_18_method_6_code 17 = .ok (.if_acmp .eq 28, 3) := by decide +kernel
theorem d_A_grow1_20 : decode prog_18_method_6_code 20 = .ok (.iload_n 2, 1) := by decide +kernel
theorem d_A_grow1_21 : decode prog_18_method_6_code 21 = .ok (.iload_n 1, 1) := by decide +kernel
theorem d_A_grow1_22 : decode prog_18_method_6_code 22 = .ok (.iload_n 2, 1) := by decide +kernel
theorem d_A_grow1_23 : decode prog_18_method_6_code 23 = .ok (.isub, 1) := by decide +kernel
theorem d_A_grow1_24 : decode prog_18_method_6_code 24 = .ok (.iload_n 2, 1) := by decide +kernel
theorem d_A_grow1_25 : decode prog_18_method_6_code 25 = .ok (.iconst 1, 1) := by decide +kernel
theorem d_A_grow1_26 : decode prog_18_method_6_code 26 = .ok (.ishr, 1) := by decide +kernel
theorem d_A_grow1_27 : decode prog_18_method_6_code 27 = .ok (.invokestatic 73, 3) := by decide +kernel
theorem d_A_grow1_30 : decode prog_18_method_6_code 30 = .ok (.istore_n 3, 1) := by decide +kernel
theorem d_A_grow1_31 : decode prog_18_method_6_code 31 = .ok (.aload_n 0, 1) := by decide +kernel
theorem d_A_grow1_32 : decode prog_18_method_6_code 32 = .ok (.aload_n 0, 1) := by decide +kernel
theorem d_A_grow1_33 : decode prog_18_method_6_code 33 = .ok (.getfield 9, 3) := by decide +kernel
theorem d_A_grow1_36 : decode prog_18_method_6_code 36 = .ok (.iload_n 3, 1) := by decide +kernel
theorem d_A_grow1_37 : decode prog_18_method_6_code 37 = .ok (.invokestatic 66, 3) := by decide +kernel
theorem d_A_grow1_40 : decode prog_18_method_6_code 40 = .ok (.dup_x1, 1) := by decide +kernel
theorem d_A_grow1_41 : decode prog_18_method_6_code 41 = .ok (.putfield 9, 3) := by decide +kernel
theorem d_A_grow1_44 : decode prog_18_method_6_code 44 = .ok (.areturn, 1) := by decide +kernel
theorem d_A_grow1_45 : decode prog_18_method_6_code 45 = .ok (.aload_n 0, 1) := by decide +kernel
theorem d_A_grow1_46 : decode prog_18_method_6_code 46 = .ok (.bipush 10, 2) := by decide +kernel
theorem d_A_grow1_48 : decode prog_18_method_6_code 48 = .ok (.iload_n 1, 1) := by decide +kernel
theorem d_A_grow1_49 : decode prog_18_method_6_code 49 = .ok (.invokestatic 79, 3) := by decide +kernel
theorem d_A_grow1_52 : decode prog_18_method_6_code 52 = .ok (.anewarray 7, 3) := by decide +kernel
theorem d_A_grow1_55 : decode prog_18_method_6_code 55 = .ok (.dup_x1, 1) := by decide +kernel
theorem d_A_grow1_56 : decode prog_18_method_6_code 56 = .ok (.putfield 9, 3) := by decide +kernel
theorem d_A_grow1_59 : decode prog_18_method_6_code 59 = .ok (.areturn, 1) := by decide +kernel
theorem d_A_isEmpty_0 : decode prog_18_method_9_code 0 = .ok (.aload_n 0, 1) := by decide +kernel
theorem d_A_isEmpty_1 : decode prog_18_method_9_code 1 = .ok (.getfield 48, 3) := by decide +kernel
theorem d_A_isEmpty_4 : decode prog_18_method_9_code 4 = .ok (.ifCond .ne 7, 3) := by decide +kernel
theorem d_A_isEmpty_7 : decode prog_18_method_9_code 7 = .ok (.iconst 1, 1) := by decide +kernel
theorem d_A_isEmpty_8 : decode prog_18_method_9_code 8 = .ok (.goto 4, 3) := by decide +kernel
theorem d_A_isEmpty_11 : decode prog_18_method_9_code 11 = .ok (.iconst 0, 1) := by decide +kernel
theorem d_A_isEmpty_12 : decode prog_18_method_9_code 12 = .ok (.ireturn, 1) := by decide +kernel
theorem d_A_remove_0 : decode prog_18_method_29_code 0 = .ok (.iload_n 1, 1) := by decide +kernel
theorem d_A_remove_1 : decode prog_18_method_29_code 1 = .ok (.aload_n 0, 1) := by decide +kernel
theorem d_A_remove_2 : decode prog_18_method_29_code 2 = .ok (.getfield 48, 3) := by decide +kernel
theorem d_A_remove_5 : decode prog_18_method_29_code 5 = .ok (.invokestatic 118, 3) := by decide +kernel
theorem d_A_remove_8 : decode prog_18_method_29_code 8 = .ok (.pop, 1) := by decide +kernel
theorem d_A_remove_9 : decode prog_18_method_29_code 9 = .ok (.aload_n 0, 1) := by decide +kernel
theorem d_A_remove_10 : decode prog_18_method_29_code 10 = .ok (.getfield 9, 3) := by decide +kernel
theorem d_A_remove_13 : decode prog_18_method_29_code 13 = .ok (.astore_n 2, 1) := by decide +kernel
theorem d_A_remove_14 : decode prog_18_method_29_code 14 = .ok (.aload_n 2, 1) := by decide +kernel
theorem d_A_remove_15 : decode prog_18_method_29_code 15 = .ok (.iload_n 1, 1) := by decide +kernel
theorem d_A_remove_16 : decode prog_18_method_29_code 16 = .ok (.aaload, 1) := by decide +kernel
theorem d_A_remove_17 : decode prog_18_method_29_code 17 = .ok (.astore_n 3, 1) := by decide +kernel
theorem d_A_remove_18 : decode prog_18_method_29_code 18 = .ok (.aload_n 0, 1) := by decide +kernel
theorem d_A_remove_19 : decode prog_18_method_29_code 19 = .ok (.aload_n 2, 1) := by decide +kernel
theorem d_A_remove_20 : decode prog_18_method_29_code 20 = .ok (.iload_n 1, 1) := by decide +kernel
theorem d_A_remove_21 : decode prog_18_method_29_code 21 = .ok (.invokevirtual 144, 3) := by decide +kernel
theorem d_A_remove_24 : decode prog_18_method_29_code 24 = .ok (.aload_n 3, 1) := by decide +kernel
theorem d_A_remove_25 : decode prog_18_method_29_code 25 = .ok (.areturn, 1) := by decide +kernel
theorem d_A_size_0 : decode prog_18_method_8_code 0 = .ok (.aload_n 0, 1) := by decide +kernel
theorem d_A_size_1 : decode prog_18_method_8_code 1 = .ok (.getfield 48, 3) := by decide +kernel
theorem d_A_size_4 : decode prog_18_method_8_code 4 = .ok (.ireturn, 1) := by decide +kernel
theorem d_B_init_0 : decode prog_17_method_1_code 0 = .ok (.aload_n 0, 1) := by decide +kernel
theorem d_B_init_1 : decode prog_17_method_1_code 1 = .ok (.invokespecial 1, 3) := by decide +kernel
theorem d_B_init_4 : decode prog_17_method_1_code 4 = .ok (.aload_n 0, 1) := by decide +kernel
theorem d_B_init_5 : decode prog_17_method_1_code 5 = .ok (.iconst 0, 1) := by decide +kernel
theorem d_B_init_6 : decode prog_17_method_1_code 6 = .ok (.putfield 7, 3) := by decide +kernel
theorem d_B_init_9 : decode prog_17_method_1_code 9 = .ok (.return_, 1) := by decide +kernel
theorem d_D_init_0 : decode prog_16_method_1_code 0 = .ok (.aload_n 0, 1) := by decide +kernel
theorem d_D_init_1 : decode prog_16_method_1_code 1 = .ok (.invokespecial 1, 3) := by decide +kernel
theorem d_D_init_4 : decode prog_16_method_1_code 4 = .ok (.return_, 1) := by decide +kernel
theorem d_O_checkIndex_0 : decode prog_22_method_17_code 0 = .ok (.iload_n 0, 1) := by decide +kernel
theorem d_O_checkIndex_1 : decode prog_22_method_17_code 1 = .ok (.iload_n 1, 1) := by decide +kernel
theorem d_O_checkIndex_2 : decode prog_22_method_17_code 2 = .ok (.aconst_null, 1) := by decide +kernel
theorem d_O_checkIndex_3 : decode prog_22_method_17_code 3 = .ok (.invokestatic 105, 3) := by decide +kernel
theorem d_O_checkIndex_6 : decode prog_22_method_17_code 6 = .ok (.ireturn, 1) := by decide +kernel
