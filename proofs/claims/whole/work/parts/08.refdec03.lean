theorem d_R_deliver_147 : decode prog_10_method_27_code 147 = .ok (.iload_n 3, 1) := by decide +kernel
theorem d_R_deliver_148 : decode prog_10_method_27_code 148 = .ok (.ireturn, 1) := by decide +kernel
theorem d_R_deliver_149 : decode prog_10_method_27_code 149 = .ok (.aload_n 0, 1) := by decide +kernel
theorem d_R_deliver_150 : decode prog_10_method_27_code 150 = .ok (.getfield 165, 3) := by decide +kernel
theorem d_R_deliver_153 : decode prog_10_method_27_code 153 = .ok (.ifCond .eq 6, 3) := by decide +kernel
theorem d_R_deliver_156 : decode prog_10_method_27_code 156 = .ok (.bipush 9, 2) := by decide +kernel
theorem d_R_deliver_158 : decode prog_10_method_27_code 158 = .ok (.ireturn, 1) := by decide +kernel
theorem d_R_deliver_159 : decode prog_10_method_27_code 159 = .ok (.iload_n 3, 1) := by decide +kernel
theorem d_R_deliver_160 : decode prog_10_method_27_code 160 = .ok (.ifCond .ne 16, 3) := by decide +kernel
theorem d_R_deliver_163 : decode prog_10_method_27_code 163 = .ok (.aload_n 0, 1) := by decide +kernel
theorem d_R_deliver_164 : decode prog_10_method_27_code 164 = .ok (.iload 4, 2) := by decide +kernel
theorem d_R_deliver_166 : decode prog_10_method_27_code 166 = .ok (.iload 5, 2) := by decide +kernel
theorem d_R_deliver_168 : decode prog_10_method_27_code 168 = .ok (.iload 6, 2) := by decide +kernel
theorem d_R_deliver_170 : decode prog_10_method_27_code 170 = .ok (.invokevirtual 169, 3) := by decide +kernel
theorem d_R_deliver_173 : decode prog_10_method_27_code 173 = .ok (.goto 37, 3) := by decide +kernel
theorem d_R_deliver_176 : decode prog_10_method_27_code 176 = .ok (.iload_n 3, 1) := by decide +kernel
theorem d_R_deliver_177 : decode prog_10_method_27_code 177 = .ok (.iconst 1, 1) := by decide +kernel
theorem d_R_deliver_178 : decode prog_10_method_27_code 178 = .ok (.if_icmp .ne 18, 3) := by decide +kernel
theorem d_R_deliver_181 : decode prog_10_method_27_code 181 = .ok (.aload_n 0, 1) := by decide +kernel
theorem d_R_deliver_182 : decode prog_10_method_27_code 182 = .ok (.iload 4, 2) := by decide +kernel
theorem d_R_deliver_184 : decode prog_10_method_27_code 184 = .ok (.iload 5, 2) := by decide +kernel
theorem d_R_deliver_186 : decode prog_10_method_27_code 186 = .ok (.iload 6, 2) := by decide +kernel
theorem d_R_deliver_188 : decode prog_10_method_27_code 188 = .ok (.iload 7, 2) := by decide +kernel
theorem d_R_deliver_190 : decode prog_10_method_27_code 190 = .ok (.invokevirtual 172, 3) := by decide +kernel
theorem d_R_deliver_193 : decode prog_10_method_27_code 193 = .ok (.goto 17, 3) := by decide +kernel
theorem d_R_deliver_196 : decode prog_10_method_27_code 196 = .ok (.aload_n 0, 1) := by decide +kernel
theorem d_R_deliver_197 : decode prog_10_method_27_code 197 = .ok (.iload 4, 2) := by decide +kernel
theorem d_R_deliver_199 : decode prog_10_method_27_code 199 = .ok (.iload 5, 2) := by decide +kernel
theorem d_R_deliver_201 : decode prog_10_method_27_code 201 = .ok (.iload 6, 2) := by decide +kernel
theorem d_R_deliver_203 : decode prog_10_method_27_code 203 = .ok (.iload 7, 2) := by decide +kernel
theorem d_R_deliver_205 : decode prog_10_method_27_code 205 = .ok (.iload 8, 2) := by decide +kernel
theorem d_R_deliver_207 : decode prog_10_method_27_code 207 = .ok (.invokevirtual 176, 3) := by decide +kernel
theorem d_R_deliver_210 : decode prog_10_method_27_code 210 = .ok (.aload_n 0, 1) := by decide +kernel
theorem d_R_deliver_211 : decode prog_10_method_27_code 211 = .ok (.invokevirtual 179, 3) := by decide +kernel
theorem d_R_deliver_214 : decode prog_10_method_27_code 214 = .ok (.istore 10, 2) := by decide +kernel
theorem d_R_deliver_216 : decode prog_10_method_27_code 216 = .ok (.iload_n 3, 1) := by decide +kernel
theorem d_R_deliver_217 : decode prog_10_method_27_code 217 = .ok (.ireturn, 1) := by decide +kernel
theorem d_R_lose_0 : decode prog_10_method_28_code 0 = .ok (.aload_n 0, 1) := by decide +kernel
theorem d_R_lose_1 : decode prog_10_method_28_code 1 = .ok (.iload_n 1, 1) := by decide +kernel
theorem d_R_lose_2 : decode prog_10_method_28_code 2 = .ok (.invokevirtual 148, 3) := by decide +kernel
theorem d_R_lose_5 : decode prog_10_method_28_code 5 = .ok (.ifCond .ne 5, 3) := by decide +kernel
theorem d_R_lose_8 : decode prog_10_method_28_code 8 = .ok (.iconst 0, 1) := by decide +kernel
theorem d_R_lose_9 : decode prog_10_method_28_code 9 = .ok (.ireturn, 1) := by decide +kernel
theorem d_R_lose_10 : decode prog_10_method_28_code 10 = .ok (.aload_n 0, 1) := by decide +kernel
theorem d_R_lose_11 : decode prog_10_method_28_code 11 = .ok (.iload_n 1, 1) := by decide +kernel
theorem d_R_lose_12 : decode prog_10_method_28_code 12 = .ok (.invokevirtual 151, 3) := by decide +kernel
theorem d_R_lose_15 : decode prog_10_method_28_code 15 = .ok (.iconst 1, 1) := by decide +kernel
theorem d_R_lose_16 : decode prog_10_method_28_code 16 = .ok (.ireturn, 1) := by decide +kernel
theorem d_R_pending_0 : decode prog_10_method_29_code 0 = .ok (.aload_n 0, 1) := by decide +kernel
theorem d_R_pending_1 : decode prog_10_method_29_code 1 = .ok (.getfield 96, 3) := by decide +kernel
theorem d_R_pending_4 : decode prog_10_method_29_code 4 = .ok (.ireturn, 1) := by decide +kernel
theorem d_R_message_0 : decode prog_10_method_30_code 0 = .ok (.aload_n 0, 1) := by decide +kernel
theorem d_R_message_1 : decode prog_10_method_30_code 1 = .ok (.iload_n 1, 1) := by decide +kernel
theorem d_R_message_2 : decode prog_10_method_30_code 2 = .ok (.invokevirtual 148, 3) := by decide +kernel
theorem d_R_message_5 : decode prog_10_method_30_code 5 = .ok (.ifCond .eq 27, 3) := by decide +kernel
theorem d_R_message_8 : decode prog_10_method_30_code 8 = .ok (.iload_n 2, 1) := by decide +kernel
theorem d_R_message_9 : decode prog_10_method_30_code 9 = .ok (.ifCond .lt 23, 3) := by decide +kernel
theorem d_R_message_12 : decode prog_10_method_30_code 12 = .ok (.iload_n 2, 1) := by decide +kernel
theorem d_R_message_13 : decode prog_10_method_30_code 13 = .ok (.bipush 6, 2) := by decide +kernel
theorem d_R_message_15 : decode prog_10_method_30_code 15 = .ok (.if_icmp .gt 17, 3) := by decide +kernel
theorem d_R_message_18 : decode prog_10_method_30_code 18 = .ok (.aload_n 0, 1) := by decide +kernel
theorem d_R_message_19 : decode prog_10_method_30_code 19 = .ok (.getfield 80, 3) := by decide +kernel
theorem d_R_message_22 : decode prog_10_method_30_code 22 = .ok (.bipush 7, 2) := by decide +kernel
theorem d_R_message_24 : decode prog_10_method_30_code 24 = .ok (.iload_n 1, 1) := by decide +kernel
theorem d_R_message_25 : decode prog_10_method_30_code 25 = .ok (.imul, 1) := by decide +kernel
theorem d_R_message_26 : decode prog_10_method_30_code 26 = .ok (.iload_n 2, 1) := by decide +kernel
theorem d_R_message_27 : decode prog_10_method_30_code 27 = .ok (.iadd, 1) := by decide +kernel
theorem d_R_message_28 : decode prog_10_method_30_code 28 = .ok (.iaload, 1) := by decide +kernel
theorem d_R_message_29 : decode prog_10_method_30_code 29 = .ok (.goto 4, 3) := by decide +kernel
theorem d_R_message_32 : decode prog_10_method_30_code 32 = .ok (.iconst (-1), 1) := by decide +kernel
theorem d_R_message_33 : decode prog_10_method_30_code 33 = .ok (.ireturn, 1) := by decide +kernel
theorem d_R_tick_0 : decode prog_10_method_31_code 0 = .ok (.iload_n 1, 1) := by decide +kernel
theorem d_R_tick_1 : decode prog_10_method_31_code 1 = .ok (.ifCond .lt 10, 3) := by decide +kernel
theorem d_R_tick_4 : decode prog_10_method_31_code 4 = .ok (.iload_n 1, 1) := by decide +kernel
theorem d_R_tick_5 : decode prog_10_method_31_code 5 = .ok (.sipush 1000, 3) := by decide +kernel
theorem d_R_tick_8 : decode prog_10_method_31_code 8 = .ok (.if_icmp .le 5, 3) := by decide +kernel
theorem d_R_tick_11 : decode prog_10_method_31_code 11 = .ok (.iconst (-1), 1) := by decide +kernel
theorem d_R_tick_12 : decode prog_10_method_31_code 12 = .ok (.ireturn, 1) := by decide +kernel
theorem d_R_tick_13 : decode prog_10_method_31_code 13 = .ok (.aload_n 0, 1) := by decide +kernel
theorem d_R_tick_14 : decode prog_10_method_31_code 14 = .ok (.aload_n 0, 1) := by decide +kernel
theorem d_R_tick_15 : decode prog_10_method_31_code 15 = .ok (.getfield 122, 3) := by decide +kernel
theorem d_R_tick_18 : decode prog_10_method_31_code 18 = .ok (.iload_n 1, 1) := by decide +kernel
theorem d_R_tick_19 : decode prog_10_method_31_code 19 = .ok (.iadd, 1) := by decide +kernel
theorem d_R_tick_20 : decode prog_10_method_31_code 20 = .ok (.putfield 122, 3) := by decide +kernel
theorem d_R_tick_23 : decode prog_10_method_31_code 23 = .ok (.aload_n 0, 1) := by decide +kernel
theorem d_R_tick_24 : decode prog_10_method_31_code 24 = .ok (.getfield 165, 3) := by decide +kernel
theorem d_R_tick_27 : decode prog_10_method_31_code 27 = .ok (.ifCond .eq 7, 3) := by decide +kernel
theorem d_R_tick_30 : decode prog_10_method_31_code 30 = .ok (.iconst 0, 1) := by decide +kernel
theorem d_R_tick_31 : decode prog_10_method_31_code 31 = .ok (.goto 7, 3) := by decide +kernel
theorem d_R_tick_34 : decode prog_10_method_31_code 34 = .ok (.aload_n 0, 1) := by decide +kernel
theorem d_R_tick_35 : decode prog_10_method_31_code 35 = .ok (.invokevirtual 179, 3) := by decide +kernel
theorem d_R_tick_38 : decode prog_10_method_31_code 38 = .ok (.ireturn, 1) := by decide +kernel
theorem d_R_pass_0 : decode prog_10_method_32_code 0 = .ok (.aload_n 0, 1) := by decide +kernel
theorem d_R_pass_1 : decode prog_10_method_32_code 1 = .ok (.iload_n 1, 1) := by decide +kernel
theorem d_R_pass_2 : decode prog_10_method_32_code 2 = .ok (.invokevirtual 103, 3) := by decide +kernel
theorem d_R_pass_5 : decode prog_10_method_32_code 5 = .ok (.ifCond .eq 14, 3) := by decide +kernel
theorem d_R_pass_8 : decode prog_10_method_32_code 8 = .ok (.iload_n 2, 1) := by decide +kernel
theorem d_R_pass_9 : decode prog_10_method_32_code 9 = .ok (.ifCond .lt 10, 3) := by decide +kernel
theorem d_R_pass_12 : decode prog_10_method_32_code 12 = .ok (.iload_n 2, 1) := by decide +kernel
theorem d_R_pass_13 : decode prog_10_method_32_code 13 = .ok (.sipush 1000, 3) := by decide +kernel
theorem d_R_pass_16 : decode prog_10_method_32_code 16 = .ok (.if_icmp .le 5, 3) := by decide +kernel
theorem d_R_pass_19 : decode prog_10_method_32_code 19 = .ok (.iconst (-1), 1) := by decide +kernel
theorem d_R_pass_20 : decode prog_10_method_32_code 20 = .ok (.ireturn, 1) := by decide +kernel
theorem d_R_pass_21 : decode prog_10_method_32_code 21 = .ok (.aload_n 0, 1) := by decide +kernel
theorem d_R_pass_22 : decode prog_10_method_32_code 22 = .ok (.getfield 37, 3) := by decide +kernel
theorem d_R_pass_25 : decode prog_10_method_32_code 25 = .ok (.iload_n 1, 1) := by decide +kernel
theorem d_R_pass_26 : decode prog_10_method_32_code 26 = .ok (.aload_n 0, 1) := by decide +kernel
theorem d_R_pass_27 : decode prog_10_method_32_code 27 = .ok (.getfield 37, 3) := by decide +kernel
theorem d_R_pass_30 : decode prog_10_method_32_code 30 = .ok (.iload_n 1, 1) := by decide +kernel
theorem d_R_pass_31 : decode prog_10_method_32_code 31 = .ok (.iaload, 1) := by decide +kernel
theorem d_R_pass_32 : decode prog_10_method_32_code 32 = .ok (.iload_n 2, 1) := by decide +kernel
theorem d_R_pass_33 : decode prog_10_method_32_code 33 = .ok (.iadd, 1) := by decide +kernel
theorem d_R_pass_34 : decode prog_10_method_32_code 34 = .ok (.iastore, 1) := by decide +kernel
theorem d_R_pass_35 : decode prog_10_method_32_code 35 = .ok (.aload_n 0, 1) := by decide +kernel
theorem d_R_pass_36 : decode prog_10_method_32_code 36 = .ok (.getfield 37, 3) := by decide +kernel
theorem d_R_pass_39 : decode prog_10_method_32_code 39 = .ok (.iload_n 1, 1) := by decide +kernel
theorem d_R_pass_40 : decode prog_10_method_32_code 40 = .ok (.iaload, 1) := by decide +kernel
theorem d_R_pass_41 : decode prog_10_method_32_code 41 = .ok (.ireturn, 1) := by decide +kernel
theorem d_R_crash_0 : decode prog_10_method_33_code 0 = .ok (.aload_n 0, 1) := by decide +kernel
theorem d_R_crash_1 : decode prog_10_method_33_code 1 = .ok (.iload_n 1, 1) := by decide +kernel
theorem d_R_crash_2 : decode prog_10_method_33_code 2 = .ok (.invokevirtual 103, 3) := by decide +kernel
theorem d_R_crash_5 : decode prog_10_method_33_code 5 = .ok (.ifCond .ne 5, 3) := by decide +kernel
theorem d_R_crash_8 : decode prog_10_method_33_code 8 = .ok (.iconst (-1), 1) := by decide +kernel
theorem d_R_crash_9 : decode prog_10_method_33_code 9 = .ok (.ireturn, 1) := by decide +kernel
theorem d_R_crash_10 : decode prog_10_method_33_code 10 = .ok (.iconst 0, 1) := by decide +kernel
theorem d_R_crash_11 : decode prog_10_method_33_code 11 = .ok (.istore_n 2, 1) := by decide +kernel
theorem d_R_crash_12 : decode prog_10_method_33_code 12 = .ok (.iconst 0, 1) := by decide +kernel
theorem d_R_crash_13 : decode prog_10_method_33_code 13 = .ok (.istore_n 3, 1) := by decide +kernel
theorem d_R_crash_14 : decode prog_10_method_33_code 14 = .ok (.iload_n 3, 1) := by decide +kernel
theorem d_R_crash_15 : decode prog_10_method_33_code 15 = .ok (.aload_n 0, 1) := by decide +kernel
theorem d_R_crash_16 : decode prog_10_method_33_code 16 = .ok (.getfield 87, 3) := by decide +kernel
theorem d_R_crash_19 : decode prog_10_method_33_code 19 = .ok (.if_icmp .ge 41, 3) := by decide +kernel
theorem d_R_crash_22 : decode prog_10_method_33_code 22 = .ok (.aload_n 0, 1) := by decide +kernel
theorem d_R_crash_23 : decode prog_10_method_33_code 23 = .ok (.getfield 68, 3) := by decide +kernel
theorem d_R_crash_26 : decode prog_10_method_33_code 26 = .ok (.iconst 4, 1) := by decide +kernel
theorem d_R_crash_27 : decode prog_10_method_33_code 27 = .ok (.iload_n 1, 1) := by decide +kernel
theorem d_R_crash_28 : decode prog_10_method_33_code 28 = .ok (.imul, 1) := by decide +kernel
theorem d_R_crash_29 : decode prog_10_method_33_code 29 = .ok (.iload_n 3, 1) := by decide +kernel
theorem d_R_crash_30 : decode prog_10_method_33_code 30 = .ok (.iadd, 1) := by decide +kernel
theorem d_R_crash_31 : decode prog_10_method_33_code 31 = .ok (.baload, 1) := by decide +kernel
theorem d_R_crash_32 : decode prog_10_method_33_code 32 = .ok (.ifCond .eq 9, 3) := by decide +kernel
theorem d_R_crash_35 : decode prog_10_method_33_code 35 = .ok (.iload_n 2, 1) := by decide +kernel
theorem d_R_crash_36 : decode prog_10_method_33_code 36 = .ok (.iconst 1, 1) := by decide +kernel
theorem d_R_crash_37 : decode prog_10_method_33_code 37 = .ok (.iadd, 1) := by decide +kernel
theorem d_R_crash_38 : decode prog_10_method_33_code 38 = .ok (.goto 4, 3) := by decide +kernel
theorem d_R_crash_41 : decode prog_10_method_33_code 41 = .ok (.iload_n 2, 1) := by decide +kernel
theorem d_R_crash_42 : decode prog_10_method_33_code 42 = .ok (.istore_n 2, 1) := by decide +kernel
theorem d_R_crash_43 : decode prog_10_method_33_code 43 = .ok (.aload_n 0, 1) := by decide +kernel
theorem d_R_crash_44 : decode prog_10_method_33_code 44 = .ok (.getfield 68, 3) := by decide +kernel
theorem d_R_crash_47 : decode prog_10_method_33_code 47 = .ok (.iconst 4, 1) := by decide +kernel
theorem d_R_crash_48 : decode prog_10_method_33_code 48 = .ok (.iload_n 1, 1) := by decide +kernel
theorem d_R_crash_49 : decode prog_10_method_33_code 49 = .ok (.imul, 1) := by decide +kernel
theorem d_R_crash_50 : decode prog_10_method_33_code 50 = .ok (.iload_n 3, 1) := by decide +kernel
theorem d_R_crash_51 : decode prog_10_method_33_code 51 = .ok (.iadd, 1) := by decide +kernel
theorem d_R_crash_52 : decode prog_10_method_33_code 52 = .ok (.iconst 0, 1) := by decide +kernel
theorem d_R_crash_53 : decode prog_10_method_33_code 53 = .ok (.bastore, 1) := by decide +kernel
theorem d_R_crash_54 : decode prog_10_method_33_code 54 = .ok (.iinc 3 1, 3) := by decide +kernel
theorem d_R_crash_57 : decode prog_10_method_33_code 57 = .ok (.goto (-43), 3) := by decide +kernel
theorem d_R_crash_60 : decode prog_10_method_33_code 60 = .ok (.aload_n 0, 1) := by decide +kernel
theorem d_R_crash_61 : decode prog_10_method_33_code 61 = .ok (.getfield 43, 3) := by decide +kernel
theorem d_R_crash_64 : decode prog_10_method_33_code 64 = .ok (.iload_n 1, 1) := by decide +kernel
theorem d_R_crash_65 : decode prog_10_method_33_code 65 = .ok (.iconst 0, 1) := by decide +kernel
theorem d_R_crash_66 : decode prog_10_method_33_code 66 = .ok (.iastore, 1) := by decide +kernel
theorem d_R_crash_67 : decode prog_10_method_33_code 67 = .ok (.aload_n 0, 1) := by decide +kernel
theorem d_R_crash_68 : decode prog_10_method_33_code 68 = .ok (.getfield 59, 3) := by decide +kernel
theorem d_R_crash_71 : decode prog_10_method_33_code 71 = .ok (.iload_n 1, 1) := by decide +kernel
theorem d_R_crash_72 : decode prog_10_method_33_code 72 = .ok (.iconst 0, 1) := by decide +kernel
theorem d_R_crash_73 : decode prog_10_method_33_code 73 = .ok (.bastore, 1) := by decide +kernel
theorem d_R_crash_74 : decode prog_10_method_33_code 74 = .ok (.iload_n 2, 1) := by decide +kernel
theorem d_R_crash_75 : decode prog_10_method_33_code 75 = .ok (.ireturn, 1) := by decide +kernel
theorem d_R_halt_0 : decode prog_10_method_34_code 0 = .ok (.aload_n 0, 1) := by decide +kernel
theorem d_R_halt_1 : decode prog_10_method_34_code 1 = .ok (.getfield 165, 3) := by decide +kernel
theorem d_R_halt_4 : decode prog_10_method_34_code 4 = .ok (.ifCond .eq 5, 3) := by decide +kernel
theorem d_R_halt_7 : decode prog_10_method_34_code 7 = .ok (.iconst (-1), 1) := by decide +kernel
theorem d_R_halt_8 : decode prog_10_method_34_code 8 = .ok (.ireturn, 1) := by decide +kernel
theorem d_R_halt_9 : decode prog_10_method_34_code 9 = .ok (.aload_n 0, 1) := by decide +kernel
theorem d_R_halt_10 : decode prog_10_method_34_code 10 = .ok (.getfield 125, 3) := by decide +kernel
theorem d_R_halt_13 : decode prog_10_method_34_code 13 = .ok (.istore_n 1, 1) := by decide +kernel
theorem d_R_halt_14 : decode prog_10_method_34_code 14 = .ok (.aload_n 0, 1) := by decide +kernel
theorem d_R_halt_15 : decode prog_10_method_34_code 15 = .ok (.iconst 1, 1) := by decide +kernel
theorem d_R_halt_16 : decode prog_10_method_34_code 16 = .ok (.putfield 165, 3) := by decide +kernel
theorem d_R_halt_19 : decode prog_10_method_34_code 19 = .ok (.aload_n 0, 1) := by decide +kernel
theorem d_R_halt_20 : decode prog_10_method_34_code 20 = .ok (.iconst 0, 1) := by decide +kernel
theorem d_R_halt_21 : decode prog_10_method_34_code 21 = .ok (.putfield 125, 3) := by decide +kernel
theorem d_R_halt_24 : decode prog_10_method_34_code 24 = .ok (.iconst 0, 1) := by decide +kernel
theorem d_R_halt_25 : decode prog_10_method_34_code 25 = .ok (.istore_n 2, 1) := by decide +kernel
theorem d_R_halt_26 : decode prog_10_method_34_code 26 = .ok (.iload_n 2, 1) := by decide +kernel
theorem d_R_halt_27 : decode prog_10_method_34_code 27 = .ok (.bipush 16, 2) := by decide +kernel
theorem d_R_halt_29 : decode prog_10_method_34_code 29 = .ok (.if_icmp .ge 16, 3) := by decide +kernel
theorem d_R_halt_32 : decode prog_10_method_34_code 32 = .ok (.aload_n 0, 1) := by decide +kernel
theorem d_R_halt_33 : decode prog_10_method_34_code 33 = .ok (.getfield 16, 3) := by decide +kernel
theorem d_R_halt_36 : decode prog_10_method_34_code 36 = .ok (.iload_n 2, 1) := by decide +kernel
theorem d_R_halt_37 : decode prog_10_method_34_code 37 = .ok (.iconst 0, 1) := by decide +kernel
theorem d_R_halt_38 : decode prog_10_method_34_code 38 = .ok (.iastore, 1) := by decide +kernel
theorem d_R_halt_39 : decode prog_10_method_34_code 39 = .ok (.iinc 2 1, 3) := by decide +kernel
theorem d_R_halt_42 : decode prog_10_method_34_code 42 = .ok (.goto (-16), 3) := by decide +kernel
theorem d_R_halt_45 : decode prog_10_method_34_code 45 = .ok (.iload_n 1, 1) := by decide +kernel
theorem d_R_halt_46 : decode prog_10_method_34_code 46 = .ok (.ireturn, 1) := by decide +kernel
theorem d_R_restart_0 : decode prog_10_method_35_code 0 = .ok (.aload_n 0, 1) := by decide +kernel
theorem d_R_restart_1 : decode prog_10_method_35_code 1 = .ok (.getfield 165, 3) := by decide +kernel
theorem d_R_restart_4 : decode prog_10_method_35_code 4 = .ok (.ifCond .ne 5, 3) := by decide +kernel
theorem d_R_restart_7 : decode prog_10_method_35_code 7 = .ok (.iconst (-1), 1) := by decide +kernel
theorem d_R_restart_8 : decode prog_10_method_35_code 8 = .ok (.ireturn, 1) := by decide +kernel
theorem d_R_restart_9 : decode prog_10_method_35_code 9 = .ok (.aload_n 0, 1) := by decide +kernel
theorem d_R_restart_10 : decode prog_10_method_35_code 10 = .ok (.iconst 0, 1) := by decide +kernel
theorem d_R_restart_11 : decode prog_10_method_35_code 11 = .ok (.putfield 165, 3) := by decide +kernel
theorem d_R_restart_14 : decode prog_10_method_35_code 14 = .ok (.aload_n 0, 1) := by decide +kernel
theorem d_R_restart_15 : decode prog_10_method_35_code 15 = .ok (.dup, 1) := by decide +kernel
theorem d_R_restart_16 : decode prog_10_method_35_code 16 = .ok (.getfield 136, 3) := by decide +kernel
theorem d_R_restart_19 : decode prog_10_method_35_code 19 = .ok (.iconst 1, 1) := by decide +kernel
theorem d_R_restart_20 : decode prog_10_method_35_code 20 = .ok (.iadd, 1) := by decide +kernel
theorem d_R_restart_21 : decode prog_10_method_35_code 21 = .ok (.putfield 136, 3) := by decide +kernel
theorem d_R_restart_24 : decode prog_10_method_35_code 24 = .ok (.aload_n 0, 1) := by decide +kernel
theorem d_R_restart_25 : decode prog_10_method_35_code 25 = .ok (.aload_n 0, 1) := by decide +kernel
theorem d_R_restart_26 : decode prog_10_method_35_code 26 = .ok (.getfield 122, 3) := by decide +kernel
theorem d_R_restart_29 : decode prog_10_method_35_code 29 = .ok (.aload_n 0, 1) := by decide +kernel
theorem d_R_restart_30 : decode prog_10_method_35_code 30 = .ok (.getfield 90, 3) := by decide +kernel
theorem d_R_restart_33 : decode prog_10_method_35_code 33 = .ok (.iadd, 1) := by decide +kernel
theorem d_R_restart_34 : decode prog_10_method_35_code 34 = .ok (.putfield 139, 3) := by decide +kernel
theorem d_R_restart_37 : decode prog_10_method_35_code 37 = .ok (.aload_n 0, 1) := by decide +kernel
theorem d_R_restart_38 : decode prog_10_method_35_code 38 = .ok (.getfield 136, 3) := by decide +kernel
theorem d_R_restart_41 : decode prog_10_method_35_code 41 = .ok (.ireturn, 1) := by decide +kernel
theorem d_R_rest_0 : decode prog_10_method_36_code 0 = .ok (.iload_n 0, 1) := by decide +kernel
theorem d_R_rest_1 : decode prog_10_method_36_code 1 = .ok (.iload_n 1, 1) := by decide +kernel
theorem d_R_rest_2 : decode prog_10_method_36_code 2 = .ok (.if_icmp .le 9, 3) := by decide +kernel
theorem d_R_rest_5 : decode prog_10_method_36_code 5 = .ok (.iload_n 0, 1) := by decide +kernel
theorem d_R_rest_6 : decode prog_10_method_36_code 6 = .ok (.iload_n 1, 1) := by decide +kernel
theorem d_R_rest_7 : decode prog_10_method_36_code 7 = .ok (.isub, 1) := by decide +kernel
theorem d_R_rest_8 : decode prog_10_method_36_code 8 = .ok (.goto 4, 3) := by decide +kernel
theorem d_R_rest_11 : decode prog_10_method_36_code 11 = .ok (.iconst 0, 1) := by decide +kernel
theorem d_R_rest_12 : decode prog_10_method_36_code 12 = .ok (.ireturn, 1) := by decide +kernel
theorem d_R_copy_0 : decode prog_10_method_37_code 0 = .ok (.aload_n 0, 1) := by decide +kernel
theorem d_R_copy_1 : decode prog_10_method_37_code 1 = .ok (.iload_n 1, 1) := by decide +kernel
theorem d_R_copy_2 : decode prog_10_method_37_code 2 = .ok (.invokevirtual 103, 3) := by decide +kernel
theorem d_R_copy_5 : decode prog_10_method_37_code 5 = .ok (.ifCond .eq 33, 3) := by decide +kernel
theorem d_R_copy_8 : decode prog_10_method_37_code 8 = .ok (.aload_n 0, 1) := by decide +kernel
theorem d_R_copy_9 : decode prog_10_method_37_code 9 = .ok (.iload_n 2, 1) := by decide +kernel
theorem d_R_copy_10 : decode prog_10_method_37_code 10 = .ok (.invokevirtual 107, 3) := by decide +kernel
theorem d_R_copy_13 : decode prog_10_method_37_code 13 = .ok (.ifCond .eq 25, 3) := by decide +kernel
theorem d_R_copy_16 : decode prog_10_method_37_code 16 = .ok (.aload_n 0, 1) := by decide +kernel
theorem d_R_copy_17 : decode prog_10_method_37_code 17 = .ok (.getfield 68, 3) := by decide +kernel
theorem d_R_copy_20 : decode prog_10_method_37_code 20 = .ok (.iconst 4, 1) := by decide +kernel
theorem d_R_copy_21 : decode prog_10_method_37_code 21 = .ok (.iload_n 1, 1) := by decide +kernel
theorem d_R_copy_22 : decode prog_10_method_37_code 22 = .ok (.imul, 1) := by decide +kernel
theorem d_R_copy_23 : decode prog_10_method_37_code 23 = .ok (.iload_n 2, 1) := by decide +kernel
theorem d_R_copy_24 : decode prog_10_method_37_code 24 = .ok (.iadd, 1) := by decide +kernel
theorem d_R_copy_25 : decode prog_10_method_37_code 25 = .ok (.baload, 1) := by decide +kernel
theorem d_R_copy_26 : decode prog_10_method_37_code 26 = .ok (.ifCond .eq 12, 3) := by decide +kernel
theorem d_R_copy_29 : decode prog_10_method_37_code 29 = .ok (.iload_n 3, 1) := by decide +kernel
theorem d_R_copy_30 : decode prog_10_method_37_code 30 = .ok (.ifCond .lt 8, 3) := by decide +kernel
theorem d_R_copy_33 : decode prog_10_method_37_code 33 = .ok (.iload_n 3, 1) := by decide +kernel
theorem d_R_copy_34 : decode prog_10_method_37_code 34 = .ok (.iconst 2, 1) := by decide +kernel
theorem d_R_copy_35 : decode prog_10_method_37_code 35 = .ok (.if_icmp .le 5, 3) := by decide +kernel
theorem d_R_copy_38 : decode prog_10_method_37_code 38 = .ok (.iconst (-1), 1) := by decide +kernel
theorem d_R_copy_39 : decode prog_10_method_37_code 39 = .ok (.ireturn, 1) := by decide +kernel
theorem d_R_copy_40 : decode prog_10_method_37_code 40 = .ok (.iconst 4, 1) := by decide +kernel
theorem d_R_copy_41 : decode prog_10_method_37_code 41 = .ok (.iload_n 1, 1) := by decide +kernel
theorem d_R_copy_42 : decode prog_10_method_37_code 42 = .ok (.imul, 1) := by decide +kernel
theorem d_R_copy_43 : decode prog_10_method_37_code 43 = .ok (.iload_n 2, 1) := by decide +kernel
theorem d_R_copy_44 : decode prog_10_method_37_code 44 = .ok (.iadd, 1) := by decide +kernel
theorem d_R_copy_45 : decode prog_10_method_37_code 45 = .ok (.istore 4, 2) := by decide +kernel
theorem d_R_copy_47 : decode prog_10_method_37_code 47 = .ok (.iload_n 3, 1) := by decide +kernel
theorem d_R_copy_48 : decode prog_10_method_37_code 48 = .ok (.ifCond .ne 22, 3) := by decide +kernel
theorem d_R_copy_51 : decode prog_10_method_37_code 51 = .ok (.aload_n 0, 1) := by decide +kernel
theorem d_R_copy_52 : decode prog_10_method_37_code 52 = .ok (.getfield 71, 3) := by decide +kernel
theorem d_R_copy_55 : decode prog_10_method_37_code 55 = .ok (.iload 4, 2) := by decide +kernel
theorem d_R_copy_57 : decode prog_10_method_37_code 57 = .ok (.iaload, 1) := by decide +kernel
theorem d_R_copy_58 : decode prog_10_method_37_code 58 = .ok (.aload_n 0, 1) := by decide +kernel
theorem d_R_copy_59 : decode prog_10_method_37_code 59 = .ok (.getfield 37, 3) := by decide +kernel
theorem d_R_copy_62 : decode prog_10_method_37_code 62 = .ok (.iload_n 1, 1) := by decide +kernel
theorem d_R_copy_63 : decode prog_10_method_37_code 63 = .ok (.iaload, 1) := by decide +kernel
theorem d_R_copy_64 : decode prog_10_method_37_code 64 = .ok (.invokestatic 183, 3) := by decide +kernel
theorem d_R_copy_67 : decode prog_10_method_37_code 67 = .ok (.goto 25, 3) := by decide +kernel
theorem d_R_copy_70 : decode prog_10_method_37_code 70 = .ok (.iload_n 3, 1) := by decide +kernel
theorem d_R_copy_71 : decode prog_10_method_37_code 71 = .ok (.iconst 1, 1) := by decide +kernel
theorem d_R_copy_72 : decode prog_10_method_37_code 72 = .ok (.if_icmp .ne 13, 3) := by decide +kernel
theorem d_R_copy_75 : decode prog_10_method_37_code 75 = .ok (.aload_n 0, 1) := by decide +kernel
theorem d_R_copy_76 : decode prog_10_method_37_code 76 = .ok (.getfield 74, 3) := by decide +kernel
theorem d_R_copy_79 : decode prog_10_method_37_code 79 = .ok (.iload 4, 2) := by decide +kernel
theorem d_R_copy_81 : decode prog_10_method_37_code 81 = .ok (.iaload, 1) := by decide +kernel
theorem d_R_copy_82 : decode prog_10_method_37_code 82 = .ok (.goto 10, 3) := by decide +kernel
theorem d_R_copy_85 : decode prog_10_method_37_code 85 = .ok (.aload_n 0, 1) := by decide +kernel
theorem d_R_copy_86 : decode prog_10_method_37_code 86 = .ok (.getfield 77, 3) := by decide +kernel
theorem d_R_copy_89 : decode prog_10_method_37_code 89 = .ok (.iload 4, 2) := by decide +kernel
theorem d_R_copy_91 : decode prog_10_method_37_code 91 = .ok (.iaload, 1) := by decide +kernel
theorem d_R_copy_92 : decode prog_10_method_37_code 92 = .ok (.ireturn, 1) := by decide +kernel
theorem d_R_lease_0 : decode prog_10_method_38_code 0 = .ok (.aload_n 0, 1) := by decide +kernel
theorem d_R_lease_1 : decode prog_10_method_38_code 1 = .ok (.iload_n 1, 1) := by decide +kernel
theorem d_R_lease_2 : decode prog_10_method_38_code 2 = .ok (.invokevirtual 103, 3) := by decide +kernel
theorem d_R_lease_5 : decode prog_10_method_38_code 5 = .ok (.ifCond .eq 31, 3) := by decide +kernel
theorem d_R_lease_8 : decode prog_10_method_38_code 8 = .ok (.aload_n 0, 1) := by decide +kernel
theorem d_R_lease_9 : decode prog_10_method_38_code 9 = .ok (.iload_n 2, 1) := by decide +kernel
theorem d_R_lease_10 : decode prog_10_method_38_code 10 = .ok (.invokevirtual 107, 3) := by decide +kernel
theorem d_R_lease_13 : decode prog_10_method_38_code 13 = .ok (.ifCond .eq 23, 3) := by decide +kernel
theorem d_R_lease_16 : decode prog_10_method_38_code 16 = .ok (.aload_n 0, 1) := by decide +kernel
theorem d_R_lease_17 : decode prog_10_method_38_code 17 = .ok (.getfield 16, 3) := by decide +kernel
theorem d_R_lease_20 : decode prog_10_method_38_code 20 = .ok (.iconst 4, 1) := by decide +kernel
theorem d_R_lease_21 : decode prog_10_method_38_code 21 = .ok (.iload_n 1, 1) := by decide +kernel
theorem d_R_lease_22 : decode prog_10_method_38_code 22 = .ok (.imul, 1) := by decide +kernel
theorem d_R_lease_23 : decode prog_10_method_38_code 23 = .ok (.iload_n 2, 1) := by decide +kernel
theorem d_R_lease_24 : decode prog_10_method_38_code 24 = .ok (.iadd, 1) := by decide +kernel
theorem d_R_lease_25 : decode prog_10_method_38_code 25 = .ok (.iaload, 1) := by decide +kernel
theorem d_R_lease_26 : decode prog_10_method_38_code 26 = .ok (.aload_n 0, 1) := by decide +kernel
theorem d_R_lease_27 : decode prog_10_method_38_code 27 = .ok (.getfield 122, 3) := by decide +kernel
theorem d_R_lease_30 : decode prog_10_method_38_code 30 = .ok (.invokestatic 183, 3) := by decide +kernel
theorem d_R_lease_33 : decode prog_10_method_38_code 33 = .ok (.goto 4, 3) := by decide +kernel
theorem d_R_lease_36 : decode prog_10_method_38_code 36 = .ok (.iconst (-1), 1) := by decide +kernel
theorem d_R_lease_37 : decode prog_10_method_38_code 37 = .ok (.ireturn, 1) := by decide +kernel
theorem d_R_file_0 : decode prog_10_method_39_code 0 = .ok (.aload_n 0, 1) := by decide +kernel
theorem d_R_file_1 : decode prog_10_method_39_code 1 = .ok (.iload_n 1, 1) := by decide +kernel
theorem d_R_file_2 : decode prog_10_method_39_code 2 = .ok (.invokevirtual 107, 3) := by decide +kernel
theorem d_R_file_5 : decode prog_10_method_39_code 5 = .ok (.ifCond .eq 12, 3) := by decide +kernel
theorem d_R_file_8 : decode prog_10_method_39_code 8 = .ok (.iload_n 2, 1) := by decide +kernel
theorem d_R_file_9 : decode prog_10_method_39_code 9 = .ok (.ifCond .lt 8, 3) := by decide +kernel
theorem d_R_file_12 : decode prog_10_method_39_code 12 = .ok (.iload_n 2, 1) := by decide +kernel
theorem d_R_file_13 : decode prog_10_method_39_code 13 = .ok (.iconst 3, 1) := by decide +kernel
theorem d_R_file_14 : decode prog_10_method_39_code 14 = .ok (.if_icmp .le 5, 3) := by decide +kernel
theorem d_R_file_17 : decode prog_10_method_39_code 17 = .ok (.iconst (-1), 1) := by decide +kernel
theorem d_R_file_18 : decode prog_10_method_39_code 18 = .ok (.ireturn, 1) := by decide +kernel
theorem d_R_file_19 : decode prog_10_method_39_code 19 = .ok (.iconst 0, 1) := by decide +kernel
theorem d_R_file_20 : decode prog_10_method_39_code 20 = .ok (.istore_n 3, 1) := by decide +kernel
theorem d_R_file_21 : decode prog_10_method_39_code 21 = .ok (.iconst 0, 1) := by decide +kernel
theorem d_R_file_22 : decode prog_10_method_39_code 22 = .ok (.istore 4, 2) := by decide +kernel
theorem d_R_file_24 : decode prog_10_method_39_code 24 = .ok (.iload 4, 2) := by decide +kernel
theorem d_R_file_26 : decode prog_10_method_39_code 26 = .ok (.aload_n 0, 1) := by decide +kernel
theorem d_R_file_27 : decode prog_10_method_39_code 27 = .ok (.getfield 125, 3) := by decide +kernel
theorem d_R_file_30 : decode prog_10_method_39_code 30 = .ok (.if_icmp .ge 28, 3) := by decide +kernel
theorem d_R_file_33 : decode prog_10_method_39_code 33 = .ok (.aload_n 0, 1) := by decide +kernel
theorem d_R_file_34 : decode prog_10_method_39_code 34 = .ok (.getfield 28, 3) := by decide +kernel
theorem d_R_file_37 : decode prog_10_method_39_code 37 = .ok (.iload 4, 2) := by decide +kernel
theorem d_R_file_39 : decode prog_10_method_39_code 39 = .ok (.iaload, 1) := by decide +kernel
theorem d_R_file_40 : decode prog_10_method_39_code 40 = .ok (.iload_n 1, 1) := by decide +kernel
theorem d_R_file_41 : decode prog_10_method_39_code 41 = .ok (.if_icmp .ne 9, 3) := by decide +kernel
theorem d_R_file_44 : decode prog_10_method_39_code 44 = .ok (.iload_n 3, 1) := by decide +kernel
theorem d_R_file_45 : decode prog_10_method_39_code 45 = .ok (.iconst 1, 1) := by decide +kernel
theorem d_R_file_46 : decode prog_10_method_39_code 46 = .ok (.iadd, 1) := by decide +kernel
theorem d_R_file_47 : decode prog_10_method_39_code 47 = .ok (.goto 4, 3) := by decide +kernel
theorem d_R_file_50 : decode prog_10_method_39_code 50 = .ok (.iload_n 3, 1) := by decide +kernel
theorem d_R_file_51 : decode prog_10_method_39_code 51 = .ok (.istore_n 3, 1) := by decide +kernel
theorem d_R_file_52 : decode prog_10_method_39_code 52 = .ok (.iinc 4 1, 3) := by decide +kernel
theorem d_R_file_55 : decode prog_10_method_39_code 55 = .ok (.goto (-31), 3) := by decide +kernel
theorem d_R_file_58 : decode prog_10_method_39_code 58 = .ok (.aload_n 0, 1) := by decide +kernel
theorem d_R_file_59 : decode prog_10_method_39_code 59 = .ok (.iload_n 1, 1) := by decide +kernel
theorem d_R_file_60 : decode prog_10_method_39_code 60 = .ok (.invokevirtual 128, 3) := by decide +kernel
theorem d_R_file_63 : decode prog_10_method_39_code 63 = .ok (.istore 4, 2) := by decide +kernel
theorem d_R_file_65 : decode prog_10_method_39_code 65 = .ok (.iload_n 2, 1) := by decide +kernel
theorem d_R_file_66 : decode prog_10_method_39_code 66 = .ok (.ifCond .ne 12, 3) := by decide +kernel
theorem d_R_file_69 : decode prog_10_method_39_code 69 = .ok (.aload_n 0, 1) := by decide +kernel
theorem d_R_file_70 : decode prog_10_method_39_code 70 = .ok (.getfield 7, 3) := by decide +kernel
theorem d_R_file_73 : decode prog_10_method_39_code 73 = .ok (.iload_n 1, 1) := by decide +kernel
theorem d_R_file_74 : decode prog_10_method_39_code 74 = .ok (.iaload, 1) := by decide +kernel
theorem d_R_file_75 : decode prog_10_method_39_code 75 = .ok (.goto 42, 3) := by decide +kernel
theorem d_R_file_78 : decode prog_10_method_39_code 78 = .ok (.iload_n 2, 1) := by decide +kernel
theorem d_R_file_79 : decode prog_10_method_39_code 79 = .ok (.iconst 1, 1) := by decide +kernel
theorem d_R_file_80 : decode prog_10_method_39_code 80 = .ok (.if_icmp .ne 12, 3) := by decide +kernel
theorem d_R_file_83 : decode prog_10_method_39_code 83 = .ok (.aload_n 0, 1) := by decide +kernel
theorem d_R_file_84 : decode prog_10_method_39_code 84 = .ok (.getfield 13, 3) := by decide +kernel
theorem d_R_file_87 : decode prog_10_method_39_code 87 = .ok (.iload_n 1, 1) := by decide +kernel
theorem d_R_file_88 : decode prog_10_method_39_code 88 = .ok (.iaload, 1) := by decide +kernel
theorem d_R_file_89 : decode prog_10_method_39_code 89 = .ok (.goto 28, 3) := by decide +kernel
theorem d_R_file_92 : decode prog_10_method_39_code 92 = .ok (.iload_n 2, 1) := by decide +kernel
theorem d_R_file_93 : decode prog_10_method_39_code 93 = .ok (.iconst 2, 1) := by decide +kernel
theorem d_R_file_94 : decode prog_10_method_39_code 94 = .ok (.if_icmp .ne 7, 3) := by decide +kernel
theorem d_R_file_97 : decode prog_10_method_39_code 97 = .ok (.iload_n 3, 1) := by decide +kernel
theorem d_R_file_98 : decode prog_10_method_39_code 98 = .ok (.goto 19, 3) := by decide +kernel
theorem d_R_file_101 : decode prog_10_method_39_code 101 = .ok (.iload 4, 2) := by decide +kernel
theorem d_R_file_103 : decode prog_10_method_39_code 103 = .ok (.ifCond .ge 7, 3) := by decide +kernel
theorem d_R_file_106 : decode prog_10_method_39_code 106 = .ok (.iconst (-1), 1) := by decide +kernel
theorem d_R_file_107 : decode prog_10_method_39_code 107 = .ok (.goto 10, 3) := by decide +kernel
theorem d_R_file_110 : decode prog_10_method_39_code 110 = .ok (.aload_n 0, 1) := by decide +kernel
theorem d_R_file_111 : decode prog_10_method_39_code 111 = .ok (.getfield 25, 3) := by decide +kernel
theorem d_R_file_114 : decode prog_10_method_39_code 114 = .ok (.iload 4, 2) := by decide +kernel
theorem d_R_file_116 : decode prog_10_method_39_code 116 = .ok (.iaload, 1) := by decide +kernel
theorem d_R_file_117 : decode prog_10_method_39_code 117 = .ok (.ireturn, 1) := by decide +kernel
theorem d_R_server_0 : decode prog_10_method_40_code 0 = .ok (.iload_n 1, 1) := by decide +kernel
theorem d_R_server_1 : decode prog_10_method_40_code 1 = .ok (.ifCond .ne 10, 3) := by decide +kernel
theorem d_R_server_4 : decode prog_10_method_40_code 4 = .ok (.aload_n 0, 1) := by decide +kernel
theorem d_R_server_5 : decode prog_10_method_40_code 5 = .ok (.getfield 122, 3) := by decide +kernel
theorem d_R_server_8 : decode prog_10_method_40_code 8 = .ok (.goto 55, 3) := by decide +kernel
theorem d_R_server_11 : decode prog_10_method_40_code 11 = .ok (.iload_n 1, 1) := by decide +kernel
theorem d_R_server_12 : decode prog_10_method_40_code 12 = .ok (.iconst 1, 1) := by decide +kernel
theorem d_R_server_13 : decode prog_10_method_40_code 13 = .ok (.if_icmp .ne 18, 3) := by decide +kernel
theorem d_R_server_16 : decode prog_10_method_40_code 16 = .ok (.aload_n 0, 1) := by decide +kernel
theorem d_R_server_17 : decode prog_10_method_40_code 17 = .ok (.getfield 165, 3) := by decide +kernel
theorem d_R_server_20 : decode prog_10_method_40_code 20 = .ok (.ifCond .eq 7, 3) := by decide +kernel
theorem d_R_server_23 : decode prog_10_method_40_code 23 = .ok (.iconst 0, 1) := by decide +kernel
theorem d_R_server_24 : decode prog_10_method_40_code 24 = .ok (.goto 39, 3) := by decide +kernel
theorem d_R_server_27 : decode prog_10_method_40_code 27 = .ok (.iconst 1, 1) := by decide +kernel
theorem d_R_server_28 : decode prog_10_method_40_code 28 = .ok (.goto 35, 3) := by decide +kernel
theorem d_R_server_31 : decode prog_10_method_40_code 31 = .ok (.iload_n 1, 1) := by decide +kernel
theorem d_R_server_32 : decode prog_10_method_40_code 32 = .ok (.iconst 2, 1) := by decide +kernel
theorem d_R_server_33 : decode prog_10_method_40_code 33 = .ok (.if_icmp .ne 10, 3) := by decide +kernel
theorem d_R_server_36 : decode prog_10_method_40_code 36 = .ok (.aload_n 0, 1) := by decide +kernel
theorem d_R_server_37 : decode prog_10_method_40_code 37 = .ok (.getfield 136, 3) := by decide +kernel
theorem d_R_server_40 : decode prog_10_method_40_code 40 = .ok (.goto 23, 3) := by decide +kernel
theorem d_R_server_43 : decode prog_10_method_40_code 43 = .ok (.iload_n 1, 1) := by decide +kernel
theorem d_R_server_44 : decode prog_10_method_40_code 44 = .ok (.iconst 3, 1) := by decide +kernel
theorem d_R_server_45 : decode prog_10_method_40_code 45 = .ok (.if_icmp .ne 17, 3) := by decide +kernel
theorem d_R_server_48 : decode prog_10_method_40_code 48 = .ok (.aload_n 0, 1) := by decide +kernel
theorem d_R_server_49 : decode prog_10_method_40_code 49 = .ok (.getfield 139, 3) := by decide +kernel
