theorem d_R_putCame_84 : decode prog_10_method_22_code 84 = .ok (.iload 6, 2) := by decide +kernel
theorem d_R_putCame_86 : decode prog_10_method_22_code 86 = .ok (.iaload, 1) := by decide +kernel
theorem d_R_putCame_87 : decode prog_10_method_22_code 87 = .ok (.iload_n 3, 1) := by decide +kernel
theorem d_R_putCame_88 : decode prog_10_method_22_code 88 = .ok (.if_icmp .ne 7, 3) := by decide +kernel
theorem d_R_putCame_91 : decode prog_10_method_22_code 91 = .ok (.iconst 1, 1) := by decide +kernel
theorem d_R_putCame_92 : decode prog_10_method_22_code 92 = .ok (.goto 4, 3) := by decide +kernel
theorem d_R_putCame_95 : decode prog_10_method_22_code 95 = .ok (.iconst 0, 1) := by decide +kernel
theorem d_R_putCame_96 : decode prog_10_method_22_code 96 = .ok (.istore 5, 2) := by decide +kernel
theorem d_R_putCame_98 : decode prog_10_method_22_code 98 = .ok (.iinc 6 1, 3) := by decide +kernel
theorem d_R_putCame_101 : decode prog_10_method_22_code 101 = .ok (.goto (-57), 3) := by decide +kernel
theorem d_R_putCame_104 : decode prog_10_method_22_code 104 = .ok (.iload 5, 2) := by decide +kernel
theorem d_R_putCame_106 : decode prog_10_method_22_code 106 = .ok (.ifCond .ne 54, 3) := by decide +kernel
theorem d_R_putCame_109 : decode prog_10_method_22_code 109 = .ok (.aload_n 0, 1) := by decide +kernel
theorem d_R_putCame_110 : decode prog_10_method_22_code 110 = .ok (.getfield 25, 3) := by decide +kernel
theorem d_R_putCame_113 : decode prog_10_method_22_code 113 = .ok (.aload_n 0, 1) := by decide +kernel
theorem d_R_putCame_114 : decode prog_10_method_22_code 114 = .ok (.getfield 125, 3) := by decide +kernel
theorem d_R_putCame_117 : decode prog_10_method_22_code 117 = .ok (.iload_n 1, 1) := by decide +kernel
theorem d_R_putCame_118 : decode prog_10_method_22_code 118 = .ok (.iastore, 1) := by decide +kernel
theorem d_R_putCame_119 : decode prog_10_method_22_code 119 = .ok (.aload_n 0, 1) := by decide +kernel
theorem d_R_putCame_120 : decode prog_10_method_22_code 120 = .ok (.getfield 28, 3) := by decide +kernel
theorem d_R_putCame_123 : decode prog_10_method_22_code 123 = .ok (.aload_n 0, 1) := by decide +kernel
theorem d_R_putCame_124 : decode prog_10_method_22_code 124 = .ok (.getfield 125, 3) := by decide +kernel
theorem d_R_putCame_127 : decode prog_10_method_22_code 127 = .ok (.iload_n 2, 1) := by decide +kernel
theorem d_R_putCame_128 : decode prog_10_method_22_code 128 = .ok (.iastore, 1) := by decide +kernel
theorem d_R_putCame_129 : decode prog_10_method_22_code 129 = .ok (.aload_n 0, 1) := by decide +kernel
theorem d_R_putCame_130 : decode prog_10_method_22_code 130 = .ok (.getfield 31, 3) := by decide +kernel
theorem d_R_putCame_133 : decode prog_10_method_22_code 133 = .ok (.aload_n 0, 1) := by decide +kernel
theorem d_R_putCame_134 : decode prog_10_method_22_code 134 = .ok (.getfield 125, 3) := by decide +kernel
theorem d_R_putCame_137 : decode prog_10_method_22_code 137 = .ok (.iload_n 3, 1) := by decide +kernel
theorem d_R_putCame_138 : decode prog_10_method_22_code 138 = .ok (.iastore, 1) := by decide +kernel
theorem d_R_putCame_139 : decode prog_10_method_22_code 139 = .ok (.aload_n 0, 1) := by decide +kernel
theorem d_R_putCame_140 : decode prog_10_method_22_code 140 = .ok (.getfield 34, 3) := by decide +kernel
theorem d_R_putCame_143 : decode prog_10_method_22_code 143 = .ok (.aload_n 0, 1) := by decide +kernel
theorem d_R_putCame_144 : decode prog_10_method_22_code 144 = .ok (.getfield 125, 3) := by decide +kernel
theorem d_R_putCame_147 : decode prog_10_method_22_code 147 = .ok (.iload 4, 2) := by decide +kernel
theorem d_R_putCame_149 : decode prog_10_method_22_code 149 = .ok (.iastore, 1) := by decide +kernel
theorem d_R_putCame_150 : decode prog_10_method_22_code 150 = .ok (.aload_n 0, 1) := by decide +kernel
theorem d_R_putCame_151 : decode prog_10_method_22_code 151 = .ok (.dup, 1) := by decide +kernel
theorem d_R_putCame_152 : decode prog_10_method_22_code 152 = .ok (.getfield 125, 3) := by decide +kernel
theorem d_R_putCame_155 : decode prog_10_method_22_code 155 = .ok (.iconst 1, 1) := by decide +kernel
theorem d_R_putCame_156 : decode prog_10_method_22_code 156 = .ok (.iadd, 1) := by decide +kernel
theorem d_R_putCame_157 : decode prog_10_method_22_code 157 = .ok (.putfield 125, 3) := by decide +kernel
theorem d_R_putCame_160 : decode prog_10_method_22_code 160 = .ok (.aload_n 0, 1) := by decide +kernel
theorem d_R_putCame_161 : decode prog_10_method_22_code 161 = .ok (.iload_n 2, 1) := by decide +kernel
theorem d_R_putCame_162 : decode prog_10_method_22_code 162 = .ok (.invokevirtual 128, 3) := by decide +kernel
theorem d_R_putCame_165 : decode prog_10_method_22_code 165 = .ok (.istore 6, 2) := by decide +kernel
theorem d_R_putCame_167 : decode prog_10_method_22_code 167 = .ok (.aload_n 0, 1) := by decide +kernel
theorem d_R_putCame_168 : decode prog_10_method_22_code 168 = .ok (.getfield 25, 3) := by decide +kernel
theorem d_R_putCame_171 : decode prog_10_method_22_code 171 = .ok (.iload 6, 2) := by decide +kernel
theorem d_R_putCame_173 : decode prog_10_method_22_code 173 = .ok (.iaload, 1) := by decide +kernel
theorem d_R_putCame_174 : decode prog_10_method_22_code 174 = .ok (.iload_n 1, 1) := by decide +kernel
theorem d_R_putCame_175 : decode prog_10_method_22_code 175 = .ok (.if_icmp .ne 57, 3) := by decide +kernel
theorem d_R_putCame_178 : decode prog_10_method_22_code 178 = .ok (.aload_n 0, 1) := by decide +kernel
theorem d_R_putCame_179 : decode prog_10_method_22_code 179 = .ok (.getfield 31, 3) := by decide +kernel
theorem d_R_putCame_182 : decode prog_10_method_22_code 182 = .ok (.iload 6, 2) := by decide +kernel
theorem d_R_putCame_184 : decode prog_10_method_22_code 184 = .ok (.iaload, 1) := by decide +kernel
theorem d_R_putCame_185 : decode prog_10_method_22_code 185 = .ok (.iload_n 3, 1) := by decide +kernel
theorem d_R_putCame_186 : decode prog_10_method_22_code 186 = .ok (.if_icmp .ne 46, 3) := by decide +kernel
theorem d_R_putCame_189 : decode prog_10_method_22_code 189 = .ok (.iconst 0, 1) := by decide +kernel
theorem d_R_putCame_190 : decode prog_10_method_22_code 190 = .ok (.istore 7, 2) := by decide +kernel
theorem d_R_putCame_192 : decode prog_10_method_22_code 192 = .ok (.iload 7, 2) := by decide +kernel
theorem d_R_putCame_194 : decode prog_10_method_22_code 194 = .ok (.aload_n 0, 1) := by decide +kernel
theorem d_R_putCame_195 : decode prog_10_method_22_code 195 = .ok (.getfield 83, 3) := by decide +kernel
theorem d_R_putCame_198 : decode prog_10_method_22_code 198 = .ok (.if_icmp .ge 34, 3) := by decide +kernel
theorem d_R_putCame_201 : decode prog_10_method_22_code 201 = .ok (.aload_n 0, 1) := by decide +kernel
theorem d_R_putCame_202 : decode prog_10_method_22_code 202 = .ok (.iload 7, 2) := by decide +kernel
theorem d_R_putCame_204 : decode prog_10_method_22_code 204 = .ok (.iload_n 2, 1) := by decide +kernel
theorem d_R_putCame_205 : decode prog_10_method_22_code 205 = .ok (.invokevirtual 132, 3) := by decide +kernel
theorem d_R_putCame_208 : decode prog_10_method_22_code 208 = .ok (.ifCond .eq 18, 3) := by decide +kernel
theorem d_R_putCame_211 : decode prog_10_method_22_code 211 = .ok (.aload_n 0, 1) := by decide +kernel
theorem d_R_putCame_212 : decode prog_10_method_22_code 212 = .ok (.iconst 4, 1) := by decide +kernel
theorem d_R_putCame_213 : decode prog_10_method_22_code 213 = .ok (.iload 7, 2) := by decide +kernel
theorem d_R_putCame_215 : decode prog_10_method_22_code 215 = .ok (.iload_n 2, 1) := by decide +kernel
theorem d_R_putCame_216 : decode prog_10_method_22_code 216 = .ok (.iload_n 3, 1) := by decide +kernel
theorem d_R_putCame_217 : decode prog_10_method_22_code 217 = .ok (.iload_n 1, 1) := by decide +kernel
theorem d_R_putCame_218 : decode prog_10_method_22_code 218 = .ok (.aload_n 0, 1) := by decide +kernel
theorem d_R_putCame_219 : decode prog_10_method_22_code 219 = .ok (.getfield 136, 3) := by decide +kernel
theorem d_R_putCame_222 : decode prog_10_method_22_code 222 = .ok (.iconst 0, 1) := by decide +kernel
theorem d_R_putCame_223 : decode prog_10_method_22_code 223 = .ok (.invokevirtual 99, 3) := by decide +kernel
theorem d_R_putCame_226 : decode prog_10_method_22_code 226 = .ok (.iinc 7 1, 3) := by decide +kernel
theorem d_R_putCame_229 : decode prog_10_method_22_code 229 = .ok (.goto (-37), 3) := by decide +kernel
theorem d_R_putCame_232 : decode prog_10_method_22_code 232 = .ok (.return_, 1) := by decide +kernel
theorem d_R_freed_0 : decode prog_10_method_23_code 0 = .ok (.aload_n 0, 1) := by decide +kernel
theorem d_R_freed_1 : decode prog_10_method_23_code 1 = .ok (.iload_n 2, 1) := by decide +kernel
theorem d_R_freed_2 : decode prog_10_method_23_code 2 = .ok (.invokevirtual 128, 3) := by decide +kernel
theorem d_R_freed_5 : decode prog_10_method_23_code 5 = .ok (.istore 6, 2) := by decide +kernel
theorem d_R_freed_7 : decode prog_10_method_23_code 7 = .ok (.iload 5, 2) := by decide +kernel
theorem d_R_freed_9 : decode prog_10_method_23_code 9 = .ok (.aload_n 0, 1) := by decide +kernel
theorem d_R_freed_10 : decode prog_10_method_23_code 10 = .ok (.getfield 136, 3) := by decide +kernel
theorem d_R_freed_13 : decode prog_10_method_23_code 13 = .ok (.if_icmp .ne 67, 3) := by decide +kernel
theorem d_R_freed_16 : decode prog_10_method_23_code 16 = .ok (.iload 6, 2) := by decide +kernel
theorem d_R_freed_18 : decode prog_10_method_23_code 18 = .ok (.ifCond .lt 62, 3) := by decide +kernel
theorem d_R_freed_21 : decode prog_10_method_23_code 21 = .ok (.aload_n 0, 1) := by decide +kernel
theorem d_R_freed_22 : decode prog_10_method_23_code 22 = .ok (.getfield 25, 3) := by decide +kernel
theorem d_R_freed_25 : decode prog_10_method_23_code 25 = .ok (.iload 6, 2) := by decide +kernel
theorem d_R_freed_27 : decode prog_10_method_23_code 27 = .ok (.iaload, 1) := by decide +kernel
theorem d_R_freed_28 : decode prog_10_method_23_code 28 = .ok (.iload 4, 2) := by decide +kernel
theorem d_R_freed_30 : decode prog_10_method_23_code 30 = .ok (.if_icmp .ne 50, 3) := by decide +kernel
theorem d_R_freed_33 : decode prog_10_method_23_code 33 = .ok (.aload_n 0, 1) := by decide +kernel
theorem d_R_freed_34 : decode prog_10_method_23_code 34 = .ok (.getfield 31, 3) := by decide +kernel
theorem d_R_freed_37 : decode prog_10_method_23_code 37 = .ok (.iload 6, 2) := by decide +kernel
theorem d_R_freed_39 : decode prog_10_method_23_code 39 = .ok (.iaload, 1) := by decide +kernel
theorem d_R_freed_40 : decode prog_10_method_23_code 40 = .ok (.iload_n 3, 1) := by decide +kernel
theorem d_R_freed_41 : decode prog_10_method_23_code 41 = .ok (.if_icmp .ne 39, 3) := by decide +kernel
theorem d_R_freed_44 : decode prog_10_method_23_code 44 = .ok (.aload_n 0, 1) := by decide +kernel
theorem d_R_freed_45 : decode prog_10_method_23_code 45 = .ok (.getfield 16, 3) := by decide +kernel
theorem d_R_freed_48 : decode prog_10_method_23_code 48 = .ok (.iconst 4, 1) := by decide +kernel
theorem d_R_freed_49 : decode prog_10_method_23_code 49 = .ok (.iload_n 1, 1) := by decide +kernel
theorem d_R_freed_50 : decode prog_10_method_23_code 50 = .ok (.imul, 1) := by decide +kernel
theorem d_R_freed_51 : decode prog_10_method_23_code 51 = .ok (.iload_n 2, 1) := by decide +kernel
theorem d_R_freed_52 : decode prog_10_method_23_code 52 = .ok (.iadd, 1) := by decide +kernel
theorem d_R_freed_53 : decode prog_10_method_23_code 53 = .ok (.aload_n 0, 1) := by decide +kernel
theorem d_R_freed_54 : decode prog_10_method_23_code 54 = .ok (.iload_n 1, 1) := by decide +kernel
theorem d_R_freed_55 : decode prog_10_method_23_code 55 = .ok (.iload_n 2, 1) := by decide +kernel
theorem d_R_freed_56 : decode prog_10_method_23_code 56 = .ok (.invokevirtual 132, 3) := by decide +kernel
theorem d_R_freed_59 : decode prog_10_method_23_code 59 = .ok (.ifCond .eq 10, 3) := by decide +kernel
theorem d_R_freed_62 : decode prog_10_method_23_code 62 = .ok (.aload_n 0, 1) := by decide +kernel
theorem d_R_freed_63 : decode prog_10_method_23_code 63 = .ok (.getfield 122, 3) := by decide +kernel
theorem d_R_freed_66 : decode prog_10_method_23_code 66 = .ok (.goto 13, 3) := by decide +kernel
theorem d_R_freed_69 : decode prog_10_method_23_code 69 = .ok (.aload_n 0, 1) := by decide +kernel
theorem d_R_freed_70 : decode prog_10_method_23_code 70 = .ok (.getfield 16, 3) := by decide +kernel
theorem d_R_freed_73 : decode prog_10_method_23_code 73 = .ok (.iconst 4, 1) := by decide +kernel
theorem d_R_freed_74 : decode prog_10_method_23_code 74 = .ok (.iload_n 1, 1) := by decide +kernel
theorem d_R_freed_75 : decode prog_10_method_23_code 75 = .ok (.imul, 1) := by decide +kernel
theorem d_R_freed_76 : decode prog_10_method_23_code 76 = .ok (.iload_n 2, 1) := by decide +kernel
theorem d_R_freed_77 : decode prog_10_method_23_code 77 = .ok (.iadd, 1) := by decide +kernel
theorem d_R_freed_78 : decode prog_10_method_23_code 78 = .ok (.iaload, 1) := by decide +kernel
theorem d_R_freed_79 : decode prog_10_method_23_code 79 = .ok (.iastore, 1) := by decide +kernel
theorem d_R_freed_80 : decode prog_10_method_23_code 80 = .ok (.return_, 1) := by decide +kernel
theorem d_R_isFree_0 : decode prog_10_method_24_code 0 = .ok (.aload_n 0, 1) := by decide +kernel
theorem d_R_isFree_1 : decode prog_10_method_24_code 1 = .ok (.getfield 139, 3) := by decide +kernel
theorem d_R_isFree_4 : decode prog_10_method_24_code 4 = .ok (.aload_n 0, 1) := by decide +kernel
theorem d_R_isFree_5 : decode prog_10_method_24_code 5 = .ok (.getfield 122, 3) := by decide +kernel
theorem d_R_isFree_8 : decode prog_10_method_24_code 8 = .ok (.if_icmp .gt 7, 3) := by decide +kernel
theorem d_R_isFree_11 : decode prog_10_method_24_code 11 = .ok (.iconst 1, 1) := by decide +kernel
theorem d_R_isFree_12 : decode prog_10_method_24_code 12 = .ok (.goto 4, 3) := by decide +kernel
theorem d_R_isFree_15 : decode prog_10_method_24_code 15 = .ok (.iconst 0, 1) := by decide +kernel
theorem d_R_isFree_16 : decode prog_10_method_24_code 16 = .ok (.istore_n 2, 1) := by decide +kernel
theorem d_R_isFree_17 : decode prog_10_method_24_code 17 = .ok (.iconst 0, 1) := by decide +kernel
theorem d_R_isFree_18 : decode prog_10_method_24_code 18 = .ok (.istore_n 3, 1) := by decide +kernel
theorem d_R_isFree_19 : decode prog_10_method_24_code 19 = .ok (.iload_n 3, 1) := by decide +kernel
theorem d_R_isFree_20 : decode prog_10_method_24_code 20 = .ok (.aload_n 0, 1) := by decide +kernel
theorem d_R_isFree_21 : decode prog_10_method_24_code 21 = .ok (.getfield 83, 3) := by decide +kernel
theorem d_R_isFree_24 : decode prog_10_method_24_code 24 = .ok (.if_icmp .ge 28, 3) := by decide +kernel
theorem d_R_isFree_27 : decode prog_10_method_24_code 27 = .ok (.iload_n 2, 1) := by decide +kernel
theorem d_R_isFree_28 : decode prog_10_method_24_code 28 = .ok (.ifCond .eq 16, 3) := by decide +kernel
theorem d_R_isFree_31 : decode prog_10_method_24_code 31 = .ok (.aload_n 0, 1) := by decide +kernel
theorem d_R_isFree_32 : decode prog_10_method_24_code 32 = .ok (.iload_n 3, 1) := by decide +kernel
theorem d_R_isFree_33 : decode prog_10_method_24_code 33 = .ok (.iload_n 1, 1) := by decide +kernel
theorem d_R_isFree_34 : decode prog_10_method_24_code 34 = .ok (.invokevirtual 132, 3) := by decide +kernel
theorem d_R_isFree_37 : decode prog_10_method_24_code 37 = .ok (.ifCond .ne 7, 3) := by decide +kernel
theorem d_R_isFree_40 : decode prog_10_method_24_code 40 = .ok (.iconst 1, 1) := by decide +kernel
theorem d_R_isFree_41 : decode prog_10_method_24_code 41 = .ok (.goto 4, 3) := by decide +kernel
theorem d_R_isFree_44 : decode prog_10_method_24_code 44 = .ok (.iconst 0, 1) := by decide +kernel
theorem d_R_isFree_45 : decode prog_10_method_24_code 45 = .ok (.istore_n 2, 1) := by decide +kernel
theorem d_R_isFree_46 : decode prog_10_method_24_code 46 = .ok (.iinc 3 1, 3) := by decide +kernel
theorem d_R_isFree_49 : decode prog_10_method_24_code 49 = .ok (.goto (-30), 3) := by decide +kernel
theorem d_R_isFree_52 : decode prog_10_method_24_code 52 = .ok (.iload_n 2, 1) := by decide +kernel
theorem d_R_isFree_53 : decode prog_10_method_24_code 53 = .ok (.ireturn, 1) := by decide +kernel
theorem d_R_store_0 : decode prog_10_method_25_code 0 = .ok (.aload_n 0, 1) := by decide +kernel
theorem d_R_store_1 : decode prog_10_method_25_code 1 = .ok (.getfield 25, 3) := by decide +kernel
theorem d_R_store_4 : decode prog_10_method_25_code 4 = .ok (.iload_n 1, 1) := by decide +kernel
theorem d_R_store_5 : decode prog_10_method_25_code 5 = .ok (.iaload, 1) := by decide +kernel
theorem d_R_store_6 : decode prog_10_method_25_code 6 = .ok (.istore_n 2, 1) := by decide +kernel
theorem d_R_store_7 : decode prog_10_method_25_code 7 = .ok (.aload_n 0, 1) := by decide +kernel
theorem d_R_store_8 : decode prog_10_method_25_code 8 = .ok (.getfield 28, 3) := by decide +kernel
theorem d_R_store_11 : decode prog_10_method_25_code 11 = .ok (.iload_n 1, 1) := by decide +kernel
theorem d_R_store_12 : decode prog_10_method_25_code 12 = .ok (.iaload, 1) := by decide +kernel
theorem d_R_store_13 : decode prog_10_method_25_code 13 = .ok (.istore_n 3, 1) := by decide +kernel
theorem d_R_store_14 : decode prog_10_method_25_code 14 = .ok (.aload_n 0, 1) := by decide +kernel
theorem d_R_store_15 : decode prog_10_method_25_code 15 = .ok (.getfield 31, 3) := by decide +kernel
theorem d_R_store_18 : decode prog_10_method_25_code 18 = .ok (.iload_n 1, 1) := by decide +kernel
theorem d_R_store_19 : decode prog_10_method_25_code 19 = .ok (.iaload, 1) := by decide +kernel
theorem d_R_store_20 : decode prog_10_method_25_code 20 = .ok (.istore 4, 2) := by decide +kernel
theorem d_R_store_22 : decode prog_10_method_25_code 22 = .ok (.aload_n 0, 1) := by decide +kernel
theorem d_R_store_23 : decode prog_10_method_25_code 23 = .ok (.getfield 7, 3) := by decide +kernel
theorem d_R_store_26 : decode prog_10_method_25_code 26 = .ok (.iload_n 3, 1) := by decide +kernel
theorem d_R_store_27 : decode prog_10_method_25_code 27 = .ok (.aload_n 0, 1) := by decide +kernel
theorem d_R_store_28 : decode prog_10_method_25_code 28 = .ok (.getfield 34, 3) := by decide +kernel
theorem d_R_store_31 : decode prog_10_method_25_code 31 = .ok (.iload_n 1, 1) := by decide +kernel
theorem d_R_store_32 : decode prog_10_method_25_code 32 = .ok (.iaload, 1) := by decide +kernel
theorem d_R_store_33 : decode prog_10_method_25_code 33 = .ok (.iastore, 1) := by decide +kernel
theorem d_R_store_34 : decode prog_10_method_25_code 34 = .ok (.aload_n 0, 1) := by decide +kernel
theorem d_R_store_35 : decode prog_10_method_25_code 35 = .ok (.getfield 13, 3) := by decide +kernel
theorem d_R_store_38 : decode prog_10_method_25_code 38 = .ok (.iload_n 3, 1) := by decide +kernel
theorem d_R_store_39 : decode prog_10_method_25_code 39 = .ok (.dup2, 1) := by decide +kernel
theorem d_R_store_40 : decode prog_10_method_25_code 40 = .ok (.iaload, 1) := by decide +kernel
theorem d_R_store_41 : decode prog_10_method_25_code 41 = .ok (.iconst 1, 1) := by decide +kernel
theorem d_R_store_42 : decode prog_10_method_25_code 42 = .ok (.iadd, 1) := by decide +kernel
theorem d_R_store_43 : decode prog_10_method_25_code 43 = .ok (.iastore, 1) := by decide +kernel
theorem d_R_store_44 : decode prog_10_method_25_code 44 = .ok (.iload 4, 2) := by decide +kernel
theorem d_R_store_46 : decode prog_10_method_25_code 46 = .ok (.aload_n 0, 1) := by decide +kernel
theorem d_R_store_47 : decode prog_10_method_25_code 47 = .ok (.getfield 19, 3) := by decide +kernel
theorem d_R_store_50 : decode prog_10_method_25_code 50 = .ok (.iload_n 2, 1) := by decide +kernel
theorem d_R_store_51 : decode prog_10_method_25_code 51 = .ok (.iaload, 1) := by decide +kernel
theorem d_R_store_52 : decode prog_10_method_25_code 52 = .ok (.if_icmp .le 23, 3) := by decide +kernel
theorem d_R_store_55 : decode prog_10_method_25_code 55 = .ok (.aload_n 0, 1) := by decide +kernel
theorem d_R_store_56 : decode prog_10_method_25_code 56 = .ok (.getfield 19, 3) := by decide +kernel
theorem d_R_store_59 : decode prog_10_method_25_code 59 = .ok (.iload_n 2, 1) := by decide +kernel
theorem d_R_store_60 : decode prog_10_method_25_code 60 = .ok (.iload 4, 2) := by decide +kernel
theorem d_R_store_62 : decode prog_10_method_25_code 62 = .ok (.iastore, 1) := by decide +kernel
theorem d_R_store_63 : decode prog_10_method_25_code 63 = .ok (.aload_n 0, 1) := by decide +kernel
theorem d_R_store_64 : decode prog_10_method_25_code 64 = .ok (.getfield 22, 3) := by decide +kernel
theorem d_R_store_67 : decode prog_10_method_25_code 67 = .ok (.iload_n 2, 1) := by decide +kernel
theorem d_R_store_68 : decode prog_10_method_25_code 68 = .ok (.aload_n 0, 1) := by decide +kernel
theorem d_R_store_69 : decode prog_10_method_25_code 69 = .ok (.getfield 13, 3) := by decide +kernel
theorem d_R_store_72 : decode prog_10_method_25_code 72 = .ok (.iload_n 3, 1) := by decide +kernel
theorem d_R_store_73 : decode prog_10_method_25_code 73 = .ok (.iaload, 1) := by decide +kernel
theorem d_R_store_74 : decode prog_10_method_25_code 74 = .ok (.iastore, 1) := by decide +kernel
theorem d_R_store_75 : decode prog_10_method_25_code 75 = .ok (.aload_n 0, 1) := by decide +kernel
theorem d_R_store_76 : decode prog_10_method_25_code 76 = .ok (.dup, 1) := by decide +kernel
theorem d_R_store_77 : decode prog_10_method_25_code 77 = .ok (.getfield 125, 3) := by decide +kernel
theorem d_R_store_80 : decode prog_10_method_25_code 80 = .ok (.iconst 1, 1) := by decide +kernel
theorem d_R_store_81 : decode prog_10_method_25_code 81 = .ok (.isub, 1) := by decide +kernel
theorem d_R_store_82 : decode prog_10_method_25_code 82 = .ok (.putfield 125, 3) := by decide +kernel
theorem d_R_store_85 : decode prog_10_method_25_code 85 = .ok (.iload_n 1, 1) := by decide +kernel
theorem d_R_store_86 : decode prog_10_method_25_code 86 = .ok (.istore 5, 2) := by decide +kernel
theorem d_R_store_88 : decode prog_10_method_25_code 88 = .ok (.iload 5, 2) := by decide +kernel
theorem d_R_store_90 : decode prog_10_method_25_code 90 = .ok (.aload_n 0, 1) := by decide +kernel
theorem d_R_store_91 : decode prog_10_method_25_code 91 = .ok (.getfield 125, 3) := by decide +kernel
theorem d_R_store_94 : decode prog_10_method_25_code 94 = .ok (.if_icmp .ge 73, 3) := by decide +kernel
theorem d_R_store_97 : decode prog_10_method_25_code 97 = .ok (.aload_n 0, 1) := by decide +kernel
theorem d_R_store_98 : decode prog_10_method_25_code 98 = .ok (.getfield 25, 3) := by decide +kernel
theorem d_R_store_101 : decode prog_10_method_25_code 101 = .ok (.iload 5, 2) := by decide +kernel
theorem d_R_store_103 : decode prog_10_method_25_code 103 = .ok (.aload_n 0, 1) := by decide +kernel
theorem d_R_store_104 : decode prog_10_method_25_code 104 = .ok (.getfield 25, 3) := by decide +kernel
theorem d_R_store_107 : decode prog_10_method_25_code 107 = .ok (.iload 5, 2) := by decide +kernel
theorem d_R_store_109 : decode prog_10_method_25_code 109 = .ok (.iconst 1, 1) := by decide +kernel
theorem d_R_store_110 : decode prog_10_method_25_code 110 = .ok (.iadd, 1) := by decide +kernel
theorem d_R_store_111 : decode prog_10_method_25_code 111 = .ok (.iaload, 1) := by decide +kernel
theorem d_R_store_112 : decode prog_10_method_25_code 112 = .ok (.iastore, 1) := by decide +kernel
theorem d_R_store_113 : decode prog_10_method_25_code 113 = .ok (.aload_n 0, 1) := by decide +kernel
theorem d_R_store_114 : decode prog_10_method_25_code 114 = .ok (.getfield 28, 3) := by decide +kernel
theorem d_R_store_117 : decode prog_10_method_25_code 117 = .ok (.iload 5, 2) := by decide +kernel
theorem d_R_store_119 : decode prog_10_method_25_code 119 = .ok (.aload_n 0, 1) := by decide +kernel
theorem d_R_store_120 : decode prog_10_method_25_code 120 = .ok (.getfield 28, 3) := by decide +kernel
theorem d_R_store_123 : decode prog_10_method_25_code 123 = .ok (.iload 5, 2) := by decide +kernel
theorem d_R_store_125 : decode prog_10_method_25_code 125 = .ok (.iconst 1, 1) := by decide +kernel
theorem d_R_store_126 : decode prog_10_method_25_code 126 = .ok (.iadd, 1) := by decide +kernel
theorem d_R_store_127 : decode prog_10_method_25_code 127 = .ok (.iaload, 1) := by decide +kernel
theorem d_R_store_128 : decode prog_10_method_25_code 128 = .ok (.iastore, 1) := by decide +kernel
theorem d_R_store_129 : decode prog_10_method_25_code 129 = .ok (.aload_n 0, 1) := by decide +kernel
theorem d_R_store_130 : decode prog_10_method_25_code 130 = .ok (.getfield 31, 3) := by decide +kernel
theorem d_R_store_133 : decode prog_10_method_25_code 133 = .ok (.iload 5, 2) := by decide +kernel
theorem d_R_store_135 : decode prog_10_method_25_code 135 = .ok (.aload_n 0, 1) := by decide +kernel
theorem d_R_store_136 : decode prog_10_method_25_code 136 = .ok (.getfield 31, 3) := by decide +kernel
theorem d_R_store_139 : decode prog_10_method_25_code 139 = .ok (.iload 5, 2) := by decide +kernel
theorem d_R_store_141 : decode prog_10_method_25_code 141 = .ok (.iconst 1, 1) := by decide +kernel
theorem d_R_store_142 : decode prog_10_method_25_code 142 = .ok (.iadd, 1) := by decide +kernel
theorem d_R_store_143 : decode prog_10_method_25_code 143 = .ok (.iaload, 1) := by decide +kernel
theorem d_R_store_144 : decode prog_10_method_25_code 144 = .ok (.iastore, 1) := by decide +kernel
theorem d_R_store_145 : decode prog_10_method_25_code 145 = .ok (.aload_n 0, 1) := by decide +kernel
theorem d_R_store_146 : decode prog_10_method_25_code 146 = .ok (.getfield 34, 3) := by decide +kernel
theorem d_R_store_149 : decode prog_10_method_25_code 149 = .ok (.iload 5, 2) := by decide +kernel
theorem d_R_store_151 : decode prog_10_method_25_code 151 = .ok (.aload_n 0, 1) := by decide +kernel
theorem d_R_store_152 : decode prog_10_method_25_code 152 = .ok (.getfield 34, 3) := by decide +kernel
theorem d_R_store_155 : decode prog_10_method_25_code 155 = .ok (.iload 5, 2) := by decide +kernel
theorem d_R_store_157 : decode prog_10_method_25_code 157 = .ok (.iconst 1, 1) := by decide +kernel
theorem d_R_store_158 : decode prog_10_method_25_code 158 = .ok (.iadd, 1) := by decide +kernel
theorem d_R_store_159 : decode prog_10_method_25_code 159 = .ok (.iaload, 1) := by decide +kernel
theorem d_R_store_160 : decode prog_10_method_25_code 160 = .ok (.iastore, 1) := by decide +kernel
theorem d_R_store_161 : decode prog_10_method_25_code 161 = .ok (.iinc 5 1, 3) := by decide +kernel
theorem d_R_store_164 : decode prog_10_method_25_code 164 = .ok (.goto (-76), 3) := by decide +kernel
theorem d_R_store_167 : decode prog_10_method_25_code 167 = .ok (.aload_n 0, 1) := by decide +kernel
theorem d_R_store_168 : decode prog_10_method_25_code 168 = .ok (.iconst 3, 1) := by decide +kernel
theorem d_R_store_169 : decode prog_10_method_25_code 169 = .ok (.iload_n 2, 1) := by decide +kernel
theorem d_R_store_170 : decode prog_10_method_25_code 170 = .ok (.iload_n 3, 1) := by decide +kernel
theorem d_R_store_171 : decode prog_10_method_25_code 171 = .ok (.iload 4, 2) := by decide +kernel
theorem d_R_store_173 : decode prog_10_method_25_code 173 = .ok (.aload_n 0, 1) := by decide +kernel
theorem d_R_store_174 : decode prog_10_method_25_code 174 = .ok (.getfield 13, 3) := by decide +kernel
theorem d_R_store_177 : decode prog_10_method_25_code 177 = .ok (.iload_n 3, 1) := by decide +kernel
theorem d_R_store_178 : decode prog_10_method_25_code 178 = .ok (.iaload, 1) := by decide +kernel
theorem d_R_store_179 : decode prog_10_method_25_code 179 = .ok (.iconst 0, 1) := by decide +kernel
theorem d_R_store_180 : decode prog_10_method_25_code 180 = .ok (.iconst 0, 1) := by decide +kernel
theorem d_R_store_181 : decode prog_10_method_25_code 181 = .ok (.invokevirtual 99, 3) := by decide +kernel
theorem d_R_store_184 : decode prog_10_method_25_code 184 = .ok (.return_, 1) := by decide +kernel
theorem d_R_storeAll_0 : decode prog_10_method_26_code 0 = .ok (.iconst 0, 1) := by decide +kernel
theorem d_R_storeAll_1 : decode prog_10_method_26_code 1 = .ok (.istore_n 1, 1) := by decide +kernel
theorem d_R_storeAll_2 : decode prog_10_method_26_code 2 = .ok (.iconst 0, 1) := by decide +kernel
theorem d_R_storeAll_3 : decode prog_10_method_26_code 3 = .ok (.istore_n 2, 1) := by decide +kernel
theorem d_R_storeAll_4 : decode prog_10_method_26_code 4 = .ok (.iload_n 2, 1) := by decide +kernel
theorem d_R_storeAll_5 : decode prog_10_method_26_code 5 = .ok (.aload_n 0, 1) := by decide +kernel
theorem d_R_storeAll_6 : decode prog_10_method_26_code 6 = .ok (.getfield 87, 3) := by decide +kernel
theorem d_R_storeAll_9 : decode prog_10_method_26_code 9 = .ok (.if_icmp .ge 44, 3) := by decide +kernel
theorem d_R_storeAll_12 : decode prog_10_method_26_code 12 = .ok (.aload_n 0, 1) := by decide +kernel
theorem d_R_storeAll_13 : decode prog_10_method_26_code 13 = .ok (.iload_n 2, 1) := by decide +kernel
theorem d_R_storeAll_14 : decode prog_10_method_26_code 14 = .ok (.invokevirtual 128, 3) := by decide +kernel
theorem d_R_storeAll_17 : decode prog_10_method_26_code 17 = .ok (.istore_n 3, 1) := by decide +kernel
theorem d_R_storeAll_18 : decode prog_10_method_26_code 18 = .ok (.iload_n 3, 1) := by decide +kernel
theorem d_R_storeAll_19 : decode prog_10_method_26_code 19 = .ok (.ifCond .lt 28, 3) := by decide +kernel
theorem d_R_storeAll_22 : decode prog_10_method_26_code 22 = .ok (.aload_n 0, 1) := by decide +kernel
theorem d_R_storeAll_23 : decode prog_10_method_26_code 23 = .ok (.iload_n 2, 1) := by decide +kernel
theorem d_R_storeAll_24 : decode prog_10_method_26_code 24 = .ok (.invokevirtual 142, 3) := by decide +kernel
theorem d_R_storeAll_27 : decode prog_10_method_26_code 27 = .ok (.ifCond .eq 20, 3) := by decide +kernel
theorem d_R_storeAll_30 : decode prog_10_method_26_code 30 = .ok (.aload_n 0, 1) := by decide +kernel
theorem d_R_storeAll_31 : decode prog_10_method_26_code 31 = .ok (.iload_n 3, 1) := by decide +kernel
theorem d_R_storeAll_32 : decode prog_10_method_26_code 32 = .ok (.invokevirtual 145, 3) := by decide +kernel
theorem d_R_storeAll_35 : decode prog_10_method_26_code 35 = .ok (.iinc 1 1, 3) := by decide +kernel
theorem d_R_storeAll_38 : decode prog_10_method_26_code 38 = .ok (.aload_n 0, 1) := by decide +kernel
theorem d_R_storeAll_39 : decode prog_10_method_26_code 39 = .ok (.iload_n 2, 1) := by decide +kernel
theorem d_R_storeAll_40 : decode prog_10_method_26_code 40 = .ok (.invokevirtual 128, 3) := by decide +kernel
theorem d_R_storeAll_43 : decode prog_10_method_26_code 43 = .ok (.istore_n 3, 1) := by decide +kernel
theorem d_R_storeAll_44 : decode prog_10_method_26_code 44 = .ok (.goto (-26), 3) := by decide +kernel
theorem d_R_storeAll_47 : decode prog_10_method_26_code 47 = .ok (.iinc 2 1, 3) := by decide +kernel
theorem d_R_storeAll_50 : decode prog_10_method_26_code 50 = .ok (.goto (-46), 3) := by decide +kernel
theorem d_R_storeAll_53 : decode prog_10_method_26_code 53 = .ok (.iload_n 1, 1) := by decide +kernel
theorem d_R_storeAll_54 : decode prog_10_method_26_code 54 = .ok (.ireturn, 1) := by decide +kernel
theorem d_R_deliver_0 : decode prog_10_method_27_code 0 = .ok (.aload_n 0, 1) := by decide +kernel
theorem d_R_deliver_1 : decode prog_10_method_27_code 1 = .ok (.iload_n 1, 1) := by decide +kernel
theorem d_R_deliver_2 : decode prog_10_method_27_code 2 = .ok (.invokevirtual 148, 3) := by decide +kernel
theorem d_R_deliver_5 : decode prog_10_method_27_code 5 = .ok (.ifCond .ne 5, 3) := by decide +kernel
theorem d_R_deliver_8 : decode prog_10_method_27_code 8 = .ok (.iconst (-1), 1) := by decide +kernel
theorem d_R_deliver_9 : decode prog_10_method_27_code 9 = .ok (.ireturn, 1) := by decide +kernel
theorem d_R_deliver_10 : decode prog_10_method_27_code 10 = .ok (.bipush 7, 2) := by decide +kernel
theorem d_R_deliver_12 : decode prog_10_method_27_code 12 = .ok (.iload_n 1, 1) := by decide +kernel
theorem d_R_deliver_13 : decode prog_10_method_27_code 13 = .ok (.imul, 1) := by decide +kernel
theorem d_R_deliver_14 : decode prog_10_method_27_code 14 = .ok (.istore_n 2, 1) := by decide +kernel
theorem d_R_deliver_15 : decode prog_10_method_27_code 15 = .ok (.aload_n 0, 1) := by decide +kernel
theorem d_R_deliver_16 : decode prog_10_method_27_code 16 = .ok (.getfield 80, 3) := by decide +kernel
theorem d_R_deliver_19 : decode prog_10_method_27_code 19 = .ok (.iload_n 2, 1) := by decide +kernel
theorem d_R_deliver_20 : decode prog_10_method_27_code 20 = .ok (.iaload, 1) := by decide +kernel
theorem d_R_deliver_21 : decode prog_10_method_27_code 21 = .ok (.istore_n 3, 1) := by decide +kernel
theorem d_R_deliver_22 : decode prog_10_method_27_code 22 = .ok (.aload_n 0, 1) := by decide +kernel
theorem d_R_deliver_23 : decode prog_10_method_27_code 23 = .ok (.getfield 80, 3) := by decide +kernel
theorem d_R_deliver_26 : decode prog_10_method_27_code 26 = .ok (.iload_n 2, 1) := by decide +kernel
theorem d_R_deliver_27 : decode prog_10_method_27_code 27 = .ok (.iconst 1, 1) := by decide +kernel
theorem d_R_deliver_28 : decode prog_10_method_27_code 28 = .ok (.iadd, 1) := by decide +kernel
theorem d_R_deliver_29 : decode prog_10_method_27_code 29 = .ok (.iaload, 1) := by decide +kernel
theorem d_R_deliver_30 : decode prog_10_method_27_code 30 = .ok (.istore 4, 2) := by decide +kernel
theorem d_R_deliver_32 : decode prog_10_method_27_code 32 = .ok (.aload_n 0, 1) := by decide +kernel
theorem d_R_deliver_33 : decode prog_10_method_27_code 33 = .ok (.getfield 80, 3) := by decide +kernel
theorem d_R_deliver_36 : decode prog_10_method_27_code 36 = .ok (.iload_n 2, 1) := by decide +kernel
theorem d_R_deliver_37 : decode prog_10_method_27_code 37 = .ok (.iconst 2, 1) := by decide +kernel
theorem d_R_deliver_38 : decode prog_10_method_27_code 38 = .ok (.iadd, 1) := by decide +kernel
theorem d_R_deliver_39 : decode prog_10_method_27_code 39 = .ok (.iaload, 1) := by decide +kernel
theorem d_R_deliver_40 : decode prog_10_method_27_code 40 = .ok (.istore 5, 2) := by decide +kernel
theorem d_R_deliver_42 : decode prog_10_method_27_code 42 = .ok (.aload_n 0, 1) := by decide +kernel
theorem d_R_deliver_43 : decode prog_10_method_27_code 43 = .ok (.getfield 80, 3) := by decide +kernel
theorem d_R_deliver_46 : decode prog_10_method_27_code 46 = .ok (.iload_n 2, 1) := by decide +kernel
theorem d_R_deliver_47 : decode prog_10_method_27_code 47 = .ok (.iconst 3, 1) := by decide +kernel
theorem d_R_deliver_48 : decode prog_10_method_27_code 48 = .ok (.iadd, 1) := by decide +kernel
theorem d_R_deliver_49 : decode prog_10_method_27_code 49 = .ok (.iaload, 1) := by decide +kernel
theorem d_R_deliver_50 : decode prog_10_method_27_code 50 = .ok (.istore 6, 2) := by decide +kernel
theorem d_R_deliver_52 : decode prog_10_method_27_code 52 = .ok (.aload_n 0, 1) := by decide +kernel
theorem d_R_deliver_53 : decode prog_10_method_27_code 53 = .ok (.getfield 80, 3) := by decide +kernel
theorem d_R_deliver_56 : decode prog_10_method_27_code 56 = .ok (.iload_n 2, 1) := by decide +kernel
theorem d_R_deliver_57 : decode prog_10_method_27_code 57 = .ok (.iconst 4, 1) := by decide +kernel
theorem d_R_deliver_58 : decode prog_10_method_27_code 58 = .ok (.iadd, 1) := by decide +kernel
theorem d_R_deliver_59 : decode prog_10_method_27_code 59 = .ok (.iaload, 1) := by decide +kernel
theorem d_R_deliver_60 : decode prog_10_method_27_code 60 = .ok (.istore 7, 2) := by decide +kernel
theorem d_R_deliver_62 : decode prog_10_method_27_code 62 = .ok (.aload_n 0, 1) := by decide +kernel
theorem d_R_deliver_63 : decode prog_10_method_27_code 63 = .ok (.getfield 80, 3) := by decide +kernel
theorem d_R_deliver_66 : decode prog_10_method_27_code 66 = .ok (.iload_n 2, 1) := by decide +kernel
theorem d_R_deliver_67 : decode prog_10_method_27_code 67 = .ok (.iconst 5, 1) := by decide +kernel
theorem d_R_deliver_68 : decode prog_10_method_27_code 68 = .ok (.iadd, 1) := by decide +kernel
theorem d_R_deliver_69 : decode prog_10_method_27_code 69 = .ok (.iaload, 1) := by decide +kernel
theorem d_R_deliver_70 : decode prog_10_method_27_code 70 = .ok (.istore 8, 2) := by decide +kernel
theorem d_R_deliver_72 : decode prog_10_method_27_code 72 = .ok (.aload_n 0, 1) := by decide +kernel
theorem d_R_deliver_73 : decode prog_10_method_27_code 73 = .ok (.getfield 80, 3) := by decide +kernel
theorem d_R_deliver_76 : decode prog_10_method_27_code 76 = .ok (.iload_n 2, 1) := by decide +kernel
theorem d_R_deliver_77 : decode prog_10_method_27_code 77 = .ok (.bipush 6, 2) := by decide +kernel
theorem d_R_deliver_79 : decode prog_10_method_27_code 79 = .ok (.iadd, 1) := by decide +kernel
theorem d_R_deliver_80 : decode prog_10_method_27_code 80 = .ok (.iaload, 1) := by decide +kernel
theorem d_R_deliver_81 : decode prog_10_method_27_code 81 = .ok (.istore 9, 2) := by decide +kernel
theorem d_R_deliver_83 : decode prog_10_method_27_code 83 = .ok (.aload_n 0, 1) := by decide +kernel
theorem d_R_deliver_84 : decode prog_10_method_27_code 84 = .ok (.iload_n 1, 1) := by decide +kernel
theorem d_R_deliver_85 : decode prog_10_method_27_code 85 = .ok (.invokevirtual 151, 3) := by decide +kernel
theorem d_R_deliver_88 : decode prog_10_method_27_code 88 = .ok (.iload_n 3, 1) := by decide +kernel
theorem d_R_deliver_89 : decode prog_10_method_27_code 89 = .ok (.iconst 2, 1) := by decide +kernel
theorem d_R_deliver_90 : decode prog_10_method_27_code 90 = .ok (.if_icmp .ne 21, 3) := by decide +kernel
theorem d_R_deliver_93 : decode prog_10_method_27_code 93 = .ok (.aload_n 0, 1) := by decide +kernel
theorem d_R_deliver_94 : decode prog_10_method_27_code 94 = .ok (.iload 4, 2) := by decide +kernel
theorem d_R_deliver_96 : decode prog_10_method_27_code 96 = .ok (.iload 5, 2) := by decide +kernel
theorem d_R_deliver_98 : decode prog_10_method_27_code 98 = .ok (.iload 6, 2) := by decide +kernel
theorem d_R_deliver_100 : decode prog_10_method_27_code 100 = .ok (.iload 7, 2) := by decide +kernel
theorem d_R_deliver_102 : decode prog_10_method_27_code 102 = .ok (.iload 8, 2) := by decide +kernel
theorem d_R_deliver_104 : decode prog_10_method_27_code 104 = .ok (.iload 9, 2) := by decide +kernel
theorem d_R_deliver_106 : decode prog_10_method_27_code 106 = .ok (.invokevirtual 154, 3) := by decide +kernel
theorem d_R_deliver_109 : decode prog_10_method_27_code 109 = .ok (.iload_n 3, 1) := by decide +kernel
theorem d_R_deliver_110 : decode prog_10_method_27_code 110 = .ok (.ireturn, 1) := by decide +kernel
theorem d_R_deliver_111 : decode prog_10_method_27_code 111 = .ok (.iload_n 3, 1) := by decide +kernel
theorem d_R_deliver_112 : decode prog_10_method_27_code 112 = .ok (.iconst 3, 1) := by decide +kernel
theorem d_R_deliver_113 : decode prog_10_method_27_code 113 = .ok (.if_icmp .ne 15, 3) := by decide +kernel
theorem d_R_deliver_116 : decode prog_10_method_27_code 116 = .ok (.aload_n 0, 1) := by decide +kernel
theorem d_R_deliver_117 : decode prog_10_method_27_code 117 = .ok (.iload 4, 2) := by decide +kernel
theorem d_R_deliver_119 : decode prog_10_method_27_code 119 = .ok (.iload 6, 2) := by decide +kernel
theorem d_R_deliver_121 : decode prog_10_method_27_code 121 = .ok (.iload 7, 2) := by decide +kernel
theorem d_R_deliver_123 : decode prog_10_method_27_code 123 = .ok (.invokevirtual 158, 3) := by decide +kernel
theorem d_R_deliver_126 : decode prog_10_method_27_code 126 = .ok (.iload_n 3, 1) := by decide +kernel
theorem d_R_deliver_127 : decode prog_10_method_27_code 127 = .ok (.ireturn, 1) := by decide +kernel
theorem d_R_deliver_128 : decode prog_10_method_27_code 128 = .ok (.iload_n 3, 1) := by decide +kernel
theorem d_R_deliver_129 : decode prog_10_method_27_code 129 = .ok (.iconst 4, 1) := by decide +kernel
theorem d_R_deliver_130 : decode prog_10_method_27_code 130 = .ok (.if_icmp .ne 19, 3) := by decide +kernel
theorem d_R_deliver_133 : decode prog_10_method_27_code 133 = .ok (.aload_n 0, 1) := by decide +kernel
theorem d_R_deliver_134 : decode prog_10_method_27_code 134 = .ok (.iload 4, 2) := by decide +kernel
theorem d_R_deliver_136 : decode prog_10_method_27_code 136 = .ok (.iload 5, 2) := by decide +kernel
theorem d_R_deliver_138 : decode prog_10_method_27_code 138 = .ok (.iload 6, 2) := by decide +kernel
theorem d_R_deliver_140 : decode prog_10_method_27_code 140 = .ok (.iload 7, 2) := by decide +kernel
theorem d_R_deliver_142 : decode prog_10_method_27_code 142 = .ok (.iload 8, 2) := by decide +kernel
theorem d_R_deliver_144 : decode prog_10_method_27_code 144 = .ok (.invokevirtual 161, 3) := by decide +kernel
