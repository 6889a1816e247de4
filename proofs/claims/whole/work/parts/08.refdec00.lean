theorem d_R_init_0 : decode prog_10_method_1_code 0 = .ok (.aload_n 0, 1) := by decide +kernel
theorem d_R_init_1 : decode prog_10_method_1_code 1 = .ok (.invokespecial 1, 3) := by decide +kernel
theorem d_R_init_4 : decode prog_10_method_1_code 4 = .ok (.aload_n 0, 1) := by decide +kernel
theorem d_R_init_5 : decode prog_10_method_1_code 5 = .ok (.iconst 4, 1) := by decide +kernel
theorem d_R_init_6 : decode prog_10_method_1_code 6 = .ok (.newarray .int, 2) := by decide +kernel
theorem d_R_init_8 : decode prog_10_method_1_code 8 = .ok (.putfield 7, 3) := by decide +kernel
theorem d_R_init_11 : decode prog_10_method_1_code 11 = .ok (.aload_n 0, 1) := by decide +kernel
theorem d_R_init_12 : decode prog_10_method_1_code 12 = .ok (.iconst 4, 1) := by decide +kernel
theorem d_R_init_13 : decode prog_10_method_1_code 13 = .ok (.newarray .int, 2) := by decide +kernel
theorem d_R_init_15 : decode prog_10_method_1_code 15 = .ok (.putfield 13, 3) := by decide +kernel
theorem d_R_init_18 : decode prog_10_method_1_code 18 = .ok (.aload_n 0, 1) := by decide +kernel
theorem d_R_init_19 : decode prog_10_method_1_code 19 = .ok (.bipush 16, 2) := by decide +kernel
theorem d_R_init_21 : decode prog_10_method_1_code 21 = .ok (.newarray .int, 2) := by decide +kernel
theorem d_R_init_23 : decode prog_10_method_1_code 23 = .ok (.putfield 16, 3) := by decide +kernel
theorem d_R_init_26 : decode prog_10_method_1_code 26 = .ok (.aload_n 0, 1) := by decide +kernel
theorem d_R_init_27 : decode prog_10_method_1_code 27 = .ok (.iconst 4, 1) := by decide +kernel
theorem d_R_init_28 : decode prog_10_method_1_code 28 = .ok (.newarray .int, 2) := by decide +kernel
theorem d_R_init_30 : decode prog_10_method_1_code 30 = .ok (.putfield 19, 3) := by decide +kernel
theorem d_R_init_33 : decode prog_10_method_1_code 33 = .ok (.aload_n 0, 1) := by decide +kernel
theorem d_R_init_34 : decode prog_10_method_1_code 34 = .ok (.iconst 4, 1) := by decide +kernel
theorem d_R_init_35 : decode prog_10_method_1_code 35 = .ok (.newarray .int, 2) := by decide +kernel
theorem d_R_init_37 : decode prog_10_method_1_code 37 = .ok (.putfield 22, 3) := by decide +kernel
theorem d_R_init_40 : decode prog_10_method_1_code 40 = .ok (.aload_n 0, 1) := by decide +kernel
theorem d_R_init_41 : decode prog_10_method_1_code 41 = .ok (.sipush 520, 3) := by decide +kernel
theorem d_R_init_44 : decode prog_10_method_1_code 44 = .ok (.newarray .int, 2) := by decide +kernel
theorem d_R_init_46 : decode prog_10_method_1_code 46 = .ok (.putfield 25, 3) := by decide +kernel
theorem d_R_init_49 : decode prog_10_method_1_code 49 = .ok (.aload_n 0, 1) := by decide +kernel
theorem d_R_init_50 : decode prog_10_method_1_code 50 = .ok (.sipush 520, 3) := by decide +kernel
theorem d_R_init_53 : decode prog_10_method_1_code 53 = .ok (.newarray .int, 2) := by decide +kernel
theorem d_R_init_55 : decode prog_10_method_1_code 55 = .ok (.putfield 28, 3) := by decide +kernel
theorem d_R_init_58 : decode prog_10_method_1_code 58 = .ok (.aload_n 0, 1) := by decide +kernel
theorem d_R_init_59 : decode prog_10_method_1_code 59 = .ok (.sipush 520, 3) := by decide +kernel
theorem d_R_init_62 : decode prog_10_method_1_code 62 = .ok (.newarray .int, 2) := by decide +kernel
theorem d_R_init_64 : decode prog_10_method_1_code 64 = .ok (.putfield 31, 3) := by decide +kernel
theorem d_R_init_67 : decode prog_10_method_1_code 67 = .ok (.aload_n 0, 1) := by decide +kernel
theorem d_R_init_68 : decode prog_10_method_1_code 68 = .ok (.sipush 520, 3) := by decide +kernel
theorem d_R_init_71 : decode prog_10_method_1_code 71 = .ok (.newarray .int, 2) := by decide +kernel
theorem d_R_init_73 : decode prog_10_method_1_code 73 = .ok (.putfield 34, 3) := by decide +kernel
theorem d_R_init_76 : decode prog_10_method_1_code 76 = .ok (.aload_n 0, 1) := by decide +kernel
theorem d_R_init_77 : decode prog_10_method_1_code 77 = .ok (.iconst 4, 1) := by decide +kernel
theorem d_R_init_78 : decode prog_10_method_1_code 78 = .ok (.newarray .int, 2) := by decide +kernel
theorem d_R_init_80 : decode prog_10_method_1_code 80 = .ok (.putfield 37, 3) := by decide +kernel
theorem d_R_init_83 : decode prog_10_method_1_code 83 = .ok (.aload_n 0, 1) := by decide +kernel
theorem d_R_init_84 : decode prog_10_method_1_code 84 = .ok (.iconst 4, 1) := by decide +kernel
theorem d_R_init_85 : decode prog_10_method_1_code 85 = .ok (.newarray .int, 2) := by decide +kernel
theorem d_R_init_87 : decode prog_10_method_1_code 87 = .ok (.putfield 40, 3) := by decide +kernel
theorem d_R_init_90 : decode prog_10_method_1_code 90 = .ok (.aload_n 0, 1) := by decide +kernel
theorem d_R_init_91 : decode prog_10_method_1_code 91 = .ok (.iconst 4, 1) := by decide +kernel
theorem d_R_init_92 : decode prog_10_method_1_code 92 = .ok (.newarray .int, 2) := by decide +kernel
theorem d_R_init_94 : decode prog_10_method_1_code 94 = .ok (.putfield 43, 3) := by decide +kernel
theorem d_R_init_97 : decode prog_10_method_1_code 97 = .ok (.aload_n 0, 1) := by decide +kernel
theorem d_R_init_98 : decode prog_10_method_1_code 98 = .ok (.iconst 4, 1) := by decide +kernel
theorem d_R_init_99 : decode prog_10_method_1_code 99 = .ok (.newarray .boolean, 2) := by decide +kernel
theorem d_R_init_101 : decode prog_10_method_1_code 101 = .ok (.putfield 46, 3) := by decide +kernel
theorem d_R_init_104 : decode prog_10_method_1_code 104 = .ok (.aload_n 0, 1) := by decide +kernel
theorem d_R_init_105 : decode prog_10_method_1_code 105 = .ok (.iconst 4, 1) := by decide +kernel
theorem d_R_init_106 : decode prog_10_method_1_code 106 = .ok (.newarray .int, 2) := by decide +kernel
theorem d_R_init_108 : decode prog_10_method_1_code 108 = .ok (.putfield 50, 3) := by decide +kernel
theorem d_R_init_111 : decode prog_10_method_1_code 111 = .ok (.aload_n 0, 1) := by decide +kernel
theorem d_R_init_112 : decode prog_10_method_1_code 112 = .ok (.iconst 4, 1) := by decide +kernel
theorem d_R_init_113 : decode prog_10_method_1_code 113 = .ok (.newarray .int, 2) := by decide +kernel
theorem d_R_init_115 : decode prog_10_method_1_code 115 = .ok (.putfield 53, 3) := by decide +kernel
theorem d_R_init_118 : decode prog_10_method_1_code 118 = .ok (.aload_n 0, 1) := by decide +kernel
theorem d_R_init_119 : decode prog_10_method_1_code 119 = .ok (.iconst 4, 1) := by decide +kernel
theorem d_R_init_120 : decode prog_10_method_1_code 120 = .ok (.newarray .int, 2) := by decide +kernel
theorem d_R_init_122 : decode prog_10_method_1_code 122 = .ok (.putfield 56, 3) := by decide +kernel
theorem d_R_init_125 : decode prog_10_method_1_code 125 = .ok (.aload_n 0, 1) := by decide +kernel
theorem d_R_init_126 : decode prog_10_method_1_code 126 = .ok (.iconst 4, 1) := by decide +kernel
theorem d_R_init_127 : decode prog_10_method_1_code 127 = .ok (.newarray .boolean, 2) := by decide +kernel
theorem d_R_init_129 : decode prog_10_method_1_code 129 = .ok (.putfield 59, 3) := by decide +kernel
theorem d_R_init_132 : decode prog_10_method_1_code 132 = .ok (.aload_n 0, 1) := by decide +kernel
theorem d_R_init_133 : decode prog_10_method_1_code 133 = .ok (.iconst 4, 1) := by decide +kernel
theorem d_R_init_134 : decode prog_10_method_1_code 134 = .ok (.newarray .int, 2) := by decide +kernel
theorem d_R_init_136 : decode prog_10_method_1_code 136 = .ok (.putfield 62, 3) := by decide +kernel
theorem d_R_init_139 : decode prog_10_method_1_code 139 = .ok (.aload_n 0, 1) := by decide +kernel
theorem d_R_init_140 : decode prog_10_method_1_code 140 = .ok (.iconst 4, 1) := by decide +kernel
theorem d_R_init_141 : decode prog_10_method_1_code 141 = .ok (.newarray .int, 2) := by decide +kernel
theorem d_R_init_143 : decode prog_10_method_1_code 143 = .ok (.putfield 65, 3) := by decide +kernel
theorem d_R_init_146 : decode prog_10_method_1_code 146 = .ok (.aload_n 0, 1) := by decide +kernel
theorem d_R_init_147 : decode prog_10_method_1_code 147 = .ok (.bipush 16, 2) := by decide +kernel
theorem d_R_init_149 : decode prog_10_method_1_code 149 = .ok (.newarray .boolean, 2) := by decide +kernel
theorem d_R_init_151 : decode prog_10_method_1_code 151 = .ok (.putfield 68, 3) := by decide +kernel
theorem d_R_init_154 : decode prog_10_method_1_code 154 = .ok (.aload_n 0, 1) := by decide +kernel
theorem d_R_init_155 : decode prog_10_method_1_code 155 = .ok (.bipush 16, 2) := by decide +kernel
theorem d_R_init_157 : decode prog_10_method_1_code 157 = .ok (.newarray .int, 2) := by decide +kernel
theorem d_R_init_159 : decode prog_10_method_1_code 159 = .ok (.putfield 71, 3) := by decide +kernel
theorem d_R_init_162 : decode prog_10_method_1_code 162 = .ok (.aload_n 0, 1) := by decide +kernel
theorem d_R_init_163 : decode prog_10_method_1_code 163 = .ok (.bipush 16, 2) := by decide +kernel
theorem d_R_init_165 : decode prog_10_method_1_code 165 = .ok (.newarray .int, 2) := by decide +kernel
theorem d_R_init_167 : decode prog_10_method_1_code 167 = .ok (.putfield 74, 3) := by decide +kernel
theorem d_R_init_170 : decode prog_10_method_1_code 170 = .ok (.aload_n 0, 1) := by decide +kernel
theorem d_R_init_171 : decode prog_10_method_1_code 171 = .ok (.bipush 16, 2) := by decide +kernel
theorem d_R_init_173 : decode prog_10_method_1_code 173 = .ok (.newarray .int, 2) := by decide +kernel
theorem d_R_init_175 : decode prog_10_method_1_code 175 = .ok (.putfield 77, 3) := by decide +kernel
theorem d_R_init_178 : decode prog_10_method_1_code 178 = .ok (.aload_n 0, 1) := by decide +kernel
theorem d_R_init_179 : decode prog_10_method_1_code 179 = .ok (.sipush 448, 3) := by decide +kernel
theorem d_R_init_182 : decode prog_10_method_1_code 182 = .ok (.newarray .int, 2) := by decide +kernel
theorem d_R_init_184 : decode prog_10_method_1_code 184 = .ok (.putfield 80, 3) := by decide +kernel
theorem d_R_init_187 : decode prog_10_method_1_code 187 = .ok (.aload_n 0, 1) := by decide +kernel
theorem d_R_init_188 : decode prog_10_method_1_code 188 = .ok (.iload_n 1, 1) := by decide +kernel
theorem d_R_init_189 : decode prog_10_method_1_code 189 = .ok (.iconst 1, 1) := by decide +kernel
theorem d_R_init_190 : decode prog_10_method_1_code 190 = .ok (.if_icmp .ge 7, 3) := by decide +kernel
theorem d_R_init_193 : decode prog_10_method_1_code 193 = .ok (.iconst 1, 1) := by decide +kernel
theorem d_R_init_194 : decode prog_10_method_1_code 194 = .ok (.goto 13, 3) := by decide +kernel
theorem d_R_init_197 : decode prog_10_method_1_code 197 = .ok (.iload_n 1, 1) := by decide +kernel
theorem d_R_init_198 : decode prog_10_method_1_code 198 = .ok (.iconst 4, 1) := by decide +kernel
theorem d_R_init_199 : decode prog_10_method_1_code 199 = .ok (.if_icmp .le 7, 3) := by decide +kernel
theorem d_R_init_202 : decode prog_10_method_1_code 202 = .ok (.iconst 4, 1) := by decide +kernel
theorem d_R_init_203 : decode prog_10_method_1_code 203 = .ok (.goto 4, 3) := by decide +kernel
theorem d_R_init_206 : decode prog_10_method_1_code 206 = .ok (.iload_n 1, 1) := by decide +kernel
theorem d_R_init_207 : decode prog_10_method_1_code 207 = .ok (.putfield 83, 3) := by decide +kernel
theorem d_R_init_210 : decode prog_10_method_1_code 210 = .ok (.aload_n 0, 1) := by decide +kernel
theorem d_R_init_211 : decode prog_10_method_1_code 211 = .ok (.iload_n 2, 1) := by decide +kernel
theorem d_R_init_212 : decode prog_10_method_1_code 212 = .ok (.iconst 1, 1) := by decide +kernel
theorem d_R_init_213 : decode prog_10_method_1_code 213 = .ok (.if_icmp .ge 7, 3) := by decide +kernel
theorem d_R_init_216 : decode prog_10_method_1_code 216 = .ok (.iconst 1, 1) := by decide +kernel
theorem d_R_init_217 : decode prog_10_method_1_code 217 = .ok (.goto 13, 3) := by decide +kernel
theorem d_R_init_220 : decode prog_10_method_1_code 220 = .ok (.iload_n 2, 1) := by decide +kernel
theorem d_R_init_221 : decode prog_10_method_1_code 221 = .ok (.iconst 4, 1) := by decide +kernel
theorem d_R_init_222 : decode prog_10_method_1_code 222 = .ok (.if_icmp .le 7, 3) := by decide +kernel
theorem d_R_init_225 : decode prog_10_method_1_code 225 = .ok (.iconst 4, 1) := by decide +kernel
theorem d_R_init_226 : decode prog_10_method_1_code 226 = .ok (.goto 4, 3) := by decide +kernel
theorem d_R_init_229 : decode prog_10_method_1_code 229 = .ok (.iload_n 2, 1) := by decide +kernel
theorem d_R_init_230 : decode prog_10_method_1_code 230 = .ok (.putfield 87, 3) := by decide +kernel
theorem d_R_init_233 : decode prog_10_method_1_code 233 = .ok (.aload_n 0, 1) := by decide +kernel
theorem d_R_init_234 : decode prog_10_method_1_code 234 = .ok (.iload_n 3, 1) := by decide +kernel
theorem d_R_init_235 : decode prog_10_method_1_code 235 = .ok (.iconst 1, 1) := by decide +kernel
theorem d_R_init_236 : decode prog_10_method_1_code 236 = .ok (.if_icmp .ge 7, 3) := by decide +kernel
theorem d_R_init_239 : decode prog_10_method_1_code 239 = .ok (.iconst 1, 1) := by decide +kernel
theorem d_R_init_240 : decode prog_10_method_1_code 240 = .ok (.goto 17, 3) := by decide +kernel
theorem d_R_init_243 : decode prog_10_method_1_code 243 = .ok (.iload_n 3, 1) := by decide +kernel
theorem d_R_init_244 : decode prog_10_method_1_code 244 = .ok (.sipush 1000, 3) := by decide +kernel
theorem d_R_init_247 : decode prog_10_method_1_code 247 = .ok (.if_icmp .le 9, 3) := by decide +kernel
theorem d_R_init_250 : decode prog_10_method_1_code 250 = .ok (.sipush 1000, 3) := by decide +kernel
theorem d_R_init_253 : decode prog_10_method_1_code 253 = .ok (.goto 4, 3) := by decide +kernel
theorem d_R_init_256 : decode prog_10_method_1_code 256 = .ok (.iload_n 3, 1) := by decide +kernel
theorem d_R_init_257 : decode prog_10_method_1_code 257 = .ok (.putfield 90, 3) := by decide +kernel
theorem d_R_init_260 : decode prog_10_method_1_code 260 = .ok (.aload_n 0, 1) := by decide +kernel
theorem d_R_init_261 : decode prog_10_method_1_code 261 = .ok (.iload 4, 2) := by decide +kernel
theorem d_R_init_263 : decode prog_10_method_1_code 263 = .ok (.iconst 1, 1) := by decide +kernel
theorem d_R_init_264 : decode prog_10_method_1_code 264 = .ok (.if_icmp .ge 7, 3) := by decide +kernel
theorem d_R_init_267 : decode prog_10_method_1_code 267 = .ok (.iconst 1, 1) := by decide +kernel
theorem d_R_init_268 : decode prog_10_method_1_code 268 = .ok (.goto 21, 3) := by decide +kernel
theorem d_R_init_271 : decode prog_10_method_1_code 271 = .ok (.iload 4, 2) := by decide +kernel
theorem d_R_init_273 : decode prog_10_method_1_code 273 = .ok (.aload_n 0, 1) := by decide +kernel
theorem d_R_init_274 : decode prog_10_method_1_code 274 = .ok (.getfield 90, 3) := by decide +kernel
theorem d_R_init_277 : decode prog_10_method_1_code 277 = .ok (.if_icmp .le 10, 3) := by decide +kernel
theorem d_R_init_280 : decode prog_10_method_1_code 280 = .ok (.aload_n 0, 1) := by decide +kernel
theorem d_R_init_281 : decode prog_10_method_1_code 281 = .ok (.getfield 90, 3) := by decide +kernel
theorem d_R_init_284 : decode prog_10_method_1_code 284 = .ok (.goto 5, 3) := by decide +kernel
theorem d_R_init_287 : decode prog_10_method_1_code 287 = .ok (.iload 4, 2) := by decide +kernel
theorem d_R_init_289 : decode prog_10_method_1_code 289 = .ok (.putfield 93, 3) := by decide +kernel
theorem d_R_init_292 : decode prog_10_method_1_code 292 = .ok (.return_, 1) := by decide +kernel
theorem d_R_isClient_0 : decode prog_10_method_2_code 0 = .ok (.iload_n 1, 1) := by decide +kernel
theorem d_R_isClient_1 : decode prog_10_method_2_code 1 = .ok (.ifCond .lt 15, 3) := by decide +kernel
theorem d_R_isClient_4 : decode prog_10_method_2_code 4 = .ok (.iload_n 1, 1) := by decide +kernel
theorem d_R_isClient_5 : decode prog_10_method_2_code 5 = .ok (.aload_n 0, 1) := by decide +kernel
theorem d_R_isClient_6 : decode prog_10_method_2_code 6 = .ok (.getfield 83, 3) := by decide +kernel
theorem d_R_isClient_9 : decode prog_10_method_2_code 9 = .ok (.if_icmp .ge 7, 3) := by decide +kernel
theorem d_R_isClient_12 : decode prog_10_method_2_code 12 = .ok (.iconst 1, 1) := by decide +kernel
theorem d_R_isClient_13 : decode prog_10_method_2_code 13 = .ok (.goto 4, 3) := by decide +kernel
theorem d_R_isClient_16 : decode prog_10_method_2_code 16 = .ok (.iconst 0, 1) := by decide +kernel
theorem d_R_isClient_17 : decode prog_10_method_2_code 17 = .ok (.ireturn, 1) := by decide +kernel
theorem d_R_isFile_0 : decode prog_10_method_3_code 0 = .ok (.iload_n 1, 1) := by decide +kernel
theorem d_R_isFile_1 : decode prog_10_method_3_code 1 = .ok (.ifCond .lt 15, 3) := by decide +kernel
theorem d_R_isFile_4 : decode prog_10_method_3_code 4 = .ok (.iload_n 1, 1) := by decide +kernel
theorem d_R_isFile_5 : decode prog_10_method_3_code 5 = .ok (.aload_n 0, 1) := by decide +kernel
theorem d_R_isFile_6 : decode prog_10_method_3_code 6 = .ok (.getfield 87, 3) := by decide +kernel
theorem d_R_isFile_9 : decode prog_10_method_3_code 9 = .ok (.if_icmp .ge 7, 3) := by decide +kernel
theorem d_R_isFile_12 : decode prog_10_method_3_code 12 = .ok (.iconst 1, 1) := by decide +kernel
theorem d_R_isFile_13 : decode prog_10_method_3_code 13 = .ok (.goto 4, 3) := by decide +kernel
theorem d_R_isFile_16 : decode prog_10_method_3_code 16 = .ok (.iconst 0, 1) := by decide +kernel
theorem d_R_isFile_17 : decode prog_10_method_3_code 17 = .ok (.ireturn, 1) := by decide +kernel
theorem d_R_send_0 : decode prog_10_method_4_code 0 = .ok (.aload_n 0, 1) := by decide +kernel
theorem d_R_send_1 : decode prog_10_method_4_code 1 = .ok (.getfield 96, 3) := by decide +kernel
theorem d_R_send_4 : decode prog_10_method_4_code 4 = .ok (.bipush 64, 2) := by decide +kernel
theorem d_R_send_6 : decode prog_10_method_4_code 6 = .ok (.if_icmp .ne 4, 3) := by decide +kernel
theorem d_R_send_9 : decode prog_10_method_4_code 9 = .ok (.return_, 1) := by decide +kernel
theorem d_R_send_10 : decode prog_10_method_4_code 10 = .ok (.bipush 7, 2) := by decide +kernel
theorem d_R_send_12 : decode prog_10_method_4_code 12 = .ok (.aload_n 0, 1) := by decide +kernel
theorem d_R_send_13 : decode prog_10_method_4_code 13 = .ok (.getfield 96, 3) := by decide +kernel
theorem d_R_send_16 : decode prog_10_method_4_code 16 = .ok (.imul, 1) := by decide +kernel
theorem d_R_send_17 : decode prog_10_method_4_code 17 = .ok (.istore 8, 2) := by decide +kernel
theorem d_R_send_19 : decode prog_10_method_4_code 19 = .ok (.aload_n 0, 1) := by decide +kernel
theorem d_R_send_20 : decode prog_10_method_4_code 20 = .ok (.getfield 80, 3) := by decide +kernel
theorem d_R_send_23 : decode prog_10_method_4_code 23 = .ok (.iload 8, 2) := by decide +kernel
theorem d_R_send_25 : decode prog_10_method_4_code 25 = .ok (.iload_n 1, 1) := by decide +kernel
theorem d_R_send_26 : decode prog_10_method_4_code 26 = .ok (.iastore, 1) := by decide +kernel
theorem d_R_send_27 : decode prog_10_method_4_code 27 = .ok (.aload_n 0, 1) := by decide +kernel
theorem d_R_send_28 : decode prog_10_method_4_code 28 = .ok (.getfield 80, 3) := by decide +kernel
theorem d_R_send_31 : decode prog_10_method_4_code 31 = .ok (.iload 8, 2) := by decide +kernel
theorem d_R_send_33 : decode prog_10_method_4_code 33 = .ok (.iconst 1, 1) := by decide +kernel
theorem d_R_send_34 : decode prog_10_method_4_code 34 = .ok (.iadd, 1) := by decide +kernel
theorem d_R_send_35 : decode prog_10_method_4_code 35 = .ok (.iload_n 2, 1) := by decide +kernel
theorem d_R_send_36 : decode prog_10_method_4_code 36 = .ok (.iastore, 1) := by decide +kernel
theorem d_R_send_37 : decode prog_10_method_4_code 37 = .ok (.aload_n 0, 1) := by decide +kernel
theorem d_R_send_38 : decode prog_10_method_4_code 38 = .ok (.getfield 80, 3) := by decide +kernel
theorem d_R_send_41 : decode prog_10_method_4_code 41 = .ok (.iload 8, 2) := by decide +kernel
theorem d_R_send_43 : decode prog_10_method_4_code 43 = .ok (.iconst 2, 1) := by decide +kernel
theorem d_R_send_44 : decode prog_10_method_4_code 44 = .ok (.iadd, 1) := by decide +kernel
theorem d_R_send_45 : decode prog_10_method_4_code 45 = .ok (.iload_n 3, 1) := by decide +kernel
theorem d_R_send_46 : decode prog_10_method_4_code 46 = .ok (.iastore, 1) := by decide +kernel
theorem d_R_send_47 : decode prog_10_method_4_code 47 = .ok (.aload_n 0, 1) := by decide +kernel
theorem d_R_send_48 : decode prog_10_method_4_code 48 = .ok (.getfield 80, 3) := by decide +kernel
theorem d_R_send_51 : decode prog_10_method_4_code 51 = .ok (.iload 8, 2) := by decide +kernel
theorem d_R_send_53 : decode prog_10_method_4_code 53 = .ok (.iconst 3, 1) := by decide +kernel
theorem d_R_send_54 : decode prog_10_method_4_code 54 = .ok (.iadd, 1) := by decide +kernel
theorem d_R_send_55 : decode prog_10_method_4_code 55 = .ok (.iload 4, 2) := by decide +kernel
theorem d_R_send_57 : decode prog_10_method_4_code 57 = .ok (.iastore, 1) := by decide +kernel
theorem d_R_send_58 : decode prog_10_method_4_code 58 = .ok (.aload_n 0, 1) := by decide +kernel
theorem d_R_send_59 : decode prog_10_method_4_code 59 = .ok (.getfield 80, 3) := by decide +kernel
theorem d_R_send_62 : decode prog_10_method_4_code 62 = .ok (.iload 8, 2) := by decide +kernel
theorem d_R_send_64 : decode prog_10_method_4_code 64 = .ok (.iconst 4, 1) := by decide +kernel
theorem d_R_send_65 : decode prog_10_method_4_code 65 = .ok (.iadd, 1) := by decide +kernel
theorem d_R_send_66 : decode prog_10_method_4_code 66 = .ok (.iload 5, 2) := by decide +kernel
theorem d_R_send_68 : decode prog_10_method_4_code 68 = .ok (.iastore, 1) := by decide +kernel
theorem d_R_send_69 : decode prog_10_method_4_code 69 = .ok (.aload_n 0, 1) := by decide +kernel
theorem d_R_send_70 : decode prog_10_method_4_code 70 = .ok (.getfield 80, 3) := by decide +kernel
theorem d_R_send_73 : decode prog_10_method_4_code 73 = .ok (.iload 8, 2) := by decide +kernel
theorem d_R_send_75 : decode prog_10_method_4_code 75 = .ok (.iconst 5, 1) := by decide +kernel
theorem d_R_send_76 : decode prog_10_method_4_code 76 = .ok (.iadd, 1) := by decide +kernel
theorem d_R_send_77 : decode prog_10_method_4_code 77 = .ok (.iload 6, 2) := by decide +kernel
theorem d_R_send_79 : decode prog_10_method_4_code 79 = .ok (.iastore, 1) := by decide +kernel
theorem d_R_send_80 : decode prog_10_method_4_code 80 = .ok (.aload_n 0, 1) := by decide +kernel
theorem d_R_send_81 : decode prog_10_method_4_code 81 = .ok (.getfield 80, 3) := by decide +kernel
theorem d_R_send_84 : decode prog_10_method_4_code 84 = .ok (.iload 8, 2) := by decide +kernel
theorem d_R_send_86 : decode prog_10_method_4_code 86 = .ok (.bipush 6, 2) := by decide +kernel
theorem d_R_send_88 : decode prog_10_method_4_code 88 = .ok (.iadd, 1) := by decide +kernel
theorem d_R_send_89 : decode prog_10_method_4_code 89 = .ok (.iload 7, 2) := by decide +kernel
theorem d_R_send_91 : decode prog_10_method_4_code 91 = .ok (.iastore, 1) := by decide +kernel
theorem d_R_send_92 : decode prog_10_method_4_code 92 = .ok (.aload_n 0, 1) := by decide +kernel
theorem d_R_send_93 : decode prog_10_method_4_code 93 = .ok (.dup, 1) := by decide +kernel
theorem d_R_send_94 : decode prog_10_method_4_code 94 = .ok (.getfield 96, 3) := by decide +kernel
theorem d_R_send_97 : decode prog_10_method_4_code 97 = .ok (.iconst 1, 1) := by decide +kernel
theorem d_R_send_98 : decode prog_10_method_4_code 98 = .ok (.iadd, 1) := by decide +kernel
theorem d_R_send_99 : decode prog_10_method_4_code 99 = .ok (.putfield 96, 3) := by decide +kernel
theorem d_R_send_102 : decode prog_10_method_4_code 102 = .ok (.return_, 1) := by decide +kernel
theorem d_R_takeOut_0 : decode prog_10_method_5_code 0 = .ok (.aload_n 0, 1) := by decide +kernel
theorem d_R_takeOut_1 : decode prog_10_method_5_code 1 = .ok (.dup, 1) := by decide +kernel
theorem d_R_takeOut_2 : decode prog_10_method_5_code 2 = .ok (.getfield 96, 3) := by decide +kernel
theorem d_R_takeOut_5 : decode prog_10_method_5_code 5 = .ok (.iconst 1, 1) := by decide +kernel
theorem d_R_takeOut_6 : decode prog_10_method_5_code 6 = .ok (.isub, 1) := by decide +kernel
theorem d_R_takeOut_7 : decode prog_10_method_5_code 7 = .ok (.putfield 96, 3) := by decide +kernel
theorem d_R_takeOut_10 : decode prog_10_method_5_code 10 = .ok (.bipush 7, 2) := by decide +kernel
theorem d_R_takeOut_12 : decode prog_10_method_5_code 12 = .ok (.iload_n 1, 1) := by decide +kernel
theorem d_R_takeOut_13 : decode prog_10_method_5_code 13 = .ok (.imul, 1) := by decide +kernel
theorem d_R_takeOut_14 : decode prog_10_method_5_code 14 = .ok (.istore_n 2, 1) := by decide +kernel
theorem d_R_takeOut_15 : decode prog_10_method_5_code 15 = .ok (.iload_n 2, 1) := by decide +kernel
theorem d_R_takeOut_16 : decode prog_10_method_5_code 16 = .ok (.bipush 7, 2) := by decide +kernel
theorem d_R_takeOut_18 : decode prog_10_method_5_code 18 = .ok (.aload_n 0, 1) := by decide +kernel
theorem d_R_takeOut_19 : decode prog_10_method_5_code 19 = .ok (.getfield 96, 3) := by decide +kernel
theorem d_R_takeOut_22 : decode prog_10_method_5_code 22 = .ok (.imul, 1) := by decide +kernel
theorem d_R_takeOut_23 : decode prog_10_method_5_code 23 = .ok (.if_icmp .ge 24, 3) := by decide +kernel
theorem d_R_takeOut_26 : decode prog_10_method_5_code 26 = .ok (.aload_n 0, 1) := by decide +kernel
theorem d_R_takeOut_27 : decode prog_10_method_5_code 27 = .ok (.getfield 80, 3) := by decide +kernel
theorem d_R_takeOut_30 : decode prog_10_method_5_code 30 = .ok (.iload_n 2, 1) := by decide +kernel
theorem d_R_takeOut_31 : decode prog_10_method_5_code 31 = .ok (.aload_n 0, 1) := by decide +kernel
theorem d_R_takeOut_32 : decode prog_10_method_5_code 32 = .ok (.getfield 80, 3) := by decide +kernel
theorem d_R_takeOut_35 : decode prog_10_method_5_code 35 = .ok (.iload_n 2, 1) := by decide +kernel
theorem d_R_takeOut_36 : decode prog_10_method_5_code 36 = .ok (.bipush 7, 2) := by decide +kernel
theorem d_R_takeOut_38 : decode prog_10_method_5_code 38 = .ok (.iadd, 1) := by decide +kernel
theorem d_R_takeOut_39 : decode prog_10_method_5_code 39 = .ok (.iaload, 1) := by decide +kernel
theorem d_R_takeOut_40 : decode prog_10_method_5_code 40 = .ok (.iastore, 1) := by decide +kernel
theorem d_R_takeOut_41 : decode prog_10_method_5_code 41 = .ok (.iinc 2 1, 3) := by decide +kernel
theorem d_R_takeOut_44 : decode prog_10_method_5_code 44 = .ok (.goto (-29), 3) := by decide +kernel
theorem d_R_takeOut_47 : decode prog_10_method_5_code 47 = .ok (.return_, 1) := by decide +kernel
theorem d_R_isMessage_0 : decode prog_10_method_6_code 0 = .ok (.iload_n 1, 1) := by decide +kernel
theorem d_R_isMessage_1 : decode prog_10_method_6_code 1 = .ok (.ifCond .lt 15, 3) := by decide +kernel
theorem d_R_isMessage_4 : decode prog_10_method_6_code 4 = .ok (.iload_n 1, 1) := by decide +kernel
theorem d_R_isMessage_5 : decode prog_10_method_6_code 5 = .ok (.aload_n 0, 1) := by decide +kernel
theorem d_R_isMessage_6 : decode prog_10_method_6_code 6 = .ok (.getfield 96, 3) := by decide +kernel
theorem d_R_isMessage_9 : decode prog_10_method_6_code 9 = .ok (.if_icmp .ge 7, 3) := by decide +kernel
theorem d_R_isMessage_12 : decode prog_10_method_6_code 12 = .ok (.iconst 1, 1) := by decide +kernel
theorem d_R_isMessage_13 : decode prog_10_method_6_code 13 = .ok (.goto 4, 3) := by decide +kernel
theorem d_R_isMessage_16 : decode prog_10_method_6_code 16 = .ok (.iconst 0, 1) := by decide +kernel
theorem d_R_isMessage_17 : decode prog_10_method_6_code 17 = .ok (.ireturn, 1) := by decide +kernel
theorem d_R_sendOperation_0 : decode prog_10_method_7_code 0 = .ok (.aload_n 0, 1) := by decide +kernel
theorem d_R_sendOperation_1 : decode prog_10_method_7_code 1 = .ok (.getfield 46, 3) := by decide +kernel
theorem d_R_sendOperation_4 : decode prog_10_method_7_code 4 = .ok (.iload_n 1, 1) := by decide +kernel
theorem d_R_sendOperation_5 : decode prog_10_method_7_code 5 = .ok (.baload, 1) := by decide +kernel
theorem d_R_sendOperation_6 : decode prog_10_method_7_code 6 = .ok (.ifCond .eq 32, 3) := by decide +kernel
theorem d_R_sendOperation_9 : decode prog_10_method_7_code 9 = .ok (.aload_n 0, 1) := by decide +kernel
theorem d_R_sendOperation_10 : decode prog_10_method_7_code 10 = .ok (.iconst 1, 1) := by decide +kernel
theorem d_R_sendOperation_11 : decode prog_10_method_7_code 11 = .ok (.iload_n 1, 1) := by decide +kernel
theorem d_R_sendOperation_12 : decode prog_10_method_7_code 12 = .ok (.aload_n 0, 1) := by decide +kernel
theorem d_R_sendOperation_13 : decode prog_10_method_7_code 13 = .ok (.getfield 50, 3) := by decide +kernel
theorem d_R_sendOperation_16 : decode prog_10_method_7_code 16 = .ok (.iload_n 1, 1) := by decide +kernel
theorem d_R_sendOperation_17 : decode prog_10_method_7_code 17 = .ok (.iaload, 1) := by decide +kernel
theorem d_R_sendOperation_18 : decode prog_10_method_7_code 18 = .ok (.aload_n 0, 1) := by decide +kernel
theorem d_R_sendOperation_19 : decode prog_10_method_7_code 19 = .ok (.getfield 40, 3) := by decide +kernel
theorem d_R_sendOperation_22 : decode prog_10_method_7_code 22 = .ok (.iload_n 1, 1) := by decide +kernel
theorem d_R_sendOperation_23 : decode prog_10_method_7_code 23 = .ok (.iaload, 1) := by decide +kernel
theorem d_R_sendOperation_24 : decode prog_10_method_7_code 24 = .ok (.aload_n 0, 1) := by decide +kernel
theorem d_R_sendOperation_25 : decode prog_10_method_7_code 25 = .ok (.getfield 53, 3) := by decide +kernel
theorem d_R_sendOperation_28 : decode prog_10_method_7_code 28 = .ok (.iload_n 1, 1) := by decide +kernel
theorem d_R_sendOperation_29 : decode prog_10_method_7_code 29 = .ok (.iaload, 1) := by decide +kernel
theorem d_R_sendOperation_30 : decode prog_10_method_7_code 30 = .ok (.iconst 0, 1) := by decide +kernel
theorem d_R_sendOperation_31 : decode prog_10_method_7_code 31 = .ok (.iconst 0, 1) := by decide +kernel
theorem d_R_sendOperation_32 : decode prog_10_method_7_code 32 = .ok (.invokevirtual 99, 3) := by decide +kernel
theorem d_R_sendOperation_35 : decode prog_10_method_7_code 35 = .ok (.goto 24, 3) := by decide +kernel
theorem d_R_sendOperation_38 : decode prog_10_method_7_code 38 = .ok (.aload_n 0, 1) := by decide +kernel
theorem d_R_sendOperation_39 : decode prog_10_method_7_code 39 = .ok (.iconst 0, 1) := by decide +kernel
theorem d_R_sendOperation_40 : decode prog_10_method_7_code 40 = .ok (.iload_n 1, 1) := by decide +kernel
theorem d_R_sendOperation_41 : decode prog_10_method_7_code 41 = .ok (.aload_n 0, 1) := by decide +kernel
theorem d_R_sendOperation_42 : decode prog_10_method_7_code 42 = .ok (.getfield 50, 3) := by decide +kernel
theorem d_R_sendOperation_45 : decode prog_10_method_7_code 45 = .ok (.iload_n 1, 1) := by decide +kernel
theorem d_R_sendOperation_46 : decode prog_10_method_7_code 46 = .ok (.iaload, 1) := by decide +kernel
theorem d_R_sendOperation_47 : decode prog_10_method_7_code 47 = .ok (.aload_n 0, 1) := by decide +kernel
theorem d_R_sendOperation_48 : decode prog_10_method_7_code 48 = .ok (.getfield 40, 3) := by decide +kernel
theorem d_R_sendOperation_51 : decode prog_10_method_7_code 51 = .ok (.iload_n 1, 1) := by decide +kernel
theorem d_R_sendOperation_52 : decode prog_10_method_7_code 52 = .ok (.iaload, 1) := by decide +kernel
theorem d_R_sendOperation_53 : decode prog_10_method_7_code 53 = .ok (.iconst 0, 1) := by decide +kernel
theorem d_R_sendOperation_54 : decode prog_10_method_7_code 54 = .ok (.iconst 0, 1) := by decide +kernel
theorem d_R_sendOperation_55 : decode prog_10_method_7_code 55 = .ok (.iconst 0, 1) := by decide +kernel
theorem d_R_sendOperation_56 : decode prog_10_method_7_code 56 = .ok (.invokevirtual 99, 3) := by decide +kernel
theorem d_R_sendOperation_59 : decode prog_10_method_7_code 59 = .ok (.return_, 1) := by decide +kernel
theorem d_R_begin_0 : decode prog_10_method_8_code 0 = .ok (.aload_n 0, 1) := by decide +kernel
theorem d_R_begin_1 : decode prog_10_method_8_code 1 = .ok (.getfield 40, 3) := by decide +kernel
theorem d_R_begin_4 : decode prog_10_method_8_code 4 = .ok (.iload_n 1, 1) := by decide +kernel
theorem d_R_begin_5 : decode prog_10_method_8_code 5 = .ok (.dup2, 1) := by decide +kernel
theorem d_R_begin_6 : decode prog_10_method_8_code 6 = .ok (.iaload, 1) := by decide +kernel
theorem d_R_begin_7 : decode prog_10_method_8_code 7 = .ok (.iconst 1, 1) := by decide +kernel
theorem d_R_begin_8 : decode prog_10_method_8_code 8 = .ok (.iadd, 1) := by decide +kernel
theorem d_R_begin_9 : decode prog_10_method_8_code 9 = .ok (.iastore, 1) := by decide +kernel
theorem d_R_begin_10 : decode prog_10_method_8_code 10 = .ok (.aload_n 0, 1) := by decide +kernel
theorem d_R_begin_11 : decode prog_10_method_8_code 11 = .ok (.getfield 43, 3) := by decide +kernel
theorem d_R_begin_14 : decode prog_10_method_8_code 14 = .ok (.iload_n 1, 1) := by decide +kernel
theorem d_R_begin_15 : decode prog_10_method_8_code 15 = .ok (.iconst 2, 1) := by decide +kernel
theorem d_R_begin_16 : decode prog_10_method_8_code 16 = .ok (.iastore, 1) := by decide +kernel
theorem d_R_begin_17 : decode prog_10_method_8_code 17 = .ok (.aload_n 0, 1) := by decide +kernel
theorem d_R_begin_18 : decode prog_10_method_8_code 18 = .ok (.getfield 46, 3) := by decide +kernel
theorem d_R_begin_21 : decode prog_10_method_8_code 21 = .ok (.iload_n 1, 1) := by decide +kernel
theorem d_R_begin_22 : decode prog_10_method_8_code 22 = .ok (.iload_n 3, 1) := by decide +kernel
theorem d_R_begin_23 : decode prog_10_method_8_code 23 = .ok (.bastore, 1) := by decide +kernel
theorem d_R_begin_24 : decode prog_10_method_8_code 24 = .ok (.aload_n 0, 1) := by decide +kernel
theorem d_R_begin_25 : decode prog_10_method_8_code 25 = .ok (.getfield 50, 3) := by decide +kernel
theorem d_R_begin_28 : decode prog_10_method_8_code 28 = .ok (.iload_n 1, 1) := by decide +kernel
theorem d_R_begin_29 : decode prog_10_method_8_code 29 = .ok (.iload_n 2, 1) := by decide +kernel
theorem d_R_begin_30 : decode prog_10_method_8_code 30 = .ok (.iastore, 1) := by decide +kernel
theorem d_R_begin_31 : decode prog_10_method_8_code 31 = .ok (.aload_n 0, 1) := by decide +kernel
theorem d_R_begin_32 : decode prog_10_method_8_code 32 = .ok (.getfield 53, 3) := by decide +kernel
theorem d_R_begin_35 : decode prog_10_method_8_code 35 = .ok (.iload_n 1, 1) := by decide +kernel
theorem d_R_begin_36 : decode prog_10_method_8_code 36 = .ok (.iload 4, 2) := by decide +kernel
theorem d_R_begin_38 : decode prog_10_method_8_code 38 = .ok (.iastore, 1) := by decide +kernel
theorem d_R_begin_39 : decode prog_10_method_8_code 39 = .ok (.aload_n 0, 1) := by decide +kernel
theorem d_R_begin_40 : decode prog_10_method_8_code 40 = .ok (.getfield 56, 3) := by decide +kernel
theorem d_R_begin_43 : decode prog_10_method_8_code 43 = .ok (.iload_n 1, 1) := by decide +kernel
theorem d_R_begin_44 : decode prog_10_method_8_code 44 = .ok (.aload_n 0, 1) := by decide +kernel
theorem d_R_begin_45 : decode prog_10_method_8_code 45 = .ok (.getfield 37, 3) := by decide +kernel
theorem d_R_begin_48 : decode prog_10_method_8_code 48 = .ok (.iload_n 1, 1) := by decide +kernel
theorem d_R_begin_49 : decode prog_10_method_8_code 49 = .ok (.iaload, 1) := by decide +kernel
theorem d_R_begin_50 : decode prog_10_method_8_code 50 = .ok (.iastore, 1) := by decide +kernel
theorem d_R_begin_51 : decode prog_10_method_8_code 51 = .ok (.aload_n 0, 1) := by decide +kernel
theorem d_R_begin_52 : decode prog_10_method_8_code 52 = .ok (.getfield 59, 3) := by decide +kernel
theorem d_R_begin_55 : decode prog_10_method_8_code 55 = .ok (.iload_n 1, 1) := by decide +kernel
theorem d_R_begin_56 : decode prog_10_method_8_code 56 = .ok (.iconst 0, 1) := by decide +kernel
theorem d_R_begin_57 : decode prog_10_method_8_code 57 = .ok (.bastore, 1) := by decide +kernel
theorem d_R_begin_58 : decode prog_10_method_8_code 58 = .ok (.return_, 1) := by decide +kernel
theorem d_R_finish_0 : decode prog_10_method_9_code 0 = .ok (.aload_n 0, 1) := by decide +kernel
theorem d_R_finish_1 : decode prog_10_method_9_code 1 = .ok (.getfield 43, 3) := by decide +kernel
theorem d_R_finish_4 : decode prog_10_method_9_code 4 = .ok (.iload_n 1, 1) := by decide +kernel
theorem d_R_finish_5 : decode prog_10_method_9_code 5 = .ok (.iconst 1, 1) := by decide +kernel
theorem d_R_finish_6 : decode prog_10_method_9_code 6 = .ok (.iastore, 1) := by decide +kernel
theorem d_R_finish_7 : decode prog_10_method_9_code 7 = .ok (.aload_n 0, 1) := by decide +kernel
theorem d_R_finish_8 : decode prog_10_method_9_code 8 = .ok (.getfield 62, 3) := by decide +kernel
theorem d_R_finish_11 : decode prog_10_method_9_code 11 = .ok (.iload_n 1, 1) := by decide +kernel
theorem d_R_finish_12 : decode prog_10_method_9_code 12 = .ok (.iload_n 2, 1) := by decide +kernel
theorem d_R_finish_13 : decode prog_10_method_9_code 13 = .ok (.iastore, 1) := by decide +kernel
theorem d_R_finish_14 : decode prog_10_method_9_code 14 = .ok (.aload_n 0, 1) := by decide +kernel
theorem d_R_finish_15 : decode prog_10_method_9_code 15 = .ok (.getfield 65, 3) := by decide +kernel
theorem d_R_finish_18 : decode prog_10_method_9_code 18 = .ok (.iload_n 1, 1) := by decide +kernel
theorem d_R_finish_19 : decode prog_10_method_9_code 19 = .ok (.iload_n 3, 1) := by decide +kernel
theorem d_R_finish_20 : decode prog_10_method_9_code 20 = .ok (.iastore, 1) := by decide +kernel
theorem d_R_finish_21 : decode prog_10_method_9_code 21 = .ok (.return_, 1) := by decide +kernel
theorem d_R_read_0 : decode prog_10_method_10_code 0 = .ok (.aload_n 0, 1) := by decide +kernel
theorem d_R_read_1 : decode prog_10_method_10_code 1 = .ok (.iload_n 1, 1) := by decide +kernel
theorem d_R_read_2 : decode prog_10_method_10_code 2 = .ok (.invokevirtual 103, 3) := by decide +kernel
theorem d_R_read_5 : decode prog_10_method_10_code 5 = .ok (.ifCond .eq 11, 3) := by decide +kernel
theorem d_R_read_8 : decode prog_10_method_10_code 8 = .ok (.aload_n 0, 1) := by decide +kernel
theorem d_R_read_9 : decode prog_10_method_10_code 9 = .ok (.iload_n 2, 1) := by decide +kernel
theorem d_R_read_10 : decode prog_10_method_10_code 10 = .ok (.invokevirtual 107, 3) := by decide +kernel
theorem d_R_read_13 : decode prog_10_method_10_code 13 = .ok (.ifCond .ne 5, 3) := by decide +kernel
theorem d_R_read_16 : decode prog_10_method_10_code 16 = .ok (.iconst (-1), 1) := by decide +kernel
theorem d_R_read_17 : decode prog_10_method_10_code 17 = .ok (.ireturn, 1) := by decide +kernel
theorem d_R_read_18 : decode prog_10_method_10_code 18 = .ok (.aload_n 0, 1) := by decide +kernel
theorem d_R_read_19 : decode prog_10_method_10_code 19 = .ok (.getfield 43, 3) := by decide +kernel
theorem d_R_read_22 : decode prog_10_method_10_code 22 = .ok (.iload_n 1, 1) := by decide +kernel
theorem d_R_read_23 : decode prog_10_method_10_code 23 = .ok (.iaload, 1) := by decide +kernel
theorem d_R_read_24 : decode prog_10_method_10_code 24 = .ok (.iconst 2, 1) := by decide +kernel
theorem d_R_read_25 : decode prog_10_method_10_code 25 = .ok (.if_icmp .ne 5, 3) := by decide +kernel
theorem d_R_read_28 : decode prog_10_method_10_code 28 = .ok (.iconst 0, 1) := by decide +kernel
theorem d_R_read_29 : decode prog_10_method_10_code 29 = .ok (.ireturn, 1) := by decide +kernel
theorem d_R_read_30 : decode prog_10_method_10_code 30 = .ok (.aload_n 0, 1) := by decide +kernel
theorem d_R_read_31 : decode prog_10_method_10_code 31 = .ok (.iload_n 1, 1) := by decide +kernel
theorem d_R_read_32 : decode prog_10_method_10_code 32 = .ok (.iload_n 2, 1) := by decide +kernel
theorem d_R_read_33 : decode prog_10_method_10_code 33 = .ok (.iconst 0, 1) := by decide +kernel
theorem d_R_read_34 : decode prog_10_method_10_code 34 = .ok (.iconst 0, 1) := by decide +kernel
theorem d_R_read_35 : decode prog_10_method_10_code 35 = .ok (.invokevirtual 110, 3) := by decide +kernel
theorem d_R_read_38 : decode prog_10_method_10_code 38 = .ok (.iconst 4, 1) := by decide +kernel
theorem d_R_read_39 : decode prog_10_method_10_code 39 = .ok (.iload_n 1, 1) := by decide +kernel
