theorem dX13_four_16 : decode cX13_four 16 = .ok (.aload_n 0, 1) := by decide +kernel
theorem dX13_four_17 : decode cX13_four 17 = .ok (.getfield 62, 3) := by decide +kernel
theorem dX13_four_20 : decode cX13_four 20 = .ok (.if_icmp .ge 12, 3) := by decide +kernel
theorem dX13_four_23 : decode cX13_four 23 = .ok (.aload_n 0, 1) := by decide +kernel
theorem dX13_four_24 : decode cX13_four 24 = .ok (.getfield 9, 3) := by decide +kernel
theorem dX13_four_27 : decode cX13_four 27 = .ok (.iload_n 3, 1) := by decide +kernel
theorem dX13_four_28 : decode cX13_four 28 = .ok (.baload, 1) := by decide +kernel
theorem dX13_four_29 : decode cX13_four 29 = .ok (.goto 5, 3) := by decide +kernel
theorem dX13_four_32 : decode cX13_four 32 = .ok (.bipush 32, 2) := by decide +kernel
theorem dX13_four_34 : decode cX13_four 34 = .ok (.ior, 1) := by decide +kernel
theorem dX13_four_35 : decode cX13_four 35 = .ok (.istore_n 2, 1) := by decide +kernel
theorem dX13_four_36 : decode cX13_four 36 = .ok (.iinc 3 1, 3) := by decide +kernel
theorem dX13_four_39 : decode cX13_four 39 = .ok (.goto (-35), 3) := by decide +kernel
theorem dX13_four_42 : decode cX13_four 42 = .ok (.iload_n 2, 1) := by decide +kernel
theorem dX13_four_43 : decode cX13_four 43 = .ok (.ireturn, 1) := by decide +kernel
theorem dX13_send_0 : decode cX13_send 0 = .ok (.iconst 0, 1) := by decide +kernel
theorem dX13_send_1 : decode cX13_send 1 = .ok (.istore_n 2, 1) := by decide +kernel
theorem dX13_send_2 : decode cX13_send 2 = .ok (.iload_n 2, 1) := by decide +kernel
theorem dX13_send_3 : decode cX13_send 3 = .ok (.aload_n 0, 1) := by decide +kernel
theorem dX13_send_4 : decode cX13_send 4 = .ok (.getfield 62, 3) := by decide +kernel
theorem dX13_send_7 : decode cX13_send 7 = .ok (.if_icmp .ge 58, 3) := by decide +kernel
theorem dX13_send_10 : decode cX13_send 10 = .ok (.aload_n 1, 1) := by decide +kernel
theorem dX13_send_11 : decode cX13_send 11 = .ok (.aload_n 0, 1) := by decide +kernel
theorem dX13_send_12 : decode cX13_send 12 = .ok (.iload_n 2, 1) := by decide +kernel
theorem dX13_send_13 : decode cX13_send 13 = .ok (.invokevirtual 79, 3) := by decide +kernel
theorem dX13_send_16 : decode cX13_send 16 = .ok (.aload_n 0, 1) := by decide +kernel
theorem dX13_send_17 : decode cX13_send 17 = .ok (.iload_n 2, 1) := by decide +kernel
theorem dX13_send_18 : decode cX13_send 18 = .ok (.iconst 4, 1) := by decide +kernel
theorem dX13_send_19 : decode cX13_send 19 = .ok (.iadd, 1) := by decide +kernel
theorem dX13_send_20 : decode cX13_send 20 = .ok (.invokevirtual 79, 3) := by decide +kernel
theorem dX13_send_23 : decode cX13_send 23 = .ok (.aload_n 0, 1) := by decide +kernel
theorem dX13_send_24 : decode cX13_send 24 = .ok (.iload_n 2, 1) := by decide +kernel
theorem dX13_send_25 : decode cX13_send 25 = .ok (.bipush 8, 2) := by decide +kernel
theorem dX13_send_27 : decode cX13_send 27 = .ok (.iadd, 1) := by decide +kernel
theorem dX13_send_28 : decode cX13_send 28 = .ok (.invokevirtual 79, 3) := by decide +kernel
theorem dX13_send_31 : decode cX13_send 31 = .ok (.aload_n 0, 1) := by decide +kernel
theorem dX13_send_32 : decode cX13_send 32 = .ok (.iload_n 2, 1) := by decide +kernel
theorem dX13_send_33 : decode cX13_send 33 = .ok (.bipush 12, 2) := by decide +kernel
theorem dX13_send_35 : decode cX13_send 35 = .ok (.iadd, 1) := by decide +kernel
theorem dX13_send_36 : decode cX13_send 36 = .ok (.invokevirtual 79, 3) := by decide +kernel
theorem dX13_send_39 : decode cX13_send 39 = .ok (.aload_n 0, 1) := by decide +kernel
theorem dX13_send_40 : decode cX13_send 40 = .ok (.iload_n 2, 1) := by decide +kernel
theorem dX13_send_41 : decode cX13_send 41 = .ok (.bipush 16, 2) := by decide +kernel
theorem dX13_send_43 : decode cX13_send 43 = .ok (.iadd, 1) := by decide +kernel
theorem dX13_send_44 : decode cX13_send 44 = .ok (.invokevirtual 79, 3) := by decide +kernel
theorem dX13_send_47 : decode cX13_send 47 = .ok (.invokevirtual 83, 3) := by decide +kernel
theorem dX13_send_50 : decode cX13_send 50 = .ok (.iload_n 2, 1) := by decide +kernel
theorem dX13_send_51 : decode cX13_send 51 = .ok (.bipush 20, 2) := by decide +kernel
theorem dX13_send_53 : decode cX13_send 53 = .ok (.iadd, 1) := by decide +kernel
theorem dX13_send_54 : decode cX13_send 54 = .ok (.if_icmp .eq 5, 3) := by decide +kernel
theorem dX13_send_57 : decode cX13_send 57 = .ok (.iconst 0, 1) := by decide +kernel
theorem dX13_send_58 : decode cX13_send 58 = .ok (.ireturn, 1) := by decide +kernel
theorem dX13_send_59 : decode cX13_send 59 = .ok (.iinc 2 20, 3) := by decide +kernel
theorem dX13_send_62 : decode cX13_send 62 = .ok (.goto (-60), 3) := by decide +kernel
theorem dX13_send_65 : decode cX13_send 65 = .ok (.aload_n 0, 1) := by decide +kernel
theorem dX13_send_66 : decode cX13_send 66 = .ok (.iconst 0, 1) := by decide +kernel
theorem dX13_send_67 : decode cX13_send 67 = .ok (.putfield 62, 3) := by decide +kernel
theorem dX13_send_70 : decode cX13_send 70 = .ok (.iconst 1, 1) := by decide +kernel
theorem dX13_send_71 : decode cX13_send 71 = .ok (.ireturn, 1) := by decide +kernel
theorem dX13_begin_0 : decode cX13_begin 0 = .ok (.aload_n 0, 1) := by decide +kernel
theorem dX13_begin_1 : decode cX13_begin 1 = .ok (.iload_n 2, 1) := by decide +kernel
theorem dX13_begin_2 : decode cX13_begin 2 = .ok (.putfield 52, 3) := by decide +kernel
theorem dX13_begin_5 : decode cX13_begin 5 = .ok (.aload_n 0, 1) := by decide +kernel
theorem dX13_begin_6 : decode cX13_begin 6 = .ok (.iconst 0, 1) := by decide +kernel
theorem dX13_begin_7 : decode cX13_begin 7 = .ok (.putfield 89, 3) := by decide +kernel
theorem dX13_begin_10 : decode cX13_begin 10 = .ok (.aload_n 0, 1) := by decide +kernel
theorem dX13_begin_11 : decode cX13_begin 11 = .ok (.iconst 1, 1) := by decide +kernel
theorem dX13_begin_12 : decode cX13_begin 12 = .ok (.aload_n 0, 1) := by decide +kernel
theorem dX13_begin_13 : decode cX13_begin 13 = .ok (.bipush 7, 2) := by decide +kernel
theorem dX13_begin_15 : decode cX13_begin 15 = .ok (.invokevirtual 92, 3) := by decide +kernel
theorem dX13_begin_18 : decode cX13_begin 18 = .ok (.iadd, 1) := by decide +kernel
theorem dX13_begin_19 : decode cX13_begin 19 = .ok (.putfield 95, 3) := by decide +kernel
theorem dX13_begin_22 : decode cX13_begin 22 = .ok (.aload_n 0, 1) := by decide +kernel
theorem dX13_begin_23 : decode cX13_begin 23 = .ok (.iconst 1, 1) := by decide +kernel
theorem dX13_begin_24 : decode cX13_begin 24 = .ok (.aload_n 0, 1) := by decide +kernel
theorem dX13_begin_25 : decode cX13_begin 25 = .ok (.bipush 7, 2) := by decide +kernel
theorem dX13_begin_27 : decode cX13_begin 27 = .ok (.invokevirtual 92, 3) := by decide +kernel
theorem dX13_begin_30 : decode cX13_begin 30 = .ok (.iadd, 1) := by decide +kernel
theorem dX13_begin_31 : decode cX13_begin 31 = .ok (.putfield 98, 3) := by decide +kernel
theorem dX13_begin_34 : decode cX13_begin 34 = .ok (.iconst 0, 1) := by decide +kernel
theorem dX13_begin_35 : decode cX13_begin 35 = .ok (.istore_n 3, 1) := by decide +kernel
theorem dX13_begin_36 : decode cX13_begin 36 = .ok (.iload_n 3, 1) := by decide +kernel
theorem dX13_begin_37 : decode cX13_begin 37 = .ok (.bipush 8, 2) := by decide +kernel
theorem dX13_begin_39 : decode cX13_begin 39 = .ok (.if_icmp .ge 16, 3) := by decide +kernel
theorem dX13_begin_42 : decode cX13_begin 42 = .ok (.aload_n 0, 1) := by decide +kernel
theorem dX13_begin_43 : decode cX13_begin 43 = .ok (.getfield 25, 3) := by decide +kernel
theorem dX13_begin_46 : decode cX13_begin 46 = .ok (.iload_n 3, 1) := by decide +kernel
theorem dX13_begin_47 : decode cX13_begin 47 = .ok (.iconst (-1), 1) := by decide +kernel
theorem dX13_begin_48 : decode cX13_begin 48 = .ok (.iastore, 1) := by decide +kernel
theorem dX13_begin_49 : decode cX13_begin 49 = .ok (.iinc 3 1, 3) := by decide +kernel
theorem dX13_begin_52 : decode cX13_begin 52 = .ok (.goto (-16), 3) := by decide +kernel
theorem dX13_begin_55 : decode cX13_begin 55 = .ok (.aload_n 0, 1) := by decide +kernel
theorem dX13_begin_56 : decode cX13_begin 56 = .ok (.ldc 101, 2) := by decide +kernel
theorem dX13_begin_58 : decode cX13_begin 58 = .ok (.invokevirtual 75, 3) := by decide +kernel
theorem dX13_begin_61 : decode cX13_begin 61 = .ok (.iconst 0, 1) := by decide +kernel
theorem dX13_begin_62 : decode cX13_begin 62 = .ok (.istore_n 3, 1) := by decide +kernel
theorem dX13_begin_63 : decode cX13_begin 63 = .ok (.iload_n 3, 1) := by decide +kernel
theorem dX13_begin_64 : decode cX13_begin 64 = .ok (.aload_n 0, 1) := by decide +kernel
theorem dX13_begin_65 : decode cX13_begin 65 = .ok (.getfield 95, 3) := by decide +kernel
theorem dX13_begin_68 : decode cX13_begin 68 = .ok (.if_icmp .ge 63, 3) := by decide +kernel
theorem dX13_begin_71 : decode cX13_begin 71 = .ok (.aload_n 0, 1) := by decide +kernel
theorem dX13_begin_72 : decode cX13_begin 72 = .ok (.getfield 15, 3) := by decide +kernel
theorem dX13_begin_75 : decode cX13_begin 75 = .ok (.iload_n 3, 1) := by decide +kernel
theorem dX13_begin_76 : decode cX13_begin 76 = .ok (.aload_n 0, 1) := by decide +kernel
theorem dX13_begin_77 : decode cX13_begin 77 = .ok (.aload_n 0, 1) := by decide +kernel
theorem dX13_begin_78 : decode cX13_begin 78 = .ok (.iconst 2, 1) := by decide +kernel
theorem dX13_begin_79 : decode cX13_begin 79 = .ok (.invokevirtual 92, 3) := by decide +kernel
theorem dX13_begin_82 : decode cX13_begin 82 = .ok (.ifCond .ne 8, 3) := by decide +kernel
theorem dX13_begin_85 : decode cX13_begin 85 = .ok (.bipush 100, 2) := by decide +kernel
theorem dX13_begin_87 : decode cX13_begin 87 = .ok (.goto 5, 3) := by decide +kernel
theorem dX13_begin_90 : decode cX13_begin 90 = .ok (.bipush 20, 2) := by decide +kernel
theorem dX13_begin_92 : decode cX13_begin 92 = .ok (.invokevirtual 92, 3) := by decide +kernel
theorem dX13_begin_95 : decode cX13_begin 95 = .ok (.iastore, 1) := by decide +kernel
theorem dX13_begin_96 : decode cX13_begin 96 = .ok (.aload_n 0, 1) := by decide +kernel
theorem dX13_begin_97 : decode cX13_begin 97 = .ok (.ldc 103, 2) := by decide +kernel
theorem dX13_begin_99 : decode cX13_begin 99 = .ok (.invokevirtual 75, 3) := by decide +kernel
theorem dX13_begin_102 : decode cX13_begin 102 = .ok (.aload_n 0, 1) := by decide +kernel
theorem dX13_begin_103 : decode cX13_begin 103 = .ok (.bipush 112, 2) := by decide +kernel
theorem dX13_begin_105 : decode cX13_begin 105 = .ok (.iload_n 3, 1) := by decide +kernel
theorem dX13_begin_106 : decode cX13_begin 106 = .ok (.invokevirtual 105, 3) := by decide +kernel
theorem dX13_begin_109 : decode cX13_begin 109 = .ok (.aload_n 0, 1) := by decide +kernel
theorem dX13_begin_110 : decode cX13_begin 110 = .ok (.aload_n 0, 1) := by decide +kernel
theorem dX13_begin_111 : decode cX13_begin 111 = .ok (.getfield 15, 3) := by decide +kernel
theorem dX13_begin_114 : decode cX13_begin 114 = .ok (.iload_n 3, 1) := by decide +kernel
theorem dX13_begin_115 : decode cX13_begin 115 = .ok (.iaload, 1) := by decide +kernel
theorem dX13_begin_116 : decode cX13_begin 116 = .ok (.invokevirtual 109, 3) := by decide +kernel
theorem dX13_begin_119 : decode cX13_begin 119 = .ok (.aload_n 0, 1) := by decide +kernel
theorem dX13_begin_120 : decode cX13_begin 120 = .ok (.ldc 111, 2) := by decide +kernel
theorem dX13_begin_122 : decode cX13_begin 122 = .ok (.invokevirtual 75, 3) := by decide +kernel
theorem dX13_begin_125 : decode cX13_begin 125 = .ok (.iinc 3 1, 3) := by decide +kernel
theorem dX13_begin_128 : decode cX13_begin 128 = .ok (.goto (-65), 3) := by decide +kernel
theorem dX13_begin_131 : decode cX13_begin 131 = .ok (.iconst 0, 1) := by decide +kernel
theorem dX13_begin_132 : decode cX13_begin 132 = .ok (.istore_n 3, 1) := by decide +kernel
theorem dX13_begin_133 : decode cX13_begin 133 = .ok (.iload_n 3, 1) := by decide +kernel
theorem dX13_begin_134 : decode cX13_begin 134 = .ok (.aload_n 0, 1) := by decide +kernel
theorem dX13_begin_135 : decode cX13_begin 135 = .ok (.getfield 98, 3) := by decide +kernel
theorem dX13_begin_138 : decode cX13_begin 138 = .ok (.if_icmp .ge 219, 3) := by decide +kernel
theorem dX13_begin_141 : decode cX13_begin 141 = .ok (.aload_n 0, 1) := by decide +kernel
theorem dX13_begin_142 : decode cX13_begin 142 = .ok (.getfield 19, 3) := by decide +kernel
theorem dX13_begin_145 : decode cX13_begin 145 = .ok (.iload_n 3, 1) := by decide +kernel
theorem dX13_begin_146 : decode cX13_begin 146 = .ok (.aload_n 0, 1) := by decide +kernel
theorem dX13_begin_147 : decode cX13_begin 147 = .ok (.sipush 200, 3) := by decide +kernel
theorem dX13_begin_150 : decode cX13_begin 150 = .ok (.invokevirtual 92, 3) := by decide +kernel
theorem dX13_begin_153 : decode cX13_begin 153 = .ok (.iastore, 1) := by decide +kernel
theorem dX13_begin_154 : decode cX13_begin 154 = .ok (.aload_n 0, 1) := by decide +kernel
theorem dX13_begin_155 : decode cX13_begin 155 = .ok (.getfield 22, 3) := by decide +kernel
theorem dX13_begin_158 : decode cX13_begin 158 = .ok (.iload_n 3, 1) := by decide +kernel
theorem dX13_begin_159 : decode cX13_begin 159 = .ok (.aload_n 0, 1) := by decide +kernel
theorem dX13_begin_160 : decode cX13_begin 160 = .ok (.bipush 60, 2) := by decide +kernel
theorem dX13_begin_162 : decode cX13_begin 162 = .ok (.invokevirtual 92, 3) := by decide +kernel
theorem dX13_begin_165 : decode cX13_begin 165 = .ok (.iastore, 1) := by decide +kernel
theorem dX13_begin_166 : decode cX13_begin 166 = .ok (.aload_n 0, 1) := by decide +kernel
theorem dX13_begin_167 : decode cX13_begin 167 = .ok (.getfield 25, 3) := by decide +kernel
theorem dX13_begin_170 : decode cX13_begin 170 = .ok (.iload_n 3, 1) := by decide +kernel
theorem dX13_begin_171 : decode cX13_begin 171 = .ok (.iconst (-1), 1) := by decide +kernel
theorem dX13_begin_172 : decode cX13_begin 172 = .ok (.iastore, 1) := by decide +kernel
theorem dX13_begin_173 : decode cX13_begin 173 = .ok (.aload_n 0, 1) := by decide +kernel
theorem dX13_begin_174 : decode cX13_begin 174 = .ok (.getfield 28, 3) := by decide +kernel
theorem dX13_begin_177 : decode cX13_begin 177 = .ok (.iload_n 3, 1) := by decide +kernel
theorem dX13_begin_178 : decode cX13_begin 178 = .ok (.iconst 0, 1) := by decide +kernel
theorem dX13_begin_179 : decode cX13_begin 179 = .ok (.iastore, 1) := by decide +kernel
theorem dX13_begin_180 : decode cX13_begin 180 = .ok (.aload_n 0, 1) := by decide +kernel
theorem dX13_begin_181 : decode cX13_begin 181 = .ok (.getfield 31, 3) := by decide +kernel
theorem dX13_begin_184 : decode cX13_begin 184 = .ok (.iload_n 3, 1) := by decide +kernel
theorem dX13_begin_185 : decode cX13_begin 185 = .ok (.iload_n 3, 1) := by decide +kernel
theorem dX13_begin_186 : decode cX13_begin 186 = .ok (.iastore, 1) := by decide +kernel
theorem dX13_begin_187 : decode cX13_begin 187 = .ok (.aload_n 0, 1) := by decide +kernel
theorem dX13_begin_188 : decode cX13_begin 188 = .ok (.ldc 113, 2) := by decide +kernel
theorem dX13_begin_190 : decode cX13_begin 190 = .ok (.invokevirtual 75, 3) := by decide +kernel
theorem dX13_begin_193 : decode cX13_begin 193 = .ok (.aload_n 0, 1) := by decide +kernel
theorem dX13_begin_194 : decode cX13_begin 194 = .ok (.bipush 97, 2) := by decide +kernel
theorem dX13_begin_196 : decode cX13_begin 196 = .ok (.iload_n 3, 1) := by decide +kernel
theorem dX13_begin_197 : decode cX13_begin 197 = .ok (.invokevirtual 105, 3) := by decide +kernel
theorem dX13_begin_200 : decode cX13_begin 200 = .ok (.aload_n 0, 1) := by decide +kernel
theorem dX13_begin_201 : decode cX13_begin 201 = .ok (.aload_n 0, 1) := by decide +kernel
theorem dX13_begin_202 : decode cX13_begin 202 = .ok (.getfield 19, 3) := by decide +kernel
theorem dX13_begin_205 : decode cX13_begin 205 = .ok (.iload_n 3, 1) := by decide +kernel
theorem dX13_begin_206 : decode cX13_begin 206 = .ok (.iaload, 1) := by decide +kernel
theorem dX13_begin_207 : decode cX13_begin 207 = .ok (.invokevirtual 109, 3) := by decide +kernel
theorem dX13_begin_210 : decode cX13_begin 210 = .ok (.aload_n 0, 1) := by decide +kernel
theorem dX13_begin_211 : decode cX13_begin 211 = .ok (.aload_n 0, 1) := by decide +kernel
theorem dX13_begin_212 : decode cX13_begin 212 = .ok (.getfield 22, 3) := by decide +kernel
theorem dX13_begin_215 : decode cX13_begin 215 = .ok (.iload_n 3, 1) := by decide +kernel
theorem dX13_begin_216 : decode cX13_begin 216 = .ok (.iaload, 1) := by decide +kernel
theorem dX13_begin_217 : decode cX13_begin 217 = .ok (.invokevirtual 109, 3) := by decide +kernel
theorem dX13_begin_220 : decode cX13_begin 220 = .ok (.aload_n 0, 1) := by decide +kernel
theorem dX13_begin_221 : decode cX13_begin 221 = .ok (.aload_n 0, 1) := by decide +kernel
theorem dX13_begin_222 : decode cX13_begin 222 = .ok (.getfield 95, 3) := by decide +kernel
theorem dX13_begin_225 : decode cX13_begin 225 = .ok (.iconst 1, 1) := by decide +kernel
theorem dX13_begin_226 : decode cX13_begin 226 = .ok (.iadd, 1) := by decide +kernel
theorem dX13_begin_227 : decode cX13_begin 227 = .ok (.invokevirtual 92, 3) := by decide +kernel
theorem dX13_begin_230 : decode cX13_begin 230 = .ok (.istore 4, 2) := by decide +kernel
theorem dX13_begin_232 : decode cX13_begin 232 = .ok (.iload 4, 2) := by decide +kernel
theorem dX13_begin_234 : decode cX13_begin 234 = .ok (.ifCond .le 61, 3) := by decide +kernel
theorem dX13_begin_237 : decode cX13_begin 237 = .ok (.aload_n 0, 1) := by decide +kernel
theorem dX13_begin_238 : decode cX13_begin 238 = .ok (.aload_n 0, 1) := by decide +kernel
theorem dX13_begin_239 : decode cX13_begin 239 = .ok (.getfield 95, 3) := by decide +kernel
theorem dX13_begin_242 : decode cX13_begin 242 = .ok (.invokevirtual 92, 3) := by decide +kernel
theorem dX13_begin_245 : decode cX13_begin 245 = .ok (.istore 5, 2) := by decide +kernel
theorem dX13_begin_247 : decode cX13_begin 247 = .ok (.aload_n 0, 1) := by decide +kernel
theorem dX13_begin_248 : decode cX13_begin 248 = .ok (.iload_n 3, 1) := by decide +kernel
theorem dX13_begin_249 : decode cX13_begin 249 = .ok (.iload 5, 2) := by decide +kernel
theorem dX13_begin_251 : decode cX13_begin 251 = .ok (.invokevirtual 115, 3) := by decide +kernel
theorem dX13_begin_254 : decode cX13_begin 254 = .ok (.iconst (-1), 1) := by decide +kernel
theorem dX13_begin_255 : decode cX13_begin 255 = .ok (.if_icmp .eq 6, 3) := by decide +kernel
theorem dX13_begin_258 : decode cX13_begin 258 = .ok (.goto 31, 3) := by decide +kernel
theorem dX13_begin_261 : decode cX13_begin 261 = .ok (.aload_n 0, 1) := by decide +kernel
theorem dX13_begin_262 : decode cX13_begin 262 = .ok (.getfield 45, 3) := by decide +kernel
theorem dX13_begin_265 : decode cX13_begin 265 = .ok (.iload_n 3, 1) := by decide +kernel
theorem dX13_begin_266 : decode cX13_begin 266 = .ok (.aaload, 1) := by decide +kernel
theorem dX13_begin_267 : decode cX13_begin 267 = .ok (.aload_n 0, 1) := by decide +kernel
theorem dX13_begin_268 : decode cX13_begin 268 = .ok (.getfield 28, 3) := by decide +kernel
theorem dX13_begin_271 : decode cX13_begin 271 = .ok (.iload_n 3, 1) := by decide +kernel
theorem dX13_begin_272 : decode cX13_begin 272 = .ok (.dup2, 1) := by decide +kernel
theorem dX13_begin_273 : decode cX13_begin 273 = .ok (.iaload, 1) := by decide +kernel
theorem dX13_begin_274 : decode cX13_begin 274 = .ok (.dup_x2, 1) := by decide +kernel
theorem dX13_begin_275 : decode cX13_begin 275 = .ok (.iconst 1, 1) := by decide +kernel
theorem dX13_begin_276 : decode cX13_begin 276 = .ok (.iadd, 1) := by decide +kernel
theorem dX13_begin_277 : decode cX13_begin 277 = .ok (.iastore, 1) := by decide +kernel
theorem dX13_begin_278 : decode cX13_begin 278 = .ok (.iload 5, 2) := by decide +kernel
theorem dX13_begin_280 : decode cX13_begin 280 = .ok (.iastore, 1) := by decide +kernel
theorem dX13_begin_281 : decode cX13_begin 281 = .ok (.aload_n 0, 1) := by decide +kernel
theorem dX13_begin_282 : decode cX13_begin 282 = .ok (.bipush 112, 2) := by decide +kernel
theorem dX13_begin_284 : decode cX13_begin 284 = .ok (.iload 5, 2) := by decide +kernel
theorem dX13_begin_286 : decode cX13_begin 286 = .ok (.invokevirtual 105, 3) := by decide +kernel
theorem dX13_begin_289 : decode cX13_begin 289 = .ok (.iinc 4 (-1), 3) := by decide +kernel
theorem dX13_begin_292 : decode cX13_begin 292 = .ok (.goto (-60), 3) := by decide +kernel
theorem dX13_begin_295 : decode cX13_begin 295 = .ok (.aload_n 0, 1) := by decide +kernel
theorem dX13_begin_296 : decode cX13_begin 296 = .ok (.aload_n 0, 1) := by decide +kernel
theorem dX13_begin_297 : decode cX13_begin 297 = .ok (.getfield 95, 3) := by decide +kernel
theorem dX13_begin_300 : decode cX13_begin 300 = .ok (.invokevirtual 92, 3) := by decide +kernel
theorem dX13_begin_303 : decode cX13_begin 303 = .ok (.istore 4, 2) := by decide +kernel
theorem dX13_begin_305 : decode cX13_begin 305 = .ok (.aload_n 0, 1) := by decide +kernel
theorem dX13_begin_306 : decode cX13_begin 306 = .ok (.iconst 3, 1) := by decide +kernel
theorem dX13_begin_307 : decode cX13_begin 307 = .ok (.invokevirtual 92, 3) := by decide +kernel
theorem dX13_begin_310 : decode cX13_begin 310 = .ok (.ifCond .le 35, 3) := by decide +kernel
theorem dX13_begin_313 : decode cX13_begin 313 = .ok (.aload_n 0, 1) := by decide +kernel
theorem dX13_begin_314 : decode cX13_begin 314 = .ok (.iload 4, 2) := by decide +kernel
theorem dX13_begin_316 : decode cX13_begin 316 = .ok (.invokevirtual 119, 3) := by decide +kernel
theorem dX13_begin_319 : decode cX13_begin 319 = .ok (.iconst (-1), 1) := by decide +kernel
theorem dX13_begin_320 : decode cX13_begin 320 = .ok (.if_icmp .ne 25, 3) := by decide +kernel
theorem dX13_begin_323 : decode cX13_begin 323 = .ok (.aload_n 0, 1) := by decide +kernel
theorem dX13_begin_324 : decode cX13_begin 324 = .ok (.getfield 25, 3) := by decide +kernel
theorem dX13_begin_327 : decode cX13_begin 327 = .ok (.iload_n 3, 1) := by decide +kernel
theorem dX13_begin_328 : decode cX13_begin 328 = .ok (.iload 4, 2) := by decide +kernel
theorem dX13_begin_330 : decode cX13_begin 330 = .ok (.iastore, 1) := by decide +kernel
theorem dX13_begin_331 : decode cX13_begin 331 = .ok (.aload_n 0, 1) := by decide +kernel
theorem dX13_begin_332 : decode cX13_begin 332 = .ok (.ldc 122, 2) := by decide +kernel
theorem dX13_begin_334 : decode cX13_begin 334 = .ok (.invokevirtual 75, 3) := by decide +kernel
theorem dX13_begin_337 : decode cX13_begin 337 = .ok (.aload_n 0, 1) := by decide +kernel
theorem dX13_begin_338 : decode cX13_begin 338 = .ok (.bipush 112, 2) := by decide +kernel
theorem dX13_begin_340 : decode cX13_begin 340 = .ok (.iload 4, 2) := by decide +kernel
theorem dX13_begin_342 : decode cX13_begin 342 = .ok (.invokevirtual 105, 3) := by decide +kernel
theorem dX13_begin_345 : decode cX13_begin 345 = .ok (.aload_n 0, 1) := by decide +kernel
theorem dX13_begin_346 : decode cX13_begin 346 = .ok (.ldc 111, 2) := by decide +kernel
theorem dX13_begin_348 : decode cX13_begin 348 = .ok (.invokevirtual 75, 3) := by decide +kernel
theorem dX13_begin_351 : decode cX13_begin 351 = .ok (.iinc 3 1, 3) := by decide +kernel
theorem dX13_begin_354 : decode cX13_begin 354 = .ok (.goto (-221), 3) := by decide +kernel
theorem dX13_begin_357 : decode cX13_begin 357 = .ok (.aload_n 0, 1) := by decide +kernel
theorem dX13_begin_358 : decode cX13_begin 358 = .ok (.aload_n 1, 1) := by decide +kernel
theorem dX13_begin_359 : decode cX13_begin 359 = .ok (.invokevirtual 124, 3) := by decide +kernel
theorem dX13_begin_362 : decode cX13_begin 362 = .ok (.ifCond .eq 18, 3) := by decide +kernel
theorem dX13_begin_365 : decode cX13_begin 365 = .ok (.aload_n 1, 1) := by decide +kernel
theorem dX13_begin_366 : decode cX13_begin 366 = .ok (.invokevirtual 128, 3) := by decide +kernel
theorem dX13_begin_369 : decode cX13_begin 369 = .ok (.aload_n 0, 1) := by decide +kernel
theorem dX13_begin_370 : decode cX13_begin 370 = .ok (.getfield 98, 3) := by decide +kernel
theorem dX13_begin_373 : decode cX13_begin 373 = .ok (.if_icmp .ne 7, 3) := by decide +kernel
theorem dX13_begin_376 : decode cX13_begin 376 = .ok (.iconst 1, 1) := by decide +kernel
theorem dX13_begin_377 : decode cX13_begin 377 = .ok (.goto 4, 3) := by decide +kernel
theorem dX13_begin_380 : decode cX13_begin 380 = .ok (.iconst 0, 1) := by decide +kernel
theorem dX13_begin_381 : decode cX13_begin 381 = .ok (.ireturn, 1) := by decide +kernel
theorem dX13_rank_0 : decode cX13_rank 0 = .ok (.iconst 0, 1) := by decide +kernel
theorem dX13_rank_1 : decode cX13_rank 1 = .ok (.istore_n 3, 1) := by decide +kernel
theorem dX13_rank_2 : decode cX13_rank 2 = .ok (.iload_n 3, 1) := by decide +kernel
theorem dX13_rank_3 : decode cX13_rank 3 = .ok (.aload_n 0, 1) := by decide +kernel
theorem dX13_rank_4 : decode cX13_rank 4 = .ok (.getfield 28, 3) := by decide +kernel
theorem dX13_rank_7 : decode cX13_rank 7 = .ok (.iload_n 1, 1) := by decide +kernel
theorem dX13_rank_8 : decode cX13_rank 8 = .ok (.iaload, 1) := by decide +kernel
theorem dX13_rank_9 : decode cX13_rank 9 = .ok (.if_icmp .ge 23, 3) := by decide +kernel
theorem dX13_rank_12 : decode cX13_rank 12 = .ok (.aload_n 0, 1) := by decide +kernel
theorem dX13_rank_13 : decode cX13_rank 13 = .ok (.getfield 45, 3) := by decide +kernel
theorem dX13_rank_16 : decode cX13_rank 16 = .ok (.iload_n 1, 1) := by decide +kernel
theorem dX13_rank_17 : decode cX13_rank 17 = .ok (.aaload, 1) := by decide +kernel
theorem dX13_rank_18 : decode cX13_rank 18 = .ok (.iload_n 3, 1) := by decide +kernel
theorem dX13_rank_19 : decode cX13_rank 19 = .ok (.iaload, 1) := by decide +kernel
theorem dX13_rank_20 : decode cX13_rank 20 = .ok (.iload_n 2, 1) := by decide +kernel
theorem dX13_rank_21 : decode cX13_rank 21 = .ok (.if_icmp .ne 5, 3) := by decide +kernel
theorem dX13_rank_24 : decode cX13_rank 24 = .ok (.iload_n 3, 1) := by decide +kernel
theorem dX13_rank_25 : decode cX13_rank 25 = .ok (.ireturn, 1) := by decide +kernel
theorem dX13_rank_26 : decode cX13_rank 26 = .ok (.iinc 3 1, 3) := by decide +kernel
theorem dX13_rank_29 : decode cX13_rank 29 = .ok (.goto (-27), 3) := by decide +kernel
theorem dX13_rank_32 : decode cX13_rank 32 = .ok (.iconst (-1), 1) := by decide +kernel
theorem dX13_rank_33 : decode cX13_rank 33 = .ok (.ireturn, 1) := by decide +kernel
theorem dX13_tenant_0 : decode cX13_tenant 0 = .ok (.iconst 0, 1) := by decide +kernel
theorem dX13_tenant_1 : decode cX13_tenant 1 = .ok (.istore_n 2, 1) := by decide +kernel
theorem dX13_tenant_2 : decode cX13_tenant 2 = .ok (.iload_n 2, 1) := by decide +kernel
theorem dX13_tenant_3 : decode cX13_tenant 3 = .ok (.aload_n 0, 1) := by decide +kernel
theorem dX13_tenant_4 : decode cX13_tenant 4 = .ok (.getfield 98, 3) := by decide +kernel
theorem dX13_tenant_7 : decode cX13_tenant 7 = .ok (.if_icmp .ge 21, 3) := by decide +kernel
theorem dX13_tenant_10 : decode cX13_tenant 10 = .ok (.aload_n 0, 1) := by decide +kernel
theorem dX13_tenant_11 : decode cX13_tenant 11 = .ok (.getfield 25, 3) := by decide +kernel
theorem dX13_tenant_14 : decode cX13_tenant 14 = .ok (.iload_n 2, 1) := by decide +kernel
theorem dX13_tenant_15 : decode cX13_tenant 15 = .ok (.iaload, 1) := by decide +kernel
theorem dX13_tenant_16 : decode cX13_tenant 16 = .ok (.iload_n 1, 1) := by decide +kernel
theorem dX13_tenant_17 : decode cX13_tenant 17 = .ok (.if_icmp .ne 5, 3) := by decide +kernel
theorem dX13_tenant_20 : decode cX13_tenant 20 = .ok (.iload_n 2, 1) := by decide +kernel
theorem dX13_tenant_21 : decode cX13_tenant 21 = .ok (.ireturn, 1) := by decide +kernel
theorem dX13_tenant_22 : decode cX13_tenant 22 = .ok (.iinc 2 1, 3) := by decide +kernel
theorem dX13_tenant_25 : decode cX13_tenant 25 = .ok (.goto (-23), 3) := by decide +kernel
theorem dX13_tenant_28 : decode cX13_tenant 28 = .ok (.iconst (-1), 1) := by decide +kernel
theorem dX13_tenant_29 : decode cX13_tenant 29 = .ok (.ireturn, 1) := by decide +kernel
theorem dX13_bad_0 : decode cX13_bad 0 = .ok (.iload_n 2, 1) := by decide +kernel
theorem dX13_bad_1 : decode cX13_bad 1 = .ok (.iconst (-1), 1) := by decide +kernel
theorem dX13_bad_2 : decode cX13_bad 2 = .ok (.if_icmp .ne 8, 3) := by decide +kernel
theorem dX13_bad_5 : decode cX13_bad 5 = .ok (.bipush 50, 2) := by decide +kernel
theorem dX13_bad_7 : decode cX13_bad 7 = .ok (.goto 24, 3) := by decide +kernel
theorem dX13_bad_10 : decode cX13_bad 10 = .ok (.aload_n 0, 1) := by decide +kernel
theorem dX13_bad_11 : decode cX13_bad 11 = .ok (.iload_n 1, 1) := by decide +kernel
theorem dX13_bad_12 : decode cX13_bad 12 = .ok (.iload_n 2, 1) := by decide +kernel
theorem dX13_bad_13 : decode cX13_bad 13 = .ok (.invokevirtual 115, 3) := by decide +kernel
theorem dX13_bad_16 : decode cX13_bad 16 = .ok (.iconst (-1), 1) := by decide +kernel
theorem dX13_bad_17 : decode cX13_bad 17 = .ok (.if_icmp .ne 8, 3) := by decide +kernel
theorem dX13_bad_20 : decode cX13_bad 20 = .ok (.bipush 99, 2) := by decide +kernel
theorem dX13_bad_22 : decode cX13_bad 22 = .ok (.goto 9, 3) := by decide +kernel
theorem dX13_bad_25 : decode cX13_bad 25 = .ok (.aload_n 0, 1) := by decide +kernel
theorem dX13_bad_26 : decode cX13_bad 26 = .ok (.iload_n 1, 1) := by decide +kernel
theorem dX13_bad_27 : decode cX13_bad 27 = .ok (.iload_n 2, 1) := by decide +kernel
theorem dX13_bad_28 : decode cX13_bad 28 = .ok (.invokevirtual 115, 3) := by decide +kernel
theorem dX13_bad_31 : decode cX13_bad 31 = .ok (.ireturn, 1) := by decide +kernel
theorem dX13_likes_0 : decode cX13_likes 0 = .ok (.aload_n 0, 1) := by decide +kernel
theorem dX13_likes_1 : decode cX13_likes 1 = .ok (.iload_n 1, 1) := by decide +kernel
theorem dX13_likes_2 : decode cX13_likes 2 = .ok (.iload_n 2, 1) := by decide +kernel
theorem dX13_likes_3 : decode cX13_likes 3 = .ok (.invokevirtual 131, 3) := by decide +kernel
theorem dX13_likes_6 : decode cX13_likes 6 = .ok (.aload_n 0, 1) := by decide +kernel
theorem dX13_likes_7 : decode cX13_likes 7 = .ok (.iload_n 1, 1) := by decide +kernel
theorem dX13_likes_8 : decode cX13_likes 8 = .ok (.iload_n 3, 1) := by decide +kernel
theorem dX13_likes_9 : decode cX13_likes 9 = .ok (.invokevirtual 131, 3) := by decide +kernel
theorem dX13_likes_12 : decode cX13_likes 12 = .ok (.if_icmp .ge 7, 3) := by decide +kernel
theorem dX13_likes_15 : decode cX13_likes 15 = .ok (.iconst 1, 1) := by decide +kernel
theorem dX13_likes_16 : decode cX13_likes 16 = .ok (.goto 4, 3) := by decide +kernel
theorem dX13_likes_19 : decode cX13_likes 19 = .ok (.iconst 0, 1) := by decide +kernel
theorem dX13_likes_20 : decode cX13_likes 20 = .ok (.ireturn, 1) := by decide +kernel
theorem dX13_envies_0 : decode cX13_envies 0 = .ok (.aload_n 0, 1) := by decide +kernel
theorem dX13_envies_1 : decode cX13_envies 1 = .ok (.getfield 25, 3) := by decide +kernel
theorem dX13_envies_4 : decode cX13_envies 4 = .ok (.iload_n 2, 1) := by decide +kernel
theorem dX13_envies_5 : decode cX13_envies 5 = .ok (.iaload, 1) := by decide +kernel
theorem dX13_envies_6 : decode cX13_envies 6 = .ok (.iconst (-1), 1) := by decide +kernel
theorem dX13_envies_7 : decode cX13_envies 7 = .ok (.if_icmp .eq 27, 3) := by decide +kernel
theorem dX13_envies_10 : decode cX13_envies 10 = .ok (.aload_n 0, 1) := by decide +kernel
theorem dX13_envies_11 : decode cX13_envies 11 = .ok (.iload_n 1, 1) := by decide +kernel
theorem dX13_envies_12 : decode cX13_envies 12 = .ok (.aload_n 0, 1) := by decide +kernel
theorem dX13_envies_13 : decode cX13_envies 13 = .ok (.getfield 25, 3) := by decide +kernel
theorem dX13_envies_16 : decode cX13_envies 16 = .ok (.iload_n 2, 1) := by decide +kernel
theorem dX13_envies_17 : decode cX13_envies 17 = .ok (.iaload, 1) := by decide +kernel
theorem dX13_envies_18 : decode cX13_envies 18 = .ok (.aload_n 0, 1) := by decide +kernel
theorem dX13_envies_19 : decode cX13_envies 19 = .ok (.getfield 25, 3) := by decide +kernel
theorem dX13_envies_22 : decode cX13_envies 22 = .ok (.iload_n 1, 1) := by decide +kernel
theorem dX13_envies_23 : decode cX13_envies 23 = .ok (.iaload, 1) := by decide +kernel
theorem dX13_envies_24 : decode cX13_envies 24 = .ok (.invokevirtual 134, 3) := by decide +kernel
theorem dX13_envies_27 : decode cX13_envies 27 = .ok (.ifCond .eq 7, 3) := by decide +kernel
theorem dX13_envies_30 : decode cX13_envies 30 = .ok (.iconst 1, 1) := by decide +kernel
theorem dX13_envies_31 : decode cX13_envies 31 = .ok (.goto 4, 3) := by decide +kernel
theorem dX13_envies_34 : decode cX13_envies 34 = .ok (.iconst 0, 1) := by decide +kernel
theorem dX13_envies_35 : decode cX13_envies 35 = .ok (.ireturn, 1) := by decide +kernel
theorem dX13_both_0 : decode cX13_both 0 = .ok (.aload_n 0, 1) := by decide +kernel
theorem dX13_both_1 : decode cX13_both 1 = .ok (.getfield 25, 3) := by decide +kernel
theorem dX13_both_4 : decode cX13_both 4 = .ok (.iload_n 1, 1) := by decide +kernel
theorem dX13_both_5 : decode cX13_both 5 = .ok (.iaload, 1) := by decide +kernel
theorem dX13_both_6 : decode cX13_both 6 = .ok (.iconst (-1), 1) := by decide +kernel
theorem dX13_both_7 : decode cX13_both 7 = .ok (.if_icmp .eq 35, 3) := by decide +kernel
theorem dX13_both_10 : decode cX13_both 10 = .ok (.aload_n 0, 1) := by decide +kernel
theorem dX13_both_11 : decode cX13_both 11 = .ok (.getfield 25, 3) := by decide +kernel
theorem dX13_both_14 : decode cX13_both 14 = .ok (.iload_n 2, 1) := by decide +kernel
theorem dX13_both_15 : decode cX13_both 15 = .ok (.iaload, 1) := by decide +kernel
theorem dX13_both_16 : decode cX13_both 16 = .ok (.iconst (-1), 1) := by decide +kernel
theorem dX13_both_17 : decode cX13_both 17 = .ok (.if_icmp .eq 25, 3) := by decide +kernel
theorem dX13_both_20 : decode cX13_both 20 = .ok (.aload_n 0, 1) := by decide +kernel
theorem dX13_both_21 : decode cX13_both 21 = .ok (.iload_n 1, 1) := by decide +kernel
theorem dX13_both_22 : decode cX13_both 22 = .ok (.iload_n 2, 1) := by decide +kernel
theorem dX13_both_23 : decode cX13_both 23 = .ok (.invokevirtual 138, 3) := by decide +kernel
theorem dX13_both_26 : decode cX13_both 26 = .ok (.ifCond .eq 16, 3) := by decide +kernel
theorem dX13_both_29 : decode cX13_both 29 = .ok (.aload_n 0, 1) := by decide +kernel
theorem dX13_both_30 : decode cX13_both 30 = .ok (.iload_n 2, 1) := by decide +kernel
theorem dX13_both_31 : decode cX13_both 31 = .ok (.iload_n 1, 1) := by decide +kernel
theorem dX13_both_32 : decode cX13_both 32 = .ok (.invokevirtual 138, 3) := by decide +kernel
theorem dX13_both_35 : decode cX13_both 35 = .ok (.ifCond .eq 7, 3) := by decide +kernel
theorem dX13_both_38 : decode cX13_both 38 = .ok (.iconst 1, 1) := by decide +kernel
theorem dX13_both_39 : decode cX13_both 39 = .ok (.goto 4, 3) := by decide +kernel
theorem dX13_both_42 : decode cX13_both 42 = .ok (.iconst 0, 1) := by decide +kernel
theorem dX13_both_43 : decode cX13_both 43 = .ok (.ireturn, 1) := by decide +kernel
theorem dX13_mechanism_0 : decode cX13_mechanism 0 = .ok (.aload_n 0, 1) := by decide +kernel
theorem dX13_mechanism_1 : decode cX13_mechanism 1 = .ok (.aload_n 0, 1) := by decide +kernel
theorem dX13_mechanism_2 : decode cX13_mechanism 2 = .ok (.getfield 98, 3) := by decide +kernel
theorem dX13_mechanism_5 : decode cX13_mechanism 5 = .ok (.putfield 142, 3) := by decide +kernel
theorem dX13_mechanism_8 : decode cX13_mechanism 8 = .ok (.iconst 0, 1) := by decide +kernel
theorem dX13_mechanism_9 : decode cX13_mechanism 9 = .ok (.istore_n 1, 1) := by decide +kernel
theorem dX13_mechanism_10 : decode cX13_mechanism 10 = .ok (.iload_n 1, 1) := by decide +kernel
theorem dX13_mechanism_11 : decode cX13_mechanism 11 = .ok (.aload_n 0, 1) := by decide +kernel
theorem dX13_mechanism_12 : decode cX13_mechanism 12 = .ok (.getfield 98, 3) := by decide +kernel
theorem dX13_mechanism_15 : decode cX13_mechanism 15 = .ok (.if_icmp .ge 35, 3) := by decide +kernel
theorem dX13_mechanism_18 : decode cX13_mechanism 18 = .ok (.aload_n 0, 1) := by decide +kernel
theorem dX13_mechanism_19 : decode cX13_mechanism 19 = .ok (.getfield 34, 3) := by decide +kernel
theorem dX13_mechanism_22 : decode cX13_mechanism 22 = .ok (.iload_n 1, 1) := by decide +kernel
theorem dX13_mechanism_23 : decode cX13_mechanism 23 = .ok (.aload_n 0, 1) := by decide +kernel
theorem dX13_mechanism_24 : decode cX13_mechanism 24 = .ok (.getfield 31, 3) := by decide +kernel
theorem dX13_mechanism_27 : decode cX13_mechanism 27 = .ok (.iload_n 1, 1) := by decide +kernel
theorem dX13_mechanism_28 : decode cX13_mechanism 28 = .ok (.iaload, 1) := by decide +kernel
theorem dX13_mechanism_29 : decode cX13_mechanism 29 = .ok (.iastore, 1) := by decide +kernel
theorem dX13_mechanism_30 : decode cX13_mechanism 30 = .ok (.aload_n 0, 1) := by decide +kernel
theorem dX13_mechanism_31 : decode cX13_mechanism 31 = .ok (.getfield 37, 3) := by decide +kernel
theorem dX13_mechanism_34 : decode cX13_mechanism 34 = .ok (.iload_n 1, 1) := by decide +kernel
theorem dX13_mechanism_35 : decode cX13_mechanism 35 = .ok (.iconst (-1), 1) := by decide +kernel
theorem dX13_mechanism_36 : decode cX13_mechanism 36 = .ok (.iastore, 1) := by decide +kernel
theorem dX13_mechanism_37 : decode cX13_mechanism 37 = .ok (.aload_n 0, 1) := by decide +kernel
theorem dX13_mechanism_38 : decode cX13_mechanism 38 = .ok (.getfield 40, 3) := by decide +kernel
theorem dX13_mechanism_41 : decode cX13_mechanism 41 = .ok (.iload_n 1, 1) := by decide +kernel
theorem dX13_mechanism_42 : decode cX13_mechanism 42 = .ok (.iconst (-1), 1) := by decide +kernel
theorem dX13_mechanism_43 : decode cX13_mechanism 43 = .ok (.iastore, 1) := by decide +kernel
theorem dX13_mechanism_44 : decode cX13_mechanism 44 = .ok (.iinc 1 1, 3) := by decide +kernel
theorem dX13_mechanism_47 : decode cX13_mechanism 47 = .ok (.goto (-37), 3) := by decide +kernel
theorem dX13_mechanism_50 : decode cX13_mechanism 50 = .ok (.iconst 0, 1) := by decide +kernel
theorem dX13_mechanism_51 : decode cX13_mechanism 51 = .ok (.istore_n 1, 1) := by decide +kernel
theorem dX13_mechanism_52 : decode cX13_mechanism 52 = .ok (.iload_n 1, 1) := by decide +kernel
theorem dX13_mechanism_53 : decode cX13_mechanism 53 = .ok (.aload_n 0, 1) := by decide +kernel
theorem dX13_mechanism_54 : decode cX13_mechanism 54 = .ok (.getfield 95, 3) := by decide +kernel
theorem dX13_mechanism_57 : decode cX13_mechanism 57 = .ok (.if_icmp .ge 16, 3) := by decide +kernel
theorem dX13_mechanism_60 : decode cX13_mechanism 60 = .ok (.aload_n 0, 1) := by decide +kernel
theorem dX13_mechanism_61 : decode cX13_mechanism 61 = .ok (.getfield 48, 3) := by decide +kernel
theorem dX13_mechanism_64 : decode cX13_mechanism 64 = .ok (.iload_n 1, 1) := by decide +kernel
theorem dX13_mechanism_65 : decode cX13_mechanism 65 = .ok (.iconst 0, 1) := by decide +kernel
theorem dX13_mechanism_66 : decode cX13_mechanism 66 = .ok (.bastore, 1) := by decide +kernel
theorem dX13_mechanism_67 : decode cX13_mechanism 67 = .ok (.iinc 1 1, 3) := by decide +kernel
theorem dX13_mechanism_70 : decode cX13_mechanism 70 = .ok (.goto (-18), 3) := by decide +kernel
theorem dX13_mechanism_73 : decode cX13_mechanism 73 = .ok (.aload_n 0, 1) := by decide +kernel
theorem dX13_mechanism_74 : decode cX13_mechanism 74 = .ok (.getfield 142, 3) := by decide +kernel
theorem dX13_mechanism_77 : decode cX13_mechanism 77 = .ok (.ifCond .le 179, 3) := by decide +kernel
theorem dX13_mechanism_80 : decode cX13_mechanism 80 = .ok (.aload_n 0, 1) := by decide +kernel
theorem dX13_mechanism_81 : decode cX13_mechanism 81 = .ok (.getfield 34, 3) := by decide +kernel
theorem dX13_mechanism_84 : decode cX13_mechanism 84 = .ok (.iconst 0, 1) := by decide +kernel
theorem dX13_mechanism_85 : decode cX13_mechanism 85 = .ok (.iaload, 1) := by decide +kernel
theorem dX13_mechanism_86 : decode cX13_mechanism 86 = .ok (.istore_n 1, 1) := by decide +kernel
theorem dX13_mechanism_87 : decode cX13_mechanism 87 = .ok (.iconst (-1), 1) := by decide +kernel
theorem dX13_mechanism_88 : decode cX13_mechanism 88 = .ok (.istore_n 2, 1) := by decide +kernel
theorem dX13_mechanism_89 : decode cX13_mechanism 89 = .ok (.aload_n 0, 1) := by decide +kernel
theorem dX13_mechanism_90 : decode cX13_mechanism 90 = .ok (.getfield 28, 3) := by decide +kernel
theorem dX13_mechanism_93 : decode cX13_mechanism 93 = .ok (.iload_n 1, 1) := by decide +kernel
theorem dX13_mechanism_94 : decode cX13_mechanism 94 = .ok (.iaload, 1) := by decide +kernel
theorem dX13_mechanism_95 : decode cX13_mechanism 95 = .ok (.iconst 1, 1) := by decide +kernel
theorem dX13_mechanism_96 : decode cX13_mechanism 96 = .ok (.isub, 1) := by decide +kernel
theorem dX13_mechanism_97 : decode cX13_mechanism 97 = .ok (.istore_n 3, 1) := by decide +kernel
theorem dX13_mechanism_98 : decode cX13_mechanism 98 = .ok (.iload_n 3, 1) := by decide +kernel
theorem dX13_mechanism_99 : decode cX13_mechanism 99 = .ok (.ifCond .lt 34, 3) := by decide +kernel
theorem dX13_mechanism_102 : decode cX13_mechanism 102 = .ok (.aload_n 0, 1) := by decide +kernel
theorem dX13_mechanism_103 : decode cX13_mechanism 103 = .ok (.getfield 48, 3) := by decide +kernel
theorem dX13_mechanism_106 : decode cX13_mechanism 106 = .ok (.aload_n 0, 1) := by decide +kernel
theorem dX13_mechanism_107 : decode cX13_mechanism 107 = .ok (.getfield 45, 3) := by decide +kernel
theorem dX13_mechanism_110 : decode cX13_mechanism 110 = .ok (.iload_n 1, 1) := by decide +kernel
theorem dX13_mechanism_111 : decode cX13_mechanism 111 = .ok (.aaload, 1) := by decide +kernel
theorem dX13_mechanism_112 : decode cX13_mechanism 112 = .ok (.iload_n 3, 1) := by decide +kernel
theorem dX13_mechanism_113 : decode cX13_mechanism 113 = .ok (.iaload, 1) := by decide +kernel
theorem dX13_mechanism_114 : decode cX13_mechanism 114 = .ok (.baload, 1) := by decide +kernel
theorem dX13_mechanism_115 : decode cX13_mechanism 115 = .ok (.ifCond .ne 12, 3) := by decide +kernel
theorem dX13_mechanism_118 : decode cX13_mechanism 118 = .ok (.aload_n 0, 1) := by decide +kernel
theorem dX13_mechanism_119 : decode cX13_mechanism 119 = .ok (.getfield 45, 3) := by decide +kernel
theorem dX13_mechanism_122 : decode cX13_mechanism 122 = .ok (.iload_n 1, 1) := by decide +kernel
theorem dX13_mechanism_123 : decode cX13_mechanism 123 = .ok (.aaload, 1) := by decide +kernel
theorem dX13_mechanism_124 : decode cX13_mechanism 124 = .ok (.iload_n 3, 1) := by decide +kernel
theorem dX13_mechanism_125 : decode cX13_mechanism 125 = .ok (.iaload, 1) := by decide +kernel
theorem dX13_mechanism_126 : decode cX13_mechanism 126 = .ok (.istore_n 2, 1) := by decide +kernel
theorem dX13_mechanism_127 : decode cX13_mechanism 127 = .ok (.iinc 3 (-1), 3) := by decide +kernel
theorem dX13_mechanism_130 : decode cX13_mechanism 130 = .ok (.goto (-32), 3) := by decide +kernel
theorem dX13_mechanism_133 : decode cX13_mechanism 133 = .ok (.aload_n 0, 1) := by decide +kernel
theorem dX13_mechanism_134 : decode cX13_mechanism 134 = .ok (.getfield 37, 3) := by decide +kernel
theorem dX13_mechanism_137 : decode cX13_mechanism 137 = .ok (.iload_n 1, 1) := by decide +kernel
theorem dX13_mechanism_138 : decode cX13_mechanism 138 = .ok (.iload_n 2, 1) := by decide +kernel
theorem dX13_mechanism_139 : decode cX13_mechanism 139 = .ok (.iastore, 1) := by decide +kernel
theorem dX13_mechanism_140 : decode cX13_mechanism 140 = .ok (.iload_n 2, 1) := by decide +kernel
theorem dX13_mechanism_141 : decode cX13_mechanism 141 = .ok (.iconst (-1), 1) := by decide +kernel
theorem dX13_mechanism_142 : decode cX13_mechanism 142 = .ok (.if_icmp .ne 7, 3) := by decide +kernel
theorem dX13_mechanism_145 : decode cX13_mechanism 145 = .ok (.iconst (-1), 1) := by decide +kernel
theorem dX13_mechanism_146 : decode cX13_mechanism 146 = .ok (.goto 8, 3) := by decide +kernel
theorem dX13_mechanism_149 : decode cX13_mechanism 149 = .ok (.aload_n 0, 1) := by decide +kernel
theorem dX13_mechanism_150 : decode cX13_mechanism 150 = .ok (.iload_n 2, 1) := by decide +kernel
theorem dX13_mechanism_151 : decode cX13_mechanism 151 = .ok (.invokevirtual 119, 3) := by decide +kernel
theorem dX13_mechanism_154 : decode cX13_mechanism 154 = .ok (.istore_n 3, 1) := by decide +kernel
theorem dX13_mechanism_155 : decode cX13_mechanism 155 = .ok (.iload_n 3, 1) := by decide +kernel
theorem dX13_mechanism_156 : decode cX13_mechanism 156 = .ok (.iconst (-1), 1) := by decide +kernel
theorem dX13_mechanism_157 : decode cX13_mechanism 157 = .ok (.if_icmp .eq 17, 3) := by decide +kernel
theorem dX13_mechanism_160 : decode cX13_mechanism 160 = .ok (.iload_n 3, 1) := by decide +kernel
theorem dX13_mechanism_161 : decode cX13_mechanism 161 = .ok (.iload_n 1, 1) := by decide +kernel
theorem dX13_mechanism_162 : decode cX13_mechanism 162 = .ok (.if_icmp .eq 12, 3) := by decide +kernel
theorem dX13_mechanism_165 : decode cX13_mechanism 165 = .ok (.aload_n 0, 1) := by decide +kernel
theorem dX13_mechanism_166 : decode cX13_mechanism 166 = .ok (.iload_n 3, 1) := by decide +kernel
theorem dX13_mechanism_167 : decode cX13_mechanism 167 = .ok (.invokevirtual 145, 3) := by decide +kernel
theorem dX13_mechanism_170 : decode cX13_mechanism 170 = .ok (.iconst (-1), 1) := by decide +kernel
theorem dX13_mechanism_171 : decode cX13_mechanism 171 = .ok (.if_icmp .ne 12, 3) := by decide +kernel
theorem dX13_mechanism_174 : decode cX13_mechanism 174 = .ok (.aload_n 0, 1) := by decide +kernel
theorem dX13_mechanism_175 : decode cX13_mechanism 175 = .ok (.iload_n 1, 1) := by decide +kernel
theorem dX13_mechanism_176 : decode cX13_mechanism 176 = .ok (.iload_n 2, 1) := by decide +kernel
theorem dX13_mechanism_177 : decode cX13_mechanism 177 = .ok (.invokevirtual 148, 3) := by decide +kernel
theorem dX13_mechanism_180 : decode cX13_mechanism 180 = .ok (.goto 73, 3) := by decide +kernel
theorem dX13_mechanism_183 : decode cX13_mechanism 183 = .ok (.aload_n 0, 1) := by decide +kernel
theorem dX13_mechanism_184 : decode cX13_mechanism 184 = .ok (.getfield 37, 3) := by decide +kernel
theorem dX13_mechanism_187 : decode cX13_mechanism 187 = .ok (.iload_n 3, 1) := by decide +kernel
theorem dX13_mechanism_188 : decode cX13_mechanism 188 = .ok (.iaload, 1) := by decide +kernel
theorem dX13_mechanism_189 : decode cX13_mechanism 189 = .ok (.iconst (-1), 1) := by decide +kernel
theorem dX13_mechanism_190 : decode cX13_mechanism 190 = .ok (.if_icmp .ne 11, 3) := by decide +kernel
theorem dX13_mechanism_193 : decode cX13_mechanism 193 = .ok (.aload_n 0, 1) := by decide +kernel
theorem dX13_mechanism_194 : decode cX13_mechanism 194 = .ok (.iload_n 3, 1) := by decide +kernel
theorem dX13_mechanism_195 : decode cX13_mechanism 195 = .ok (.invokevirtual 151, 3) := by decide +kernel
theorem dX13_mechanism_198 : decode cX13_mechanism 198 = .ok (.goto 55, 3) := by decide +kernel
theorem dX13_mechanism_201 : decode cX13_mechanism 201 = .ok (.iload_n 3, 1) := by decide +kernel
theorem dX13_mechanism_202 : decode cX13_mechanism 202 = .ok (.istore 4, 2) := by decide +kernel
theorem dX13_mechanism_204 : decode cX13_mechanism 204 = .ok (.iload 4, 2) := by decide +kernel
theorem dX13_mechanism_206 : decode cX13_mechanism 206 = .ok (.iconst (-1), 1) := by decide +kernel
theorem dX13_mechanism_207 : decode cX13_mechanism 207 = .ok (.if_icmp .eq 46, 3) := by decide +kernel
theorem dX13_mechanism_210 : decode cX13_mechanism 210 = .ok (.iload 4, 2) := by decide +kernel
theorem dX13_mechanism_212 : decode cX13_mechanism 212 = .ok (.iload_n 1, 1) := by decide +kernel
theorem dX13_mechanism_213 : decode cX13_mechanism 213 = .ok (.if_icmp .ne 7, 3) := by decide +kernel
theorem dX13_mechanism_216 : decode cX13_mechanism 216 = .ok (.iconst (-1), 1) := by decide +kernel
theorem dX13_mechanism_217 : decode cX13_mechanism 217 = .ok (.goto 14, 3) := by decide +kernel
theorem dX13_mechanism_220 : decode cX13_mechanism 220 = .ok (.aload_n 0, 1) := by decide +kernel
theorem dX13_mechanism_221 : decode cX13_mechanism 221 = .ok (.aload_n 0, 1) := by decide +kernel
theorem dX13_mechanism_222 : decode cX13_mechanism 222 = .ok (.getfield 37, 3) := by decide +kernel
theorem dX13_mechanism_225 : decode cX13_mechanism 225 = .ok (.iload 4, 2) := by decide +kernel
theorem dX13_mechanism_227 : decode cX13_mechanism 227 = .ok (.iaload, 1) := by decide +kernel
theorem dX13_mechanism_228 : decode cX13_mechanism 228 = .ok (.invokevirtual 119, 3) := by decide +kernel
theorem dX13_mechanism_231 : decode cX13_mechanism 231 = .ok (.istore 5, 2) := by decide +kernel
theorem dX13_mechanism_233 : decode cX13_mechanism 233 = .ok (.aload_n 0, 1) := by decide +kernel
theorem dX13_mechanism_234 : decode cX13_mechanism 234 = .ok (.iload 4, 2) := by decide +kernel
theorem dX13_mechanism_236 : decode cX13_mechanism 236 = .ok (.aload_n 0, 1) := by decide +kernel
theorem dX13_mechanism_237 : decode cX13_mechanism 237 = .ok (.getfield 37, 3) := by decide +kernel
theorem dX13_mechanism_240 : decode cX13_mechanism 240 = .ok (.iload 4, 2) := by decide +kernel
theorem dX13_mechanism_242 : decode cX13_mechanism 242 = .ok (.iaload, 1) := by decide +kernel
theorem dX13_mechanism_243 : decode cX13_mechanism 243 = .ok (.invokevirtual 148, 3) := by decide +kernel
theorem dX13_mechanism_246 : decode cX13_mechanism 246 = .ok (.iload 5, 2) := by decide +kernel
theorem dX13_mechanism_248 : decode cX13_mechanism 248 = .ok (.istore 4, 2) := by decide +kernel
theorem dX13_mechanism_250 : decode cX13_mechanism 250 = .ok (.goto (-46), 3) := by decide +kernel
theorem dX13_mechanism_253 : decode cX13_mechanism 253 = .ok (.goto (-180), 3) := by decide +kernel
theorem dX13_mechanism_256 : decode cX13_mechanism 256 = .ok (.return_, 1) := by decide +kernel
theorem dX13_where_0 : decode cX13_where 0 = .ok (.iconst 0, 1) := by decide +kernel
theorem dX13_where_1 : decode cX13_where 1 = .ok (.istore_n 2, 1) := by decide +kernel
theorem dX13_where_2 : decode cX13_where 2 = .ok (.iload_n 2, 1) := by decide +kernel
theorem dX13_where_3 : decode cX13_where 3 = .ok (.aload_n 0, 1) := by decide +kernel
theorem dX13_where_4 : decode cX13_where 4 = .ok (.getfield 142, 3) := by decide +kernel
theorem dX13_where_7 : decode cX13_where 7 = .ok (.if_icmp .ge 21, 3) := by decide +kernel
theorem dX13_where_10 : decode cX13_where 10 = .ok (.aload_n 0, 1) := by decide +kernel
theorem dX13_where_11 : decode cX13_where 11 = .ok (.getfield 34, 3) := by decide +kernel
theorem dX13_where_14 : decode cX13_where 14 = .ok (.iload_n 2, 1) := by decide +kernel
theorem dX13_where_15 : decode cX13_where 15 = .ok (.iaload, 1) := by decide +kernel
theorem dX13_where_16 : decode cX13_where 16 = .ok (.iload_n 1, 1) := by decide +kernel
theorem dX13_where_17 : decode cX13_where 17 = .ok (.if_icmp .ne 5, 3) := by decide +kernel
theorem dX13_where_20 : decode cX13_where 20 = .ok (.iload_n 2, 1) := by decide +kernel
theorem dX13_where_21 : decode cX13_where 21 = .ok (.ireturn, 1) := by decide +kernel
theorem dX13_where_22 : decode cX13_where 22 = .ok (.iinc 2 1, 3) := by decide +kernel
theorem dX13_where_25 : decode cX13_where 25 = .ok (.goto (-23), 3) := by decide +kernel
theorem dX13_where_28 : decode cX13_where 28 = .ok (.iconst (-1), 1) := by decide +kernel
theorem dX13_where_29 : decode cX13_where 29 = .ok (.ireturn, 1) := by decide +kernel
theorem dX13_front_0 : decode cX13_front 0 = .ok (.aload_n 0, 1) := by decide +kernel
theorem dX13_front_1 : decode cX13_front 1 = .ok (.iload_n 1, 1) := by decide +kernel
theorem dX13_front_2 : decode cX13_front 2 = .ok (.invokevirtual 145, 3) := by decide +kernel
theorem dX13_front_5 : decode cX13_front 5 = .ok (.istore_n 2, 1) := by decide +kernel
theorem dX13_front_6 : decode cX13_front 6 = .ok (.iload_n 2, 1) := by decide +kernel
theorem dX13_front_7 : decode cX13_front 7 = .ok (.ifCond .le 23, 3) := by decide +kernel
theorem dX13_front_10 : decode cX13_front 10 = .ok (.aload_n 0, 1) := by decide +kernel
theorem dX13_front_11 : decode cX13_front 11 = .ok (.getfield 34, 3) := by decide +kernel
theorem dX13_front_14 : decode cX13_front 14 = .ok (.iload_n 2, 1) := by decide +kernel
theorem dX13_front_15 : decode cX13_front 15 = .ok (.aload_n 0, 1) := by decide +kernel
theorem dX13_front_16 : decode cX13_front 16 = .ok (.getfield 34, 3) := by decide +kernel
theorem dX13_front_19 : decode cX13_front 19 = .ok (.iload_n 2, 1) := by decide +kernel
theorem dX13_front_20 : decode cX13_front 20 = .ok (.iconst 1, 1) := by decide +kernel
theorem dX13_front_21 : decode cX13_front 21 = .ok (.isub, 1) := by decide +kernel
theorem dX13_front_22 : decode cX13_front 22 = .ok (.iaload, 1) := by decide +kernel
theorem dX13_front_23 : decode cX13_front 23 = .ok (.iastore, 1) := by decide +kernel
theorem dX13_front_24 : decode cX13_front 24 = .ok (.iinc 2 (-1), 3) := by decide +kernel
theorem dX13_front_27 : decode cX13_front 27 = .ok (.goto (-21), 3) := by decide +kernel
theorem dX13_front_30 : decode cX13_front 30 = .ok (.aload_n 0, 1) := by decide +kernel
theorem dX13_front_31 : decode cX13_front 31 = .ok (.getfield 34, 3) := by decide +kernel
theorem dX13_front_34 : decode cX13_front 34 = .ok (.iconst 0, 1) := by decide +kernel
theorem dX13_front_35 : decode cX13_front 35 = .ok (.iload_n 1, 1) := by decide +kernel
theorem dX13_front_36 : decode cX13_front 36 = .ok (.iastore, 1) := by decide +kernel
theorem dX13_front_37 : decode cX13_front 37 = .ok (.return_, 1) := by decide +kernel
theorem dX13_give_0 : decode cX13_give 0 = .ok (.aload_n 0, 1) := by decide +kernel
theorem dX13_give_1 : decode cX13_give 1 = .ok (.getfield 40, 3) := by decide +kernel
theorem dX13_give_4 : decode cX13_give 4 = .ok (.iload_n 1, 1) := by decide +kernel
theorem dX13_give_5 : decode cX13_give 5 = .ok (.iload_n 2, 1) := by decide +kernel
theorem dX13_give_6 : decode cX13_give 6 = .ok (.iastore, 1) := by decide +kernel
theorem dX13_give_7 : decode cX13_give 7 = .ok (.iload_n 2, 1) := by decide +kernel
theorem dX13_give_8 : decode cX13_give 8 = .ok (.iconst (-1), 1) := by decide +kernel
theorem dX13_give_9 : decode cX13_give 9 = .ok (.if_icmp .eq 10, 3) := by decide +kernel
theorem dX13_give_12 : decode cX13_give 12 = .ok (.aload_n 0, 1) := by decide +kernel
theorem dX13_give_13 : decode cX13_give 13 = .ok (.getfield 48, 3) := by decide +kernel
theorem dX13_give_16 : decode cX13_give 16 = .ok (.iload_n 2, 1) := by decide +kernel
theorem dX13_give_17 : decode cX13_give 17 = .ok (.iconst 1, 1) := by decide +kernel
theorem dX13_give_18 : decode cX13_give 18 = .ok (.bastore, 1) := by decide +kernel
theorem dX13_give_19 : decode cX13_give 19 = .ok (.aload_n 0, 1) := by decide +kernel
theorem dX13_give_20 : decode cX13_give 20 = .ok (.dup, 1) := by decide +kernel
theorem dX13_give_21 : decode cX13_give 21 = .ok (.getfield 142, 3) := by decide +kernel
theorem dX13_give_24 : decode cX13_give 24 = .ok (.iconst 1, 1) := by decide +kernel
theorem dX13_give_25 : decode cX13_give 25 = .ok (.isub, 1) := by decide +kernel
theorem dX13_give_26 : decode cX13_give 26 = .ok (.putfield 142, 3) := by decide +kernel
theorem dX13_give_29 : decode cX13_give 29 = .ok (.aload_n 0, 1) := by decide +kernel
theorem dX13_give_30 : decode cX13_give 30 = .ok (.iload_n 1, 1) := by decide +kernel
theorem dX13_give_31 : decode cX13_give 31 = .ok (.invokevirtual 154, 3) := by decide +kernel
theorem dX13_give_34 : decode cX13_give 34 = .ok (.istore_n 3, 1) := by decide +kernel
theorem dX13_give_35 : decode cX13_give 35 = .ok (.iload_n 3, 1) := by decide +kernel
theorem dX13_give_36 : decode cX13_give 36 = .ok (.aload_n 0, 1) := by decide +kernel
theorem dX13_give_37 : decode cX13_give 37 = .ok (.getfield 142, 3) := by decide +kernel
theorem dX13_give_40 : decode cX13_give 40 = .ok (.if_icmp .ge 23, 3) := by decide +kernel
theorem dX13_give_43 : decode cX13_give 43 = .ok (.aload_n 0, 1) := by decide +kernel
theorem dX13_give_44 : decode cX13_give 44 = .ok (.getfield 34, 3) := by decide +kernel
theorem dX13_give_47 : decode cX13_give 47 = .ok (.iload_n 3, 1) := by decide +kernel
theorem dX13_give_48 : decode cX13_give 48 = .ok (.aload_n 0, 1) := by decide +kernel
theorem dX13_give_49 : decode cX13_give 49 = .ok (.getfield 34, 3) := by decide +kernel
theorem dX13_give_52 : decode cX13_give 52 = .ok (.iload_n 3, 1) := by decide +kernel
theorem dX13_give_53 : decode cX13_give 53 = .ok (.iconst 1, 1) := by decide +kernel
theorem dX13_give_54 : decode cX13_give 54 = .ok (.iadd, 1) := by decide +kernel
theorem dX13_give_55 : decode cX13_give 55 = .ok (.iaload, 1) := by decide +kernel
theorem dX13_give_56 : decode cX13_give 56 = .ok (.iastore, 1) := by decide +kernel
theorem dX13_give_57 : decode cX13_give 57 = .ok (.iinc 3 1, 3) := by decide +kernel
theorem dX13_give_60 : decode cX13_give 60 = .ok (.goto (-25), 3) := by decide +kernel
theorem dX13_give_63 : decode cX13_give 63 = .ok (.return_, 1) := by decide +kernel
theorem dX13_whereAll_0 : decode cX13_whereAll 0 = .ok (.iconst 0, 1) := by decide +kernel
theorem dX13_whereAll_1 : decode cX13_whereAll 1 = .ok (.istore_n 2, 1) := by decide +kernel
theorem dX13_whereAll_2 : decode cX13_whereAll 2 = .ok (.iload_n 2, 1) := by decide +kernel
theorem dX13_whereAll_3 : decode cX13_whereAll 3 = .ok (.aload_n 0, 1) := by decide +kernel
theorem dX13_whereAll_4 : decode cX13_whereAll 4 = .ok (.getfield 142, 3) := by decide +kernel
theorem dX13_whereAll_7 : decode cX13_whereAll 7 = .ok (.if_icmp .gt 21, 3) := by decide +kernel
theorem dX13_whereAll_10 : decode cX13_whereAll 10 = .ok (.aload_n 0, 1) := by decide +kernel
theorem dX13_whereAll_11 : decode cX13_whereAll 11 = .ok (.getfield 34, 3) := by decide +kernel
theorem dX13_whereAll_14 : decode cX13_whereAll 14 = .ok (.iload_n 2, 1) := by decide +kernel
theorem dX13_whereAll_15 : decode cX13_whereAll 15 = .ok (.iaload, 1) := by decide +kernel
theorem dX13_whereAll_16 : decode cX13_whereAll 16 = .ok (.iload_n 1, 1) := by decide +kernel
theorem dX13_whereAll_17 : decode cX13_whereAll 17 = .ok (.if_icmp .ne 5, 3) := by decide +kernel
theorem dX13_whereAll_20 : decode cX13_whereAll 20 = .ok (.iload_n 2, 1) := by decide +kernel
theorem dX13_whereAll_21 : decode cX13_whereAll 21 = .ok (.ireturn, 1) := by decide +kernel
theorem dX13_whereAll_22 : decode cX13_whereAll 22 = .ok (.iinc 2 1, 3) := by decide +kernel
theorem dX13_whereAll_25 : decode cX13_whereAll 25 = .ok (.goto (-23), 3) := by decide +kernel
theorem dX13_whereAll_28 : decode cX13_whereAll 28 = .ok (.aload_n 0, 1) := by decide +kernel
theorem dX13_whereAll_29 : decode cX13_whereAll 29 = .ok (.getfield 142, 3) := by decide +kernel
theorem dX13_whereAll_32 : decode cX13_whereAll 32 = .ok (.ireturn, 1) := by decide +kernel
theorem dX13_isSame_0 : decode cX13_isSame 0 = .ok (.aload_n 1, 1) := by decide +kernel
theorem dX13_isSame_1 : decode cX13_isSame 1 = .ok (.invokevirtual 157, 3) := by decide +kernel
theorem dX13_isSame_4 : decode cX13_isSame 4 = .ok (.aload_n 0, 1) := by decide +kernel
theorem dX13_isSame_5 : decode cX13_isSame 5 = .ok (.getfield 89, 3) := by decide +kernel
theorem dX13_isSame_8 : decode cX13_isSame 8 = .ok (.if_icmp .ne 25, 3) := by decide +kernel
theorem dX13_isSame_11 : decode cX13_isSame 11 = .ok (.aload_n 1, 1) := by decide +kernel
theorem dX13_isSame_12 : decode cX13_isSame 12 = .ok (.invokevirtual 159, 3) := by decide +kernel
theorem dX13_isSame_15 : decode cX13_isSame 15 = .ok (.aload_n 0, 1) := by decide +kernel
theorem dX13_isSame_16 : decode cX13_isSame 16 = .ok (.getfield 98, 3) := by decide +kernel
theorem dX13_isSame_19 : decode cX13_isSame 19 = .ok (.if_icmp .ne 14, 3) := by decide +kernel
theorem dX13_isSame_22 : decode cX13_isSame 22 = .ok (.aload_n 1, 1) := by decide +kernel
theorem dX13_isSame_23 : decode cX13_isSame 23 = .ok (.invokevirtual 162, 3) := by decide +kernel
theorem dX13_isSame_26 : decode cX13_isSame 26 = .ok (.aload_n 0, 1) := by decide +kernel
theorem dX13_isSame_27 : decode cX13_isSame 27 = .ok (.getfield 95, 3) := by decide +kernel
theorem dX13_isSame_30 : decode cX13_isSame 30 = .ok (.if_icmp .eq 5, 3) := by decide +kernel
theorem dX13_isSame_33 : decode cX13_isSame 33 = .ok (.iconst 0, 1) := by decide +kernel
theorem dX13_isSame_34 : decode cX13_isSame 34 = .ok (.ireturn, 1) := by decide +kernel
theorem dX13_isSame_35 : decode cX13_isSame 35 = .ok (.iconst 0, 1) := by decide +kernel
theorem dX13_isSame_36 : decode cX13_isSame 36 = .ok (.istore_n 2, 1) := by decide +kernel
theorem dX13_isSame_37 : decode cX13_isSame 37 = .ok (.iload_n 2, 1) := by decide +kernel
theorem dX13_isSame_38 : decode cX13_isSame 38 = .ok (.aload_n 0, 1) := by decide +kernel
theorem dX13_isSame_39 : decode cX13_isSame 39 = .ok (.getfield 98, 3) := by decide +kernel
theorem dX13_isSame_42 : decode cX13_isSame 42 = .ok (.if_icmp .ge 104, 3) := by decide +kernel
theorem dX13_isSame_45 : decode cX13_isSame 45 = .ok (.aload_n 1, 1) := by decide +kernel
theorem dX13_isSame_46 : decode cX13_isSame 46 = .ok (.iload_n 2, 1) := by decide +kernel
theorem dX13_isSame_47 : decode cX13_isSame 47 = .ok (.invokevirtual 165, 3) := by decide +kernel
theorem dX13_isSame_50 : decode cX13_isSame 50 = .ok (.aload_n 0, 1) := by decide +kernel
theorem dX13_isSame_51 : decode cX13_isSame 51 = .ok (.getfield 19, 3) := by decide +kernel
theorem dX13_isSame_54 : decode cX13_isSame 54 = .ok (.iload_n 2, 1) := by decide +kernel
theorem dX13_isSame_55 : decode cX13_isSame 55 = .ok (.iaload, 1) := by decide +kernel
theorem dX13_isSame_56 : decode cX13_isSame 56 = .ok (.if_icmp .ne 45, 3) := by decide +kernel
theorem dX13_isSame_59 : decode cX13_isSame 59 = .ok (.aload_n 1, 1) := by decide +kernel
theorem dX13_isSame_60 : decode cX13_isSame 60 = .ok (.iload_n 2, 1) := by decide +kernel
theorem dX13_isSame_61 : decode cX13_isSame 61 = .ok (.invokevirtual 168, 3) := by decide +kernel
theorem dX13_isSame_64 : decode cX13_isSame 64 = .ok (.aload_n 0, 1) := by decide +kernel
theorem dX13_isSame_65 : decode cX13_isSame 65 = .ok (.getfield 25, 3) := by decide +kernel
theorem dX13_isSame_68 : decode cX13_isSame 68 = .ok (.iload_n 2, 1) := by decide +kernel
theorem dX13_isSame_69 : decode cX13_isSame 69 = .ok (.iaload, 1) := by decide +kernel
theorem dX13_isSame_70 : decode cX13_isSame 70 = .ok (.if_icmp .ne 31, 3) := by decide +kernel
theorem dX13_isSame_73 : decode cX13_isSame 73 = .ok (.aload_n 1, 1) := by decide +kernel
theorem dX13_isSame_74 : decode cX13_isSame 74 = .ok (.iload_n 2, 1) := by decide +kernel
theorem dX13_isSame_75 : decode cX13_isSame 75 = .ok (.invokevirtual 171, 3) := by decide +kernel
theorem dX13_isSame_78 : decode cX13_isSame 78 = .ok (.aload_n 0, 1) := by decide +kernel
theorem dX13_isSame_79 : decode cX13_isSame 79 = .ok (.getfield 28, 3) := by decide +kernel
theorem dX13_isSame_82 : decode cX13_isSame 82 = .ok (.iload_n 2, 1) := by decide +kernel
theorem dX13_isSame_83 : decode cX13_isSame 83 = .ok (.iaload, 1) := by decide +kernel
theorem dX13_isSame_84 : decode cX13_isSame 84 = .ok (.if_icmp .ne 17, 3) := by decide +kernel
theorem dX13_isSame_87 : decode cX13_isSame 87 = .ok (.aload_n 1, 1) := by decide +kernel
theorem dX13_isSame_88 : decode cX13_isSame 88 = .ok (.aload_n 0, 1) := by decide +kernel
theorem dX13_isSame_89 : decode cX13_isSame 89 = .ok (.getfield 31, 3) := by decide +kernel
theorem dX13_isSame_92 : decode cX13_isSame 92 = .ok (.iload_n 2, 1) := by decide +kernel
theorem dX13_isSame_93 : decode cX13_isSame 93 = .ok (.iaload, 1) := by decide +kernel
theorem dX13_isSame_94 : decode cX13_isSame 94 = .ok (.invokevirtual 174, 3) := by decide +kernel
theorem dX13_isSame_97 : decode cX13_isSame 97 = .ok (.iload_n 2, 1) := by decide +kernel
theorem dX13_isSame_98 : decode cX13_isSame 98 = .ok (.if_icmp .eq 5, 3) := by decide +kernel
theorem dX13_isSame_101 : decode cX13_isSame 101 = .ok (.iconst 0, 1) := by decide +kernel
theorem dX13_isSame_102 : decode cX13_isSame 102 = .ok (.ireturn, 1) := by decide +kernel
theorem dX13_isSame_103 : decode cX13_isSame 103 = .ok (.iconst 0, 1) := by decide +kernel
theorem dX13_isSame_104 : decode cX13_isSame 104 = .ok (.istore_n 3, 1) := by decide +kernel
theorem dX13_isSame_105 : decode cX13_isSame 105 = .ok (.iload_n 3, 1) := by decide +kernel
theorem dX13_isSame_106 : decode cX13_isSame 106 = .ok (.aload_n 0, 1) := by decide +kernel
theorem dX13_isSame_107 : decode cX13_isSame 107 = .ok (.getfield 28, 3) := by decide +kernel
theorem dX13_isSame_110 : decode cX13_isSame 110 = .ok (.iload_n 2, 1) := by decide +kernel
theorem dX13_isSame_111 : decode cX13_isSame 111 = .ok (.iaload, 1) := by decide +kernel
theorem dX13_isSame_112 : decode cX13_isSame 112 = .ok (.if_icmp .ge 28, 3) := by decide +kernel
theorem dX13_isSame_115 : decode cX13_isSame 115 = .ok (.aload_n 1, 1) := by decide +kernel
theorem dX13_isSame_116 : decode cX13_isSame 116 = .ok (.iload_n 2, 1) := by decide +kernel
theorem dX13_isSame_117 : decode cX13_isSame 117 = .ok (.iload_n 3, 1) := by decide +kernel
theorem dX13_isSame_118 : decode cX13_isSame 118 = .ok (.invokevirtual 177, 3) := by decide +kernel
theorem dX13_isSame_121 : decode cX13_isSame 121 = .ok (.aload_n 0, 1) := by decide +kernel
theorem dX13_isSame_122 : decode cX13_isSame 122 = .ok (.getfield 45, 3) := by decide +kernel
theorem dX13_isSame_125 : decode cX13_isSame 125 = .ok (.iload_n 2, 1) := by decide +kernel
theorem dX13_isSame_126 : decode cX13_isSame 126 = .ok (.aaload, 1) := by decide +kernel
theorem dX13_isSame_127 : decode cX13_isSame 127 = .ok (.iload_n 3, 1) := by decide +kernel
theorem dX13_isSame_128 : decode cX13_isSame 128 = .ok (.iaload, 1) := by decide +kernel
theorem dX13_isSame_129 : decode cX13_isSame 129 = .ok (.if_icmp .eq 5, 3) := by decide +kernel
theorem dX13_isSame_132 : decode cX13_isSame 132 = .ok (.iconst 0, 1) := by decide +kernel
theorem dX13_isSame_133 : decode cX13_isSame 133 = .ok (.ireturn, 1) := by decide +kernel
theorem dX13_isSame_134 : decode cX13_isSame 134 = .ok (.iinc 3 1, 3) := by decide +kernel
theorem dX13_isSame_137 : decode cX13_isSame 137 = .ok (.goto (-32), 3) := by decide +kernel
theorem dX13_isSame_140 : decode cX13_isSame 140 = .ok (.iinc 2 1, 3) := by decide +kernel
theorem dX13_isSame_143 : decode cX13_isSame 143 = .ok (.goto (-106), 3) := by decide +kernel
theorem dX13_isSame_146 : decode cX13_isSame 146 = .ok (.iconst 0, 1) := by decide +kernel
theorem dX13_isSame_147 : decode cX13_isSame 147 = .ok (.istore_n 2, 1) := by decide +kernel
theorem dX13_isSame_148 : decode cX13_isSame 148 = .ok (.iload_n 2, 1) := by decide +kernel
theorem dX13_isSame_149 : decode cX13_isSame 149 = .ok (.aload_n 0, 1) := by decide +kernel
theorem dX13_isSame_150 : decode cX13_isSame 150 = .ok (.getfield 95, 3) := by decide +kernel
theorem dX13_isSame_153 : decode cX13_isSame 153 = .ok (.if_icmp .ge 38, 3) := by decide +kernel
theorem dX13_isSame_156 : decode cX13_isSame 156 = .ok (.aload_n 1, 1) := by decide +kernel
theorem dX13_isSame_157 : decode cX13_isSame 157 = .ok (.iload_n 2, 1) := by decide +kernel
theorem dX13_isSame_158 : decode cX13_isSame 158 = .ok (.invokevirtual 180, 3) := by decide +kernel
theorem dX13_isSame_161 : decode cX13_isSame 161 = .ok (.aload_n 0, 1) := by decide +kernel
theorem dX13_isSame_162 : decode cX13_isSame 162 = .ok (.getfield 15, 3) := by decide +kernel
theorem dX13_isSame_165 : decode cX13_isSame 165 = .ok (.iload_n 2, 1) := by decide +kernel
theorem dX13_isSame_166 : decode cX13_isSame 166 = .ok (.iaload, 1) := by decide +kernel
theorem dX13_isSame_167 : decode cX13_isSame 167 = .ok (.if_icmp .ne 16, 3) := by decide +kernel
theorem dX13_isSame_170 : decode cX13_isSame 170 = .ok (.aload_n 1, 1) := by decide +kernel
theorem dX13_isSame_171 : decode cX13_isSame 171 = .ok (.iload_n 2, 1) := by decide +kernel
theorem dX13_isSame_172 : decode cX13_isSame 172 = .ok (.invokevirtual 182, 3) := by decide +kernel
theorem dX13_isSame_175 : decode cX13_isSame 175 = .ok (.aload_n 0, 1) := by decide +kernel
theorem dX13_isSame_176 : decode cX13_isSame 176 = .ok (.iload_n 2, 1) := by decide +kernel
theorem dX13_isSame_177 : decode cX13_isSame 177 = .ok (.invokevirtual 119, 3) := by decide +kernel
theorem dX13_isSame_180 : decode cX13_isSame 180 = .ok (.if_icmp .eq 5, 3) := by decide +kernel
theorem dX13_isSame_183 : decode cX13_isSame 183 = .ok (.iconst 0, 1) := by decide +kernel
theorem dX13_isSame_184 : decode cX13_isSame 184 = .ok (.ireturn, 1) := by decide +kernel
theorem dX13_isSame_185 : decode cX13_isSame 185 = .ok (.iinc 2 1, 3) := by decide +kernel
theorem dX13_isSame_188 : decode cX13_isSame 188 = .ok (.goto (-40), 3) := by decide +kernel
theorem dX13_isSame_191 : decode cX13_isSame 191 = .ok (.iconst 1, 1) := by decide +kernel
theorem dX13_isSame_192 : decode cX13_isSame 192 = .ok (.ireturn, 1) := by decide +kernel
theorem dX13_toFront_0 : decode cX13_toFront 0 = .ok (.aload_n 0, 1) := by decide +kernel
theorem dX13_toFront_1 : decode cX13_toFront 1 = .ok (.iload_n 1, 1) := by decide +kernel
theorem dX13_toFront_2 : decode cX13_toFront 2 = .ok (.iload_n 2, 1) := by decide +kernel
theorem dX13_toFront_3 : decode cX13_toFront 3 = .ok (.invokevirtual 115, 3) := by decide +kernel
theorem dX13_toFront_6 : decode cX13_toFront 6 = .ok (.istore_n 3, 1) := by decide +kernel
theorem dX13_toFront_7 : decode cX13_toFront 7 = .ok (.iload_n 3, 1) := by decide +kernel
theorem dX13_toFront_8 : decode cX13_toFront 8 = .ok (.iconst (-1), 1) := by decide +kernel
theorem dX13_toFront_9 : decode cX13_toFront 9 = .ok (.if_icmp .ne 15, 3) := by decide +kernel
theorem dX13_toFront_12 : decode cX13_toFront 12 = .ok (.aload_n 0, 1) := by decide +kernel
theorem dX13_toFront_13 : decode cX13_toFront 13 = .ok (.getfield 28, 3) := by decide +kernel
theorem dX13_toFront_16 : decode cX13_toFront 16 = .ok (.iload_n 1, 1) := by decide +kernel
theorem dX13_toFront_17 : decode cX13_toFront 17 = .ok (.dup2, 1) := by decide +kernel
theorem dX13_toFront_18 : decode cX13_toFront 18 = .ok (.iaload, 1) := by decide +kernel
theorem dX13_toFront_19 : decode cX13_toFront 19 = .ok (.dup_x2, 1) := by decide +kernel
theorem dX13_toFront_20 : decode cX13_toFront 20 = .ok (.iconst 1, 1) := by decide +kernel
theorem dX13_toFront_21 : decode cX13_toFront 21 = .ok (.iadd, 1) := by decide +kernel
theorem dX13_toFront_22 : decode cX13_toFront 22 = .ok (.iastore, 1) := by decide +kernel
theorem dX13_toFront_23 : decode cX13_toFront 23 = .ok (.istore_n 3, 1) := by decide +kernel
theorem dX13_toFront_24 : decode cX13_toFront 24 = .ok (.iload_n 3, 1) := by decide +kernel
theorem dX13_toFront_25 : decode cX13_toFront 25 = .ok (.ifCond .le 27, 3) := by decide +kernel
theorem dX13_toFront_28 : decode cX13_toFront 28 = .ok (.aload_n 0, 1) := by decide +kernel
theorem dX13_toFront_29 : decode cX13_toFront 29 = .ok (.getfield 45, 3) := by decide +kernel
theorem dX13_toFront_32 : decode cX13_toFront 32 = .ok (.iload_n 1, 1) := by decide +kernel
theorem dX13_toFront_33 : decode cX13_toFront 33 = .ok (.aaload, 1) := by decide +kernel
theorem dX13_toFront_34 : decode cX13_toFront 34 = .ok (.iload_n 3, 1) := by decide +kernel
theorem dX13_toFront_35 : decode cX13_toFront 35 = .ok (.aload_n 0, 1) := by decide +kernel
theorem dX13_toFront_36 : decode cX13_toFront 36 = .ok (.getfield 45, 3) := by decide +kernel
theorem dX13_toFront_39 : decode cX13_toFront 39 = .ok (.iload_n 1, 1) := by decide +kernel
theorem dX13_toFront_40 : decode cX13_toFront 40 = .ok (.aaload, 1) := by decide +kernel
theorem dX13_toFront_41 : decode cX13_toFront 41 = .ok (.iload_n 3, 1) := by decide +kernel
theorem dX13_toFront_42 : decode cX13_toFront 42 = .ok (.iconst 1, 1) := by decide +kernel
theorem dX13_toFront_43 : decode cX13_toFront 43 = .ok (.isub, 1) := by decide +kernel
theorem dX13_toFront_44 : decode cX13_toFront 44 = .ok (.iaload, 1) := by decide +kernel
theorem dX13_toFront_45 : decode cX13_toFront 45 = .ok (.iastore, 1) := by decide +kernel
theorem dX13_toFront_46 : decode cX13_toFront 46 = .ok (.iinc 3 (-1), 3) := by decide +kernel
theorem dX13_toFront_49 : decode cX13_toFront 49 = .ok (.goto (-25), 3) := by decide +kernel
theorem dX13_toFront_52 : decode cX13_toFront 52 = .ok (.aload_n 0, 1) := by decide +kernel
theorem dX13_toFront_53 : decode cX13_toFront 53 = .ok (.getfield 45, 3) := by decide +kernel
theorem dX13_toFront_56 : decode cX13_toFront 56 = .ok (.iload_n 1, 1) := by decide +kernel
theorem dX13_toFront_57 : decode cX13_toFront 57 = .ok (.aaload, 1) := by decide +kernel
theorem dX13_toFront_58 : decode cX13_toFront 58 = .ok (.iconst 0, 1) := by decide +kernel
theorem dX13_toFront_59 : decode cX13_toFront 59 = .ok (.iload_n 2, 1) := by decide +kernel
theorem dX13_toFront_60 : decode cX13_toFront 60 = .ok (.iastore, 1) := by decide +kernel
theorem dX13_toFront_61 : decode cX13_toFront 61 = .ok (.return_, 1) := by decide +kernel
theorem dX13_first_0 : decode cX13_first 0 = .ok (.iconst 0, 1) := by decide +kernel
theorem dX13_first_1 : decode cX13_first 1 = .ok (.istore_n 3, 1) := by decide +kernel
theorem dX13_first_2 : decode cX13_first 2 = .ok (.aload_n 0, 1) := by decide +kernel
theorem dX13_first_3 : decode cX13_first 3 = .ok (.getfield 31, 3) := by decide +kernel
theorem dX13_first_6 : decode cX13_first 6 = .ok (.iload_n 3, 1) := by decide +kernel
theorem dX13_first_7 : decode cX13_first 7 = .ok (.iaload, 1) := by decide +kernel
theorem dX13_first_8 : decode cX13_first 8 = .ok (.iload_n 1, 1) := by decide +kernel
theorem dX13_first_9 : decode cX13_first 9 = .ok (.if_icmp .eq 9, 3) := by decide +kernel
theorem dX13_first_12 : decode cX13_first 12 = .ok (.iinc 3 1, 3) := by decide +kernel
theorem dX13_first_15 : decode cX13_first 15 = .ok (.goto (-13), 3) := by decide +kernel
theorem dX13_first_18 : decode cX13_first 18 = .ok (.iload_n 3, 1) := by decide +kernel
theorem dX13_first_19 : decode cX13_first 19 = .ok (.iload_n 2, 1) := by decide +kernel
theorem dX13_first_20 : decode cX13_first 20 = .ok (.if_icmp .ge 23, 3) := by decide +kernel
theorem dX13_first_23 : decode cX13_first 23 = .ok (.aload_n 0, 1) := by decide +kernel
theorem dX13_first_24 : decode cX13_first 24 = .ok (.getfield 31, 3) := by decide +kernel
theorem dX13_first_27 : decode cX13_first 27 = .ok (.iload_n 3, 1) := by decide +kernel
theorem dX13_first_28 : decode cX13_first 28 = .ok (.aload_n 0, 1) := by decide +kernel
theorem dX13_first_29 : decode cX13_first 29 = .ok (.getfield 31, 3) := by decide +kernel
theorem dX13_first_32 : decode cX13_first 32 = .ok (.iload_n 3, 1) := by decide +kernel
theorem dX13_first_33 : decode cX13_first 33 = .ok (.iconst 1, 1) := by decide +kernel
theorem dX13_first_34 : decode cX13_first 34 = .ok (.iadd, 1) := by decide +kernel
theorem dX13_first_35 : decode cX13_first 35 = .ok (.iaload, 1) := by decide +kernel
theorem dX13_first_36 : decode cX13_first 36 = .ok (.iastore, 1) := by decide +kernel
theorem dX13_first_37 : decode cX13_first 37 = .ok (.iinc 3 1, 3) := by decide +kernel
theorem dX13_first_40 : decode cX13_first 40 = .ok (.goto (-22), 3) := by decide +kernel
theorem dX13_first_43 : decode cX13_first 43 = .ok (.iload_n 3, 1) := by decide +kernel
theorem dX13_first_44 : decode cX13_first 44 = .ok (.iload_n 2, 1) := by decide +kernel
theorem dX13_first_45 : decode cX13_first 45 = .ok (.if_icmp .le 23, 3) := by decide +kernel
theorem dX13_first_48 : decode cX13_first 48 = .ok (.aload_n 0, 1) := by decide +kernel
theorem dX13_first_49 : decode cX13_first 49 = .ok (.getfield 31, 3) := by decide +kernel
theorem dX13_first_52 : decode cX13_first 52 = .ok (.iload_n 3, 1) := by decide +kernel
theorem dX13_first_53 : decode cX13_first 53 = .ok (.aload_n 0, 1) := by decide +kernel
theorem dX13_first_54 : decode cX13_first 54 = .ok (.getfield 31, 3) := by decide +kernel
theorem dX13_first_57 : decode cX13_first 57 = .ok (.iload_n 3, 1) := by decide +kernel
theorem dX13_first_58 : decode cX13_first 58 = .ok (.iconst 1, 1) := by decide +kernel
theorem dX13_first_59 : decode cX13_first 59 = .ok (.isub, 1) := by decide +kernel
theorem dX13_first_60 : decode cX13_first 60 = .ok (.iaload, 1) := by decide +kernel
theorem dX13_first_61 : decode cX13_first 61 = .ok (.iastore, 1) := by decide +kernel
theorem dX13_first_62 : decode cX13_first 62 = .ok (.iinc 3 (-1), 3) := by decide +kernel
theorem dX13_first_65 : decode cX13_first 65 = .ok (.goto (-22), 3) := by decide +kernel
theorem dX13_first_68 : decode cX13_first 68 = .ok (.aload_n 0, 1) := by decide +kernel
theorem dX13_first_69 : decode cX13_first 69 = .ok (.getfield 31, 3) := by decide +kernel
theorem dX13_first_72 : decode cX13_first 72 = .ok (.iload_n 2, 1) := by decide +kernel
theorem dX13_first_73 : decode cX13_first 73 = .ok (.iload_n 1, 1) := by decide +kernel
theorem dX13_first_74 : decode cX13_first 74 = .ok (.iastore, 1) := by decide +kernel
theorem dX13_first_75 : decode cX13_first 75 = .ok (.return_, 1) := by decide +kernel
theorem dX13_pass_0 : decode cX13_pass 0 = .ok (.iconst 0, 1) := by decide +kernel
theorem dX13_pass_1 : decode cX13_pass 1 = .ok (.istore_n 1, 1) := by decide +kernel
theorem dX13_pass_2 : decode cX13_pass 2 = .ok (.aload_n 0, 1) := by decide +kernel
theorem dX13_pass_3 : decode cX13_pass 3 = .ok (.dup, 1) := by decide +kernel
theorem dX13_pass_4 : decode cX13_pass 4 = .ok (.getfield 89, 3) := by decide +kernel
theorem dX13_pass_7 : decode cX13_pass 7 = .ok (.iconst 1, 1) := by decide +kernel
theorem dX13_pass_8 : decode cX13_pass 8 = .ok (.iadd, 1) := by decide +kernel
theorem dX13_pass_9 : decode cX13_pass 9 = .ok (.putfield 89, 3) := by decide +kernel
theorem dX13_pass_12 : decode cX13_pass 12 = .ok (.iconst 0, 1) := by decide +kernel
theorem dX13_pass_13 : decode cX13_pass 13 = .ok (.istore_n 2, 1) := by decide +kernel
theorem dX13_pass_14 : decode cX13_pass 14 = .ok (.iload_n 2, 1) := by decide +kernel
theorem dX13_pass_15 : decode cX13_pass 15 = .ok (.aload_n 0, 1) := by decide +kernel
theorem dX13_pass_16 : decode cX13_pass 16 = .ok (.getfield 98, 3) := by decide +kernel
theorem dX13_pass_19 : decode cX13_pass 19 = .ok (.if_icmp .ge 90, 3) := by decide +kernel
theorem dX13_pass_22 : decode cX13_pass 22 = .ok (.aload_n 0, 1) := by decide +kernel
theorem dX13_pass_23 : decode cX13_pass 23 = .ok (.getfield 19, 3) := by decide +kernel
theorem dX13_pass_26 : decode cX13_pass 26 = .ok (.iload_n 2, 1) := by decide +kernel
theorem dX13_pass_27 : decode cX13_pass 27 = .ok (.dup2, 1) := by decide +kernel
theorem dX13_pass_28 : decode cX13_pass 28 = .ok (.iaload, 1) := by decide +kernel
theorem dX13_pass_29 : decode cX13_pass 29 = .ok (.aload_n 0, 1) := by decide +kernel
theorem dX13_pass_30 : decode cX13_pass 30 = .ok (.getfield 22, 3) := by decide +kernel
theorem dX13_pass_33 : decode cX13_pass 33 = .ok (.iload_n 2, 1) := by decide +kernel
theorem dX13_pass_34 : decode cX13_pass 34 = .ok (.iaload, 1) := by decide +kernel
theorem dX13_pass_35 : decode cX13_pass 35 = .ok (.iadd, 1) := by decide +kernel
theorem dX13_pass_36 : decode cX13_pass 36 = .ok (.iastore, 1) := by decide +kernel
theorem dX13_pass_37 : decode cX13_pass 37 = .ok (.aload_n 0, 1) := by decide +kernel
theorem dX13_pass_38 : decode cX13_pass 38 = .ok (.getfield 25, 3) := by decide +kernel
theorem dX13_pass_41 : decode cX13_pass 41 = .ok (.iload_n 2, 1) := by decide +kernel
theorem dX13_pass_42 : decode cX13_pass 42 = .ok (.iaload, 1) := by decide +kernel
theorem dX13_pass_43 : decode cX13_pass 43 = .ok (.iconst (-1), 1) := by decide +kernel
theorem dX13_pass_44 : decode cX13_pass 44 = .ok (.if_icmp .ne 6, 3) := by decide +kernel
theorem dX13_pass_47 : decode cX13_pass 47 = .ok (.goto 56, 3) := by decide +kernel
theorem dX13_pass_50 : decode cX13_pass 50 = .ok (.aload_n 0, 1) := by decide +kernel
theorem dX13_pass_51 : decode cX13_pass 51 = .ok (.getfield 19, 3) := by decide +kernel
theorem dX13_pass_54 : decode cX13_pass 54 = .ok (.iload_n 2, 1) := by decide +kernel
theorem dX13_pass_55 : decode cX13_pass 55 = .ok (.iaload, 1) := by decide +kernel
theorem dX13_pass_56 : decode cX13_pass 56 = .ok (.aload_n 0, 1) := by decide +kernel
theorem dX13_pass_57 : decode cX13_pass 57 = .ok (.getfield 15, 3) := by decide +kernel
theorem dX13_pass_60 : decode cX13_pass 60 = .ok (.aload_n 0, 1) := by decide +kernel
theorem dX13_pass_61 : decode cX13_pass 61 = .ok (.getfield 25, 3) := by decide +kernel
theorem dX13_pass_64 : decode cX13_pass 64 = .ok (.iload_n 2, 1) := by decide +kernel
theorem dX13_pass_65 : decode cX13_pass 65 = .ok (.iaload, 1) := by decide +kernel
theorem dX13_pass_66 : decode cX13_pass 66 = .ok (.iaload, 1) := by decide +kernel
theorem dX13_pass_67 : decode cX13_pass 67 = .ok (.if_icmp .ge 16, 3) := by decide +kernel
theorem dX13_pass_70 : decode cX13_pass 70 = .ok (.aload_n 0, 1) := by decide +kernel
theorem dX13_pass_71 : decode cX13_pass 71 = .ok (.getfield 25, 3) := by decide +kernel
theorem dX13_pass_74 : decode cX13_pass 74 = .ok (.iload_n 2, 1) := by decide +kernel
theorem dX13_pass_75 : decode cX13_pass 75 = .ok (.iconst (-1), 1) := by decide +kernel
theorem dX13_pass_76 : decode cX13_pass 76 = .ok (.iastore, 1) := by decide +kernel
theorem dX13_pass_77 : decode cX13_pass 77 = .ok (.iinc 1 1, 3) := by decide +kernel
theorem dX13_pass_80 : decode cX13_pass 80 = .ok (.goto 23, 3) := by decide +kernel
theorem dX13_pass_83 : decode cX13_pass 83 = .ok (.aload_n 0, 1) := by decide +kernel
theorem dX13_pass_84 : decode cX13_pass 84 = .ok (.getfield 19, 3) := by decide +kernel
theorem dX13_pass_87 : decode cX13_pass 87 = .ok (.iload_n 2, 1) := by decide +kernel
theorem dX13_pass_88 : decode cX13_pass 88 = .ok (.dup2, 1) := by decide +kernel
theorem dX13_pass_89 : decode cX13_pass 89 = .ok (.iaload, 1) := by decide +kernel
theorem dX13_pass_90 : decode cX13_pass 90 = .ok (.aload_n 0, 1) := by decide +kernel
theorem dX13_pass_91 : decode cX13_pass 91 = .ok (.getfield 15, 3) := by decide +kernel
theorem dX13_pass_94 : decode cX13_pass 94 = .ok (.aload_n 0, 1) := by decide +kernel
theorem dX13_pass_95 : decode cX13_pass 95 = .ok (.getfield 25, 3) := by decide +kernel
theorem dX13_pass_98 : decode cX13_pass 98 = .ok (.iload_n 2, 1) := by decide +kernel
theorem dX13_pass_99 : decode cX13_pass 99 = .ok (.iaload, 1) := by decide +kernel
theorem dX13_pass_100 : decode cX13_pass 100 = .ok (.iaload, 1) := by decide +kernel
theorem dX13_pass_101 : decode cX13_pass 101 = .ok (.isub, 1) := by decide +kernel
theorem dX13_pass_102 : decode cX13_pass 102 = .ok (.iastore, 1) := by decide +kernel
theorem dX13_pass_103 : decode cX13_pass 103 = .ok (.iinc 2 1, 3) := by decide +kernel
theorem dX13_pass_106 : decode cX13_pass 106 = .ok (.goto (-92), 3) := by decide +kernel
theorem dX13_pass_109 : decode cX13_pass 109 = .ok (.iload_n 1, 1) := by decide +kernel
theorem dX13_pass_110 : decode cX13_pass 110 = .ok (.ireturn, 1) := by decide +kernel
theorem dX13_act_0 : decode cX13_act 0 = .ok (.aload_n 0, 1) := by decide +kernel
theorem dX13_act_1 : decode cX13_act 1 = .ok (.bipush 10, 2) := by decide +kernel
theorem dX13_act_3 : decode cX13_act 3 = .ok (.invokevirtual 92, 3) := by decide +kernel
theorem dX13_act_6 : decode cX13_act 6 = .ok (.istore_n 2, 1) := by decide +kernel
theorem dX13_act_7 : decode cX13_act 7 = .ok (.aload_n 0, 1) := by decide +kernel
theorem dX13_act_8 : decode cX13_act 8 = .ok (.aload_n 0, 1) := by decide +kernel
theorem dX13_act_9 : decode cX13_act 9 = .ok (.getfield 98, 3) := by decide +kernel
theorem dX13_act_12 : decode cX13_act 12 = .ok (.invokevirtual 92, 3) := by decide +kernel
theorem dX13_act_15 : decode cX13_act 15 = .ok (.istore_n 3, 1) := by decide +kernel
theorem dX13_act_16 : decode cX13_act 16 = .ok (.aload_n 0, 1) := by decide +kernel
theorem dX13_act_17 : decode cX13_act 17 = .ok (.aload_n 0, 1) := by decide +kernel
theorem dX13_act_18 : decode cX13_act 18 = .ok (.getfield 98, 3) := by decide +kernel
theorem dX13_act_21 : decode cX13_act 21 = .ok (.invokevirtual 92, 3) := by decide +kernel
theorem dX13_act_24 : decode cX13_act 24 = .ok (.istore 4, 2) := by decide +kernel
theorem dX13_act_26 : decode cX13_act 26 = .ok (.aload_n 0, 1) := by decide +kernel
theorem dX13_act_27 : decode cX13_act 27 = .ok (.aload_n 0, 1) := by decide +kernel
theorem dX13_act_28 : decode cX13_act 28 = .ok (.getfield 95, 3) := by decide +kernel
theorem dX13_act_31 : decode cX13_act 31 = .ok (.invokevirtual 92, 3) := by decide +kernel
theorem dX13_act_34 : decode cX13_act 34 = .ok (.istore 5, 2) := by decide +kernel
theorem dX13_act_36 : decode cX13_act 36 = .ok (.aload_n 0, 1) := by decide +kernel
theorem dX13_act_37 : decode cX13_act 37 = .ok (.getfield 25, 3) := by decide +kernel
theorem dX13_act_40 : decode cX13_act 40 = .ok (.iload_n 3, 1) := by decide +kernel
theorem dX13_act_41 : decode cX13_act 41 = .ok (.iaload, 1) := by decide +kernel
theorem dX13_act_42 : decode cX13_act 42 = .ok (.istore 6, 2) := by decide +kernel
theorem dX13_act_44 : decode cX13_act 44 = .ok (.iload_n 2, 1) := by decide +kernel
theorem dX13_act_45 : decode cX13_act 45 = .ok (.iconst 2, 1) := by decide +kernel
theorem dX13_act_46 : decode cX13_act 46 = .ok (.if_icmp .ge 55, 3) := by decide +kernel
theorem dX13_act_49 : decode cX13_act 49 = .ok (.aload_n 0, 1) := by decide +kernel
theorem dX13_act_50 : decode cX13_act 50 = .ok (.iload 5, 2) := by decide +kernel
theorem dX13_act_52 : decode cX13_act 52 = .ok (.invokevirtual 119, 3) := by decide +kernel
theorem dX13_act_55 : decode cX13_act 55 = .ok (.iconst (-1), 1) := by decide +kernel
theorem dX13_act_56 : decode cX13_act 56 = .ok (.if_icmp .ne 45, 3) := by decide +kernel
theorem dX13_act_59 : decode cX13_act 59 = .ok (.aload_n 0, 1) := by decide +kernel
theorem dX13_act_60 : decode cX13_act 60 = .ok (.getfield 15, 3) := by decide +kernel
theorem dX13_act_63 : decode cX13_act 63 = .ok (.iload 5, 2) := by decide +kernel
theorem dX13_act_65 : decode cX13_act 65 = .ok (.iaload, 1) := by decide +kernel
theorem dX13_act_66 : decode cX13_act 66 = .ok (.aload_n 0, 1) := by decide +kernel
theorem dX13_act_67 : decode cX13_act 67 = .ok (.getfield 19, 3) := by decide +kernel
theorem dX13_act_70 : decode cX13_act 70 = .ok (.iload_n 3, 1) := by decide +kernel
theorem dX13_act_71 : decode cX13_act 71 = .ok (.iaload, 1) := by decide +kernel
theorem dX13_act_72 : decode cX13_act 72 = .ok (.if_icmp .gt 29, 3) := by decide +kernel
theorem dX13_act_75 : decode cX13_act 75 = .ok (.aload_n 0, 1) := by decide +kernel
theorem dX13_act_76 : decode cX13_act 76 = .ok (.getfield 25, 3) := by decide +kernel
theorem dX13_act_79 : decode cX13_act 79 = .ok (.iload_n 3, 1) := by decide +kernel
theorem dX13_act_80 : decode cX13_act 80 = .ok (.iload 5, 2) := by decide +kernel
theorem dX13_act_82 : decode cX13_act 82 = .ok (.iastore, 1) := by decide +kernel
theorem dX13_act_83 : decode cX13_act 83 = .ok (.aload_n 1, 1) := by decide +kernel
theorem dX13_act_84 : decode cX13_act 84 = .ok (.iload_n 3, 1) := by decide +kernel
theorem dX13_act_85 : decode cX13_act 85 = .ok (.iload 5, 2) := by decide +kernel
theorem dX13_act_87 : decode cX13_act 87 = .ok (.invokevirtual 185, 3) := by decide +kernel
theorem dX13_act_90 : decode cX13_act 90 = .ok (.iload 6, 2) := by decide +kernel
theorem dX13_act_92 : decode cX13_act 92 = .ok (.if_icmp .ne 7, 3) := by decide +kernel
theorem dX13_act_95 : decode cX13_act 95 = .ok (.iconst 1, 1) := by decide +kernel
theorem dX13_act_96 : decode cX13_act 96 = .ok (.goto 4, 3) := by decide +kernel
theorem dX13_act_99 : decode cX13_act 99 = .ok (.iconst 0, 1) := by decide +kernel
theorem dX13_act_100 : decode cX13_act 100 = .ok (.ireturn, 1) := by decide +kernel
theorem dX13_act_101 : decode cX13_act 101 = .ok (.iload_n 2, 1) := by decide +kernel
theorem dX13_act_102 : decode cX13_act 102 = .ok (.iconst 2, 1) := by decide +kernel
theorem dX13_act_103 : decode cX13_act 103 = .ok (.if_icmp .ne 32, 3) := by decide +kernel
theorem dX13_act_106 : decode cX13_act 106 = .ok (.iload 6, 2) := by decide +kernel
theorem dX13_act_108 : decode cX13_act 108 = .ok (.iconst (-1), 1) := by decide +kernel
theorem dX13_act_109 : decode cX13_act 109 = .ok (.if_icmp .eq 26, 3) := by decide +kernel
theorem dX13_act_112 : decode cX13_act 112 = .ok (.aload_n 0, 1) := by decide +kernel
theorem dX13_act_113 : decode cX13_act 113 = .ok (.getfield 25, 3) := by decide +kernel
theorem dX13_act_116 : decode cX13_act 116 = .ok (.iload_n 3, 1) := by decide +kernel
theorem dX13_act_117 : decode cX13_act 117 = .ok (.iconst (-1), 1) := by decide +kernel
theorem dX13_act_118 : decode cX13_act 118 = .ok (.iastore, 1) := by decide +kernel
theorem dX13_act_119 : decode cX13_act 119 = .ok (.aload_n 1, 1) := by decide +kernel
theorem dX13_act_120 : decode cX13_act 120 = .ok (.iload_n 3, 1) := by decide +kernel
theorem dX13_act_121 : decode cX13_act 121 = .ok (.invokevirtual 188, 3) := by decide +kernel
theorem dX13_act_124 : decode cX13_act 124 = .ok (.iload 6, 2) := by decide +kernel
theorem dX13_act_126 : decode cX13_act 126 = .ok (.if_icmp .ne 7, 3) := by decide +kernel
theorem dX13_act_129 : decode cX13_act 129 = .ok (.iconst 1, 1) := by decide +kernel
theorem dX13_act_130 : decode cX13_act 130 = .ok (.goto 4, 3) := by decide +kernel
theorem dX13_act_133 : decode cX13_act 133 = .ok (.iconst 0, 1) := by decide +kernel
theorem dX13_act_134 : decode cX13_act 134 = .ok (.ireturn, 1) := by decide +kernel
theorem dX13_act_135 : decode cX13_act 135 = .ok (.iload_n 2, 1) := by decide +kernel
theorem dX13_act_136 : decode cX13_act 136 = .ok (.iconst 3, 1) := by decide +kernel
theorem dX13_act_137 : decode cX13_act 137 = .ok (.if_icmp .ne 57, 3) := by decide +kernel
theorem dX13_act_140 : decode cX13_act 140 = .ok (.aload_n 0, 1) := by decide +kernel
theorem dX13_act_141 : decode cX13_act 141 = .ok (.iload_n 3, 1) := by decide +kernel
theorem dX13_act_142 : decode cX13_act 142 = .ok (.iload 4, 2) := by decide +kernel
theorem dX13_act_144 : decode cX13_act 144 = .ok (.invokevirtual 191, 3) := by decide +kernel
theorem dX13_act_147 : decode cX13_act 147 = .ok (.ifCond .eq 47, 3) := by decide +kernel
theorem dX13_act_150 : decode cX13_act 150 = .ok (.aload_n 0, 1) := by decide +kernel
theorem dX13_act_151 : decode cX13_act 151 = .ok (.getfield 25, 3) := by decide +kernel
theorem dX13_act_154 : decode cX13_act 154 = .ok (.iload_n 3, 1) := by decide +kernel
theorem dX13_act_155 : decode cX13_act 155 = .ok (.aload_n 0, 1) := by decide +kernel
theorem dX13_act_156 : decode cX13_act 156 = .ok (.getfield 25, 3) := by decide +kernel
theorem dX13_act_159 : decode cX13_act 159 = .ok (.iload 4, 2) := by decide +kernel
theorem dX13_act_161 : decode cX13_act 161 = .ok (.iaload, 1) := by decide +kernel
theorem dX13_act_162 : decode cX13_act 162 = .ok (.iastore, 1) := by decide +kernel
theorem dX13_act_163 : decode cX13_act 163 = .ok (.aload_n 0, 1) := by decide +kernel
theorem dX13_act_164 : decode cX13_act 164 = .ok (.getfield 25, 3) := by decide +kernel
theorem dX13_act_167 : decode cX13_act 167 = .ok (.iload 4, 2) := by decide +kernel
theorem dX13_act_169 : decode cX13_act 169 = .ok (.iload 6, 2) := by decide +kernel
theorem dX13_act_171 : decode cX13_act 171 = .ok (.iastore, 1) := by decide +kernel
theorem dX13_act_172 : decode cX13_act 172 = .ok (.aload_n 1, 1) := by decide +kernel
theorem dX13_act_173 : decode cX13_act 173 = .ok (.iload_n 3, 1) := by decide +kernel
theorem dX13_act_174 : decode cX13_act 174 = .ok (.iload 4, 2) := by decide +kernel
theorem dX13_act_176 : decode cX13_act 176 = .ok (.invokevirtual 194, 3) := by decide +kernel
theorem dX13_act_179 : decode cX13_act 179 = .ok (.aload_n 0, 1) := by decide +kernel
theorem dX13_act_180 : decode cX13_act 180 = .ok (.getfield 25, 3) := by decide +kernel
theorem dX13_act_183 : decode cX13_act 183 = .ok (.iload_n 3, 1) := by decide +kernel
theorem dX13_act_184 : decode cX13_act 184 = .ok (.iaload, 1) := by decide +kernel
theorem dX13_act_185 : decode cX13_act 185 = .ok (.if_icmp .ne 7, 3) := by decide +kernel
theorem dX13_act_188 : decode cX13_act 188 = .ok (.iconst 1, 1) := by decide +kernel
theorem dX13_act_189 : decode cX13_act 189 = .ok (.goto 4, 3) := by decide +kernel
theorem dX13_act_192 : decode cX13_act 192 = .ok (.iconst 0, 1) := by decide +kernel
theorem dX13_act_193 : decode cX13_act 193 = .ok (.ireturn, 1) := by decide +kernel
theorem dX13_act_194 : decode cX13_act 194 = .ok (.iload_n 2, 1) := by decide +kernel
theorem dX13_act_195 : decode cX13_act 195 = .ok (.iconst 4, 1) := by decide +kernel
theorem dX13_act_196 : decode cX13_act 196 = .ok (.if_icmp .ne 77, 3) := by decide +kernel
theorem dX13_act_199 : decode cX13_act 199 = .ok (.iconst 0, 1) := by decide +kernel
theorem dX13_act_200 : decode cX13_act 200 = .ok (.istore 7, 2) := by decide +kernel
theorem dX13_act_202 : decode cX13_act 202 = .ok (.aload_n 0, 1) := by decide +kernel
theorem dX13_act_203 : decode cX13_act 203 = .ok (.invokevirtual 197, 3) := by decide +kernel
theorem dX13_act_206 : decode cX13_act 206 = .ok (.iconst 0, 1) := by decide +kernel
theorem dX13_act_207 : decode cX13_act 207 = .ok (.istore 8, 2) := by decide +kernel
theorem dX13_act_209 : decode cX13_act 209 = .ok (.iload 8, 2) := by decide +kernel
theorem dX13_act_211 : decode cX13_act 211 = .ok (.aload_n 0, 1) := by decide +kernel
theorem dX13_act_212 : decode cX13_act 212 = .ok (.getfield 98, 3) := by decide +kernel
theorem dX13_act_215 : decode cX13_act 215 = .ok (.if_icmp .ge 43, 3) := by decide +kernel
theorem dX13_act_218 : decode cX13_act 218 = .ok (.aload_n 0, 1) := by decide +kernel
theorem dX13_act_219 : decode cX13_act 219 = .ok (.getfield 40, 3) := by decide +kernel
theorem dX13_act_222 : decode cX13_act 222 = .ok (.iload 8, 2) := by decide +kernel
theorem dX13_act_224 : decode cX13_act 224 = .ok (.iaload, 1) := by decide +kernel
theorem dX13_act_225 : decode cX13_act 225 = .ok (.aload_n 0, 1) := by decide +kernel
theorem dX13_act_226 : decode cX13_act 226 = .ok (.getfield 25, 3) := by decide +kernel
theorem dX13_act_229 : decode cX13_act 229 = .ok (.iload 8, 2) := by decide +kernel
theorem dX13_act_231 : decode cX13_act 231 = .ok (.iaload, 1) := by decide +kernel
theorem dX13_act_232 : decode cX13_act 232 = .ok (.if_icmp .eq 6, 3) := by decide +kernel
theorem dX13_act_235 : decode cX13_act 235 = .ok (.iinc 7 1, 3) := by decide +kernel
theorem dX13_act_238 : decode cX13_act 238 = .ok (.aload_n 0, 1) := by decide +kernel
theorem dX13_act_239 : decode cX13_act 239 = .ok (.getfield 25, 3) := by decide +kernel
theorem dX13_act_242 : decode cX13_act 242 = .ok (.iload 8, 2) := by decide +kernel
theorem dX13_act_244 : decode cX13_act 244 = .ok (.aload_n 0, 1) := by decide +kernel
theorem dX13_act_245 : decode cX13_act 245 = .ok (.getfield 40, 3) := by decide +kernel
theorem dX13_act_248 : decode cX13_act 248 = .ok (.iload 8, 2) := by decide +kernel
theorem dX13_act_250 : decode cX13_act 250 = .ok (.iaload, 1) := by decide +kernel
theorem dX13_act_251 : decode cX13_act 251 = .ok (.iastore, 1) := by decide +kernel
theorem dX13_act_252 : decode cX13_act 252 = .ok (.iinc 8 1, 3) := by decide +kernel
theorem dX13_act_255 : decode cX13_act 255 = .ok (.goto (-46), 3) := by decide +kernel
theorem dX13_act_258 : decode cX13_act 258 = .ok (.aload_n 1, 1) := by decide +kernel
theorem dX13_act_259 : decode cX13_act 259 = .ok (.invokevirtual 200, 3) := by decide +kernel
theorem dX13_act_262 : decode cX13_act 262 = .ok (.iload 7, 2) := by decide +kernel
theorem dX13_act_264 : decode cX13_act 264 = .ok (.if_icmp .ne 7, 3) := by decide +kernel
theorem dX13_act_267 : decode cX13_act 267 = .ok (.iconst 1, 1) := by decide +kernel
theorem dX13_act_268 : decode cX13_act 268 = .ok (.goto 4, 3) := by decide +kernel
theorem dX13_act_271 : decode cX13_act 271 = .ok (.iconst 0, 1) := by decide +kernel
theorem dX13_act_272 : decode cX13_act 272 = .ok (.ireturn, 1) := by decide +kernel
theorem dX13_act_273 : decode cX13_act 273 = .ok (.iload_n 2, 1) := by decide +kernel
theorem dX13_act_274 : decode cX13_act 274 = .ok (.iconst 5, 1) := by decide +kernel
theorem dX13_act_275 : decode cX13_act 275 = .ok (.if_icmp .ne 32, 3) := by decide +kernel
theorem dX13_act_278 : decode cX13_act 278 = .ok (.aload_n 0, 1) := by decide +kernel
theorem dX13_act_279 : decode cX13_act 279 = .ok (.iload_n 3, 1) := by decide +kernel
theorem dX13_act_280 : decode cX13_act 280 = .ok (.iload 5, 2) := by decide +kernel
theorem dX13_act_282 : decode cX13_act 282 = .ok (.invokevirtual 203, 3) := by decide +kernel
theorem dX13_act_285 : decode cX13_act 285 = .ok (.aload_n 1, 1) := by decide +kernel
theorem dX13_act_286 : decode cX13_act 286 = .ok (.iload_n 3, 1) := by decide +kernel
theorem dX13_act_287 : decode cX13_act 287 = .ok (.iload 5, 2) := by decide +kernel
theorem dX13_act_289 : decode cX13_act 289 = .ok (.invokevirtual 206, 3) := by decide +kernel
theorem dX13_act_292 : decode cX13_act 292 = .ok (.aload_n 0, 1) := by decide +kernel
theorem dX13_act_293 : decode cX13_act 293 = .ok (.getfield 28, 3) := by decide +kernel
theorem dX13_act_296 : decode cX13_act 296 = .ok (.iload_n 3, 1) := by decide +kernel
theorem dX13_act_297 : decode cX13_act 297 = .ok (.iaload, 1) := by decide +kernel
theorem dX13_act_298 : decode cX13_act 298 = .ok (.if_icmp .ne 7, 3) := by decide +kernel
theorem dX13_act_301 : decode cX13_act 301 = .ok (.iconst 1, 1) := by decide +kernel
theorem dX13_act_302 : decode cX13_act 302 = .ok (.goto 4, 3) := by decide +kernel
theorem dX13_act_305 : decode cX13_act 305 = .ok (.iconst 0, 1) := by decide +kernel
theorem dX13_act_306 : decode cX13_act 306 = .ok (.ireturn, 1) := by decide +kernel
theorem dX13_act_307 : decode cX13_act 307 = .ok (.iload_n 2, 1) := by decide +kernel
theorem dX13_act_308 : decode cX13_act 308 = .ok (.bipush 6, 2) := by decide +kernel
theorem dX13_act_310 : decode cX13_act 310 = .ok (.if_icmp .ne 92, 3) := by decide +kernel
theorem dX13_act_313 : decode cX13_act 313 = .ok (.aload_n 0, 1) := by decide +kernel
theorem dX13_act_314 : decode cX13_act 314 = .ok (.iload_n 3, 1) := by decide +kernel
theorem dX13_act_315 : decode cX13_act 315 = .ok (.iload 5, 2) := by decide +kernel
theorem dX13_act_317 : decode cX13_act 317 = .ok (.invokevirtual 115, 3) := by decide +kernel
theorem dX13_act_320 : decode cX13_act 320 = .ok (.iconst (-1), 1) := by decide +kernel
theorem dX13_act_321 : decode cX13_act 321 = .ok (.if_icmp .eq 81, 3) := by decide +kernel
theorem dX13_act_324 : decode cX13_act 324 = .ok (.aload_n 0, 1) := by decide +kernel
theorem dX13_act_325 : decode cX13_act 325 = .ok (.getfield 28, 3) := by decide +kernel
theorem dX13_act_328 : decode cX13_act 328 = .ok (.iload_n 3, 1) := by decide +kernel
theorem dX13_act_329 : decode cX13_act 329 = .ok (.dup2, 1) := by decide +kernel
theorem dX13_act_330 : decode cX13_act 330 = .ok (.iaload, 1) := by decide +kernel
theorem dX13_act_331 : decode cX13_act 331 = .ok (.iconst 1, 1) := by decide +kernel
theorem dX13_act_332 : decode cX13_act 332 = .ok (.isub, 1) := by decide +kernel
theorem dX13_act_333 : decode cX13_act 333 = .ok (.iastore, 1) := by decide +kernel
theorem dX13_act_334 : decode cX13_act 334 = .ok (.aload_n 0, 1) := by decide +kernel
theorem dX13_act_335 : decode cX13_act 335 = .ok (.iload_n 3, 1) := by decide +kernel
theorem dX13_act_336 : decode cX13_act 336 = .ok (.iload 5, 2) := by decide +kernel
theorem dX13_act_338 : decode cX13_act 338 = .ok (.invokevirtual 209, 3) := by decide +kernel
theorem dX13_act_341 : decode cX13_act 341 = .ok (.istore 7, 2) := by decide +kernel
theorem dX13_act_343 : decode cX13_act 343 = .ok (.iload 7, 2) := by decide +kernel
theorem dX13_act_345 : decode cX13_act 345 = .ok (.aload_n 0, 1) := by decide +kernel
theorem dX13_act_346 : decode cX13_act 346 = .ok (.getfield 28, 3) := by decide +kernel
theorem dX13_act_349 : decode cX13_act 349 = .ok (.iload_n 3, 1) := by decide +kernel
theorem dX13_act_350 : decode cX13_act 350 = .ok (.iaload, 1) := by decide +kernel
theorem dX13_act_351 : decode cX13_act 351 = .ok (.if_icmp .ge 29, 3) := by decide +kernel
theorem dX13_act_354 : decode cX13_act 354 = .ok (.aload_n 0, 1) := by decide +kernel
theorem dX13_act_355 : decode cX13_act 355 = .ok (.getfield 45, 3) := by decide +kernel
theorem dX13_act_358 : decode cX13_act 358 = .ok (.iload_n 3, 1) := by decide +kernel
theorem dX13_act_359 : decode cX13_act 359 = .ok (.aaload, 1) := by decide +kernel
theorem dX13_act_360 : decode cX13_act 360 = .ok (.iload 7, 2) := by decide +kernel
theorem dX13_act_362 : decode cX13_act 362 = .ok (.aload_n 0, 1) := by decide +kernel
theorem dX13_act_363 : decode cX13_act 363 = .ok (.getfield 45, 3) := by decide +kernel
theorem dX13_act_366 : decode cX13_act 366 = .ok (.iload_n 3, 1) := by decide +kernel
theorem dX13_act_367 : decode cX13_act 367 = .ok (.aaload, 1) := by decide +kernel
theorem dX13_act_368 : decode cX13_act 368 = .ok (.iload 7, 2) := by decide +kernel
theorem dX13_act_370 : decode cX13_act 370 = .ok (.iconst 1, 1) := by decide +kernel
theorem dX13_act_371 : decode cX13_act 371 = .ok (.iadd, 1) := by decide +kernel
theorem dX13_act_372 : decode cX13_act 372 = .ok (.iaload, 1) := by decide +kernel
theorem dX13_act_373 : decode cX13_act 373 = .ok (.iastore, 1) := by decide +kernel
theorem dX13_act_374 : decode cX13_act 374 = .ok (.iinc 7 1, 3) := by decide +kernel
theorem dX13_act_377 : decode cX13_act 377 = .ok (.goto (-34), 3) := by decide +kernel
theorem dX13_act_380 : decode cX13_act 380 = .ok (.aload_n 1, 1) := by decide +kernel
theorem dX13_act_381 : decode cX13_act 381 = .ok (.iload_n 3, 1) := by decide +kernel
theorem dX13_act_382 : decode cX13_act 382 = .ok (.iload 5, 2) := by decide +kernel
theorem dX13_act_384 : decode cX13_act 384 = .ok (.invokevirtual 212, 3) := by decide +kernel
theorem dX13_act_387 : decode cX13_act 387 = .ok (.aload_n 0, 1) := by decide +kernel
theorem dX13_act_388 : decode cX13_act 388 = .ok (.getfield 28, 3) := by decide +kernel
theorem dX13_act_391 : decode cX13_act 391 = .ok (.iload_n 3, 1) := by decide +kernel
theorem dX13_act_392 : decode cX13_act 392 = .ok (.iaload, 1) := by decide +kernel
theorem dX13_act_393 : decode cX13_act 393 = .ok (.if_icmp .ne 7, 3) := by decide +kernel
theorem dX13_act_396 : decode cX13_act 396 = .ok (.iconst 1, 1) := by decide +kernel
theorem dX13_act_397 : decode cX13_act 397 = .ok (.goto 4, 3) := by decide +kernel
theorem dX13_act_400 : decode cX13_act 400 = .ok (.iconst 0, 1) := by decide +kernel
theorem dX13_act_401 : decode cX13_act 401 = .ok (.ireturn, 1) := by decide +kernel
theorem dX13_act_402 : decode cX13_act 402 = .ok (.iload_n 2, 1) := by decide +kernel
theorem dX13_act_403 : decode cX13_act 403 = .ok (.bipush 7, 2) := by decide +kernel
theorem dX13_act_405 : decode cX13_act 405 = .ok (.if_icmp .ne 48, 3) := by decide +kernel
theorem dX13_act_408 : decode cX13_act 408 = .ok (.iconst 0, 1) := by decide +kernel
theorem dX13_act_409 : decode cX13_act 409 = .ok (.istore 7, 2) := by decide +kernel
theorem dX13_act_411 : decode cX13_act 411 = .ok (.aload_n 0, 1) := by decide +kernel
theorem dX13_act_412 : decode cX13_act 412 = .ok (.getfield 31, 3) := by decide +kernel
theorem dX13_act_415 : decode cX13_act 415 = .ok (.iload 7, 2) := by decide +kernel
theorem dX13_act_417 : decode cX13_act 417 = .ok (.iaload, 1) := by decide +kernel
theorem dX13_act_418 : decode cX13_act 418 = .ok (.iload_n 3, 1) := by decide +kernel
theorem dX13_act_419 : decode cX13_act 419 = .ok (.if_icmp .eq 9, 3) := by decide +kernel
theorem dX13_act_422 : decode cX13_act 422 = .ok (.iinc 7 1, 3) := by decide +kernel
theorem dX13_act_425 : decode cX13_act 425 = .ok (.goto (-14), 3) := by decide +kernel
theorem dX13_act_428 : decode cX13_act 428 = .ok (.aload_n 0, 1) := by decide +kernel
theorem dX13_act_429 : decode cX13_act 429 = .ok (.iload_n 3, 1) := by decide +kernel
theorem dX13_act_430 : decode cX13_act 430 = .ok (.iload 4, 2) := by decide +kernel
theorem dX13_act_432 : decode cX13_act 432 = .ok (.invokevirtual 215, 3) := by decide +kernel
theorem dX13_act_435 : decode cX13_act 435 = .ok (.aload_n 1, 1) := by decide +kernel
theorem dX13_act_436 : decode cX13_act 436 = .ok (.iload_n 3, 1) := by decide +kernel
theorem dX13_act_437 : decode cX13_act 437 = .ok (.iload 4, 2) := by decide +kernel
theorem dX13_act_439 : decode cX13_act 439 = .ok (.invokevirtual 218, 3) := by decide +kernel
theorem dX13_act_442 : decode cX13_act 442 = .ok (.iload 7, 2) := by decide +kernel
theorem dX13_act_444 : decode cX13_act 444 = .ok (.if_icmp .ne 7, 3) := by decide +kernel
theorem dX13_act_447 : decode cX13_act 447 = .ok (.iconst 1, 1) := by decide +kernel
theorem dX13_act_448 : decode cX13_act 448 = .ok (.goto 4, 3) := by decide +kernel
theorem dX13_act_451 : decode cX13_act 451 = .ok (.iconst 0, 1) := by decide +kernel
theorem dX13_act_452 : decode cX13_act 452 = .ok (.ireturn, 1) := by decide +kernel
theorem dX13_act_453 : decode cX13_act 453 = .ok (.iload_n 2, 1) := by decide +kernel
theorem dX13_act_454 : decode cX13_act 454 = .ok (.bipush 8, 2) := by decide +kernel
theorem dX13_act_456 : decode cX13_act 456 = .ok (.if_icmp .ne 49, 3) := by decide +kernel
theorem dX13_act_459 : decode cX13_act 459 = .ok (.aload_n 0, 1) := by decide +kernel
theorem dX13_act_460 : decode cX13_act 460 = .ok (.getfield 15, 3) := by decide +kernel
theorem dX13_act_463 : decode cX13_act 463 = .ok (.iload 5, 2) := by decide +kernel
theorem dX13_act_465 : decode cX13_act 465 = .ok (.iaload, 1) := by decide +kernel
theorem dX13_act_466 : decode cX13_act 466 = .ok (.istore 7, 2) := by decide +kernel
theorem dX13_act_468 : decode cX13_act 468 = .ok (.aload_n 0, 1) := by decide +kernel
theorem dX13_act_469 : decode cX13_act 469 = .ok (.getfield 15, 3) := by decide +kernel
theorem dX13_act_472 : decode cX13_act 472 = .ok (.iload 5, 2) := by decide +kernel
theorem dX13_act_474 : decode cX13_act 474 = .ok (.aload_n 0, 1) := by decide +kernel
theorem dX13_act_475 : decode cX13_act 475 = .ok (.bipush 100, 2) := by decide +kernel
theorem dX13_act_477 : decode cX13_act 477 = .ok (.invokevirtual 92, 3) := by decide +kernel
theorem dX13_act_480 : decode cX13_act 480 = .ok (.iastore, 1) := by decide +kernel
theorem dX13_act_481 : decode cX13_act 481 = .ok (.aload_n 1, 1) := by decide +kernel
theorem dX13_act_482 : decode cX13_act 482 = .ok (.iload 5, 2) := by decide +kernel
theorem dX13_act_484 : decode cX13_act 484 = .ok (.aload_n 0, 1) := by decide +kernel
theorem dX13_act_485 : decode cX13_act 485 = .ok (.getfield 15, 3) := by decide +kernel
theorem dX13_act_488 : decode cX13_act 488 = .ok (.iload 5, 2) := by decide +kernel
theorem dX13_act_490 : decode cX13_act 490 = .ok (.iaload, 1) := by decide +kernel
theorem dX13_act_491 : decode cX13_act 491 = .ok (.invokevirtual 221, 3) := by decide +kernel
theorem dX13_act_494 : decode cX13_act 494 = .ok (.iload 7, 2) := by decide +kernel
theorem dX13_act_496 : decode cX13_act 496 = .ok (.if_icmp .ne 7, 3) := by decide +kernel
theorem dX13_act_499 : decode cX13_act 499 = .ok (.iconst 1, 1) := by decide +kernel
theorem dX13_act_500 : decode cX13_act 500 = .ok (.goto 4, 3) := by decide +kernel
theorem dX13_act_503 : decode cX13_act 503 = .ok (.iconst 0, 1) := by decide +kernel
theorem dX13_act_504 : decode cX13_act 504 = .ok (.ireturn, 1) := by decide +kernel
theorem dX13_act_505 : decode cX13_act 505 = .ok (.iconst 1, 1) := by decide +kernel
theorem dX13_act_506 : decode cX13_act 506 = .ok (.aload_n 0, 1) := by decide +kernel
theorem dX13_act_507 : decode cX13_act 507 = .ok (.iconst 3, 1) := by decide +kernel
theorem dX13_act_508 : decode cX13_act 508 = .ok (.invokevirtual 92, 3) := by decide +kernel
theorem dX13_act_511 : decode cX13_act 511 = .ok (.iadd, 1) := by decide +kernel
theorem dX13_act_512 : decode cX13_act 512 = .ok (.istore 7, 2) := by decide +kernel
theorem dX13_act_514 : decode cX13_act 514 = .ok (.iconst 0, 1) := by decide +kernel
theorem dX13_act_515 : decode cX13_act 515 = .ok (.istore 8, 2) := by decide +kernel
theorem dX13_act_517 : decode cX13_act 517 = .ok (.iconst 0, 1) := by decide +kernel
theorem dX13_act_518 : decode cX13_act 518 = .ok (.istore 9, 2) := by decide +kernel
theorem dX13_act_520 : decode cX13_act 520 = .ok (.iload 9, 2) := by decide +kernel
theorem dX13_act_522 : decode cX13_act 522 = .ok (.iload 7, 2) := by decide +kernel
theorem dX13_act_524 : decode cX13_act 524 = .ok (.if_icmp .ge 18, 3) := by decide +kernel
theorem dX13_act_527 : decode cX13_act 527 = .ok (.iload 8, 2) := by decide +kernel
theorem dX13_act_529 : decode cX13_act 529 = .ok (.aload_n 0, 1) := by decide +kernel
theorem dX13_act_530 : decode cX13_act 530 = .ok (.invokevirtual 224, 3) := by decide +kernel
theorem dX13_act_533 : decode cX13_act 533 = .ok (.iadd, 1) := by decide +kernel
theorem dX13_act_534 : decode cX13_act 534 = .ok (.istore 8, 2) := by decide +kernel
theorem dX13_act_536 : decode cX13_act 536 = .ok (.iinc 9 1, 3) := by decide +kernel
theorem dX13_act_539 : decode cX13_act 539 = .ok (.goto (-19), 3) := by decide +kernel
theorem dX13_act_542 : decode cX13_act 542 = .ok (.aload_n 1, 1) := by decide +kernel
theorem dX13_act_543 : decode cX13_act 543 = .ok (.iload 7, 2) := by decide +kernel
theorem dX13_act_545 : decode cX13_act 545 = .ok (.invokevirtual 227, 3) := by decide +kernel
theorem dX13_act_548 : decode cX13_act 548 = .ok (.iload 8, 2) := by decide +kernel
theorem dX13_act_550 : decode cX13_act 550 = .ok (.if_icmp .ne 7, 3) := by decide +kernel
theorem dX13_act_553 : decode cX13_act 553 = .ok (.iconst 1, 1) := by decide +kernel
theorem dX13_act_554 : decode cX13_act 554 = .ok (.goto 4, 3) := by decide +kernel
theorem dX13_act_557 : decode cX13_act 557 = .ok (.iconst 0, 1) := by decide +kernel
theorem dX13_act_558 : decode cX13_act 558 = .ok (.ireturn, 1) := by decide +kernel
theorem dX13_rankAll_0 : decode cX13_rankAll 0 = .ok (.iconst 0, 1) := by decide +kernel
theorem dX13_rankAll_1 : decode cX13_rankAll 1 = .ok (.istore_n 3, 1) := by decide +kernel
theorem dX13_rankAll_2 : decode cX13_rankAll 2 = .ok (.iload_n 3, 1) := by decide +kernel
theorem dX13_rankAll_3 : decode cX13_rankAll 3 = .ok (.aload_n 0, 1) := by decide +kernel
theorem dX13_rankAll_4 : decode cX13_rankAll 4 = .ok (.getfield 28, 3) := by decide +kernel
theorem dX13_rankAll_7 : decode cX13_rankAll 7 = .ok (.iload_n 1, 1) := by decide +kernel
theorem dX13_rankAll_8 : decode cX13_rankAll 8 = .ok (.iaload, 1) := by decide +kernel
theorem dX13_rankAll_9 : decode cX13_rankAll 9 = .ok (.if_icmp .gt 23, 3) := by decide +kernel
theorem dX13_rankAll_12 : decode cX13_rankAll 12 = .ok (.aload_n 0, 1) := by decide +kernel
theorem dX13_rankAll_13 : decode cX13_rankAll 13 = .ok (.getfield 45, 3) := by decide +kernel
theorem dX13_rankAll_16 : decode cX13_rankAll 16 = .ok (.iload_n 1, 1) := by decide +kernel
theorem dX13_rankAll_17 : decode cX13_rankAll 17 = .ok (.aaload, 1) := by decide +kernel
theorem dX13_rankAll_18 : decode cX13_rankAll 18 = .ok (.iload_n 3, 1) := by decide +kernel
theorem dX13_rankAll_19 : decode cX13_rankAll 19 = .ok (.iaload, 1) := by decide +kernel
theorem dX13_rankAll_20 : decode cX13_rankAll 20 = .ok (.iload_n 2, 1) := by decide +kernel
theorem dX13_rankAll_21 : decode cX13_rankAll 21 = .ok (.if_icmp .ne 5, 3) := by decide +kernel
theorem dX13_rankAll_24 : decode cX13_rankAll 24 = .ok (.iload_n 3, 1) := by decide +kernel
theorem dX13_rankAll_25 : decode cX13_rankAll 25 = .ok (.ireturn, 1) := by decide +kernel
theorem dX13_rankAll_26 : decode cX13_rankAll 26 = .ok (.iinc 3 1, 3) := by decide +kernel
theorem dX13_rankAll_29 : decode cX13_rankAll 29 = .ok (.goto (-27), 3) := by decide +kernel
theorem dX13_rankAll_32 : decode cX13_rankAll 32 = .ok (.aload_n 0, 1) := by decide +kernel
theorem dX13_rankAll_33 : decode cX13_rankAll 33 = .ok (.getfield 28, 3) := by decide +kernel
theorem dX13_rankAll_36 : decode cX13_rankAll 36 = .ok (.iload_n 1, 1) := by decide +kernel
theorem dX13_rankAll_37 : decode cX13_rankAll 37 = .ok (.iaload, 1) := by decide +kernel
theorem dX13_rankAll_38 : decode cX13_rankAll 38 = .ok (.ireturn, 1) := by decide +kernel
theorem dJ0_length_8abf5_0 : decode cJ0_length_8abf5 0 = .ok (.aload_n 0, 1) := by decide +kernel
theorem dJ0_length_8abf5_1 : decode cJ0_length_8abf5 1 = .ok (.getfield 9, 3) := by decide +kernel
theorem dJ0_length_8abf5_4 : decode cJ0_length_8abf5 4 = .ok (.arraylength, 1) := by decide +kernel
theorem dJ0_length_8abf5_5 : decode cJ0_length_8abf5 5 = .ok (.aload_n 0, 1) := by decide +kernel
theorem dJ0_length_8abf5_6 : decode cJ0_length_8abf5 6 = .ok (.invokevirtual 335, 3) := by decide +kernel
theorem dJ0_length_8abf5_9 : decode cJ0_length_8abf5 9 = .ok (.ishr, 1) := by decide +kernel
theorem dJ0_length_8abf5_10 : decode cJ0_length_8abf5 10 = .ok (.ireturn, 1) := by decide +kernel
theorem dJ0_charAt_5068e_0 : decode cJ0_charAt_5068e 0 = .ok (.aload_n 0, 1) := by decide +kernel
theorem dJ0_charAt_5068e_1 : decode cJ0_charAt_5068e 1 = .ok (.invokevirtual 492, 3) := by decide +kernel
theorem dJ0_charAt_5068e_4 : decode cJ0_charAt_5068e 4 = .ok (.ifCond .eq 12, 3) := by decide +kernel
theorem dJ0_charAt_5068e_7 : decode cJ0_charAt_5068e 7 = .ok (.aload_n 0, 1) := by decide +kernel
theorem dJ0_charAt_5068e_8 : decode cJ0_charAt_5068e 8 = .ok (.getfield 9, 3) := by decide +kernel
theorem dJ0_charAt_5068e_11 : decode cJ0_charAt_5068e 11 = .ok (.iload_n 1, 1) := by decide +kernel
theorem dJ0_charAt_5068e_12 : decode cJ0_charAt_5068e 12 = .ok (.invokestatic 495, 3) := by decide +kernel
theorem dJ0_charAt_5068e_15 : decode cJ0_charAt_5068e 15 = .ok (.ireturn, 1) := by decide +kernel
theorem dJ0_charAt_5068e_16 : decode cJ0_charAt_5068e 16 = .ok (.aload_n 0, 1) := by decide +kernel
theorem dJ0_charAt_5068e_17 : decode cJ0_charAt_5068e 17 = .ok (.getfield 9, 3) := by decide +kernel
theorem dJ0_charAt_5068e_20 : decode cJ0_charAt_5068e 20 = .ok (.iload_n 1, 1) := by decide +kernel
theorem dJ0_charAt_5068e_21 : decode cJ0_charAt_5068e 21 = .ok (.invokestatic 498, 3) := by decide +kernel
theorem dJ0_charAt_5068e_24 : decode cJ0_charAt_5068e 24 = .ok (.ireturn, 1) := by decide +kernel
theorem dJ0_coder_7d493_0 : decode cJ0_coder_7d493 0 = .ok (.getstatic 38, 3) := by decide +kernel
theorem dJ0_coder_7d493_3 : decode cJ0_coder_7d493 3 = .ok (.ifCond .eq 10, 3) := by decide +kernel
theorem dJ0_coder_7d493_6 : decode cJ0_coder_7d493 6 = .ok (.aload_n 0, 1) := by decide +kernel
theorem dJ0_coder_7d493_7 : decode cJ0_coder_7d493 7 = .ok (.getfield 15, 3) := by decide +kernel
theorem dJ0_coder_7d493_10 : decode cJ0_coder_7d493 10 = .ok (.goto 4, 3) := by decide +kernel
theorem dJ0_coder_7d493_13 : decode cJ0_coder_7d493 13 = .ok (.iconst 1, 1) := by decide +kernel
theorem dJ0_coder_7d493_14 : decode cJ0_coder_7d493 14 = .ok (.ireturn, 1) := by decide +kernel
theorem dJ0_isLatin1_aae02_0 : decode cJ0_isLatin1_aae02 0 = .ok (.getstatic 38, 3) := by decide +kernel
theorem dJ0_isLatin1_aae02_3 : decode cJ0_isLatin1_aae02 3 = .ok (.ifCond .eq 14, 3) := by decide +kernel
theorem dJ0_isLatin1_aae02_6 : decode cJ0_isLatin1_aae02 6 = .ok (.aload_n 0, 1) := by decide +kernel
theorem dJ0_isLatin1_aae02_7 : decode cJ0_isLatin1_aae02 7 = .ok (.getfield 15, 3) := by decide +kernel
theorem dJ0_isLatin1_aae02_10 : decode cJ0_isLatin1_aae02 10 = .ok (.ifCond .ne 7, 3) := by decide +kernel
theorem dJ0_isLatin1_aae02_13 : decode cJ0_isLatin1_aae02 13 = .ok (.iconst 1, 1) := by decide +kernel
theorem dJ0_isLatin1_aae02_14 : decode cJ0_isLatin1_aae02 14 = .ok (.goto 4, 3) := by decide +kernel
theorem dJ0_isLatin1_aae02_17 : decode cJ0_isLatin1_aae02 17 = .ok (.iconst 0, 1) := by decide +kernel
theorem dJ0_isLatin1_aae02_18 : decode cJ0_isLatin1_aae02 18 = .ok (.ireturn, 1) := by decide +kernel
theorem dJ0_checkIndex_df160_0 : decode cJ0_checkIndex_df160 0 = .ok (.iload_n 0, 1) := by decide +kernel
theorem dJ0_checkIndex_df160_1 : decode cJ0_checkIndex_df160 1 = .ok (.iload_n 1, 1) := by decide +kernel
theorem dJ0_checkIndex_df160_2 : decode cJ0_checkIndex_df160 2 = .ok (.getstatic 1053, 3) := by decide +kernel
theorem dJ0_checkIndex_df160_5 : decode cJ0_checkIndex_df160 5 = .ok (.invokestatic 1059, 3) := by decide +kernel
theorem dJ0_checkIndex_df160_8 : decode cJ0_checkIndex_df160 8 = .ok (.pop, 1) := by decide +kernel
theorem dJ0_checkIndex_df160_9 : decode cJ0_checkIndex_df160 9 = .ok (.return_, 1) := by decide +kernel
theorem dJ1_charAt_3b067_0 : decode cJ1_charAt_3b067 0 = .ok (.iload_n 1, 1) := by decide +kernel
theorem dJ1_charAt_3b067_1 : decode cJ1_charAt_3b067 1 = .ok (.aload_n 0, 1) := by decide +kernel
theorem dJ1_charAt_3b067_2 : decode cJ1_charAt_3b067 2 = .ok (.arraylength, 1) := by decide +kernel
theorem dJ1_charAt_3b067_3 : decode cJ1_charAt_3b067 3 = .ok (.invokestatic 9, 3) := by decide +kernel
theorem dJ1_charAt_3b067_6 : decode cJ1_charAt_3b067 6 = .ok (.aload_n 0, 1) := by decide +kernel
theorem dJ1_charAt_3b067_7 : decode cJ1_charAt_3b067 7 = .ok (.iload_n 1, 1) := by decide +kernel
theorem dJ1_charAt_3b067_8 : decode cJ1_charAt_3b067 8 = .ok (.baload, 1) := by decide +kernel
theorem dJ1_charAt_3b067_9 : decode cJ1_charAt_3b067 9 = .ok (.sipush 255, 3) := by decide +kernel
theorem dJ1_charAt_3b067_12 : decode cJ1_charAt_3b067 12 = .ok (.iand, 1) := by decide +kernel
theorem dJ1_charAt_3b067_13 : decode cJ1_charAt_3b067 13 = .ok (.i2c, 1) := by decide +kernel
theorem dJ1_charAt_3b067_14 : decode cJ1_charAt_3b067 14 = .ok (.ireturn, 1) := by decide +kernel
theorem dJ2_getChar_3b067_0 : decode cJ2_getChar_3b067 0 = .ok (.getstatic 44, 3) := by decide +kernel
theorem dJ2_getChar_3b067_3 : decode cJ2_getChar_3b067 3 = .ok (.ifCond .ne 25, 3) := by decide +kernel
theorem dJ2_getChar_3b067_6 : decode cJ2_getChar_3b067 6 = .ok (.iload_n 1, 1) := by decide +kernel
theorem dJ2_getChar_3b067_7 : decode cJ2_getChar_3b067 7 = .ok (.ifCond .lt 11, 3) := by decide +kernel
theorem dJ2_getChar_3b067_10 : decode cJ2_getChar_3b067 10 = .ok (.iload_n 1, 1) := by decide +kernel
theorem dJ2_getChar_3b067_11 : decode cJ2_getChar_3b067 11 = .ok (.aload_n 0, 1) := by decide +kernel
theorem dJ2_getChar_3b067_12 : decode cJ2_getChar_3b067 12 = .ok (.invokestatic 48, 3) := by decide +kernel
theorem dJ2_getChar_3b067_15 : decode cJ2_getChar_3b067 15 = .ok (.if_icmp .lt 13, 3) := by decide +kernel
theorem dJ2_getChar_3b067_18 : decode cJ2_getChar_3b067 18 = .ok (.new 52, 3) := by decide +kernel
theorem dJ2_getChar_3b067_21 : decode cJ2_getChar_3b067 21 = .ok (.dup, 1) := by decide +kernel
theorem dJ2_getChar_3b067_22 : decode cJ2_getChar_3b067 22 = .ok (.ldc 54, 2) := by decide +kernel
theorem dJ2_getChar_3b067_24 : decode cJ2_getChar_3b067 24 = .ok (.invokespecial 56, 3) := by decide +kernel
theorem dJ2_getChar_3b067_27 : decode cJ2_getChar_3b067 27 = .ok (.athrow, 1) := by decide +kernel
theorem dJ2_getChar_3b067_28 : decode cJ2_getChar_3b067 28 = .ok (.iload_n 1, 1) := by decide +kernel
theorem dJ2_getChar_3b067_29 : decode cJ2_getChar_3b067 29 = .ok (.iconst 1, 1) := by decide +kernel
theorem dJ2_getChar_3b067_30 : decode cJ2_getChar_3b067 30 = .ok (.ishl, 1) := by decide +kernel
theorem dJ2_getChar_3b067_31 : decode cJ2_getChar_3b067 31 = .ok (.istore_n 1, 1) := by decide +kernel
theorem dJ2_getChar_3b067_32 : decode cJ2_getChar_3b067 32 = .ok (.aload_n 0, 1) := by decide +kernel
theorem dJ2_getChar_3b067_33 : decode cJ2_getChar_3b067 33 = .ok (.iload_n 1, 1) := by decide +kernel
theorem dJ2_getChar_3b067_34 : decode cJ2_getChar_3b067 34 = .ok (.iinc 1 1, 3) := by decide +kernel
theorem dJ2_getChar_3b067_37 : decode cJ2_getChar_3b067 37 = .ok (.baload, 1) := by decide +kernel
theorem dJ2_getChar_3b067_38 : decode cJ2_getChar_3b067 38 = .ok (.sipush 255, 3) := by decide +kernel
theorem dJ2_getChar_3b067_41 : decode cJ2_getChar_3b067 41 = .ok (.iand, 1) := by decide +kernel
theorem dJ2_getChar_3b067_42 : decode cJ2_getChar_3b067 42 = .ok (.getstatic 59, 3) := by decide +kernel
theorem dJ2_getChar_3b067_45 : decode cJ2_getChar_3b067 45 = .ok (.ishl, 1) := by decide +kernel
theorem dJ2_getChar_3b067_46 : decode cJ2_getChar_3b067 46 = .ok (.aload_n 0, 1) := by decide +kernel
theorem dJ2_getChar_3b067_47 : decode cJ2_getChar_3b067 47 = .ok (.iload_n 1, 1) := by decide +kernel
theorem dJ2_getChar_3b067_48 : decode cJ2_getChar_3b067 48 = .ok (.baload, 1) := by decide +kernel
theorem dJ2_getChar_3b067_49 : decode cJ2_getChar_3b067 49 = .ok (.sipush 255, 3) := by decide +kernel
theorem dJ2_getChar_3b067_52 : decode cJ2_getChar_3b067 52 = .ok (.iand, 1) := by decide +kernel
theorem dJ2_getChar_3b067_53 : decode cJ2_getChar_3b067 53 = .ok (.getstatic 63, 3) := by decide +kernel
theorem dJ2_getChar_3b067_56 : decode cJ2_getChar_3b067 56 = .ok (.ishl, 1) := by decide +kernel
theorem dJ2_getChar_3b067_57 : decode cJ2_getChar_3b067 57 = .ok (.ior, 1) := by decide +kernel
theorem dJ2_getChar_3b067_58 : decode cJ2_getChar_3b067 58 = .ok (.i2c, 1) := by decide +kernel
theorem dJ2_getChar_3b067_59 : decode cJ2_getChar_3b067 59 = .ok (.ireturn, 1) := by decide +kernel
theorem dJ2_length_9d52b_0 : decode cJ2_length_9d52b 0 = .ok (.aload_n 0, 1) := by decide +kernel
theorem dJ2_length_9d52b_1 : decode cJ2_length_9d52b 1 = .ok (.arraylength, 1) := by decide +kernel
theorem dJ2_length_9d52b_2 : decode cJ2_length_9d52b 2 = .ok (.iconst 1, 1) := by decide +kernel
theorem dJ2_length_9d52b_3 : decode cJ2_length_9d52b 3 = .ok (.ishr, 1) := by decide +kernel
theorem dJ2_length_9d52b_4 : decode cJ2_length_9d52b 4 = .ok (.ireturn, 1) := by decide +kernel
theorem dJ2_charAt_3b067_0 : decode cJ2_charAt_3b067 0 = .ok (.iload_n 1, 1) := by decide +kernel
theorem dJ2_charAt_3b067_1 : decode cJ2_charAt_3b067 1 = .ok (.aload_n 0, 1) := by decide +kernel
theorem dJ2_charAt_3b067_2 : decode cJ2_charAt_3b067 2 = .ok (.invokestatic 67, 3) := by decide +kernel
theorem dJ2_charAt_3b067_5 : decode cJ2_charAt_3b067 5 = .ok (.aload_n 0, 1) := by decide +kernel
theorem dJ2_charAt_3b067_6 : decode cJ2_charAt_3b067 6 = .ok (.iload_n 1, 1) := by decide +kernel
theorem dJ2_charAt_3b067_7 : decode cJ2_charAt_3b067 7 = .ok (.invokestatic 71, 3) := by decide +kernel
theorem dJ2_charAt_3b067_10 : decode cJ2_charAt_3b067 10 = .ok (.ireturn, 1) := by decide +kernel
theorem dJ2_checkIndex_2214a_0 : decode cJ2_checkIndex_2214a 0 = .ok (.iload_n 0, 1) := by decide +kernel
theorem dJ2_checkIndex_2214a_1 : decode cJ2_checkIndex_2214a 1 = .ok (.aload_n 1, 1) := by decide +kernel
theorem dJ2_checkIndex_2214a_2 : decode cJ2_checkIndex_2214a 2 = .ok (.invokestatic 48, 3) := by decide +kernel
theorem dJ2_checkIndex_2214a_5 : decode cJ2_checkIndex_2214a 5 = .ok (.invokestatic 414, 3) := by decide +kernel
theorem dJ2_checkIndex_2214a_8 : decode cJ2_checkIndex_2214a 8 = .ok (.return_, 1) := by decide +kernel
theorem dJ3_checkIndex_8e157_0 : decode cJ3_checkIndex_8e157 0 = .ok (.iload_n 0, 1) := by decide +kernel
theorem dJ3_checkIndex_8e157_1 : decode cJ3_checkIndex_8e157 1 = .ok (.ifCond .lt 8, 3) := by decide +kernel
theorem dJ3_checkIndex_8e157_4 : decode cJ3_checkIndex_8e157 4 = .ok (.iload_n 0, 1) := by decide +kernel
theorem dJ3_checkIndex_8e157_5 : decode cJ3_checkIndex_8e157 5 = .ok (.iload_n 1, 1) := by decide +kernel
theorem dJ3_checkIndex_8e157_6 : decode cJ3_checkIndex_8e157 6 = .ok (.if_icmp .lt 10, 3) := by decide +kernel
theorem dJ3_checkIndex_8e157_9 : decode cJ3_checkIndex_8e157 9 = .ok (.aload_n 2, 1) := by decide +kernel
theorem dJ3_checkIndex_8e157_10 : decode cJ3_checkIndex_8e157 10 = .ok (.iload_n 0, 1) := by decide +kernel
theorem dJ3_checkIndex_8e157_11 : decode cJ3_checkIndex_8e157 11 = .ok (.iload_n 1, 1) := by decide +kernel
theorem dJ3_checkIndex_8e157_12 : decode cJ3_checkIndex_8e157 12 = .ok (.invokestatic 95, 3) := by decide +kernel
theorem dJ3_checkIndex_8e157_15 : decode cJ3_checkIndex_8e157 15 = .ok (.athrow, 1) := by decide +kernel
theorem dJ3_checkIndex_8e157_16 : decode cJ3_checkIndex_8e157 16 = .ok (.iload_n 0, 1) := by decide +kernel
theorem dJ3_checkIndex_8e157_17 : decode cJ3_checkIndex_8e157 17 = .ok (.ireturn, 1) := by decide +kernel
theorem dL_pick_0 : decode cL_pick 0 = .ok (.iload_n 1, 1) := by decide +kernel
theorem dL_pick_1 : decode cL_pick 1 = .ok (.ifCond .lt 15, 3) := by decide +kernel
theorem dL_pick_4 : decode cL_pick 4 = .ok (.iload_n 1, 1) := by decide +kernel
theorem dL_pick_5 : decode cL_pick 5 = .ok (.aload_n 0, 1) := by decide +kernel
theorem dL_pick_6 : decode cL_pick 6 = .ok (.arraylength, 1) := by decide +kernel
theorem dL_pick_7 : decode cL_pick 7 = .ok (.if_icmp .ge 9, 3) := by decide +kernel
theorem dL_pick_10 : decode cL_pick 10 = .ok (.aload_n 0, 1) := by decide +kernel
theorem dL_pick_11 : decode cL_pick 11 = .ok (.iload_n 1, 1) := by decide +kernel
theorem dL_pick_12 : decode cL_pick 12 = .ok (.iaload, 1) := by decide +kernel
theorem dL_pick_13 : decode cL_pick 13 = .ok (.goto 4, 3) := by decide +kernel
theorem dL_pick_16 : decode cL_pick 16 = .ok (.iconst 0, 1) := by decide +kernel
theorem dL_pick_17 : decode cL_pick 17 = .ok (.ireturn, 1) := by decide +kernel
theorem dL_law_0 : decode cL_law 0 = .ok (.new 7, 3) := by decide +kernel
theorem dL_law_3 : decode cL_law 3 = .ok (.dup, 1) := by decide +kernel
theorem dL_law_4 : decode cL_law 4 = .ok (.invokespecial 9, 3) := by decide +kernel
theorem dL_law_7 : decode cL_law 7 = .ok (.astore_n 1, 1) := by decide +kernel
theorem dL_law_8 : decode cL_law 8 = .ok (.new 10, 3) := by decide +kernel
theorem dL_law_11 : decode cL_law 11 = .ok (.dup, 1) := by decide +kernel
theorem dL_law_12 : decode cL_law 12 = .ok (.invokespecial 12, 3) := by decide +kernel
theorem dL_law_15 : decode cL_law 15 = .ok (.astore_n 2, 1) := by decide +kernel
theorem dL_law_16 : decode cL_law 16 = .ok (.aload_n 2, 1) := by decide +kernel
theorem dL_law_17 : decode cL_law 17 = .ok (.aload_n 1, 1) := by decide +kernel
theorem dL_law_18 : decode cL_law 18 = .ok (.aload_n 0, 1) := by decide +kernel
theorem dL_law_19 : decode cL_law 19 = .ok (.iconst 0, 1) := by decide +kernel
theorem dL_law_20 : decode cL_law 20 = .ok (.invokestatic 13, 3) := by decide +kernel
theorem dL_law_23 : decode cL_law 23 = .ok (.invokevirtual 19, 3) := by decide +kernel
theorem dL_law_26 : decode cL_law 26 = .ok (.ifCond .eq 11, 3) := by decide +kernel
theorem dL_law_29 : decode cL_law 29 = .ok (.aload_n 2, 1) := by decide +kernel
theorem dL_law_30 : decode cL_law 30 = .ok (.aload_n 1, 1) := by decide +kernel
theorem dL_law_31 : decode cL_law 31 = .ok (.invokevirtual 23, 3) := by decide +kernel
theorem dL_law_34 : decode cL_law 34 = .ok (.ifCond .ne 5, 3) := by decide +kernel
theorem dL_law_37 : decode cL_law 37 = .ok (.iconst 0, 1) := by decide +kernel
theorem dL_law_38 : decode cL_law 38 = .ok (.ireturn, 1) := by decide +kernel
theorem dL_law_39 : decode cL_law 39 = .ok (.iconst 1, 1) := by decide +kernel
theorem dL_law_40 : decode cL_law 40 = .ok (.istore_n 3, 1) := by decide +kernel
theorem dL_law_41 : decode cL_law 41 = .ok (.iload_n 3, 1) := by decide +kernel
theorem dL_law_42 : decode cL_law 42 = .ok (.bipush 36, 2) := by decide +kernel
theorem dL_law_44 : decode cL_law 44 = .ok (.if_icmp .ge 179, 3) := by decide +kernel
theorem dL_law_47 : decode cL_law 47 = .ok (.aload_n 2, 1) := by decide +kernel
theorem dL_law_48 : decode cL_law 48 = .ok (.dup, 1) := by decide +kernel
theorem dL_law_49 : decode cL_law 49 = .ok (.getfield 27, 3) := by decide +kernel
theorem dL_law_52 : decode cL_law 52 = .ok (.aload_n 0, 1) := by decide +kernel
theorem dL_law_53 : decode cL_law 53 = .ok (.iload_n 3, 1) := by decide +kernel
theorem dL_law_54 : decode cL_law 54 = .ok (.invokestatic 13, 3) := by decide +kernel
theorem dL_law_57 : decode cL_law 57 = .ok (.iadd, 1) := by decide +kernel
theorem dL_law_58 : decode cL_law 58 = .ok (.putfield 27, 3) := by decide +kernel
theorem dL_law_61 : decode cL_law 61 = .ok (.aload_n 2, 1) := by decide +kernel
theorem dL_law_62 : decode cL_law 62 = .ok (.invokevirtual 31, 3) := by decide +kernel
theorem dL_law_65 : decode cL_law 65 = .ok (.iconst 0, 1) := by decide +kernel
theorem dL_law_66 : decode cL_law 66 = .ok (.istore 4, 2) := by decide +kernel
theorem dL_law_68 : decode cL_law 68 = .ok (.iload 4, 2) := by decide +kernel
theorem dL_law_70 : decode cL_law 70 = .ok (.aload_n 2, 1) := by decide +kernel
theorem dL_law_71 : decode cL_law 71 = .ok (.getfield 34, 3) := by decide +kernel
theorem dL_law_74 : decode cL_law 74 = .ok (.if_icmp .ge 80, 3) := by decide +kernel
theorem dL_law_77 : decode cL_law 77 = .ok (.aload_n 1, 1) := by decide +kernel
theorem dL_law_78 : decode cL_law 78 = .ok (.iload 4, 2) := by decide +kernel
theorem dL_law_80 : decode cL_law 80 = .ok (.invokevirtual 37, 3) := by decide +kernel
theorem dL_law_83 : decode cL_law 83 = .ok (.aload_n 2, 1) := by decide +kernel
theorem dL_law_84 : decode cL_law 84 = .ok (.getfield 41, 3) := by decide +kernel
theorem dL_law_87 : decode cL_law 87 = .ok (.iload 4, 2) := by decide +kernel
theorem dL_law_89 : decode cL_law 89 = .ok (.iaload, 1) := by decide +kernel
theorem dL_law_90 : decode cL_law 90 = .ok (.if_icmp .eq 5, 3) := by decide +kernel
theorem dL_law_93 : decode cL_law 93 = .ok (.iconst 0, 1) := by decide +kernel
theorem dL_law_94 : decode cL_law 94 = .ok (.ireturn, 1) := by decide +kernel
theorem dL_law_95 : decode cL_law 95 = .ok (.aload_n 2, 1) := by decide +kernel
theorem dL_law_96 : decode cL_law 96 = .ok (.getfield 45, 3) := by decide +kernel
theorem dL_law_99 : decode cL_law 99 = .ok (.iload 4, 2) := by decide +kernel
theorem dL_law_101 : decode cL_law 101 = .ok (.iaload, 1) := by decide +kernel
theorem dL_law_102 : decode cL_law 102 = .ok (.iconst (-1), 1) := by decide +kernel
theorem dL_law_103 : decode cL_law 103 = .ok (.if_icmp .eq 45, 3) := by decide +kernel
theorem dL_law_106 : decode cL_law 106 = .ok (.aload_n 2, 1) := by decide +kernel
theorem dL_law_107 : decode cL_law 107 = .ok (.iload 4, 2) := by decide +kernel
theorem dL_law_109 : decode cL_law 109 = .ok (.aload_n 2, 1) := by decide +kernel
theorem dL_law_110 : decode cL_law 110 = .ok (.getfield 45, 3) := by decide +kernel
theorem dL_law_113 : decode cL_law 113 = .ok (.iload 4, 2) := by decide +kernel
theorem dL_law_115 : decode cL_law 115 = .ok (.iaload, 1) := by decide +kernel
theorem dL_law_116 : decode cL_law 116 = .ok (.invokevirtual 48, 3) := by decide +kernel
theorem dL_law_119 : decode cL_law 119 = .ok (.iconst (-1), 1) := by decide +kernel
theorem dL_law_120 : decode cL_law 120 = .ok (.if_icmp .eq 28, 3) := by decide +kernel
theorem dL_law_123 : decode cL_law 123 = .ok (.aload_n 2, 1) := by decide +kernel
theorem dL_law_124 : decode cL_law 124 = .ok (.iload 4, 2) := by decide +kernel
theorem dL_law_126 : decode cL_law 126 = .ok (.aload_n 2, 1) := by decide +kernel
theorem dL_law_127 : decode cL_law 127 = .ok (.getfield 45, 3) := by decide +kernel
theorem dL_law_130 : decode cL_law 130 = .ok (.iload 4, 2) := by decide +kernel
theorem dL_law_132 : decode cL_law 132 = .ok (.iaload, 1) := by decide +kernel
theorem dL_law_133 : decode cL_law 133 = .ok (.aload_n 2, 1) := by decide +kernel
theorem dL_law_134 : decode cL_law 134 = .ok (.getfield 41, 3) := by decide +kernel
theorem dL_law_137 : decode cL_law 137 = .ok (.iload 4, 2) := by decide +kernel
theorem dL_law_139 : decode cL_law 139 = .ok (.iaload, 1) := by decide +kernel
theorem dL_law_140 : decode cL_law 140 = .ok (.invokevirtual 52, 3) := by decide +kernel
theorem dL_law_143 : decode cL_law 143 = .ok (.ifCond .eq 5, 3) := by decide +kernel
theorem dL_law_146 : decode cL_law 146 = .ok (.iconst 0, 1) := by decide +kernel
theorem dL_law_147 : decode cL_law 147 = .ok (.ireturn, 1) := by decide +kernel
theorem dL_law_148 : decode cL_law 148 = .ok (.iinc 4 1, 3) := by decide +kernel
theorem dL_law_151 : decode cL_law 151 = .ok (.goto (-83), 3) := by decide +kernel
theorem dL_law_154 : decode cL_law 154 = .ok (.aload_n 2, 1) := by decide +kernel
theorem dL_law_155 : decode cL_law 155 = .ok (.aload_n 1, 1) := by decide +kernel
theorem dL_law_156 : decode cL_law 156 = .ok (.invokevirtual 56, 3) := by decide +kernel
theorem dL_law_159 : decode cL_law 159 = .ok (.ifCond .eq 18, 3) := by decide +kernel
theorem dL_law_162 : decode cL_law 162 = .ok (.aload_n 2, 1) := by decide +kernel
theorem dL_law_163 : decode cL_law 163 = .ok (.aload_n 1, 1) := by decide +kernel
theorem dL_law_164 : decode cL_law 164 = .ok (.invokevirtual 23, 3) := by decide +kernel
theorem dL_law_167 : decode cL_law 167 = .ok (.ifCond .eq 10, 3) := by decide +kernel
theorem dL_law_170 : decode cL_law 170 = .ok (.aload_n 1, 1) := by decide +kernel
theorem dL_law_171 : decode cL_law 171 = .ok (.invokevirtual 59, 3) := by decide +kernel
theorem dL_law_174 : decode cL_law 174 = .ok (.ifCond .eq 5, 3) := by decide +kernel
theorem dL_law_177 : decode cL_law 177 = .ok (.iconst 0, 1) := by decide +kernel
theorem dL_law_178 : decode cL_law 178 = .ok (.ireturn, 1) := by decide +kernel
theorem dL_law_179 : decode cL_law 179 = .ok (.iload_n 3, 1) := by decide +kernel
theorem dL_law_180 : decode cL_law 180 = .ok (.bipush 6, 2) := by decide +kernel
theorem dL_law_182 : decode cL_law 182 = .ok (.irem, 1) := by decide +kernel
theorem dL_law_183 : decode cL_law 183 = .ok (.ifCond .ne 34, 3) := by decide +kernel
theorem dL_law_186 : decode cL_law 186 = .ok (.aload_n 1, 1) := by decide +kernel
theorem dL_law_187 : decode cL_law 187 = .ok (.invokevirtual 63, 3) := by decide +kernel
theorem dL_law_190 : decode cL_law 190 = .ok (.ifCond .lt 25, 3) := by decide +kernel
theorem dL_law_193 : decode cL_law 193 = .ok (.aload_n 1, 1) := by decide +kernel
theorem dL_law_194 : decode cL_law 194 = .ok (.invokevirtual 66, 3) := by decide +kernel
theorem dL_law_197 : decode cL_law 197 = .ok (.ifCond .eq 18, 3) := by decide +kernel
theorem dL_law_200 : decode cL_law 200 = .ok (.aload_n 1, 1) := by decide +kernel
theorem dL_law_201 : decode cL_law 201 = .ok (.invokevirtual 70, 3) := by decide +kernel
theorem dL_law_204 : decode cL_law 204 = .ok (.ifCond .lt 11, 3) := by decide +kernel
theorem dL_law_207 : decode cL_law 207 = .ok (.aload_n 2, 1) := by decide +kernel
theorem dL_law_208 : decode cL_law 208 = .ok (.aload_n 1, 1) := by decide +kernel
theorem dL_law_209 : decode cL_law 209 = .ok (.invokevirtual 23, 3) := by decide +kernel
theorem dL_law_212 : decode cL_law 212 = .ok (.ifCond .ne 5, 3) := by decide +kernel
theorem dL_law_215 : decode cL_law 215 = .ok (.iconst 0, 1) := by decide +kernel
theorem dL_law_216 : decode cL_law 216 = .ok (.ireturn, 1) := by decide +kernel
theorem dL_law_217 : decode cL_law 217 = .ok (.iinc 3 1, 3) := by decide +kernel
theorem dL_law_220 : decode cL_law 220 = .ok (.goto (-179), 3) := by decide +kernel
theorem dL_law_223 : decode cL_law 223 = .ok (.iconst 1, 1) := by decide +kernel
theorem dL_law_224 : decode cL_law 224 = .ok (.ireturn, 1) := by decide +kernel
