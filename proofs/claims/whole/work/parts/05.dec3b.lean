theorem dX3_allocate_58 : decode cX3_allocate 58 = .ok (.ireturn, 1) := by decide +kernel
theorem dX3_allocate_59 : decode cX3_allocate 59 = .ok (.aload_n 0, 1) := by decide +kernel
theorem dX3_allocate_60 : decode cX3_allocate 60 = .ok (.getfield 30, 3) := by decide +kernel
theorem dX3_allocate_63 : decode cX3_allocate 63 = .ok (.iload_n 1, 1) := by decide +kernel
theorem dX3_allocate_64 : decode cX3_allocate 64 = .ok (.aaload, 1) := by decide +kernel
theorem dX3_allocate_65 : decode cX3_allocate 65 = .ok (.astore 6, 2) := by decide +kernel
theorem dX3_allocate_67 : decode cX3_allocate 67 = .ok (.aload 6, 2) := by decide +kernel
theorem dX3_allocate_69 : decode cX3_allocate 69 = .ok (.getfield 79, 3) := by decide +kernel
theorem dX3_allocate_72 : decode cX3_allocate 72 = .ok (.ifCond .ne 6, 3) := by decide +kernel
theorem dX3_allocate_75 : decode cX3_allocate 75 = .ok (.bipush (-11), 2) := by decide +kernel
theorem dX3_allocate_77 : decode cX3_allocate 77 = .ok (.ireturn, 1) := by decide +kernel
theorem dX3_allocate_78 : decode cX3_allocate 78 = .ok (.aload 6, 2) := by decide +kernel
theorem dX3_allocate_80 : decode cX3_allocate 80 = .ok (.getfield 100, 3) := by decide +kernel
theorem dX3_allocate_83 : decode cX3_allocate 83 = .ok (.invokestatic 113, 3) := by decide +kernel
theorem dX3_allocate_86 : decode cX3_allocate 86 = .ok (.istore 7, 2) := by decide +kernel
theorem dX3_allocate_88 : decode cX3_allocate 88 = .ok (.aload_n 0, 1) := by decide +kernel
theorem dX3_allocate_89 : decode cX3_allocate 89 = .ok (.getfield 46, 3) := by decide +kernel
theorem dX3_allocate_92 : decode cX3_allocate 92 = .ok (.aload 6, 2) := by decide +kernel
theorem dX3_allocate_94 : decode cX3_allocate 94 = .ok (.getfield 83, 3) := by decide +kernel
theorem dX3_allocate_97 : decode cX3_allocate 97 = .ok (.bipush 10, 2) := by decide +kernel
theorem dX3_allocate_99 : decode cX3_allocate 99 = .ok (.aload 6, 2) := by decide +kernel
theorem dX3_allocate_101 : decode cX3_allocate 101 = .ok (.getfield 86, 3) := by decide +kernel
theorem dX3_allocate_104 : decode cX3_allocate 104 = .ok (.invokevirtual 89, 3) := by decide +kernel
theorem dX3_allocate_107 : decode cX3_allocate 107 = .ok (.aload_n 0, 1) := by decide +kernel
theorem dX3_allocate_108 : decode cX3_allocate 108 = .ok (.getfield 46, 3) := by decide +kernel
theorem dX3_allocate_111 : decode cX3_allocate 111 = .ok (.iload 7, 2) := by decide +kernel
theorem dX3_allocate_113 : decode cX3_allocate 113 = .ok (.iconst 1, 1) := by decide +kernel
theorem dX3_allocate_114 : decode cX3_allocate 114 = .ok (.bipush 7, 2) := by decide +kernel
theorem dX3_allocate_116 : decode cX3_allocate 116 = .ok (.invokevirtual 117, 3) := by decide +kernel
theorem dX3_allocate_119 : decode cX3_allocate 119 = .ok (.ifCond .ne 6, 3) := by decide +kernel
theorem dX3_allocate_122 : decode cX3_allocate 122 = .ok (.bipush (-16), 2) := by decide +kernel
theorem dX3_allocate_124 : decode cX3_allocate 124 = .ok (.ireturn, 1) := by decide +kernel
theorem dX3_allocate_125 : decode cX3_allocate 125 = .ok (.aload_n 0, 1) := by decide +kernel
theorem dX3_allocate_126 : decode cX3_allocate 126 = .ok (.getfield 46, 3) := by decide +kernel
theorem dX3_allocate_129 : decode cX3_allocate 129 = .ok (.lload 4, 2) := by decide +kernel
theorem dX3_allocate_131 : decode cX3_allocate 131 = .ok (.iload 7, 2) := by decide +kernel
theorem dX3_allocate_133 : decode cX3_allocate 133 = .ok (.invokevirtual 103, 3) := by decide +kernel
theorem dX3_allocate_136 : decode cX3_allocate 136 = .ok (.lstore 8, 2) := by decide +kernel
theorem dX3_allocate_138 : decode cX3_allocate 138 = .ok (.aload_n 0, 1) := by decide +kernel
theorem dX3_allocate_139 : decode cX3_allocate 139 = .ok (.lload 8, 2) := by decide +kernel
theorem dX3_allocate_141 : decode cX3_allocate 141 = .ok (.lload 4, 2) := by decide +kernel
theorem dX3_allocate_143 : decode cX3_allocate 143 = .ok (.iload_n 3, 1) := by decide +kernel
theorem dX3_allocate_144 : decode cX3_allocate 144 = .ok (.invokevirtual 126, 3) := by decide +kernel
theorem dX3_allocate_147 : decode cX3_allocate 147 = .ok (.lstore 10, 2) := by decide +kernel
theorem dX3_allocate_149 : decode cX3_allocate 149 = .ok (.iconst 0, 1) := by decide +kernel
theorem dX3_allocate_150 : decode cX3_allocate 150 = .ok (.istore 12, 2) := by decide +kernel
theorem dX3_allocate_152 : decode cX3_allocate 152 = .ok (.iload 12, 2) := by decide +kernel
theorem dX3_allocate_154 : decode cX3_allocate 154 = .ok (.iload_n 3, 1) := by decide +kernel
theorem dX3_allocate_155 : decode cX3_allocate 155 = .ok (.if_icmp .ge 119, 3) := by decide +kernel
theorem dX3_allocate_158 : decode cX3_allocate 158 = .ok (.lload 8, 2) := by decide +kernel
theorem dX3_allocate_160 : decode cX3_allocate 160 = .ok (.aload_n 0, 1) := by decide +kernel
theorem dX3_allocate_161 : decode cX3_allocate 161 = .ok (.getfield 35, 3) := by decide +kernel
theorem dX3_allocate_164 : decode cX3_allocate 164 = .ok (.iload 12, 2) := by decide +kernel
theorem dX3_allocate_166 : decode cX3_allocate 166 = .ok (.iaload, 1) := by decide +kernel
theorem dX3_allocate_167 : decode cX3_allocate 167 = .ok (.i2l, 1) := by decide +kernel
theorem dX3_allocate_168 : decode cX3_allocate 168 = .ok (.lmul, 1) := by decide +kernel
theorem dX3_allocate_169 : decode cX3_allocate 169 = .ok (.lload 4, 2) := by decide +kernel
theorem dX3_allocate_171 : decode cX3_allocate 171 = .ok (.ldiv, 1) := by decide +kernel
theorem dX3_allocate_172 : decode cX3_allocate 172 = .ok (.aload_n 0, 1) := by decide +kernel
theorem dX3_allocate_173 : decode cX3_allocate 173 = .ok (.iload 12, 2) := by decide +kernel
theorem dX3_allocate_175 : decode cX3_allocate 175 = .ok (.iload_n 3, 1) := by decide +kernel
theorem dX3_allocate_176 : decode cX3_allocate 176 = .ok (.invokevirtual 130, 3) := by decide +kernel
theorem dX3_allocate_179 : decode cX3_allocate 179 = .ok (.i2l, 1) := by decide +kernel
theorem dX3_allocate_180 : decode cX3_allocate 180 = .ok (.lload 10, 2) := by decide +kernel
theorem dX3_allocate_182 : decode cX3_allocate 182 = .ok (.lcmp, 1) := by decide +kernel
theorem dX3_allocate_183 : decode cX3_allocate 183 = .ok (.ifCond .ge 7, 3) := by decide +kernel
theorem dX3_allocate_186 : decode cX3_allocate 186 = .ok (.iconst 1, 1) := by decide +kernel
theorem dX3_allocate_187 : decode cX3_allocate 187 = .ok (.goto 4, 3) := by decide +kernel
theorem dX3_allocate_190 : decode cX3_allocate 190 = .ok (.iconst 0, 1) := by decide +kernel
theorem dX3_allocate_191 : decode cX3_allocate 191 = .ok (.i2l, 1) := by decide +kernel
theorem dX3_allocate_192 : decode cX3_allocate 192 = .ok (.ladd, 1) := by decide +kernel
theorem dX3_allocate_193 : decode cX3_allocate 193 = .ok (.lstore 13, 2) := by decide +kernel
theorem dX3_allocate_195 : decode cX3_allocate 195 = .ok (.aload_n 0, 1) := by decide +kernel
theorem dX3_allocate_196 : decode cX3_allocate 196 = .ok (.getfield 50, 3) := by decide +kernel
theorem dX3_allocate_199 : decode cX3_allocate 199 = .ok (.aload_n 0, 1) := by decide +kernel
theorem dX3_allocate_200 : decode cX3_allocate 200 = .ok (.getfield 46, 3) := by decide +kernel
theorem dX3_allocate_203 : decode cX3_allocate 203 = .ok (.getfield 133, 3) := by decide +kernel
theorem dX3_allocate_206 : decode cX3_allocate 206 = .ok (.iconst 0, 1) := by decide +kernel
theorem dX3_allocate_207 : decode cX3_allocate 207 = .ok (.aload 6, 2) := by decide +kernel
theorem dX3_allocate_209 : decode cX3_allocate 209 = .ok (.getfield 86, 3) := by decide +kernel
theorem dX3_allocate_212 : decode cX3_allocate 212 = .ok (.invokevirtual 89, 3) := by decide +kernel
theorem dX3_allocate_215 : decode cX3_allocate 215 = .ok (.aload_n 0, 1) := by decide +kernel
theorem dX3_allocate_216 : decode cX3_allocate 216 = .ok (.getfield 50, 3) := by decide +kernel
theorem dX3_allocate_219 : decode cX3_allocate 219 = .ok (.aload_n 0, 1) := by decide +kernel
theorem dX3_allocate_220 : decode cX3_allocate 220 = .ok (.getfield 35, 3) := by decide +kernel
theorem dX3_allocate_223 : decode cX3_allocate 223 = .ok (.iload 12, 2) := by decide +kernel
theorem dX3_allocate_225 : decode cX3_allocate 225 = .ok (.iaload, 1) := by decide +kernel
theorem dX3_allocate_226 : decode cX3_allocate 226 = .ok (.i2l, 1) := by decide +kernel
theorem dX3_allocate_227 : decode cX3_allocate 227 = .ok (.invokevirtual 93, 3) := by decide +kernel
theorem dX3_allocate_230 : decode cX3_allocate 230 = .ok (.aload_n 0, 1) := by decide +kernel
theorem dX3_allocate_231 : decode cX3_allocate 231 = .ok (.getfield 50, 3) := by decide +kernel
theorem dX3_allocate_234 : decode cX3_allocate 234 = .ok (.iload 7, 2) := by decide +kernel
theorem dX3_allocate_236 : decode cX3_allocate 236 = .ok (.lload 13, 2) := by decide +kernel
theorem dX3_allocate_238 : decode cX3_allocate 238 = .ok (.l2i, 1) := by decide +kernel
theorem dX3_allocate_239 : decode cX3_allocate 239 = .ok (.invokevirtual 134, 3) := by decide +kernel
theorem dX3_allocate_242 : decode cX3_allocate 242 = .ok (.aload_n 0, 1) := by decide +kernel
theorem dX3_allocate_243 : decode cX3_allocate 243 = .ok (.getfield 30, 3) := by decide +kernel
theorem dX3_allocate_246 : decode cX3_allocate 246 = .ok (.iload_n 2, 1) := by decide +kernel
theorem dX3_allocate_247 : decode cX3_allocate 247 = .ok (.iload 12, 2) := by decide +kernel
theorem dX3_allocate_249 : decode cX3_allocate 249 = .ok (.iadd, 1) := by decide +kernel
theorem dX3_allocate_250 : decode cX3_allocate 250 = .ok (.aaload, 1) := by decide +kernel
theorem dX3_allocate_251 : decode cX3_allocate 251 = .ok (.aload_n 0, 1) := by decide +kernel
theorem dX3_allocate_252 : decode cX3_allocate 252 = .ok (.getfield 50, 3) := by decide +kernel
theorem dX3_allocate_255 : decode cX3_allocate 255 = .ok (.aload 6, 2) := by decide +kernel
theorem dX3_allocate_257 : decode cX3_allocate 257 = .ok (.getfield 97, 3) := by decide +kernel
theorem dX3_allocate_260 : decode cX3_allocate 260 = .ok (.aload 6, 2) := by decide +kernel
theorem dX3_allocate_262 : decode cX3_allocate 262 = .ok (.getfield 100, 3) := by decide +kernel
theorem dX3_allocate_265 : decode cX3_allocate 265 = .ok (.invokevirtual 138, 3) := by decide +kernel
theorem dX3_allocate_268 : decode cX3_allocate 268 = .ok (.iinc 12 1, 3) := by decide +kernel
theorem dX3_allocate_271 : decode cX3_allocate 271 = .ok (.goto (-119), 3) := by decide +kernel
theorem dX3_allocate_274 : decode cX3_allocate 274 = .ok (.iconst 0, 1) := by decide +kernel
theorem dX3_allocate_275 : decode cX3_allocate 275 = .ok (.ireturn, 1) := by decide +kernel
theorem dX3_sumOfRatios_0 : decode cX3_sumOfRatios 0 = .ok (.lconst 0, 1) := by decide +kernel
theorem dX3_sumOfRatios_1 : decode cX3_sumOfRatios 1 = .ok (.lstore_n 2, 1) := by decide +kernel
theorem dX3_sumOfRatios_2 : decode cX3_sumOfRatios 2 = .ok (.iconst 0, 1) := by decide +kernel
theorem dX3_sumOfRatios_3 : decode cX3_sumOfRatios 3 = .ok (.istore 4, 2) := by decide +kernel
theorem dX3_sumOfRatios_5 : decode cX3_sumOfRatios 5 = .ok (.iload 4, 2) := by decide +kernel
theorem dX3_sumOfRatios_7 : decode cX3_sumOfRatios 7 = .ok (.iload_n 1, 1) := by decide +kernel
theorem dX3_sumOfRatios_8 : decode cX3_sumOfRatios 8 = .ok (.if_icmp .ge 20, 3) := by decide +kernel
theorem dX3_sumOfRatios_11 : decode cX3_sumOfRatios 11 = .ok (.lload_n 2, 1) := by decide +kernel
theorem dX3_sumOfRatios_12 : decode cX3_sumOfRatios 12 = .ok (.aload_n 0, 1) := by decide +kernel
theorem dX3_sumOfRatios_13 : decode cX3_sumOfRatios 13 = .ok (.getfield 35, 3) := by decide +kernel
theorem dX3_sumOfRatios_16 : decode cX3_sumOfRatios 16 = .ok (.iload 4, 2) := by decide +kernel
theorem dX3_sumOfRatios_18 : decode cX3_sumOfRatios 18 = .ok (.iaload, 1) := by decide +kernel
theorem dX3_sumOfRatios_19 : decode cX3_sumOfRatios 19 = .ok (.i2l, 1) := by decide +kernel
theorem dX3_sumOfRatios_20 : decode cX3_sumOfRatios 20 = .ok (.ladd, 1) := by decide +kernel
theorem dX3_sumOfRatios_21 : decode cX3_sumOfRatios 21 = .ok (.lstore_n 2, 1) := by decide +kernel
theorem dX3_sumOfRatios_22 : decode cX3_sumOfRatios 22 = .ok (.iinc 4 1, 3) := by decide +kernel
theorem dX3_sumOfRatios_25 : decode cX3_sumOfRatios 25 = .ok (.goto (-20), 3) := by decide +kernel
theorem dX3_sumOfRatios_28 : decode cX3_sumOfRatios 28 = .ok (.lload_n 2, 1) := by decide +kernel
theorem dX3_sumOfRatios_29 : decode cX3_sumOfRatios 29 = .ok (.lreturn, 1) := by decide +kernel
theorem dX3_splitRest_0 : decode cX3_splitRest 0 = .ok (.lconst 0, 1) := by decide +kernel
theorem dX3_splitRest_1 : decode cX3_splitRest 1 = .ok (.lstore 6, 2) := by decide +kernel
theorem dX3_splitRest_3 : decode cX3_splitRest 3 = .ok (.iconst 0, 1) := by decide +kernel
theorem dX3_splitRest_4 : decode cX3_splitRest 4 = .ok (.istore 8, 2) := by decide +kernel
theorem dX3_splitRest_6 : decode cX3_splitRest 6 = .ok (.iload 8, 2) := by decide +kernel
theorem dX3_splitRest_8 : decode cX3_splitRest 8 = .ok (.iload 5, 2) := by decide +kernel
theorem dX3_splitRest_10 : decode cX3_splitRest 10 = .ok (.if_icmp .ge 40, 3) := by decide +kernel
theorem dX3_splitRest_13 : decode cX3_splitRest 13 = .ok (.aload_n 0, 1) := by decide +kernel
theorem dX3_splitRest_14 : decode cX3_splitRest 14 = .ok (.getfield 39, 3) := by decide +kernel
theorem dX3_splitRest_17 : decode cX3_splitRest 17 = .ok (.iload 8, 2) := by decide +kernel
theorem dX3_splitRest_19 : decode cX3_splitRest 19 = .ok (.lload_n 1, 1) := by decide +kernel
theorem dX3_splitRest_20 : decode cX3_splitRest 20 = .ok (.aload_n 0, 1) := by decide +kernel
theorem dX3_splitRest_21 : decode cX3_splitRest 21 = .ok (.getfield 35, 3) := by decide +kernel
theorem dX3_splitRest_24 : decode cX3_splitRest 24 = .ok (.iload 8, 2) := by decide +kernel
theorem dX3_splitRest_26 : decode cX3_splitRest 26 = .ok (.iaload, 1) := by decide +kernel
theorem dX3_splitRest_27 : decode cX3_splitRest 27 = .ok (.i2l, 1) := by decide +kernel
theorem dX3_splitRest_28 : decode cX3_splitRest 28 = .ok (.lmul, 1) := by decide +kernel
theorem dX3_splitRest_29 : decode cX3_splitRest 29 = .ok (.lload_n 3, 1) := by decide +kernel
theorem dX3_splitRest_30 : decode cX3_splitRest 30 = .ok (.lrem, 1) := by decide +kernel
theorem dX3_splitRest_31 : decode cX3_splitRest 31 = .ok (.lastore, 1) := by decide +kernel
theorem dX3_splitRest_32 : decode cX3_splitRest 32 = .ok (.lload 6, 2) := by decide +kernel
theorem dX3_splitRest_34 : decode cX3_splitRest 34 = .ok (.aload_n 0, 1) := by decide +kernel
theorem dX3_splitRest_35 : decode cX3_splitRest 35 = .ok (.getfield 39, 3) := by decide +kernel
theorem dX3_splitRest_38 : decode cX3_splitRest 38 = .ok (.iload 8, 2) := by decide +kernel
theorem dX3_splitRest_40 : decode cX3_splitRest 40 = .ok (.laload, 1) := by decide +kernel
theorem dX3_splitRest_41 : decode cX3_splitRest 41 = .ok (.ladd, 1) := by decide +kernel
theorem dX3_splitRest_42 : decode cX3_splitRest 42 = .ok (.lstore 6, 2) := by decide +kernel
theorem dX3_splitRest_44 : decode cX3_splitRest 44 = .ok (.iinc 8 1, 3) := by decide +kernel
theorem dX3_splitRest_47 : decode cX3_splitRest 47 = .ok (.goto (-41), 3) := by decide +kernel
theorem dX3_splitRest_50 : decode cX3_splitRest 50 = .ok (.lload 6, 2) := by decide +kernel
theorem dX3_splitRest_52 : decode cX3_splitRest 52 = .ok (.lload_n 3, 1) := by decide +kernel
theorem dX3_splitRest_53 : decode cX3_splitRest 53 = .ok (.ldiv, 1) := by decide +kernel
theorem dX3_splitRest_54 : decode cX3_splitRest 54 = .ok (.lreturn, 1) := by decide +kernel
theorem dX3_rankOf_0 : decode cX3_rankOf 0 = .ok (.iconst 0, 1) := by decide +kernel
theorem dX3_rankOf_1 : decode cX3_rankOf 1 = .ok (.istore_n 3, 1) := by decide +kernel
theorem dX3_rankOf_2 : decode cX3_rankOf 2 = .ok (.iconst 0, 1) := by decide +kernel
theorem dX3_rankOf_3 : decode cX3_rankOf 3 = .ok (.istore 4, 2) := by decide +kernel
theorem dX3_rankOf_5 : decode cX3_rankOf 5 = .ok (.iload 4, 2) := by decide +kernel
theorem dX3_rankOf_7 : decode cX3_rankOf 7 = .ok (.iload_n 2, 1) := by decide +kernel
theorem dX3_rankOf_8 : decode cX3_rankOf 8 = .ok (.if_icmp .ge 52, 3) := by decide +kernel
theorem dX3_rankOf_11 : decode cX3_rankOf 11 = .ok (.aload_n 0, 1) := by decide +kernel
theorem dX3_rankOf_12 : decode cX3_rankOf 12 = .ok (.getfield 39, 3) := by decide +kernel
theorem dX3_rankOf_15 : decode cX3_rankOf 15 = .ok (.iload 4, 2) := by decide +kernel
theorem dX3_rankOf_17 : decode cX3_rankOf 17 = .ok (.laload, 1) := by decide +kernel
theorem dX3_rankOf_18 : decode cX3_rankOf 18 = .ok (.aload_n 0, 1) := by decide +kernel
theorem dX3_rankOf_19 : decode cX3_rankOf 19 = .ok (.getfield 39, 3) := by decide +kernel
theorem dX3_rankOf_22 : decode cX3_rankOf 22 = .ok (.iload_n 1, 1) := by decide +kernel
theorem dX3_rankOf_23 : decode cX3_rankOf 23 = .ok (.laload, 1) := by decide +kernel
theorem dX3_rankOf_24 : decode cX3_rankOf 24 = .ok (.lcmp, 1) := by decide +kernel
theorem dX3_rankOf_25 : decode cX3_rankOf 25 = .ok (.ifCond .gt 26, 3) := by decide +kernel
theorem dX3_rankOf_28 : decode cX3_rankOf 28 = .ok (.aload_n 0, 1) := by decide +kernel
theorem dX3_rankOf_29 : decode cX3_rankOf 29 = .ok (.getfield 39, 3) := by decide +kernel
theorem dX3_rankOf_32 : decode cX3_rankOf 32 = .ok (.iload 4, 2) := by decide +kernel
theorem dX3_rankOf_34 : decode cX3_rankOf 34 = .ok (.laload, 1) := by decide +kernel
theorem dX3_rankOf_35 : decode cX3_rankOf 35 = .ok (.aload_n 0, 1) := by decide +kernel
theorem dX3_rankOf_36 : decode cX3_rankOf 36 = .ok (.getfield 39, 3) := by decide +kernel
theorem dX3_rankOf_39 : decode cX3_rankOf 39 = .ok (.iload_n 1, 1) := by decide +kernel
theorem dX3_rankOf_40 : decode cX3_rankOf 40 = .ok (.laload, 1) := by decide +kernel
theorem dX3_rankOf_41 : decode cX3_rankOf 41 = .ok (.lcmp, 1) := by decide +kernel
theorem dX3_rankOf_42 : decode cX3_rankOf 42 = .ok (.ifCond .ne 12, 3) := by decide +kernel
theorem dX3_rankOf_45 : decode cX3_rankOf 45 = .ok (.iload 4, 2) := by decide +kernel
theorem dX3_rankOf_47 : decode cX3_rankOf 47 = .ok (.iload_n 1, 1) := by decide +kernel
theorem dX3_rankOf_48 : decode cX3_rankOf 48 = .ok (.if_icmp .ge 6, 3) := by decide +kernel
theorem dX3_rankOf_51 : decode cX3_rankOf 51 = .ok (.iinc 3 1, 3) := by decide +kernel
theorem dX3_rankOf_54 : decode cX3_rankOf 54 = .ok (.iinc 4 1, 3) := by decide +kernel
theorem dX3_rankOf_57 : decode cX3_rankOf 57 = .ok (.goto (-52), 3) := by decide +kernel
theorem dX3_rankOf_60 : decode cX3_rankOf 60 = .ok (.iload_n 3, 1) := by decide +kernel
theorem dX3_rankOf_61 : decode cX3_rankOf 61 = .ok (.ireturn, 1) := by decide +kernel
theorem dX3_compare_0 : decode cX3_compare 0 = .ok (.iload_n 1, 1) := by decide +kernel
theorem dX3_compare_1 : decode cX3_compare 1 = .ok (.invokestatic 60, 3) := by decide +kernel
theorem dX3_compare_4 : decode cX3_compare 4 = .ok (.ifCond .eq 10, 3) := by decide +kernel
theorem dX3_compare_7 : decode cX3_compare 7 = .ok (.iload_n 2, 1) := by decide +kernel
theorem dX3_compare_8 : decode cX3_compare 8 = .ok (.invokestatic 60, 3) := by decide +kernel
theorem dX3_compare_11 : decode cX3_compare 11 = .ok (.ifCond .ne 6, 3) := by decide +kernel
theorem dX3_compare_14 : decode cX3_compare 14 = .ok (.bipush (-15), 2) := by decide +kernel
theorem dX3_compare_16 : decode cX3_compare 16 = .ok (.ireturn, 1) := by decide +kernel
theorem dX3_compare_17 : decode cX3_compare 17 = .ok (.aload_n 0, 1) := by decide +kernel
theorem dX3_compare_18 : decode cX3_compare 18 = .ok (.getfield 30, 3) := by decide +kernel
theorem dX3_compare_21 : decode cX3_compare 21 = .ok (.iload_n 1, 1) := by decide +kernel
theorem dX3_compare_22 : decode cX3_compare 22 = .ok (.aaload, 1) := by decide +kernel
theorem dX3_compare_23 : decode cX3_compare 23 = .ok (.astore_n 3, 1) := by decide +kernel
theorem dX3_compare_24 : decode cX3_compare 24 = .ok (.aload_n 0, 1) := by decide +kernel
theorem dX3_compare_25 : decode cX3_compare 25 = .ok (.getfield 30, 3) := by decide +kernel
theorem dX3_compare_28 : decode cX3_compare 28 = .ok (.iload_n 2, 1) := by decide +kernel
theorem dX3_compare_29 : decode cX3_compare 29 = .ok (.aaload, 1) := by decide +kernel
theorem dX3_compare_30 : decode cX3_compare 30 = .ok (.astore 4, 2) := by decide +kernel
theorem dX3_compare_32 : decode cX3_compare 32 = .ok (.aload_n 3, 1) := by decide +kernel
theorem dX3_compare_33 : decode cX3_compare 33 = .ok (.getfield 79, 3) := by decide +kernel
theorem dX3_compare_36 : decode cX3_compare 36 = .ok (.ifCond .eq 11, 3) := by decide +kernel
theorem dX3_compare_39 : decode cX3_compare 39 = .ok (.aload 4, 2) := by decide +kernel
theorem dX3_compare_41 : decode cX3_compare 41 = .ok (.getfield 79, 3) := by decide +kernel
theorem dX3_compare_44 : decode cX3_compare 44 = .ok (.ifCond .ne 6, 3) := by decide +kernel
theorem dX3_compare_47 : decode cX3_compare 47 = .ok (.bipush (-11), 2) := by decide +kernel
theorem dX3_compare_49 : decode cX3_compare 49 = .ok (.ireturn, 1) := by decide +kernel
theorem dX3_compare_50 : decode cX3_compare 50 = .ok (.aload_n 3, 1) := by decide +kernel
theorem dX3_compare_51 : decode cX3_compare 51 = .ok (.aload 4, 2) := by decide +kernel
theorem dX3_compare_53 : decode cX3_compare 53 = .ok (.invokevirtual 142, 3) := by decide +kernel
theorem dX3_compare_56 : decode cX3_compare 56 = .ok (.ifCond .ne 6, 3) := by decide +kernel
theorem dX3_compare_59 : decode cX3_compare 59 = .ok (.bipush (-12), 2) := by decide +kernel
theorem dX3_compare_61 : decode cX3_compare 61 = .ok (.ireturn, 1) := by decide +kernel
theorem dX3_compare_62 : decode cX3_compare 62 = .ok (.aload_n 3, 1) := by decide +kernel
theorem dX3_compare_63 : decode cX3_compare 63 = .ok (.getfield 86, 3) := by decide +kernel
theorem dX3_compare_66 : decode cX3_compare 66 = .ok (.aload 4, 2) := by decide +kernel
theorem dX3_compare_68 : decode cX3_compare 68 = .ok (.getfield 86, 3) := by decide +kernel
theorem dX3_compare_71 : decode cX3_compare 71 = .ok (.if_icmp .eq 16, 3) := by decide +kernel
theorem dX3_compare_74 : decode cX3_compare 74 = .ok (.aload_n 3, 1) := by decide +kernel
theorem dX3_compare_75 : decode cX3_compare 75 = .ok (.getfield 86, 3) := by decide +kernel
theorem dX3_compare_78 : decode cX3_compare 78 = .ok (.ifCond .eq 7, 3) := by decide +kernel
theorem dX3_compare_81 : decode cX3_compare 81 = .ok (.iconst (-1), 1) := by decide +kernel
theorem dX3_compare_82 : decode cX3_compare 82 = .ok (.goto 4, 3) := by decide +kernel
theorem dX3_compare_85 : decode cX3_compare 85 = .ok (.iconst 1, 1) := by decide +kernel
theorem dX3_compare_86 : decode cX3_compare 86 = .ok (.ireturn, 1) := by decide +kernel
theorem dX3_compare_87 : decode cX3_compare 87 = .ok (.aload_n 3, 1) := by decide +kernel
theorem dX3_compare_88 : decode cX3_compare 88 = .ok (.getfield 83, 3) := by decide +kernel
theorem dX3_compare_91 : decode cX3_compare 91 = .ok (.aload 4, 2) := by decide +kernel
theorem dX3_compare_93 : decode cX3_compare 93 = .ok (.getfield 83, 3) := by decide +kernel
theorem dX3_compare_96 : decode cX3_compare 96 = .ok (.invokestatic 146, 3) := by decide +kernel
theorem dX3_compare_99 : decode cX3_compare 99 = .ok (.istore 5, 2) := by decide +kernel
theorem dX3_compare_101 : decode cX3_compare 101 = .ok (.aload_n 3, 1) := by decide +kernel
theorem dX3_compare_102 : decode cX3_compare 102 = .ok (.getfield 86, 3) := by decide +kernel
theorem dX3_compare_105 : decode cX3_compare 105 = .ok (.ifCond .eq 9, 3) := by decide +kernel
theorem dX3_compare_108 : decode cX3_compare 108 = .ok (.iload 5, 2) := by decide +kernel
theorem dX3_compare_110 : decode cX3_compare 110 = .ok (.ineg, 1) := by decide +kernel
theorem dX3_compare_111 : decode cX3_compare 111 = .ok (.goto 5, 3) := by decide +kernel
theorem dX3_compare_114 : decode cX3_compare 114 = .ok (.iload 5, 2) := by decide +kernel
theorem dX3_compare_116 : decode cX3_compare 116 = .ok (.ireturn, 1) := by decide +kernel
theorem dX3_sign_0 : decode cX3_sign 0 = .ok (.iload_n 1, 1) := by decide +kernel
theorem dX3_sign_1 : decode cX3_sign 1 = .ok (.invokestatic 60, 3) := by decide +kernel
theorem dX3_sign_4 : decode cX3_sign 4 = .ok (.ifCond .ne 6, 3) := by decide +kernel
theorem dX3_sign_7 : decode cX3_sign 7 = .ok (.bipush (-15), 2) := by decide +kernel
theorem dX3_sign_9 : decode cX3_sign 9 = .ok (.ireturn, 1) := by decide +kernel
theorem dX3_sign_10 : decode cX3_sign 10 = .ok (.aload_n 0, 1) := by decide +kernel
theorem dX3_sign_11 : decode cX3_sign 11 = .ok (.getfield 30, 3) := by decide +kernel
theorem dX3_sign_14 : decode cX3_sign 14 = .ok (.iload_n 1, 1) := by decide +kernel
theorem dX3_sign_15 : decode cX3_sign 15 = .ok (.aaload, 1) := by decide +kernel
theorem dX3_sign_16 : decode cX3_sign 16 = .ok (.astore_n 2, 1) := by decide +kernel
theorem dX3_sign_17 : decode cX3_sign 17 = .ok (.aload_n 2, 1) := by decide +kernel
theorem dX3_sign_18 : decode cX3_sign 18 = .ok (.getfield 79, 3) := by decide +kernel
theorem dX3_sign_21 : decode cX3_sign 21 = .ok (.ifCond .ne 6, 3) := by decide +kernel
theorem dX3_sign_24 : decode cX3_sign 24 = .ok (.bipush (-11), 2) := by decide +kernel
theorem dX3_sign_26 : decode cX3_sign 26 = .ok (.ireturn, 1) := by decide +kernel
theorem dX3_sign_27 : decode cX3_sign 27 = .ok (.aload_n 2, 1) := by decide +kernel
theorem dX3_sign_28 : decode cX3_sign 28 = .ok (.getfield 86, 3) := by decide +kernel
theorem dX3_sign_31 : decode cX3_sign 31 = .ok (.ifCond .eq 5, 3) := by decide +kernel
theorem dX3_sign_34 : decode cX3_sign 34 = .ok (.iconst (-1), 1) := by decide +kernel
theorem dX3_sign_35 : decode cX3_sign 35 = .ok (.ireturn, 1) := by decide +kernel
theorem dX3_sign_36 : decode cX3_sign 36 = .ok (.aload_n 2, 1) := by decide +kernel
theorem dX3_sign_37 : decode cX3_sign 37 = .ok (.getfield 83, 3) := by decide +kernel
theorem dX3_sign_40 : decode cX3_sign 40 = .ok (.iconst 0, 1) := by decide +kernel
theorem dX3_sign_41 : decode cX3_sign 41 = .ok (.bipush 36, 2) := by decide +kernel
theorem dX3_sign_43 : decode cX3_sign 43 = .ok (.invokestatic 150, 3) := by decide +kernel
theorem dX3_sign_46 : decode cX3_sign 46 = .ok (.ifCond .eq 7, 3) := by decide +kernel
theorem dX3_sign_49 : decode cX3_sign 49 = .ok (.iconst 0, 1) := by decide +kernel
theorem dX3_sign_50 : decode cX3_sign 50 = .ok (.goto 4, 3) := by decide +kernel
theorem dX3_sign_53 : decode cX3_sign 53 = .ok (.iconst 1, 1) := by decide +kernel
theorem dX3_sign_54 : decode cX3_sign 54 = .ok (.ireturn, 1) := by decide +kernel
theorem dX3_kind_0 : decode cX3_kind 0 = .ok (.iload_n 1, 1) := by decide +kernel
theorem dX3_kind_1 : decode cX3_kind 1 = .ok (.invokestatic 60, 3) := by decide +kernel
theorem dX3_kind_4 : decode cX3_kind 4 = .ok (.ifCond .ne 6, 3) := by decide +kernel
theorem dX3_kind_7 : decode cX3_kind 7 = .ok (.bipush (-15), 2) := by decide +kernel
theorem dX3_kind_9 : decode cX3_kind 9 = .ok (.ireturn, 1) := by decide +kernel
theorem dX3_kind_10 : decode cX3_kind 10 = .ok (.aload_n 0, 1) := by decide +kernel
theorem dX3_kind_11 : decode cX3_kind 11 = .ok (.getfield 30, 3) := by decide +kernel
theorem dX3_kind_14 : decode cX3_kind 14 = .ok (.iload_n 1, 1) := by decide +kernel
theorem dX3_kind_15 : decode cX3_kind 15 = .ok (.aaload, 1) := by decide +kernel
theorem dX3_kind_16 : decode cX3_kind 16 = .ok (.astore_n 2, 1) := by decide +kernel
theorem dX3_kind_17 : decode cX3_kind 17 = .ok (.aload_n 2, 1) := by decide +kernel
theorem dX3_kind_18 : decode cX3_kind 18 = .ok (.getfield 79, 3) := by decide +kernel
theorem dX3_kind_21 : decode cX3_kind 21 = .ok (.ifCond .ne 6, 3) := by decide +kernel
theorem dX3_kind_24 : decode cX3_kind 24 = .ok (.bipush (-11), 2) := by decide +kernel
theorem dX3_kind_26 : decode cX3_kind 26 = .ok (.ireturn, 1) := by decide +kernel
theorem dX3_kind_27 : decode cX3_kind 27 = .ok (.aload_n 2, 1) := by decide +kernel
theorem dX3_kind_28 : decode cX3_kind 28 = .ok (.getfield 100, 3) := by decide +kernel
theorem dX3_kind_31 : decode cX3_kind 31 = .ok (.aload_n 2, 1) := by decide +kernel
theorem dX3_kind_32 : decode cX3_kind 32 = .ok (.getfield 97, 3) := by decide +kernel
theorem dX3_kind_35 : decode cX3_kind 35 = .ok (.ifCond .eq 8, 3) := by decide +kernel
theorem dX3_kind_38 : decode cX3_kind 38 = .ok (.bipush 8, 2) := by decide +kernel
theorem dX3_kind_40 : decode cX3_kind 40 = .ok (.goto 4, 3) := by decide +kernel
theorem dX3_kind_43 : decode cX3_kind 43 = .ok (.iconst 0, 1) := by decide +kernel
theorem dX3_kind_44 : decode cX3_kind 44 = .ok (.iadd, 1) := by decide +kernel
theorem dX3_kind_45 : decode cX3_kind 45 = .ok (.ireturn, 1) := by decide +kernel
theorem dX3_digits_0 : decode cX3_digits 0 = .ok (.iload_n 1, 1) := by decide +kernel
theorem dX3_digits_1 : decode cX3_digits 1 = .ok (.invokestatic 60, 3) := by decide +kernel
theorem dX3_digits_4 : decode cX3_digits 4 = .ok (.ifCond .eq 12, 3) := by decide +kernel
theorem dX3_digits_7 : decode cX3_digits 7 = .ok (.iload_n 2, 1) := by decide +kernel
theorem dX3_digits_8 : decode cX3_digits 8 = .ok (.ifCond .lt 8, 3) := by decide +kernel
theorem dX3_digits_11 : decode cX3_digits 11 = .ok (.iload_n 2, 1) := by decide +kernel
theorem dX3_digits_12 : decode cX3_digits 12 = .ok (.iconst 1, 1) := by decide +kernel
theorem dX3_digits_13 : decode cX3_digits 13 = .ok (.if_icmp .le 7, 3) := by decide +kernel
theorem dX3_digits_16 : decode cX3_digits 16 = .ok (.ldc2_w 154, 3) := by decide +kernel
theorem dX3_digits_19 : decode cX3_digits 19 = .ok (.lreturn, 1) := by decide +kernel
theorem dX3_digits_20 : decode cX3_digits 20 = .ok (.aload_n 0, 1) := by decide +kernel
theorem dX3_digits_21 : decode cX3_digits 21 = .ok (.getfield 30, 3) := by decide +kernel
theorem dX3_digits_24 : decode cX3_digits 24 = .ok (.iload_n 1, 1) := by decide +kernel
theorem dX3_digits_25 : decode cX3_digits 25 = .ok (.aaload, 1) := by decide +kernel
theorem dX3_digits_26 : decode cX3_digits 26 = .ok (.astore_n 3, 1) := by decide +kernel
theorem dX3_digits_27 : decode cX3_digits 27 = .ok (.aload_n 3, 1) := by decide +kernel
theorem dX3_digits_28 : decode cX3_digits 28 = .ok (.getfield 79, 3) := by decide +kernel
theorem dX3_digits_31 : decode cX3_digits 31 = .ok (.ifCond .ne 7, 3) := by decide +kernel
theorem dX3_digits_34 : decode cX3_digits 34 = .ok (.ldc2_w 156, 3) := by decide +kernel
theorem dX3_digits_37 : decode cX3_digits 37 = .ok (.lreturn, 1) := by decide +kernel
theorem dX3_digits_38 : decode cX3_digits 38 = .ok (.aload_n 3, 1) := by decide +kernel
theorem dX3_digits_39 : decode cX3_digits 39 = .ok (.getfield 83, 3) := by decide +kernel
theorem dX3_digits_42 : decode cX3_digits 42 = .ok (.iload_n 2, 1) := by decide +kernel
theorem dX3_digits_43 : decode cX3_digits 43 = .ok (.bipush 18, 2) := by decide +kernel
theorem dX3_digits_45 : decode cX3_digits 45 = .ok (.imul, 1) := by decide +kernel
theorem dX3_digits_46 : decode cX3_digits 46 = .ok (.bipush 18, 2) := by decide +kernel
theorem dX3_digits_48 : decode cX3_digits 48 = .ok (.invokestatic 158, 3) := by decide +kernel
theorem dX3_digits_51 : decode cX3_digits 51 = .ok (.lreturn, 1) := by decide +kernel
theorem dX3_discard_0 : decode cX3_discard 0 = .ok (.iload_n 1, 1) := by decide +kernel
theorem dX3_discard_1 : decode cX3_discard 1 = .ok (.invokestatic 60, 3) := by decide +kernel
theorem dX3_discard_4 : decode cX3_discard 4 = .ok (.ifCond .eq 15, 3) := by decide +kernel
theorem dX3_discard_7 : decode cX3_discard 7 = .ok (.aload_n 0, 1) := by decide +kernel
theorem dX3_discard_8 : decode cX3_discard 8 = .ok (.getfield 30, 3) := by decide +kernel
theorem dX3_discard_11 : decode cX3_discard 11 = .ok (.iload_n 1, 1) := by decide +kernel
theorem dX3_discard_12 : decode cX3_discard 12 = .ok (.aaload, 1) := by decide +kernel
theorem dX3_discard_13 : decode cX3_discard 13 = .ok (.getfield 79, 3) := by decide +kernel
theorem dX3_discard_16 : decode cX3_discard 16 = .ok (.ifCond .ne 5, 3) := by decide +kernel
theorem dX3_discard_19 : decode cX3_discard 19 = .ok (.iconst 0, 1) := by decide +kernel
theorem dX3_discard_20 : decode cX3_discard 20 = .ok (.ireturn, 1) := by decide +kernel
theorem dX3_discard_21 : decode cX3_discard 21 = .ok (.aload_n 0, 1) := by decide +kernel
theorem dX3_discard_22 : decode cX3_discard 22 = .ok (.getfield 30, 3) := by decide +kernel
theorem dX3_discard_25 : decode cX3_discard 25 = .ok (.iload_n 1, 1) := by decide +kernel
theorem dX3_discard_26 : decode cX3_discard 26 = .ok (.aaload, 1) := by decide +kernel
theorem dX3_discard_27 : decode cX3_discard 27 = .ok (.iconst 0, 1) := by decide +kernel
theorem dX3_discard_28 : decode cX3_discard 28 = .ok (.putfield 79, 3) := by decide +kernel
theorem dX3_discard_31 : decode cX3_discard 31 = .ok (.iconst 1, 1) := by decide +kernel
theorem dX3_discard_32 : decode cX3_discard 32 = .ok (.ireturn, 1) := by decide +kernel
theorem dX3_format_0 : decode cX3_format 0 = .ok (.iload_n 1, 1) := by decide +kernel
theorem dX3_format_1 : decode cX3_format 1 = .ok (.invokestatic 60, 3) := by decide +kernel
theorem dX3_format_4 : decode cX3_format 4 = .ok (.ifCond .eq 13, 3) := by decide +kernel
theorem dX3_format_7 : decode cX3_format 7 = .ok (.iload_n 2, 1) := by decide +kernel
theorem dX3_format_8 : decode cX3_format 8 = .ok (.ifCond .lt 9, 3) := by decide +kernel
theorem dX3_format_11 : decode cX3_format 11 = .ok (.iload_n 2, 1) := by decide +kernel
theorem dX3_format_12 : decode cX3_format 12 = .ok (.bipush 8, 2) := by decide +kernel
theorem dX3_format_14 : decode cX3_format 14 = .ok (.if_icmp .lt 6, 3) := by decide +kernel
theorem dX3_format_17 : decode cX3_format 17 = .ok (.bipush (-15), 2) := by decide +kernel
theorem dX3_format_19 : decode cX3_format 19 = .ok (.ireturn, 1) := by decide +kernel
theorem dX3_format_20 : decode cX3_format 20 = .ok (.aload_n 0, 1) := by decide +kernel
theorem dX3_format_21 : decode cX3_format 21 = .ok (.getfield 30, 3) := by decide +kernel
theorem dX3_format_24 : decode cX3_format 24 = .ok (.iload_n 1, 1) := by decide +kernel
theorem dX3_format_25 : decode cX3_format 25 = .ok (.aaload, 1) := by decide +kernel
theorem dX3_format_26 : decode cX3_format 26 = .ok (.astore_n 3, 1) := by decide +kernel
theorem dX3_format_27 : decode cX3_format 27 = .ok (.aload_n 3, 1) := by decide +kernel
theorem dX3_format_28 : decode cX3_format 28 = .ok (.getfield 79, 3) := by decide +kernel
theorem dX3_format_31 : decode cX3_format 31 = .ok (.ifCond .ne 6, 3) := by decide +kernel
theorem dX3_format_34 : decode cX3_format 34 = .ok (.bipush (-11), 2) := by decide +kernel
theorem dX3_format_36 : decode cX3_format 36 = .ok (.ireturn, 1) := by decide +kernel
theorem dX3_format_37 : decode cX3_format 37 = .ok (.aload_n 0, 1) := by decide +kernel
theorem dX3_format_38 : decode cX3_format 38 = .ok (.getfield 46, 3) := by decide +kernel
theorem dX3_format_41 : decode cX3_format 41 = .ok (.aload_n 3, 1) := by decide +kernel
theorem dX3_format_42 : decode cX3_format 42 = .ok (.getfield 83, 3) := by decide +kernel
theorem dX3_format_45 : decode cX3_format 45 = .ok (.bipush 10, 2) := by decide +kernel
theorem dX3_format_47 : decode cX3_format 47 = .ok (.aload_n 3, 1) := by decide +kernel
theorem dX3_format_48 : decode cX3_format 48 = .ok (.getfield 86, 3) := by decide +kernel
theorem dX3_format_51 : decode cX3_format 51 = .ok (.invokevirtual 89, 3) := by decide +kernel
theorem dX3_format_54 : decode cX3_format 54 = .ok (.aload_n 0, 1) := by decide +kernel
theorem dX3_format_55 : decode cX3_format 55 = .ok (.getfield 46, 3) := by decide +kernel
theorem dX3_format_58 : decode cX3_format 58 = .ok (.aload_n 3, 1) := by decide +kernel
theorem dX3_format_59 : decode cX3_format 59 = .ok (.getfield 100, 3) := by decide +kernel
theorem dX3_format_62 : decode cX3_format 62 = .ok (.invokestatic 113, 3) := by decide +kernel
theorem dX3_format_65 : decode cX3_format 65 = .ok (.iconst 1, 1) := by decide +kernel
theorem dX3_format_66 : decode cX3_format 66 = .ok (.bipush 6, 2) := by decide +kernel
theorem dX3_format_68 : decode cX3_format 68 = .ok (.invokevirtual 117, 3) := by decide +kernel
theorem dX3_format_71 : decode cX3_format 71 = .ok (.pop, 1) := by decide +kernel
theorem dX3_format_72 : decode cX3_format 72 = .ok (.aload_n 0, 1) := by decide +kernel
theorem dX3_format_73 : decode cX3_format 73 = .ok (.getfield 56, 3) := by decide +kernel
theorem dX3_format_76 : decode cX3_format 76 = .ok (.iconst 0, 1) := by decide +kernel
theorem dX3_format_77 : decode cX3_format 77 = .ok (.putfield 162, 3) := by decide +kernel
theorem dX3_format_80 : decode cX3_format 80 = .ok (.iload_n 2, 1) := by decide +kernel
theorem dX3_format_81 : decode cX3_format 81 = .ok (.iconst 2, 1) := by decide +kernel
theorem dX3_format_82 : decode cX3_format 82 = .ok (.iand, 1) := by decide +kernel
theorem dX3_format_83 : decode cX3_format 83 = .ok (.ifCond .eq 35, 3) := by decide +kernel
theorem dX3_format_86 : decode cX3_format 86 = .ok (.aload_n 0, 1) := by decide +kernel
theorem dX3_format_87 : decode cX3_format 87 = .ok (.aload_n 3, 1) := by decide +kernel
theorem dX3_format_88 : decode cX3_format 88 = .ok (.getfield 100, 3) := by decide +kernel
theorem dX3_format_91 : decode cX3_format 91 = .ok (.iload_n 2, 1) := by decide +kernel
theorem dX3_format_92 : decode cX3_format 92 = .ok (.invokevirtual 165, 3) := by decide +kernel
theorem dX3_format_95 : decode cX3_format 95 = .ok (.aload_n 0, 1) := by decide +kernel
theorem dX3_format_96 : decode cX3_format 96 = .ok (.getfield 56, 3) := by decide +kernel
theorem dX3_format_99 : decode cX3_format 99 = .ok (.bipush 32, 2) := by decide +kernel
theorem dX3_format_101 : decode cX3_format 101 = .ok (.invokevirtual 168, 3) := by decide +kernel
theorem dX3_format_104 : decode cX3_format 104 = .ok (.aload_n 0, 1) := by decide +kernel
theorem dX3_format_105 : decode cX3_format 105 = .ok (.getfield 56, 3) := by decide +kernel
theorem dX3_format_108 : decode cX3_format 108 = .ok (.aload_n 3, 1) := by decide +kernel
theorem dX3_format_109 : decode cX3_format 109 = .ok (.getfield 100, 3) := by decide +kernel
theorem dX3_format_112 : decode cX3_format 112 = .ok (.invokevirtual 172, 3) := by decide +kernel
theorem dX3_format_115 : decode cX3_format 115 = .ok (.goto 32, 3) := by decide +kernel
theorem dX3_format_118 : decode cX3_format 118 = .ok (.aload_n 0, 1) := by decide +kernel
theorem dX3_format_119 : decode cX3_format 119 = .ok (.getfield 56, 3) := by decide +kernel
theorem dX3_format_122 : decode cX3_format 122 = .ok (.aload_n 3, 1) := by decide +kernel
theorem dX3_format_123 : decode cX3_format 123 = .ok (.getfield 100, 3) := by decide +kernel
theorem dX3_format_126 : decode cX3_format 126 = .ok (.invokevirtual 172, 3) := by decide +kernel
theorem dX3_format_129 : decode cX3_format 129 = .ok (.aload_n 0, 1) := by decide +kernel
theorem dX3_format_130 : decode cX3_format 130 = .ok (.getfield 56, 3) := by decide +kernel
theorem dX3_format_133 : decode cX3_format 133 = .ok (.bipush 32, 2) := by decide +kernel
theorem dX3_format_135 : decode cX3_format 135 = .ok (.invokevirtual 168, 3) := by decide +kernel
theorem dX3_format_138 : decode cX3_format 138 = .ok (.aload_n 0, 1) := by decide +kernel
theorem dX3_format_139 : decode cX3_format 139 = .ok (.aload_n 3, 1) := by decide +kernel
theorem dX3_format_140 : decode cX3_format 140 = .ok (.getfield 100, 3) := by decide +kernel
theorem dX3_format_143 : decode cX3_format 143 = .ok (.iload_n 2, 1) := by decide +kernel
theorem dX3_format_144 : decode cX3_format 144 = .ok (.invokevirtual 165, 3) := by decide +kernel
theorem dX3_format_147 : decode cX3_format 147 = .ok (.aload_n 0, 1) := by decide +kernel
theorem dX3_format_148 : decode cX3_format 148 = .ok (.getfield 56, 3) := by decide +kernel
theorem dX3_format_151 : decode cX3_format 151 = .ok (.getfield 162, 3) := by decide +kernel
theorem dX3_format_154 : decode cX3_format 154 = .ok (.ireturn, 1) := by decide +kernel
theorem dX3_writeNumber_0 : decode cX3_writeNumber 0 = .ok (.aload_n 0, 1) := by decide +kernel
theorem dX3_writeNumber_1 : decode cX3_writeNumber 1 = .ok (.getfield 46, 3) := by decide +kernel
theorem dX3_writeNumber_4 : decode cX3_writeNumber 4 = .ok (.getfield 205, 3) := by decide +kernel
theorem dX3_writeNumber_7 : decode cX3_writeNumber 7 = .ok (.ifCond .eq 17, 3) := by decide +kernel
theorem dX3_writeNumber_10 : decode cX3_writeNumber 10 = .ok (.aload_n 0, 1) := by decide +kernel
theorem dX3_writeNumber_11 : decode cX3_writeNumber 11 = .ok (.getfield 46, 3) := by decide +kernel
theorem dX3_writeNumber_14 : decode cX3_writeNumber 14 = .ok (.invokevirtual 195, 3) := by decide +kernel
theorem dX3_writeNumber_17 : decode cX3_writeNumber 17 = .ok (.ifCond .le 7, 3) := by decide +kernel
theorem dX3_writeNumber_20 : decode cX3_writeNumber 20 = .ok (.iconst 1, 1) := by decide +kernel
theorem dX3_writeNumber_21 : decode cX3_writeNumber 21 = .ok (.goto 4, 3) := by decide +kernel
theorem dX3_writeNumber_24 : decode cX3_writeNumber 24 = .ok (.iconst 0, 1) := by decide +kernel
theorem dX3_writeNumber_25 : decode cX3_writeNumber 25 = .ok (.istore_n 3, 1) := by decide +kernel
theorem dX3_writeNumber_26 : decode cX3_writeNumber 26 = .ok (.iload_n 2, 1) := by decide +kernel
theorem dX3_writeNumber_27 : decode cX3_writeNumber 27 = .ok (.iconst 4, 1) := by decide +kernel
theorem dX3_writeNumber_28 : decode cX3_writeNumber 28 = .ok (.iand, 1) := by decide +kernel
theorem dX3_writeNumber_29 : decode cX3_writeNumber 29 = .ok (.ifCond .eq 7, 3) := by decide +kernel
theorem dX3_writeNumber_32 : decode cX3_writeNumber 32 = .ok (.iconst 1, 1) := by decide +kernel
theorem dX3_writeNumber_33 : decode cX3_writeNumber 33 = .ok (.goto 4, 3) := by decide +kernel
theorem dX3_writeNumber_36 : decode cX3_writeNumber 36 = .ok (.iconst 0, 1) := by decide +kernel
theorem dX3_writeNumber_37 : decode cX3_writeNumber 37 = .ok (.istore 4, 2) := by decide +kernel
theorem dX3_writeNumber_39 : decode cX3_writeNumber 39 = .ok (.iload_n 3, 1) := by decide +kernel
theorem dX3_writeNumber_40 : decode cX3_writeNumber 40 = .ok (.ifCond .eq 22, 3) := by decide +kernel
theorem dX3_writeNumber_43 : decode cX3_writeNumber 43 = .ok (.aload_n 0, 1) := by decide +kernel
theorem dX3_writeNumber_44 : decode cX3_writeNumber 44 = .ok (.getfield 56, 3) := by decide +kernel
theorem dX3_writeNumber_47 : decode cX3_writeNumber 47 = .ok (.iload 4, 2) := by decide +kernel
theorem dX3_writeNumber_49 : decode cX3_writeNumber 49 = .ok (.ifCond .eq 8, 3) := by decide +kernel
theorem dX3_writeNumber_52 : decode cX3_writeNumber 52 = .ok (.bipush 40, 2) := by decide +kernel
theorem dX3_writeNumber_54 : decode cX3_writeNumber 54 = .ok (.goto 5, 3) := by decide +kernel
theorem dX3_writeNumber_57 : decode cX3_writeNumber 57 = .ok (.bipush 45, 2) := by decide +kernel
theorem dX3_writeNumber_59 : decode cX3_writeNumber 59 = .ok (.invokevirtual 168, 3) := by decide +kernel
theorem dX3_writeNumber_62 : decode cX3_writeNumber 62 = .ok (.aload_n 0, 1) := by decide +kernel
theorem dX3_writeNumber_63 : decode cX3_writeNumber 63 = .ok (.getstatic 188, 3) := by decide +kernel
theorem dX3_writeNumber_66 : decode cX3_writeNumber 66 = .ok (.iload_n 1, 1) := by decide +kernel
theorem dX3_writeNumber_67 : decode cX3_writeNumber 67 = .ok (.iaload, 1) := by decide +kernel
theorem dX3_writeNumber_68 : decode cX3_writeNumber 68 = .ok (.iload_n 2, 1) := by decide +kernel
theorem dX3_writeNumber_69 : decode cX3_writeNumber 69 = .ok (.iconst 1, 1) := by decide +kernel
theorem dX3_writeNumber_70 : decode cX3_writeNumber 70 = .ok (.iand, 1) := by decide +kernel
theorem dX3_writeNumber_71 : decode cX3_writeNumber 71 = .ok (.ifCond .eq 7, 3) := by decide +kernel
theorem dX3_writeNumber_74 : decode cX3_writeNumber 74 = .ok (.iconst 1, 1) := by decide +kernel
theorem dX3_writeNumber_75 : decode cX3_writeNumber 75 = .ok (.goto 4, 3) := by decide +kernel
theorem dX3_writeNumber_78 : decode cX3_writeNumber 78 = .ok (.iconst 0, 1) := by decide +kernel
theorem dX3_writeNumber_79 : decode cX3_writeNumber 79 = .ok (.invokevirtual 206, 3) := by decide +kernel
theorem dX3_writeNumber_82 : decode cX3_writeNumber 82 = .ok (.iload_n 3, 1) := by decide +kernel
theorem dX3_writeNumber_83 : decode cX3_writeNumber 83 = .ok (.ifCond .eq 17, 3) := by decide +kernel
theorem dX3_writeNumber_86 : decode cX3_writeNumber 86 = .ok (.iload 4, 2) := by decide +kernel
theorem dX3_writeNumber_88 : decode cX3_writeNumber 88 = .ok (.ifCond .eq 12, 3) := by decide +kernel
theorem dX3_writeNumber_91 : decode cX3_writeNumber 91 = .ok (.aload_n 0, 1) := by decide +kernel
theorem dX3_writeNumber_92 : decode cX3_writeNumber 92 = .ok (.getfield 56, 3) := by decide +kernel
theorem dX3_writeNumber_95 : decode cX3_writeNumber 95 = .ok (.bipush 41, 2) := by decide +kernel
theorem dX3_writeNumber_97 : decode cX3_writeNumber 97 = .ok (.invokevirtual 168, 3) := by decide +kernel
theorem dX3_writeNumber_100 : decode cX3_writeNumber 100 = .ok (.return_, 1) := by decide +kernel
theorem dX3_writeBody_0 : decode cX3_writeBody 0 = .ok (.iconst 1, 1) := by decide +kernel
theorem dX3_writeBody_1 : decode cX3_writeBody 1 = .ok (.aload_n 0, 1) := by decide +kernel
theorem dX3_writeBody_2 : decode cX3_writeBody 2 = .ok (.getfield 46, 3) := by decide +kernel
theorem dX3_writeBody_5 : decode cX3_writeBody 5 = .ok (.invokevirtual 195, 3) := by decide +kernel
theorem dX3_writeBody_8 : decode cX3_writeBody 8 = .ok (.bipush 20, 2) := by decide +kernel
theorem dX3_writeBody_10 : decode cX3_writeBody 10 = .ok (.isub, 1) := by decide +kernel
theorem dX3_writeBody_11 : decode cX3_writeBody 11 = .ok (.invokestatic 15, 3) := by decide +kernel
theorem dX3_writeBody_14 : decode cX3_writeBody 14 = .ok (.istore_n 3, 1) := by decide +kernel
theorem dX3_writeBody_15 : decode cX3_writeBody 15 = .ok (.iload_n 3, 1) := by decide +kernel
theorem dX3_writeBody_16 : decode cX3_writeBody 16 = .ok (.iconst 1, 1) := by decide +kernel
theorem dX3_writeBody_17 : decode cX3_writeBody 17 = .ok (.isub, 1) := by decide +kernel
theorem dX3_writeBody_18 : decode cX3_writeBody 18 = .ok (.istore 4, 2) := by decide +kernel
theorem dX3_writeBody_20 : decode cX3_writeBody 20 = .ok (.iload 4, 2) := by decide +kernel
theorem dX3_writeBody_22 : decode cX3_writeBody 22 = .ok (.ifCond .lt 57, 3) := by decide +kernel
theorem dX3_writeBody_25 : decode cX3_writeBody 25 = .ok (.aload_n 0, 1) := by decide +kernel
theorem dX3_writeBody_26 : decode cX3_writeBody 26 = .ok (.getfield 56, 3) := by decide +kernel
theorem dX3_writeBody_29 : decode cX3_writeBody 29 = .ok (.bipush 48, 2) := by decide +kernel
theorem dX3_writeBody_31 : decode cX3_writeBody 31 = .ok (.aload_n 0, 1) := by decide +kernel
theorem dX3_writeBody_32 : decode cX3_writeBody 32 = .ok (.getfield 46, 3) := by decide +kernel
theorem dX3_writeBody_35 : decode cX3_writeBody 35 = .ok (.getfield 133, 3) := by decide +kernel
theorem dX3_writeBody_38 : decode cX3_writeBody 38 = .ok (.bipush 20, 2) := by decide +kernel
theorem dX3_writeBody_40 : decode cX3_writeBody 40 = .ok (.iload 4, 2) := by decide +kernel
theorem dX3_writeBody_42 : decode cX3_writeBody 42 = .ok (.iadd, 1) := by decide +kernel
theorem dX3_writeBody_43 : decode cX3_writeBody 43 = .ok (.iaload, 1) := by decide +kernel
theorem dX3_writeBody_44 : decode cX3_writeBody 44 = .ok (.iadd, 1) := by decide +kernel
theorem dX3_writeBody_45 : decode cX3_writeBody 45 = .ok (.invokevirtual 168, 3) := by decide +kernel
theorem dX3_writeBody_48 : decode cX3_writeBody 48 = .ok (.iload_n 2, 1) := by decide +kernel
theorem dX3_writeBody_49 : decode cX3_writeBody 49 = .ok (.ifCond .eq 24, 3) := by decide +kernel
theorem dX3_writeBody_52 : decode cX3_writeBody 52 = .ok (.iload 4, 2) := by decide +kernel
theorem dX3_writeBody_54 : decode cX3_writeBody 54 = .ok (.ifCond .le 19, 3) := by decide +kernel
theorem dX3_writeBody_57 : decode cX3_writeBody 57 = .ok (.iload 4, 2) := by decide +kernel
theorem dX3_writeBody_59 : decode cX3_writeBody 59 = .ok (.iconst 3, 1) := by decide +kernel
theorem dX3_writeBody_60 : decode cX3_writeBody 60 = .ok (.irem, 1) := by decide +kernel
theorem dX3_writeBody_61 : decode cX3_writeBody 61 = .ok (.ifCond .ne 12, 3) := by decide +kernel
theorem dX3_writeBody_64 : decode cX3_writeBody 64 = .ok (.aload_n 0, 1) := by decide +kernel
theorem dX3_writeBody_65 : decode cX3_writeBody 65 = .ok (.getfield 56, 3) := by decide +kernel
theorem dX3_writeBody_68 : decode cX3_writeBody 68 = .ok (.bipush 44, 2) := by decide +kernel
theorem dX3_writeBody_70 : decode cX3_writeBody 70 = .ok (.invokevirtual 168, 3) := by decide +kernel
theorem dX3_writeBody_73 : decode cX3_writeBody 73 = .ok (.iinc 4 (-1), 3) := by decide +kernel
theorem dX3_writeBody_76 : decode cX3_writeBody 76 = .ok (.goto (-56), 3) := by decide +kernel
theorem dX3_writeBody_79 : decode cX3_writeBody 79 = .ok (.iload_n 1, 1) := by decide +kernel
theorem dX3_writeBody_80 : decode cX3_writeBody 80 = .ok (.ifCond .le 12, 3) := by decide +kernel
theorem dX3_writeBody_83 : decode cX3_writeBody 83 = .ok (.aload_n 0, 1) := by decide +kernel
theorem dX3_writeBody_84 : decode cX3_writeBody 84 = .ok (.getfield 56, 3) := by decide +kernel
theorem dX3_writeBody_87 : decode cX3_writeBody 87 = .ok (.bipush 46, 2) := by decide +kernel
theorem dX3_writeBody_89 : decode cX3_writeBody 89 = .ok (.invokevirtual 168, 3) := by decide +kernel
theorem dX3_writeBody_92 : decode cX3_writeBody 92 = .ok (.iconst 1, 1) := by decide +kernel
theorem dX3_writeBody_93 : decode cX3_writeBody 93 = .ok (.istore 4, 2) := by decide +kernel
theorem dX3_writeBody_95 : decode cX3_writeBody 95 = .ok (.iload 4, 2) := by decide +kernel
theorem dX3_writeBody_97 : decode cX3_writeBody 97 = .ok (.iload_n 1, 1) := by decide +kernel
theorem dX3_writeBody_98 : decode cX3_writeBody 98 = .ok (.if_icmp .gt 32, 3) := by decide +kernel
theorem dX3_writeBody_101 : decode cX3_writeBody 101 = .ok (.aload_n 0, 1) := by decide +kernel
theorem dX3_writeBody_102 : decode cX3_writeBody 102 = .ok (.getfield 56, 3) := by decide +kernel
theorem dX3_writeBody_105 : decode cX3_writeBody 105 = .ok (.bipush 48, 2) := by decide +kernel
theorem dX3_writeBody_107 : decode cX3_writeBody 107 = .ok (.aload_n 0, 1) := by decide +kernel
theorem dX3_writeBody_108 : decode cX3_writeBody 108 = .ok (.getfield 46, 3) := by decide +kernel
theorem dX3_writeBody_111 : decode cX3_writeBody 111 = .ok (.getfield 133, 3) := by decide +kernel
theorem dX3_writeBody_114 : decode cX3_writeBody 114 = .ok (.bipush 20, 2) := by decide +kernel
theorem dX3_writeBody_116 : decode cX3_writeBody 116 = .ok (.iload 4, 2) := by decide +kernel
theorem dX3_writeBody_118 : decode cX3_writeBody 118 = .ok (.isub, 1) := by decide +kernel
theorem dX3_writeBody_119 : decode cX3_writeBody 119 = .ok (.iaload, 1) := by decide +kernel
theorem dX3_writeBody_120 : decode cX3_writeBody 120 = .ok (.iadd, 1) := by decide +kernel
theorem dX3_writeBody_121 : decode cX3_writeBody 121 = .ok (.invokevirtual 168, 3) := by decide +kernel
theorem dX3_writeBody_124 : decode cX3_writeBody 124 = .ok (.iinc 4 1, 3) := by decide +kernel
theorem dX3_writeBody_127 : decode cX3_writeBody 127 = .ok (.goto (-32), 3) := by decide +kernel
theorem dX3_writeBody_130 : decode cX3_writeBody 130 = .ok (.return_, 1) := by decide +kernel
theorem dX3_type_0 : decode cX3_type 0 = .ok (.iload_n 1, 1) := by decide +kernel
theorem dX3_type_1 : decode cX3_type 1 = .ok (.bipush 32, 2) := by decide +kernel
theorem dX3_type_3 : decode cX3_type 3 = .ok (.if_icmp .lt 21, 3) := by decide +kernel
theorem dX3_type_6 : decode cX3_type 6 = .ok (.iload_n 1, 1) := by decide +kernel
theorem dX3_type_7 : decode cX3_type 7 = .ok (.bipush 126, 2) := by decide +kernel
theorem dX3_type_9 : decode cX3_type 9 = .ok (.if_icmp .gt 15, 3) := by decide +kernel
theorem dX3_type_12 : decode cX3_type 12 = .ok (.aload_n 0, 1) := by decide +kernel
theorem dX3_type_13 : decode cX3_type 13 = .ok (.getfield 56, 3) := by decide +kernel
theorem dX3_type_16 : decode cX3_type 16 = .ok (.getfield 162, 3) := by decide +kernel
theorem dX3_type_19 : decode cX3_type 19 = .ok (.bipush 48, 2) := by decide +kernel
theorem dX3_type_21 : decode cX3_type 21 = .ok (.if_icmp .lt 6, 3) := by decide +kernel
theorem dX3_type_24 : decode cX3_type 24 = .ok (.bipush (-15), 2) := by decide +kernel
theorem dX3_type_26 : decode cX3_type 26 = .ok (.ireturn, 1) := by decide +kernel
theorem dX3_type_27 : decode cX3_type 27 = .ok (.aload_n 0, 1) := by decide +kernel
theorem dX3_type_28 : decode cX3_type 28 = .ok (.getfield 56, 3) := by decide +kernel
theorem dX3_type_31 : decode cX3_type 31 = .ok (.iload_n 1, 1) := by decide +kernel
theorem dX3_type_32 : decode cX3_type 32 = .ok (.invokevirtual 168, 3) := by decide +kernel
theorem dX3_type_35 : decode cX3_type 35 = .ok (.aload_n 0, 1) := by decide +kernel
theorem dX3_type_36 : decode cX3_type 36 = .ok (.getfield 56, 3) := by decide +kernel
theorem dX3_type_39 : decode cX3_type 39 = .ok (.getfield 162, 3) := by decide +kernel
theorem dX3_type_42 : decode cX3_type 42 = .ok (.ireturn, 1) := by decide +kernel
theorem dX3_wipe_0 : decode cX3_wipe 0 = .ok (.aload_n 0, 1) := by decide +kernel
theorem dX3_wipe_1 : decode cX3_wipe 1 = .ok (.getfield 56, 3) := by decide +kernel
theorem dX3_wipe_4 : decode cX3_wipe 4 = .ok (.iconst 0, 1) := by decide +kernel
theorem dX3_wipe_5 : decode cX3_wipe 5 = .ok (.putfield 162, 3) := by decide +kernel
theorem dX3_wipe_8 : decode cX3_wipe 8 = .ok (.return_, 1) := by decide +kernel
theorem dX3_letter_0 : decode cX3_letter 0 = .ok (.iload_n 1, 1) := by decide +kernel
theorem dX3_letter_1 : decode cX3_letter 1 = .ok (.ifCond .lt 14, 3) := by decide +kernel
theorem dX3_letter_4 : decode cX3_letter 4 = .ok (.iload_n 1, 1) := by decide +kernel
theorem dX3_letter_5 : decode cX3_letter 5 = .ok (.aload_n 0, 1) := by decide +kernel
theorem dX3_letter_6 : decode cX3_letter 6 = .ok (.getfield 56, 3) := by decide +kernel
theorem dX3_letter_9 : decode cX3_letter 9 = .ok (.getfield 162, 3) := by decide +kernel
theorem dX3_letter_12 : decode cX3_letter 12 = .ok (.if_icmp .lt 6, 3) := by decide +kernel
theorem dX3_letter_15 : decode cX3_letter 15 = .ok (.bipush (-15), 2) := by decide +kernel
theorem dX3_letter_17 : decode cX3_letter 17 = .ok (.ireturn, 1) := by decide +kernel
theorem dX3_letter_18 : decode cX3_letter 18 = .ok (.aload_n 0, 1) := by decide +kernel
theorem dX3_letter_19 : decode cX3_letter 19 = .ok (.getfield 56, 3) := by decide +kernel
theorem dX3_letter_22 : decode cX3_letter 22 = .ok (.getfield 175, 3) := by decide +kernel
theorem dX3_letter_25 : decode cX3_letter 25 = .ok (.iload_n 1, 1) := by decide +kernel
theorem dX3_letter_26 : decode cX3_letter 26 = .ok (.iaload, 1) := by decide +kernel
theorem dX3_letter_27 : decode cX3_letter 27 = .ok (.ireturn, 1) := by decide +kernel
theorem dX3_parse_0 : decode cX3_parse 0 = .ok (.iload_n 1, 1) := by decide +kernel
theorem dX3_parse_1 : decode cX3_parse 1 = .ok (.invokestatic 60, 3) := by decide +kernel
theorem dX3_parse_4 : decode cX3_parse 4 = .ok (.ifCond .eq 13, 3) := by decide +kernel
theorem dX3_parse_7 : decode cX3_parse 7 = .ok (.iload_n 3, 1) := by decide +kernel
theorem dX3_parse_8 : decode cX3_parse 8 = .ok (.ifCond .lt 9, 3) := by decide +kernel
