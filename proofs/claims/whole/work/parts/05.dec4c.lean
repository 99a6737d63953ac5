theorem dX4_round_159 : decode cX4_round 159 = .ok (.iload_n 2, 1) := by decide +kernel
theorem dX4_round_160 : decode cX4_round 160 = .ok (.baload, 1) := by decide +kernel
theorem dX4_round_161 : decode cX4_round 161 = .ok (.aload_n 0, 1) := by decide +kernel
theorem dX4_round_162 : decode cX4_round 162 = .ok (.getfield 17, 3) := by decide +kernel
theorem dX4_round_165 : decode cX4_round 165 = .ok (.iload_n 2, 1) := by decide +kernel
theorem dX4_round_166 : decode cX4_round 166 = .ok (.baload, 1) := by decide +kernel
theorem dX4_round_167 : decode cX4_round 167 = .ok (.aload_n 0, 1) := by decide +kernel
theorem dX4_round_168 : decode cX4_round 168 = .ok (.getfield 29, 3) := by decide +kernel
theorem dX4_round_171 : decode cX4_round 171 = .ok (.invokevirtual 119, 3) := by decide +kernel
theorem dX4_round_174 : decode cX4_round 174 = .ok (.goto 5, 3) := by decide +kernel
theorem dX4_round_177 : decode cX4_round 177 = .ok (.bipush (-13), 2) := by decide +kernel
theorem dX4_round_179 : decode cX4_round 179 = .ok (.ireturn, 1) := by decide +kernel
theorem dX4_step_0 : decode cX4_step 0 = .ok (.aload_n 0, 1) := by decide +kernel
theorem dX4_step_1 : decode cX4_step 1 = .ok (.getfield 35, 3) := by decide +kernel
theorem dX4_step_4 : decode cX4_step 4 = .ok (.iload_n 2, 1) := by decide +kernel
theorem dX4_step_5 : decode cX4_step 5 = .ok (.i2l, 1) := by decide +kernel
theorem dX4_step_6 : decode cX4_step 6 = .ok (.invokestatic 100, 3) := by decide +kernel
theorem dX4_step_9 : decode cX4_step 9 = .ok (.aload_n 0, 1) := by decide +kernel
theorem dX4_step_10 : decode cX4_step 10 = .ok (.getfield 35, 3) := by decide +kernel
theorem dX4_step_13 : decode cX4_step 13 = .ok (.bipush 10, 2) := by decide +kernel
theorem dX4_step_15 : decode cX4_step 15 = .ok (.iload_n 1, 1) := by decide +kernel
theorem dX4_step_16 : decode cX4_step 16 = .ok (.invokestatic 141, 3) := by decide +kernel
theorem dX4_step_19 : decode cX4_step 19 = .ok (.isub, 1) := by decide +kernel
theorem dX4_step_20 : decode cX4_step 20 = .ok (.invokestatic 82, 3) := by decide +kernel
theorem dX4_step_23 : decode cX4_step 23 = .ok (.return_, 1) := by decide +kernel
theorem dX4_digitsOf_0 : decode cX4_digitsOf 0 = .ok (.iload_n 0, 1) := by decide +kernel
theorem dX4_digitsOf_1 : decode cX4_digitsOf 1 = .ok (.iconst 1, 1) := by decide +kernel
theorem dX4_digitsOf_2 : decode cX4_digitsOf 2 = .ok (.if_icmp .ne 7, 3) := by decide +kernel
theorem dX4_digitsOf_5 : decode cX4_digitsOf 5 = .ok (.iconst 0, 1) := by decide +kernel
theorem dX4_digitsOf_6 : decode cX4_digitsOf 6 = .ok (.goto 31, 3) := by decide +kernel
theorem dX4_digitsOf_9 : decode cX4_digitsOf 9 = .ok (.iload_n 0, 1) := by decide +kernel
theorem dX4_digitsOf_10 : decode cX4_digitsOf 10 = .ok (.iconst 2, 1) := by decide +kernel
theorem dX4_digitsOf_11 : decode cX4_digitsOf 11 = .ok (.if_icmp .ne 7, 3) := by decide +kernel
theorem dX4_digitsOf_14 : decode cX4_digitsOf 14 = .ok (.iconst 3, 1) := by decide +kernel
theorem dX4_digitsOf_15 : decode cX4_digitsOf 15 = .ok (.goto 22, 3) := by decide +kernel
theorem dX4_digitsOf_18 : decode cX4_digitsOf 18 = .ok (.iload_n 0, 1) := by decide +kernel
theorem dX4_digitsOf_19 : decode cX4_digitsOf 19 = .ok (.iconst 3, 1) := by decide +kernel
theorem dX4_digitsOf_20 : decode cX4_digitsOf 20 = .ok (.if_icmp .ne 7, 3) := by decide +kernel
theorem dX4_digitsOf_23 : decode cX4_digitsOf 23 = .ok (.iconst 4, 1) := by decide +kernel
theorem dX4_digitsOf_24 : decode cX4_digitsOf 24 = .ok (.goto 13, 3) := by decide +kernel
theorem dX4_digitsOf_27 : decode cX4_digitsOf 27 = .ok (.iload_n 0, 1) := by decide +kernel
theorem dX4_digitsOf_28 : decode cX4_digitsOf 28 = .ok (.iconst 5, 1) := by decide +kernel
theorem dX4_digitsOf_29 : decode cX4_digitsOf 29 = .ok (.if_icmp .ne 7, 3) := by decide +kernel
theorem dX4_digitsOf_32 : decode cX4_digitsOf 32 = .ok (.iconst 1, 1) := by decide +kernel
theorem dX4_digitsOf_33 : decode cX4_digitsOf 33 = .ok (.goto 4, 3) := by decide +kernel
theorem dX4_digitsOf_36 : decode cX4_digitsOf 36 = .ok (.iconst 2, 1) := by decide +kernel
theorem dX4_digitsOf_37 : decode cX4_digitsOf 37 = .ok (.ireturn, 1) := by decide +kernel
theorem dX4_ratio_0 : decode cX4_ratio 0 = .ok (.iload_n 1, 1) := by decide +kernel
theorem dX4_ratio_1 : decode cX4_ratio 1 = .ok (.bipush 8, 2) := by decide +kernel
theorem dX4_ratio_3 : decode cX4_ratio 3 = .ok (.invokestatic 123, 3) := by decide +kernel
theorem dX4_ratio_6 : decode cX4_ratio 6 = .ok (.ifCond .ne 12, 3) := by decide +kernel
theorem dX4_ratio_9 : decode cX4_ratio 9 = .ok (.iload_n 2, 1) := by decide +kernel
theorem dX4_ratio_10 : decode cX4_ratio 10 = .ok (.ldc 149, 2) := by decide +kernel
theorem dX4_ratio_12 : decode cX4_ratio 12 = .ok (.invokestatic 123, 3) := by decide +kernel
theorem dX4_ratio_15 : decode cX4_ratio 15 = .ok (.ifCond .eq 5, 3) := by decide +kernel
theorem dX4_ratio_18 : decode cX4_ratio 18 = .ok (.iconst 0, 1) := by decide +kernel
theorem dX4_ratio_19 : decode cX4_ratio 19 = .ok (.ireturn, 1) := by decide +kernel
theorem dX4_ratio_20 : decode cX4_ratio 20 = .ok (.aload_n 0, 1) := by decide +kernel
theorem dX4_ratio_21 : decode cX4_ratio 21 = .ok (.getfield 23, 3) := by decide +kernel
theorem dX4_ratio_24 : decode cX4_ratio 24 = .ok (.iload_n 1, 1) := by decide +kernel
theorem dX4_ratio_25 : decode cX4_ratio 25 = .ok (.iload_n 2, 1) := by decide +kernel
theorem dX4_ratio_26 : decode cX4_ratio 26 = .ok (.iastore, 1) := by decide +kernel
theorem dX4_ratio_27 : decode cX4_ratio 27 = .ok (.iconst 1, 1) := by decide +kernel
theorem dX4_ratio_28 : decode cX4_ratio 28 = .ok (.ireturn, 1) := by decide +kernel
theorem dX4_allocate_0 : decode cX4_allocate 0 = .ok (.iload_n 1, 1) := by decide +kernel
theorem dX4_allocate_1 : decode cX4_allocate 1 = .ok (.bipush 8, 2) := by decide +kernel
theorem dX4_allocate_3 : decode cX4_allocate 3 = .ok (.invokestatic 123, 3) := by decide +kernel
theorem dX4_allocate_6 : decode cX4_allocate 6 = .ok (.ifCond .ne 37, 3) := by decide +kernel
theorem dX4_allocate_9 : decode cX4_allocate 9 = .ok (.iload_n 2, 1) := by decide +kernel
theorem dX4_allocate_10 : decode cX4_allocate 10 = .ok (.bipush 8, 2) := by decide +kernel
theorem dX4_allocate_12 : decode cX4_allocate 12 = .ok (.invokestatic 123, 3) := by decide +kernel
theorem dX4_allocate_15 : decode cX4_allocate 15 = .ok (.ifCond .ne 28, 3) := by decide +kernel
theorem dX4_allocate_18 : decode cX4_allocate 18 = .ok (.iload_n 3, 1) := by decide +kernel
theorem dX4_allocate_19 : decode cX4_allocate 19 = .ok (.iconst 1, 1) := by decide +kernel
theorem dX4_allocate_20 : decode cX4_allocate 20 = .ok (.if_icmp .lt 23, 3) := by decide +kernel
theorem dX4_allocate_23 : decode cX4_allocate 23 = .ok (.iload_n 3, 1) := by decide +kernel
theorem dX4_allocate_24 : decode cX4_allocate 24 = .ok (.bipush 8, 2) := by decide +kernel
theorem dX4_allocate_26 : decode cX4_allocate 26 = .ok (.iload_n 2, 1) := by decide +kernel
theorem dX4_allocate_27 : decode cX4_allocate 27 = .ok (.isub, 1) := by decide +kernel
theorem dX4_allocate_28 : decode cX4_allocate 28 = .ok (.if_icmp .gt 15, 3) := by decide +kernel
theorem dX4_allocate_31 : decode cX4_allocate 31 = .ok (.iload_n 1, 1) := by decide +kernel
theorem dX4_allocate_32 : decode cX4_allocate 32 = .ok (.iload_n 2, 1) := by decide +kernel
theorem dX4_allocate_33 : decode cX4_allocate 33 = .ok (.if_icmp .lt 13, 3) := by decide +kernel
theorem dX4_allocate_36 : decode cX4_allocate 36 = .ok (.iload_n 1, 1) := by decide +kernel
theorem dX4_allocate_37 : decode cX4_allocate 37 = .ok (.iload_n 2, 1) := by decide +kernel
theorem dX4_allocate_38 : decode cX4_allocate 38 = .ok (.iload_n 3, 1) := by decide +kernel
theorem dX4_allocate_39 : decode cX4_allocate 39 = .ok (.iadd, 1) := by decide +kernel
theorem dX4_allocate_40 : decode cX4_allocate 40 = .ok (.if_icmp .ge 6, 3) := by decide +kernel
theorem dX4_allocate_43 : decode cX4_allocate 43 = .ok (.bipush (-15), 2) := by decide +kernel
theorem dX4_allocate_45 : decode cX4_allocate 45 = .ok (.ireturn, 1) := by decide +kernel
theorem dX4_allocate_46 : decode cX4_allocate 46 = .ok (.iconst 0, 1) := by decide +kernel
theorem dX4_allocate_47 : decode cX4_allocate 47 = .ok (.istore 4, 2) := by decide +kernel
theorem dX4_allocate_49 : decode cX4_allocate 49 = .ok (.iconst 0, 1) := by decide +kernel
theorem dX4_allocate_50 : decode cX4_allocate 50 = .ok (.istore 5, 2) := by decide +kernel
theorem dX4_allocate_52 : decode cX4_allocate 52 = .ok (.iload 5, 2) := by decide +kernel
theorem dX4_allocate_54 : decode cX4_allocate 54 = .ok (.iload_n 3, 1) := by decide +kernel
theorem dX4_allocate_55 : decode cX4_allocate 55 = .ok (.if_icmp .ge 21, 3) := by decide +kernel
theorem dX4_allocate_58 : decode cX4_allocate 58 = .ok (.iload 4, 2) := by decide +kernel
theorem dX4_allocate_60 : decode cX4_allocate 60 = .ok (.aload_n 0, 1) := by decide +kernel
theorem dX4_allocate_61 : decode cX4_allocate 61 = .ok (.getfield 23, 3) := by decide +kernel
theorem dX4_allocate_64 : decode cX4_allocate 64 = .ok (.iload 5, 2) := by decide +kernel
theorem dX4_allocate_66 : decode cX4_allocate 66 = .ok (.iaload, 1) := by decide +kernel
theorem dX4_allocate_67 : decode cX4_allocate 67 = .ok (.iadd, 1) := by decide +kernel
theorem dX4_allocate_68 : decode cX4_allocate 68 = .ok (.istore 4, 2) := by decide +kernel
theorem dX4_allocate_70 : decode cX4_allocate 70 = .ok (.iinc 5 1, 3) := by decide +kernel
theorem dX4_allocate_73 : decode cX4_allocate 73 = .ok (.goto (-21), 3) := by decide +kernel
theorem dX4_allocate_76 : decode cX4_allocate 76 = .ok (.iload 4, 2) := by decide +kernel
theorem dX4_allocate_78 : decode cX4_allocate 78 = .ok (.ifCond .ne 6, 3) := by decide +kernel
theorem dX4_allocate_81 : decode cX4_allocate 81 = .ok (.bipush (-15), 2) := by decide +kernel
theorem dX4_allocate_83 : decode cX4_allocate 83 = .ok (.ireturn, 1) := by decide +kernel
theorem dX4_allocate_84 : decode cX4_allocate 84 = .ok (.aload_n 0, 1) := by decide +kernel
theorem dX4_allocate_85 : decode cX4_allocate 85 = .ok (.getfield 7, 3) := by decide +kernel
theorem dX4_allocate_88 : decode cX4_allocate 88 = .ok (.iload_n 1, 1) := by decide +kernel
theorem dX4_allocate_89 : decode cX4_allocate 89 = .ok (.iaload, 1) := by decide +kernel
theorem dX4_allocate_90 : decode cX4_allocate 90 = .ok (.ifCond .ge 6, 3) := by decide +kernel
theorem dX4_allocate_93 : decode cX4_allocate 93 = .ok (.bipush (-11), 2) := by decide +kernel
theorem dX4_allocate_95 : decode cX4_allocate 95 = .ok (.ireturn, 1) := by decide +kernel
theorem dX4_allocate_96 : decode cX4_allocate 96 = .ok (.aload_n 0, 1) := by decide +kernel
theorem dX4_allocate_97 : decode cX4_allocate 97 = .ok (.aload_n 0, 1) := by decide +kernel
theorem dX4_allocate_98 : decode cX4_allocate 98 = .ok (.getfield 7, 3) := by decide +kernel
theorem dX4_allocate_101 : decode cX4_allocate 101 = .ok (.iload_n 1, 1) := by decide +kernel
theorem dX4_allocate_102 : decode cX4_allocate 102 = .ok (.iaload, 1) := by decide +kernel
theorem dX4_allocate_103 : decode cX4_allocate 103 = .ok (.iconst 1, 1) := by decide +kernel
theorem dX4_allocate_104 : decode cX4_allocate 104 = .ok (.invokevirtual 145, 3) := by decide +kernel
theorem dX4_allocate_107 : decode cX4_allocate 107 = .ok (.aload_n 0, 1) := by decide +kernel
theorem dX4_allocate_108 : decode cX4_allocate 108 = .ok (.aload_n 0, 1) := by decide +kernel
theorem dX4_allocate_109 : decode cX4_allocate 109 = .ok (.getfield 29, 3) := by decide +kernel
theorem dX4_allocate_112 : decode cX4_allocate 112 = .ok (.iload_n 1, 1) := by decide +kernel
theorem dX4_allocate_113 : decode cX4_allocate 113 = .ok (.invokevirtual 131, 3) := by decide +kernel
theorem dX4_allocate_116 : decode cX4_allocate 116 = .ok (.aload_n 0, 1) := by decide +kernel
theorem dX4_allocate_117 : decode cX4_allocate 117 = .ok (.invokevirtual 108, 3) := by decide +kernel
theorem dX4_allocate_120 : decode cX4_allocate 120 = .ok (.aload_n 0, 1) := by decide +kernel
theorem dX4_allocate_121 : decode cX4_allocate 121 = .ok (.getfield 41, 3) := by decide +kernel
theorem dX4_allocate_124 : decode cX4_allocate 124 = .ok (.invokestatic 78, 3) := by decide +kernel
theorem dX4_allocate_127 : decode cX4_allocate 127 = .ok (.ifCond .eq 6, 3) := by decide +kernel
theorem dX4_allocate_130 : decode cX4_allocate 130 = .ok (.bipush (-16), 2) := by decide +kernel
theorem dX4_allocate_132 : decode cX4_allocate 132 = .ok (.ireturn, 1) := by decide +kernel
theorem dX4_allocate_133 : decode cX4_allocate 133 = .ok (.aload_n 0, 1) := by decide +kernel
theorem dX4_allocate_134 : decode cX4_allocate 134 = .ok (.getfield 38, 3) := by decide +kernel
theorem dX4_allocate_137 : decode cX4_allocate 137 = .ok (.aload_n 0, 1) := by decide +kernel
theorem dX4_allocate_138 : decode cX4_allocate 138 = .ok (.getfield 47, 3) := by decide +kernel
theorem dX4_allocate_141 : decode cX4_allocate 141 = .ok (.invokestatic 94, 3) := by decide +kernel
theorem dX4_allocate_144 : decode cX4_allocate 144 = .ok (.iconst 0, 1) := by decide +kernel
theorem dX4_allocate_145 : decode cX4_allocate 145 = .ok (.istore 5, 2) := by decide +kernel
theorem dX4_allocate_147 : decode cX4_allocate 147 = .ok (.iload 5, 2) := by decide +kernel
theorem dX4_allocate_149 : decode cX4_allocate 149 = .ok (.iload_n 3, 1) := by decide +kernel
theorem dX4_allocate_150 : decode cX4_allocate 150 = .ok (.if_icmp .ge 17, 3) := by decide +kernel
theorem dX4_allocate_153 : decode cX4_allocate 153 = .ok (.aload_n 0, 1) := by decide +kernel
theorem dX4_allocate_154 : decode cX4_allocate 154 = .ok (.iload 5, 2) := by decide +kernel
theorem dX4_allocate_156 : decode cX4_allocate 156 = .ok (.iload 4, 2) := by decide +kernel
theorem dX4_allocate_158 : decode cX4_allocate 158 = .ok (.invokevirtual 153, 3) := by decide +kernel
theorem dX4_allocate_161 : decode cX4_allocate 161 = .ok (.iinc 5 1, 3) := by decide +kernel
theorem dX4_allocate_164 : decode cX4_allocate 164 = .ok (.goto (-17), 3) := by decide +kernel
theorem dX4_allocate_167 : decode cX4_allocate 167 = .ok (.aload_n 0, 1) := by decide +kernel
theorem dX4_allocate_168 : decode cX4_allocate 168 = .ok (.iload_n 3, 1) := by decide +kernel
theorem dX4_allocate_169 : decode cX4_allocate 169 = .ok (.invokevirtual 156, 3) := by decide +kernel
theorem dX4_allocate_172 : decode cX4_allocate 172 = .ok (.istore 5, 2) := by decide +kernel
theorem dX4_allocate_174 : decode cX4_allocate 174 = .ok (.iconst 0, 1) := by decide +kernel
theorem dX4_allocate_175 : decode cX4_allocate 175 = .ok (.istore 6, 2) := by decide +kernel
theorem dX4_allocate_177 : decode cX4_allocate 177 = .ok (.iload 6, 2) := by decide +kernel
theorem dX4_allocate_179 : decode cX4_allocate 179 = .ok (.iload 5, 2) := by decide +kernel
theorem dX4_allocate_181 : decode cX4_allocate 181 = .ok (.if_icmp .ge 76, 3) := by decide +kernel
theorem dX4_allocate_184 : decode cX4_allocate 184 = .ok (.iconst (-1), 1) := by decide +kernel
theorem dX4_allocate_185 : decode cX4_allocate 185 = .ok (.istore 7, 2) := by decide +kernel
theorem dX4_allocate_187 : decode cX4_allocate 187 = .ok (.iconst 0, 1) := by decide +kernel
theorem dX4_allocate_188 : decode cX4_allocate 188 = .ok (.istore 8, 2) := by decide +kernel
theorem dX4_allocate_190 : decode cX4_allocate 190 = .ok (.iload 8, 2) := by decide +kernel
theorem dX4_allocate_192 : decode cX4_allocate 192 = .ok (.iload_n 3, 1) := by decide +kernel
theorem dX4_allocate_193 : decode cX4_allocate 193 = .ok (.if_icmp .ge 50, 3) := by decide +kernel
theorem dX4_allocate_196 : decode cX4_allocate 196 = .ok (.aload_n 0, 1) := by decide +kernel
theorem dX4_allocate_197 : decode cX4_allocate 197 = .ok (.getfield 56, 3) := by decide +kernel
theorem dX4_allocate_200 : decode cX4_allocate 200 = .ok (.iload 8, 2) := by decide +kernel
theorem dX4_allocate_202 : decode cX4_allocate 202 = .ok (.baload, 1) := by decide +kernel
theorem dX4_allocate_203 : decode cX4_allocate 203 = .ok (.ifCond .ne 30, 3) := by decide +kernel
theorem dX4_allocate_206 : decode cX4_allocate 206 = .ok (.iload 7, 2) := by decide +kernel
theorem dX4_allocate_208 : decode cX4_allocate 208 = .ok (.ifCond .lt 20, 3) := by decide +kernel
theorem dX4_allocate_211 : decode cX4_allocate 211 = .ok (.aload_n 0, 1) := by decide +kernel
theorem dX4_allocate_212 : decode cX4_allocate 212 = .ok (.getfield 53, 3) := by decide +kernel
theorem dX4_allocate_215 : decode cX4_allocate 215 = .ok (.iload 8, 2) := by decide +kernel
theorem dX4_allocate_217 : decode cX4_allocate 217 = .ok (.iaload, 1) := by decide +kernel
theorem dX4_allocate_218 : decode cX4_allocate 218 = .ok (.aload_n 0, 1) := by decide +kernel
theorem dX4_allocate_219 : decode cX4_allocate 219 = .ok (.getfield 53, 3) := by decide +kernel
theorem dX4_allocate_222 : decode cX4_allocate 222 = .ok (.iload 7, 2) := by decide +kernel
theorem dX4_allocate_224 : decode cX4_allocate 224 = .ok (.iaload, 1) := by decide +kernel
theorem dX4_allocate_225 : decode cX4_allocate 225 = .ok (.if_icmp .le 8, 3) := by decide +kernel
theorem dX4_allocate_228 : decode cX4_allocate 228 = .ok (.iload 8, 2) := by decide +kernel
theorem dX4_allocate_230 : decode cX4_allocate 230 = .ok (.goto 5, 3) := by decide +kernel
theorem dX4_allocate_233 : decode cX4_allocate 233 = .ok (.iload 7, 2) := by decide +kernel
theorem dX4_allocate_235 : decode cX4_allocate 235 = .ok (.istore 7, 2) := by decide +kernel
theorem dX4_allocate_237 : decode cX4_allocate 237 = .ok (.iinc 8 1, 3) := by decide +kernel
theorem dX4_allocate_240 : decode cX4_allocate 240 = .ok (.goto (-50), 3) := by decide +kernel
theorem dX4_allocate_243 : decode cX4_allocate 243 = .ok (.aload_n 0, 1) := by decide +kernel
theorem dX4_allocate_244 : decode cX4_allocate 244 = .ok (.getfield 56, 3) := by decide +kernel
theorem dX4_allocate_247 : decode cX4_allocate 247 = .ok (.iload 7, 2) := by decide +kernel
theorem dX4_allocate_249 : decode cX4_allocate 249 = .ok (.iconst 1, 1) := by decide +kernel
theorem dX4_allocate_250 : decode cX4_allocate 250 = .ok (.bastore, 1) := by decide +kernel
theorem dX4_allocate_251 : decode cX4_allocate 251 = .ok (.iinc 6 1, 3) := by decide +kernel
theorem dX4_allocate_254 : decode cX4_allocate 254 = .ok (.goto (-77), 3) := by decide +kernel
theorem dX4_allocate_257 : decode cX4_allocate 257 = .ok (.iconst 0, 1) := by decide +kernel
theorem dX4_allocate_258 : decode cX4_allocate 258 = .ok (.istore 6, 2) := by decide +kernel
theorem dX4_allocate_260 : decode cX4_allocate 260 = .ok (.iload 6, 2) := by decide +kernel
theorem dX4_allocate_262 : decode cX4_allocate 262 = .ok (.iload_n 3, 1) := by decide +kernel
theorem dX4_allocate_263 : decode cX4_allocate 263 = .ok (.if_icmp .ge 59, 3) := by decide +kernel
theorem dX4_allocate_266 : decode cX4_allocate 266 = .ok (.aload_n 0, 1) := by decide +kernel
theorem dX4_allocate_267 : decode cX4_allocate 267 = .ok (.iload 6, 2) := by decide +kernel
theorem dX4_allocate_269 : decode cX4_allocate 269 = .ok (.bipush 10, 2) := by decide +kernel
theorem dX4_allocate_271 : decode cX4_allocate 271 = .ok (.aload_n 0, 1) := by decide +kernel
theorem dX4_allocate_272 : decode cX4_allocate 272 = .ok (.getfield 7, 3) := by decide +kernel
theorem dX4_allocate_275 : decode cX4_allocate 275 = .ok (.iload_n 1, 1) := by decide +kernel
theorem dX4_allocate_276 : decode cX4_allocate 276 = .ok (.iaload, 1) := by decide +kernel
theorem dX4_allocate_277 : decode cX4_allocate 277 = .ok (.invokestatic 141, 3) := by decide +kernel
theorem dX4_allocate_280 : decode cX4_allocate 280 = .ok (.isub, 1) := by decide +kernel
theorem dX4_allocate_281 : decode cX4_allocate 281 = .ok (.invokevirtual 159, 3) := by decide +kernel
theorem dX4_allocate_284 : decode cX4_allocate 284 = .ok (.aload_n 0, 1) := by decide +kernel
theorem dX4_allocate_285 : decode cX4_allocate 285 = .ok (.iload_n 2, 1) := by decide +kernel
theorem dX4_allocate_286 : decode cX4_allocate 286 = .ok (.iload 6, 2) := by decide +kernel
theorem dX4_allocate_288 : decode cX4_allocate 288 = .ok (.iadd, 1) := by decide +kernel
theorem dX4_allocate_289 : decode cX4_allocate 289 = .ok (.aload_n 0, 1) := by decide +kernel
theorem dX4_allocate_290 : decode cX4_allocate 290 = .ok (.getfield 7, 3) := by decide +kernel
theorem dX4_allocate_293 : decode cX4_allocate 293 = .ok (.iload_n 1, 1) := by decide +kernel
theorem dX4_allocate_294 : decode cX4_allocate 294 = .ok (.iaload, 1) := by decide +kernel
theorem dX4_allocate_295 : decode cX4_allocate 295 = .ok (.aload_n 0, 1) := by decide +kernel
theorem dX4_allocate_296 : decode cX4_allocate 296 = .ok (.getfield 13, 3) := by decide +kernel
theorem dX4_allocate_299 : decode cX4_allocate 299 = .ok (.iload_n 1, 1) := by decide +kernel
theorem dX4_allocate_300 : decode cX4_allocate 300 = .ok (.baload, 1) := by decide +kernel
theorem dX4_allocate_301 : decode cX4_allocate 301 = .ok (.aload_n 0, 1) := by decide +kernel
theorem dX4_allocate_302 : decode cX4_allocate 302 = .ok (.getfield 17, 3) := by decide +kernel
theorem dX4_allocate_305 : decode cX4_allocate 305 = .ok (.iload_n 1, 1) := by decide +kernel
theorem dX4_allocate_306 : decode cX4_allocate 306 = .ok (.baload, 1) := by decide +kernel
theorem dX4_allocate_307 : decode cX4_allocate 307 = .ok (.aload_n 0, 1) := by decide +kernel
theorem dX4_allocate_308 : decode cX4_allocate 308 = .ok (.getfield 29, 3) := by decide +kernel
theorem dX4_allocate_311 : decode cX4_allocate 311 = .ok (.invokevirtual 119, 3) := by decide +kernel
theorem dX4_allocate_314 : decode cX4_allocate 314 = .ok (.istore 7, 2) := by decide +kernel
theorem dX4_allocate_316 : decode cX4_allocate 316 = .ok (.iinc 6 1, 3) := by decide +kernel
theorem dX4_allocate_319 : decode cX4_allocate 319 = .ok (.goto (-59), 3) := by decide +kernel
theorem dX4_allocate_322 : decode cX4_allocate 322 = .ok (.iconst 0, 1) := by decide +kernel
theorem dX4_allocate_323 : decode cX4_allocate 323 = .ok (.ireturn, 1) := by decide +kernel
theorem dX4_cut_0 : decode cX4_cut 0 = .ok (.aload_n 0, 1) := by decide +kernel
theorem dX4_cut_1 : decode cX4_cut 1 = .ok (.getfield 44, 3) := by decide +kernel
theorem dX4_cut_4 : decode cX4_cut 4 = .ok (.aload_n 0, 1) := by decide +kernel
theorem dX4_cut_5 : decode cX4_cut 5 = .ok (.getfield 23, 3) := by decide +kernel
theorem dX4_cut_8 : decode cX4_cut 8 = .ok (.iload_n 1, 1) := by decide +kernel
theorem dX4_cut_9 : decode cX4_cut 9 = .ok (.iaload, 1) := by decide +kernel
theorem dX4_cut_10 : decode cX4_cut 10 = .ok (.i2l, 1) := by decide +kernel
theorem dX4_cut_11 : decode cX4_cut 11 = .ok (.invokestatic 100, 3) := by decide +kernel
theorem dX4_cut_14 : decode cX4_cut 14 = .ok (.aload_n 0, 1) := by decide +kernel
theorem dX4_cut_15 : decode cX4_cut 15 = .ok (.aload_n 0, 1) := by decide +kernel
theorem dX4_cut_16 : decode cX4_cut 16 = .ok (.getfield 47, 3) := by decide +kernel
theorem dX4_cut_19 : decode cX4_cut 19 = .ok (.aload_n 0, 1) := by decide +kernel
theorem dX4_cut_20 : decode cX4_cut 20 = .ok (.getfield 44, 3) := by decide +kernel
theorem dX4_cut_23 : decode cX4_cut 23 = .ok (.invokevirtual 138, 3) := by decide +kernel
theorem dX4_cut_26 : decode cX4_cut 26 = .ok (.aload_n 0, 1) := by decide +kernel
theorem dX4_cut_27 : decode cX4_cut 27 = .ok (.getfield 35, 3) := by decide +kernel
theorem dX4_cut_30 : decode cX4_cut 30 = .ok (.iload_n 2, 1) := by decide +kernel
theorem dX4_cut_31 : decode cX4_cut 31 = .ok (.i2l, 1) := by decide +kernel
theorem dX4_cut_32 : decode cX4_cut 32 = .ok (.invokestatic 100, 3) := by decide +kernel
theorem dX4_cut_35 : decode cX4_cut 35 = .ok (.aload_n 0, 1) := by decide +kernel
theorem dX4_cut_36 : decode cX4_cut 36 = .ok (.invokevirtual 108, 3) := by decide +kernel
theorem dX4_cut_39 : decode cX4_cut 39 = .ok (.iconst 0, 1) := by decide +kernel
theorem dX4_cut_40 : decode cX4_cut 40 = .ok (.istore_n 3, 1) := by decide +kernel
theorem dX4_cut_41 : decode cX4_cut 41 = .ok (.iload_n 3, 1) := by decide +kernel
theorem dX4_cut_42 : decode cX4_cut 42 = .ok (.bipush 40, 2) := by decide +kernel
theorem dX4_cut_44 : decode cX4_cut 44 = .ok (.if_icmp .ge 26, 3) := by decide +kernel
theorem dX4_cut_47 : decode cX4_cut 47 = .ok (.aload_n 0, 1) := by decide +kernel
theorem dX4_cut_48 : decode cX4_cut 48 = .ok (.getfield 50, 3) := by decide +kernel
theorem dX4_cut_51 : decode cX4_cut 51 = .ok (.bipush 40, 2) := by decide +kernel
theorem dX4_cut_53 : decode cX4_cut 53 = .ok (.iload_n 1, 1) := by decide +kernel
theorem dX4_cut_54 : decode cX4_cut 54 = .ok (.imul, 1) := by decide +kernel
theorem dX4_cut_55 : decode cX4_cut 55 = .ok (.iload_n 3, 1) := by decide +kernel
theorem dX4_cut_56 : decode cX4_cut 56 = .ok (.iadd, 1) := by decide +kernel
theorem dX4_cut_57 : decode cX4_cut 57 = .ok (.aload_n 0, 1) := by decide +kernel
theorem dX4_cut_58 : decode cX4_cut 58 = .ok (.getfield 38, 3) := by decide +kernel
theorem dX4_cut_61 : decode cX4_cut 61 = .ok (.iload_n 3, 1) := by decide +kernel
theorem dX4_cut_62 : decode cX4_cut 62 = .ok (.iaload, 1) := by decide +kernel
theorem dX4_cut_63 : decode cX4_cut 63 = .ok (.iastore, 1) := by decide +kernel
theorem dX4_cut_64 : decode cX4_cut 64 = .ok (.iinc 3 1, 3) := by decide +kernel
theorem dX4_cut_67 : decode cX4_cut 67 = .ok (.goto (-26), 3) := by decide +kernel
theorem dX4_cut_70 : decode cX4_cut 70 = .ok (.aload_n 0, 1) := by decide +kernel
theorem dX4_cut_71 : decode cX4_cut 71 = .ok (.getfield 53, 3) := by decide +kernel
theorem dX4_cut_74 : decode cX4_cut 74 = .ok (.iload_n 1, 1) := by decide +kernel
theorem dX4_cut_75 : decode cX4_cut 75 = .ok (.aload_n 0, 1) := by decide +kernel
theorem dX4_cut_76 : decode cX4_cut 76 = .ok (.getfield 41, 3) := by decide +kernel
theorem dX4_cut_79 : decode cX4_cut 79 = .ok (.invokestatic 150, 3) := by decide +kernel
theorem dX4_cut_82 : decode cX4_cut 82 = .ok (.iastore, 1) := by decide +kernel
theorem dX4_cut_83 : decode cX4_cut 83 = .ok (.aload_n 0, 1) := by decide +kernel
theorem dX4_cut_84 : decode cX4_cut 84 = .ok (.getfield 56, 3) := by decide +kernel
theorem dX4_cut_87 : decode cX4_cut 87 = .ok (.iload_n 1, 1) := by decide +kernel
theorem dX4_cut_88 : decode cX4_cut 88 = .ok (.iconst 0, 1) := by decide +kernel
theorem dX4_cut_89 : decode cX4_cut 89 = .ok (.bastore, 1) := by decide +kernel
theorem dX4_cut_90 : decode cX4_cut 90 = .ok (.return_, 1) := by decide +kernel
theorem dX4_small_0 : decode cX4_small 0 = .ok (.iconst 0, 1) := by decide +kernel
theorem dX4_small_1 : decode cX4_small 1 = .ok (.istore_n 1, 1) := by decide +kernel
theorem dX4_small_2 : decode cX4_small 2 = .ok (.bipush 8, 2) := by decide +kernel
theorem dX4_small_4 : decode cX4_small 4 = .ok (.istore_n 2, 1) := by decide +kernel
theorem dX4_small_5 : decode cX4_small 5 = .ok (.iload_n 2, 1) := by decide +kernel
theorem dX4_small_6 : decode cX4_small 6 = .ok (.ifCond .lt 18, 3) := by decide +kernel
theorem dX4_small_9 : decode cX4_small 9 = .ok (.bipush 10, 2) := by decide +kernel
theorem dX4_small_11 : decode cX4_small 11 = .ok (.iload_n 1, 1) := by decide +kernel
theorem dX4_small_12 : decode cX4_small 12 = .ok (.imul, 1) := by decide +kernel
theorem dX4_small_13 : decode cX4_small 13 = .ok (.aload_n 0, 1) := by decide +kernel
theorem dX4_small_14 : decode cX4_small 14 = .ok (.iload_n 2, 1) := by decide +kernel
theorem dX4_small_15 : decode cX4_small 15 = .ok (.iaload, 1) := by decide +kernel
theorem dX4_small_16 : decode cX4_small 16 = .ok (.iadd, 1) := by decide +kernel
theorem dX4_small_17 : decode cX4_small 17 = .ok (.istore_n 1, 1) := by decide +kernel
theorem dX4_small_18 : decode cX4_small 18 = .ok (.iinc 2 (-1), 3) := by decide +kernel
theorem dX4_small_21 : decode cX4_small 21 = .ok (.goto (-16), 3) := by decide +kernel
theorem dX4_small_24 : decode cX4_small 24 = .ok (.iload_n 1, 1) := by decide +kernel
theorem dX4_small_25 : decode cX4_small 25 = .ok (.ireturn, 1) := by decide +kernel
theorem dX4_left_0 : decode cX4_left 0 = .ok (.aload_n 0, 1) := by decide +kernel
theorem dX4_left_1 : decode cX4_left 1 = .ok (.getfield 47, 3) := by decide +kernel
theorem dX4_left_4 : decode cX4_left 4 = .ok (.aload_n 0, 1) := by decide +kernel
theorem dX4_left_5 : decode cX4_left 5 = .ok (.getfield 41, 3) := by decide +kernel
theorem dX4_left_8 : decode cX4_left 8 = .ok (.invokestatic 94, 3) := by decide +kernel
theorem dX4_left_11 : decode cX4_left 11 = .ok (.iconst 0, 1) := by decide +kernel
theorem dX4_left_12 : decode cX4_left 12 = .ok (.istore_n 2, 1) := by decide +kernel
theorem dX4_left_13 : decode cX4_left 13 = .ok (.iload_n 2, 1) := by decide +kernel
theorem dX4_left_14 : decode cX4_left 14 = .ok (.iload_n 1, 1) := by decide +kernel
theorem dX4_left_15 : decode cX4_left 15 = .ok (.if_icmp .ge 58, 3) := by decide +kernel
theorem dX4_left_18 : decode cX4_left 18 = .ok (.aload_n 0, 1) := by decide +kernel
theorem dX4_left_19 : decode cX4_left 19 = .ok (.getfield 44, 3) := by decide +kernel
theorem dX4_left_22 : decode cX4_left 22 = .ok (.invokestatic 72, 3) := by decide +kernel
theorem dX4_left_25 : decode cX4_left 25 = .ok (.iconst 0, 1) := by decide +kernel
theorem dX4_left_26 : decode cX4_left 26 = .ok (.istore_n 3, 1) := by decide +kernel
theorem dX4_left_27 : decode cX4_left 27 = .ok (.iload_n 3, 1) := by decide +kernel
theorem dX4_left_28 : decode cX4_left 28 = .ok (.bipush 40, 2) := by decide +kernel
theorem dX4_left_30 : decode cX4_left 30 = .ok (.if_icmp .ge 26, 3) := by decide +kernel
theorem dX4_left_33 : decode cX4_left 33 = .ok (.aload_n 0, 1) := by decide +kernel
theorem dX4_left_34 : decode cX4_left 34 = .ok (.getfield 44, 3) := by decide +kernel
theorem dX4_left_37 : decode cX4_left 37 = .ok (.iload_n 3, 1) := by decide +kernel
theorem dX4_left_38 : decode cX4_left 38 = .ok (.aload_n 0, 1) := by decide +kernel
theorem dX4_left_39 : decode cX4_left 39 = .ok (.getfield 50, 3) := by decide +kernel
theorem dX4_left_42 : decode cX4_left 42 = .ok (.bipush 40, 2) := by decide +kernel
theorem dX4_left_44 : decode cX4_left 44 = .ok (.iload_n 2, 1) := by decide +kernel
theorem dX4_left_45 : decode cX4_left 45 = .ok (.imul, 1) := by decide +kernel
theorem dX4_left_46 : decode cX4_left 46 = .ok (.iload_n 3, 1) := by decide +kernel
theorem dX4_left_47 : decode cX4_left 47 = .ok (.iadd, 1) := by decide +kernel
theorem dX4_left_48 : decode cX4_left 48 = .ok (.iaload, 1) := by decide +kernel
theorem dX4_left_49 : decode cX4_left 49 = .ok (.iastore, 1) := by decide +kernel
theorem dX4_left_50 : decode cX4_left 50 = .ok (.iinc 3 1, 3) := by decide +kernel
theorem dX4_left_53 : decode cX4_left 53 = .ok (.goto (-26), 3) := by decide +kernel
theorem dX4_left_56 : decode cX4_left 56 = .ok (.aload_n 0, 1) := by decide +kernel
theorem dX4_left_57 : decode cX4_left 57 = .ok (.getfield 41, 3) := by decide +kernel
theorem dX4_left_60 : decode cX4_left 60 = .ok (.aload_n 0, 1) := by decide +kernel
theorem dX4_left_61 : decode cX4_left 61 = .ok (.getfield 44, 3) := by decide +kernel
theorem dX4_left_64 : decode cX4_left 64 = .ok (.invokestatic 90, 3) := by decide +kernel
theorem dX4_left_67 : decode cX4_left 67 = .ok (.iinc 2 1, 3) := by decide +kernel
theorem dX4_left_70 : decode cX4_left 70 = .ok (.goto (-57), 3) := by decide +kernel
theorem dX4_left_73 : decode cX4_left 73 = .ok (.aload_n 0, 1) := by decide +kernel
theorem dX4_left_74 : decode cX4_left 74 = .ok (.getfield 41, 3) := by decide +kernel
theorem dX4_left_77 : decode cX4_left 77 = .ok (.invokestatic 150, 3) := by decide +kernel
theorem dX4_left_80 : decode cX4_left 80 = .ok (.ireturn, 1) := by decide +kernel
theorem dX4_part_0 : decode cX4_part 0 = .ok (.aload_n 0, 1) := by decide +kernel
theorem dX4_part_1 : decode cX4_part 1 = .ok (.getfield 38, 3) := by decide +kernel
theorem dX4_part_4 : decode cX4_part 4 = .ok (.invokestatic 72, 3) := by decide +kernel
theorem dX4_part_7 : decode cX4_part 7 = .ok (.iconst 0, 1) := by decide +kernel
theorem dX4_part_8 : decode cX4_part 8 = .ok (.istore_n 3, 1) := by decide +kernel
theorem dX4_part_9 : decode cX4_part 9 = .ok (.iload_n 3, 1) := by decide +kernel
theorem dX4_part_10 : decode cX4_part 10 = .ok (.bipush 40, 2) := by decide +kernel
theorem dX4_part_12 : decode cX4_part 12 = .ok (.if_icmp .ge 26, 3) := by decide +kernel
theorem dX4_part_15 : decode cX4_part 15 = .ok (.aload_n 0, 1) := by decide +kernel
theorem dX4_part_16 : decode cX4_part 16 = .ok (.getfield 38, 3) := by decide +kernel
theorem dX4_part_19 : decode cX4_part 19 = .ok (.iload_n 3, 1) := by decide +kernel
theorem dX4_part_20 : decode cX4_part 20 = .ok (.aload_n 0, 1) := by decide +kernel
theorem dX4_part_21 : decode cX4_part 21 = .ok (.getfield 50, 3) := by decide +kernel
theorem dX4_part_24 : decode cX4_part 24 = .ok (.bipush 40, 2) := by decide +kernel
theorem dX4_part_26 : decode cX4_part 26 = .ok (.iload_n 1, 1) := by decide +kernel
theorem dX4_part_27 : decode cX4_part 27 = .ok (.imul, 1) := by decide +kernel
theorem dX4_part_28 : decode cX4_part 28 = .ok (.iload_n 3, 1) := by decide +kernel
theorem dX4_part_29 : decode cX4_part 29 = .ok (.iadd, 1) := by decide +kernel
theorem dX4_part_30 : decode cX4_part 30 = .ok (.iaload, 1) := by decide +kernel
theorem dX4_part_31 : decode cX4_part 31 = .ok (.iastore, 1) := by decide +kernel
theorem dX4_part_32 : decode cX4_part 32 = .ok (.iinc 3 1, 3) := by decide +kernel
theorem dX4_part_35 : decode cX4_part 35 = .ok (.goto (-26), 3) := by decide +kernel
theorem dX4_part_38 : decode cX4_part 38 = .ok (.aload_n 0, 1) := by decide +kernel
theorem dX4_part_39 : decode cX4_part 39 = .ok (.getfield 56, 3) := by decide +kernel
theorem dX4_part_42 : decode cX4_part 42 = .ok (.iload_n 1, 1) := by decide +kernel
theorem dX4_part_43 : decode cX4_part 43 = .ok (.baload, 1) := by decide +kernel
theorem dX4_part_44 : decode cX4_part 44 = .ok (.ifCond .eq 22, 3) := by decide +kernel
theorem dX4_part_47 : decode cX4_part 47 = .ok (.aload_n 0, 1) := by decide +kernel
theorem dX4_part_48 : decode cX4_part 48 = .ok (.getfield 44, 3) := by decide +kernel
theorem dX4_part_51 : decode cX4_part 51 = .ok (.lconst 1, 1) := by decide +kernel
theorem dX4_part_52 : decode cX4_part 52 = .ok (.invokestatic 100, 3) := by decide +kernel
theorem dX4_part_55 : decode cX4_part 55 = .ok (.aload_n 0, 1) := by decide +kernel
theorem dX4_part_56 : decode cX4_part 56 = .ok (.getfield 38, 3) := by decide +kernel
theorem dX4_part_59 : decode cX4_part 59 = .ok (.aload_n 0, 1) := by decide +kernel
theorem dX4_part_60 : decode cX4_part 60 = .ok (.getfield 44, 3) := by decide +kernel
theorem dX4_part_63 : decode cX4_part 63 = .ok (.invokestatic 97, 3) := by decide +kernel
theorem dX4_part_66 : decode cX4_part 66 = .ok (.aload_n 0, 1) := by decide +kernel
theorem dX4_part_67 : decode cX4_part 67 = .ok (.getfield 38, 3) := by decide +kernel
theorem dX4_part_70 : decode cX4_part 70 = .ok (.aload_n 0, 1) := by decide +kernel
theorem dX4_part_71 : decode cX4_part 71 = .ok (.getfield 29, 3) := by decide +kernel
theorem dX4_part_74 : decode cX4_part 74 = .ok (.invokestatic 94, 3) := by decide +kernel
theorem dX4_part_77 : decode cX4_part 77 = .ok (.aload_n 0, 1) := by decide +kernel
theorem dX4_part_78 : decode cX4_part 78 = .ok (.getfield 29, 3) := by decide +kernel
theorem dX4_part_81 : decode cX4_part 81 = .ok (.iload_n 2, 1) := by decide +kernel
theorem dX4_part_82 : decode cX4_part 82 = .ok (.invokestatic 82, 3) := by decide +kernel
theorem dX4_part_85 : decode cX4_part 85 = .ok (.return_, 1) := by decide +kernel
theorem dX4_compare_0 : decode cX4_compare 0 = .ok (.iload_n 1, 1) := by decide +kernel
theorem dX4_compare_1 : decode cX4_compare 1 = .ok (.bipush 8, 2) := by decide +kernel
theorem dX4_compare_3 : decode cX4_compare 3 = .ok (.invokestatic 123, 3) := by decide +kernel
theorem dX4_compare_6 : decode cX4_compare 6 = .ok (.ifCond .ne 12, 3) := by decide +kernel
theorem dX4_compare_9 : decode cX4_compare 9 = .ok (.iload_n 2, 1) := by decide +kernel
theorem dX4_compare_10 : decode cX4_compare 10 = .ok (.bipush 8, 2) := by decide +kernel
theorem dX4_compare_12 : decode cX4_compare 12 = .ok (.invokestatic 123, 3) := by decide +kernel
theorem dX4_compare_15 : decode cX4_compare 15 = .ok (.ifCond .eq 6, 3) := by decide +kernel
theorem dX4_compare_18 : decode cX4_compare 18 = .ok (.bipush (-15), 2) := by decide +kernel
theorem dX4_compare_20 : decode cX4_compare 20 = .ok (.ireturn, 1) := by decide +kernel
theorem dX4_compare_21 : decode cX4_compare 21 = .ok (.aload_n 0, 1) := by decide +kernel
theorem dX4_compare_22 : decode cX4_compare 22 = .ok (.getfield 7, 3) := by decide +kernel
theorem dX4_compare_25 : decode cX4_compare 25 = .ok (.iload_n 1, 1) := by decide +kernel
theorem dX4_compare_26 : decode cX4_compare 26 = .ok (.iaload, 1) := by decide +kernel
theorem dX4_compare_27 : decode cX4_compare 27 = .ok (.ifCond .lt 12, 3) := by decide +kernel
theorem dX4_compare_30 : decode cX4_compare 30 = .ok (.aload_n 0, 1) := by decide +kernel
theorem dX4_compare_31 : decode cX4_compare 31 = .ok (.getfield 7, 3) := by decide +kernel
theorem dX4_compare_34 : decode cX4_compare 34 = .ok (.iload_n 2, 1) := by decide +kernel
theorem dX4_compare_35 : decode cX4_compare 35 = .ok (.iaload, 1) := by decide +kernel
theorem dX4_compare_36 : decode cX4_compare 36 = .ok (.ifCond .ge 6, 3) := by decide +kernel
theorem dX4_compare_39 : decode cX4_compare 39 = .ok (.bipush (-11), 2) := by decide +kernel
theorem dX4_compare_41 : decode cX4_compare 41 = .ok (.ireturn, 1) := by decide +kernel
theorem dX4_compare_42 : decode cX4_compare 42 = .ok (.aload_n 0, 1) := by decide +kernel
theorem dX4_compare_43 : decode cX4_compare 43 = .ok (.getfield 7, 3) := by decide +kernel
theorem dX4_compare_46 : decode cX4_compare 46 = .ok (.iload_n 1, 1) := by decide +kernel
theorem dX4_compare_47 : decode cX4_compare 47 = .ok (.iaload, 1) := by decide +kernel
theorem dX4_compare_48 : decode cX4_compare 48 = .ok (.aload_n 0, 1) := by decide +kernel
theorem dX4_compare_49 : decode cX4_compare 49 = .ok (.getfield 7, 3) := by decide +kernel
theorem dX4_compare_52 : decode cX4_compare 52 = .ok (.iload_n 2, 1) := by decide +kernel
theorem dX4_compare_53 : decode cX4_compare 53 = .ok (.iaload, 1) := by decide +kernel
theorem dX4_compare_54 : decode cX4_compare 54 = .ok (.if_icmp .ne 18, 3) := by decide +kernel
theorem dX4_compare_57 : decode cX4_compare 57 = .ok (.aload_n 0, 1) := by decide +kernel
theorem dX4_compare_58 : decode cX4_compare 58 = .ok (.getfield 13, 3) := by decide +kernel
theorem dX4_compare_61 : decode cX4_compare 61 = .ok (.iload_n 1, 1) := by decide +kernel
theorem dX4_compare_62 : decode cX4_compare 62 = .ok (.baload, 1) := by decide +kernel
theorem dX4_compare_63 : decode cX4_compare 63 = .ok (.aload_n 0, 1) := by decide +kernel
theorem dX4_compare_64 : decode cX4_compare 64 = .ok (.getfield 13, 3) := by decide +kernel
theorem dX4_compare_67 : decode cX4_compare 67 = .ok (.iload_n 2, 1) := by decide +kernel
theorem dX4_compare_68 : decode cX4_compare 68 = .ok (.baload, 1) := by decide +kernel
theorem dX4_compare_69 : decode cX4_compare 69 = .ok (.if_icmp .eq 6, 3) := by decide +kernel
theorem dX4_compare_72 : decode cX4_compare 72 = .ok (.bipush (-12), 2) := by decide +kernel
theorem dX4_compare_74 : decode cX4_compare 74 = .ok (.ireturn, 1) := by decide +kernel
theorem dX4_compare_75 : decode cX4_compare 75 = .ok (.aload_n 0, 1) := by decide +kernel
theorem dX4_compare_76 : decode cX4_compare 76 = .ok (.getfield 17, 3) := by decide +kernel
theorem dX4_compare_79 : decode cX4_compare 79 = .ok (.iload_n 1, 1) := by decide +kernel
theorem dX4_compare_80 : decode cX4_compare 80 = .ok (.baload, 1) := by decide +kernel
theorem dX4_compare_81 : decode cX4_compare 81 = .ok (.aload_n 0, 1) := by decide +kernel
theorem dX4_compare_82 : decode cX4_compare 82 = .ok (.getfield 17, 3) := by decide +kernel
theorem dX4_compare_85 : decode cX4_compare 85 = .ok (.iload_n 2, 1) := by decide +kernel
theorem dX4_compare_86 : decode cX4_compare 86 = .ok (.baload, 1) := by decide +kernel
theorem dX4_compare_87 : decode cX4_compare 87 = .ok (.if_icmp .eq 18, 3) := by decide +kernel
theorem dX4_compare_90 : decode cX4_compare 90 = .ok (.aload_n 0, 1) := by decide +kernel
theorem dX4_compare_91 : decode cX4_compare 91 = .ok (.getfield 17, 3) := by decide +kernel
theorem dX4_compare_94 : decode cX4_compare 94 = .ok (.iload_n 1, 1) := by decide +kernel
theorem dX4_compare_95 : decode cX4_compare 95 = .ok (.baload, 1) := by decide +kernel
theorem dX4_compare_96 : decode cX4_compare 96 = .ok (.ifCond .eq 7, 3) := by decide +kernel
theorem dX4_compare_99 : decode cX4_compare 99 = .ok (.iconst (-1), 1) := by decide +kernel
theorem dX4_compare_100 : decode cX4_compare 100 = .ok (.goto 4, 3) := by decide +kernel
theorem dX4_compare_103 : decode cX4_compare 103 = .ok (.iconst 1, 1) := by decide +kernel
theorem dX4_compare_104 : decode cX4_compare 104 = .ok (.ireturn, 1) := by decide +kernel
theorem dX4_compare_105 : decode cX4_compare 105 = .ok (.aload_n 0, 1) := by decide +kernel
theorem dX4_compare_106 : decode cX4_compare 106 = .ok (.aload_n 0, 1) := by decide +kernel
theorem dX4_compare_107 : decode cX4_compare 107 = .ok (.getfield 29, 3) := by decide +kernel
theorem dX4_compare_110 : decode cX4_compare 110 = .ok (.iload_n 1, 1) := by decide +kernel
theorem dX4_compare_111 : decode cX4_compare 111 = .ok (.invokevirtual 131, 3) := by decide +kernel
theorem dX4_compare_114 : decode cX4_compare 114 = .ok (.aload_n 0, 1) := by decide +kernel
theorem dX4_compare_115 : decode cX4_compare 115 = .ok (.aload_n 0, 1) := by decide +kernel
theorem dX4_compare_116 : decode cX4_compare 116 = .ok (.getfield 47, 3) := by decide +kernel
theorem dX4_compare_119 : decode cX4_compare 119 = .ok (.iload_n 2, 1) := by decide +kernel
theorem dX4_compare_120 : decode cX4_compare 120 = .ok (.invokevirtual 131, 3) := by decide +kernel
theorem dX4_compare_123 : decode cX4_compare 123 = .ok (.aload_n 0, 1) := by decide +kernel
theorem dX4_compare_124 : decode cX4_compare 124 = .ok (.getfield 29, 3) := by decide +kernel
theorem dX4_compare_127 : decode cX4_compare 127 = .ok (.aload_n 0, 1) := by decide +kernel
theorem dX4_compare_128 : decode cX4_compare 128 = .ok (.getfield 47, 3) := by decide +kernel
theorem dX4_compare_131 : decode cX4_compare 131 = .ok (.invokestatic 86, 3) := by decide +kernel
theorem dX4_compare_134 : decode cX4_compare 134 = .ok (.istore_n 3, 1) := by decide +kernel
theorem dX4_compare_135 : decode cX4_compare 135 = .ok (.aload_n 0, 1) := by decide +kernel
theorem dX4_compare_136 : decode cX4_compare 136 = .ok (.getfield 17, 3) := by decide +kernel
theorem dX4_compare_139 : decode cX4_compare 139 = .ok (.iload_n 1, 1) := by decide +kernel
theorem dX4_compare_140 : decode cX4_compare 140 = .ok (.baload, 1) := by decide +kernel
theorem dX4_compare_141 : decode cX4_compare 141 = .ok (.ifCond .eq 8, 3) := by decide +kernel
theorem dX4_compare_144 : decode cX4_compare 144 = .ok (.iload_n 3, 1) := by decide +kernel
theorem dX4_compare_145 : decode cX4_compare 145 = .ok (.ineg, 1) := by decide +kernel
theorem dX4_compare_146 : decode cX4_compare 146 = .ok (.goto 4, 3) := by decide +kernel
theorem dX4_compare_149 : decode cX4_compare 149 = .ok (.iload_n 3, 1) := by decide +kernel
theorem dX4_compare_150 : decode cX4_compare 150 = .ok (.ireturn, 1) := by decide +kernel
theorem dX4_sign_0 : decode cX4_sign 0 = .ok (.iload_n 1, 1) := by decide +kernel
theorem dX4_sign_1 : decode cX4_sign 1 = .ok (.bipush 8, 2) := by decide +kernel
theorem dX4_sign_3 : decode cX4_sign 3 = .ok (.invokestatic 123, 3) := by decide +kernel
theorem dX4_sign_6 : decode cX4_sign 6 = .ok (.ifCond .eq 6, 3) := by decide +kernel
theorem dX4_sign_9 : decode cX4_sign 9 = .ok (.bipush (-15), 2) := by decide +kernel
theorem dX4_sign_11 : decode cX4_sign 11 = .ok (.ireturn, 1) := by decide +kernel
theorem dX4_sign_12 : decode cX4_sign 12 = .ok (.aload_n 0, 1) := by decide +kernel
theorem dX4_sign_13 : decode cX4_sign 13 = .ok (.getfield 7, 3) := by decide +kernel
theorem dX4_sign_16 : decode cX4_sign 16 = .ok (.iload_n 1, 1) := by decide +kernel
theorem dX4_sign_17 : decode cX4_sign 17 = .ok (.iaload, 1) := by decide +kernel
theorem dX4_sign_18 : decode cX4_sign 18 = .ok (.ifCond .ge 6, 3) := by decide +kernel
theorem dX4_sign_21 : decode cX4_sign 21 = .ok (.bipush (-11), 2) := by decide +kernel
theorem dX4_sign_23 : decode cX4_sign 23 = .ok (.ireturn, 1) := by decide +kernel
theorem dX4_sign_24 : decode cX4_sign 24 = .ok (.aload_n 0, 1) := by decide +kernel
theorem dX4_sign_25 : decode cX4_sign 25 = .ok (.aload_n 0, 1) := by decide +kernel
theorem dX4_sign_26 : decode cX4_sign 26 = .ok (.getfield 29, 3) := by decide +kernel
theorem dX4_sign_29 : decode cX4_sign 29 = .ok (.iload_n 1, 1) := by decide +kernel
theorem dX4_sign_30 : decode cX4_sign 30 = .ok (.invokevirtual 131, 3) := by decide +kernel
theorem dX4_sign_33 : decode cX4_sign 33 = .ok (.aload_n 0, 1) := by decide +kernel
theorem dX4_sign_34 : decode cX4_sign 34 = .ok (.getfield 17, 3) := by decide +kernel
theorem dX4_sign_37 : decode cX4_sign 37 = .ok (.iload_n 1, 1) := by decide +kernel
theorem dX4_sign_38 : decode cX4_sign 38 = .ok (.baload, 1) := by decide +kernel
theorem dX4_sign_39 : decode cX4_sign 39 = .ok (.ifCond .eq 7, 3) := by decide +kernel
theorem dX4_sign_42 : decode cX4_sign 42 = .ok (.iconst (-1), 1) := by decide +kernel
theorem dX4_sign_43 : decode cX4_sign 43 = .ok (.goto 18, 3) := by decide +kernel
theorem dX4_sign_46 : decode cX4_sign 46 = .ok (.aload_n 0, 1) := by decide +kernel
theorem dX4_sign_47 : decode cX4_sign 47 = .ok (.getfield 29, 3) := by decide +kernel
theorem dX4_sign_50 : decode cX4_sign 50 = .ok (.invokestatic 78, 3) := by decide +kernel
theorem dX4_sign_53 : decode cX4_sign 53 = .ok (.ifCond .ne 7, 3) := by decide +kernel
theorem dX4_sign_56 : decode cX4_sign 56 = .ok (.iconst 0, 1) := by decide +kernel
theorem dX4_sign_57 : decode cX4_sign 57 = .ok (.goto 4, 3) := by decide +kernel
theorem dX4_sign_60 : decode cX4_sign 60 = .ok (.iconst 1, 1) := by decide +kernel
theorem dX4_sign_61 : decode cX4_sign 61 = .ok (.ireturn, 1) := by decide +kernel
theorem dX4_kind_0 : decode cX4_kind 0 = .ok (.iload_n 1, 1) := by decide +kernel
theorem dX4_kind_1 : decode cX4_kind 1 = .ok (.bipush 8, 2) := by decide +kernel
theorem dX4_kind_3 : decode cX4_kind 3 = .ok (.invokestatic 123, 3) := by decide +kernel
theorem dX4_kind_6 : decode cX4_kind 6 = .ok (.ifCond .eq 8, 3) := by decide +kernel
theorem dX4_kind_9 : decode cX4_kind 9 = .ok (.bipush (-15), 2) := by decide +kernel
theorem dX4_kind_11 : decode cX4_kind 11 = .ok (.goto 39, 3) := by decide +kernel
theorem dX4_kind_14 : decode cX4_kind 14 = .ok (.aload_n 0, 1) := by decide +kernel
theorem dX4_kind_15 : decode cX4_kind 15 = .ok (.getfield 7, 3) := by decide +kernel
theorem dX4_kind_18 : decode cX4_kind 18 = .ok (.iload_n 1, 1) := by decide +kernel
theorem dX4_kind_19 : decode cX4_kind 19 = .ok (.iaload, 1) := by decide +kernel
theorem dX4_kind_20 : decode cX4_kind 20 = .ok (.ifCond .ge 8, 3) := by decide +kernel
theorem dX4_kind_23 : decode cX4_kind 23 = .ok (.bipush (-11), 2) := by decide +kernel
theorem dX4_kind_25 : decode cX4_kind 25 = .ok (.goto 25, 3) := by decide +kernel
theorem dX4_kind_28 : decode cX4_kind 28 = .ok (.aload_n 0, 1) := by decide +kernel
theorem dX4_kind_29 : decode cX4_kind 29 = .ok (.getfield 7, 3) := by decide +kernel
theorem dX4_kind_32 : decode cX4_kind 32 = .ok (.iload_n 1, 1) := by decide +kernel
theorem dX4_kind_33 : decode cX4_kind 33 = .ok (.iaload, 1) := by decide +kernel
theorem dX4_kind_34 : decode cX4_kind 34 = .ok (.aload_n 0, 1) := by decide +kernel
theorem dX4_kind_35 : decode cX4_kind 35 = .ok (.getfield 13, 3) := by decide +kernel
theorem dX4_kind_38 : decode cX4_kind 38 = .ok (.iload_n 1, 1) := by decide +kernel
theorem dX4_kind_39 : decode cX4_kind 39 = .ok (.baload, 1) := by decide +kernel
theorem dX4_kind_40 : decode cX4_kind 40 = .ok (.ifCond .eq 8, 3) := by decide +kernel
theorem dX4_kind_43 : decode cX4_kind 43 = .ok (.bipush 8, 2) := by decide +kernel
theorem dX4_kind_45 : decode cX4_kind 45 = .ok (.goto 4, 3) := by decide +kernel
theorem dX4_kind_48 : decode cX4_kind 48 = .ok (.iconst 0, 1) := by decide +kernel
theorem dX4_kind_49 : decode cX4_kind 49 = .ok (.iadd, 1) := by decide +kernel
theorem dX4_kind_50 : decode cX4_kind 50 = .ok (.ireturn, 1) := by decide +kernel
theorem dX4_digits_0 : decode cX4_digits 0 = .ok (.iload_n 1, 1) := by decide +kernel
theorem dX4_digits_1 : decode cX4_digits 1 = .ok (.bipush 8, 2) := by decide +kernel
theorem dX4_digits_3 : decode cX4_digits 3 = .ok (.invokestatic 123, 3) := by decide +kernel
theorem dX4_digits_6 : decode cX4_digits 6 = .ok (.ifCond .ne 11, 3) := by decide +kernel
theorem dX4_digits_9 : decode cX4_digits 9 = .ok (.iload_n 2, 1) := by decide +kernel
theorem dX4_digits_10 : decode cX4_digits 10 = .ok (.iconst 2, 1) := by decide +kernel
theorem dX4_digits_11 : decode cX4_digits 11 = .ok (.invokestatic 123, 3) := by decide +kernel
theorem dX4_digits_14 : decode cX4_digits 14 = .ok (.ifCond .eq 7, 3) := by decide +kernel
theorem dX4_digits_17 : decode cX4_digits 17 = .ok (.ldc2_w 162, 3) := by decide +kernel
theorem dX4_digits_20 : decode cX4_digits 20 = .ok (.lreturn, 1) := by decide +kernel
theorem dX4_digits_21 : decode cX4_digits 21 = .ok (.aload_n 0, 1) := by decide +kernel
theorem dX4_digits_22 : decode cX4_digits 22 = .ok (.getfield 7, 3) := by decide +kernel
theorem dX4_digits_25 : decode cX4_digits 25 = .ok (.iload_n 1, 1) := by decide +kernel
theorem dX4_digits_26 : decode cX4_digits 26 = .ok (.iaload, 1) := by decide +kernel
theorem dX4_digits_27 : decode cX4_digits 27 = .ok (.ifCond .ge 7, 3) := by decide +kernel
theorem dX4_digits_30 : decode cX4_digits 30 = .ok (.ldc2_w 164, 3) := by decide +kernel
theorem dX4_digits_33 : decode cX4_digits 33 = .ok (.lreturn, 1) := by decide +kernel
theorem dX4_digits_34 : decode cX4_digits 34 = .ok (.lconst 0, 1) := by decide +kernel
theorem dX4_digits_35 : decode cX4_digits 35 = .ok (.lstore_n 3, 1) := by decide +kernel
theorem dX4_digits_36 : decode cX4_digits 36 = .ok (.bipush 17, 2) := by decide +kernel
theorem dX4_digits_38 : decode cX4_digits 38 = .ok (.istore 5, 2) := by decide +kernel
theorem dX4_digits_40 : decode cX4_digits 40 = .ok (.iload 5, 2) := by decide +kernel
theorem dX4_digits_42 : decode cX4_digits 42 = .ok (.ifCond .lt 34, 3) := by decide +kernel
theorem dX4_digits_45 : decode cX4_digits 45 = .ok (.ldc2_w 76, 3) := by decide +kernel
theorem dX4_digits_48 : decode cX4_digits 48 = .ok (.lload_n 3, 1) := by decide +kernel
theorem dX4_digits_49 : decode cX4_digits 49 = .ok (.lmul, 1) := by decide +kernel
theorem dX4_digits_50 : decode cX4_digits 50 = .ok (.aload_n 0, 1) := by decide +kernel
theorem dX4_digits_51 : decode cX4_digits 51 = .ok (.getfield 20, 3) := by decide +kernel
theorem dX4_digits_54 : decode cX4_digits 54 = .ok (.bipush 40, 2) := by decide +kernel
theorem dX4_digits_56 : decode cX4_digits 56 = .ok (.iload_n 1, 1) := by decide +kernel
theorem dX4_digits_57 : decode cX4_digits 57 = .ok (.imul, 1) := by decide +kernel
theorem dX4_digits_58 : decode cX4_digits 58 = .ok (.bipush 18, 2) := by decide +kernel
theorem dX4_digits_60 : decode cX4_digits 60 = .ok (.iload_n 2, 1) := by decide +kernel
theorem dX4_digits_61 : decode cX4_digits 61 = .ok (.imul, 1) := by decide +kernel
theorem dX4_digits_62 : decode cX4_digits 62 = .ok (.iadd, 1) := by decide +kernel
theorem dX4_digits_63 : decode cX4_digits 63 = .ok (.iload 5, 2) := by decide +kernel
theorem dX4_digits_65 : decode cX4_digits 65 = .ok (.iadd, 1) := by decide +kernel
theorem dX4_digits_66 : decode cX4_digits 66 = .ok (.iaload, 1) := by decide +kernel
theorem dX4_digits_67 : decode cX4_digits 67 = .ok (.i2l, 1) := by decide +kernel
theorem dX4_digits_68 : decode cX4_digits 68 = .ok (.ladd, 1) := by decide +kernel
theorem dX4_digits_69 : decode cX4_digits 69 = .ok (.lstore_n 3, 1) := by decide +kernel
theorem dX4_digits_70 : decode cX4_digits 70 = .ok (.iinc 5 (-1), 3) := by decide +kernel
theorem dX4_digits_73 : decode cX4_digits 73 = .ok (.goto (-33), 3) := by decide +kernel
theorem dX4_digits_76 : decode cX4_digits 76 = .ok (.lload_n 3, 1) := by decide +kernel
theorem dX4_digits_77 : decode cX4_digits 77 = .ok (.lreturn, 1) := by decide +kernel
theorem dX4_discard_0 : decode cX4_discard 0 = .ok (.iload_n 1, 1) := by decide +kernel
theorem dX4_discard_1 : decode cX4_discard 1 = .ok (.bipush 8, 2) := by decide +kernel
theorem dX4_discard_3 : decode cX4_discard 3 = .ok (.invokestatic 123, 3) := by decide +kernel
theorem dX4_discard_6 : decode cX4_discard 6 = .ok (.ifCond .ne 12, 3) := by decide +kernel
theorem dX4_discard_9 : decode cX4_discard 9 = .ok (.aload_n 0, 1) := by decide +kernel
theorem dX4_discard_10 : decode cX4_discard 10 = .ok (.getfield 7, 3) := by decide +kernel
theorem dX4_discard_13 : decode cX4_discard 13 = .ok (.iload_n 1, 1) := by decide +kernel
theorem dX4_discard_14 : decode cX4_discard 14 = .ok (.iaload, 1) := by decide +kernel
theorem dX4_discard_15 : decode cX4_discard 15 = .ok (.ifCond .ge 5, 3) := by decide +kernel
theorem dX4_discard_18 : decode cX4_discard 18 = .ok (.iconst 0, 1) := by decide +kernel
theorem dX4_discard_19 : decode cX4_discard 19 = .ok (.ireturn, 1) := by decide +kernel
theorem dX4_discard_20 : decode cX4_discard 20 = .ok (.aload_n 0, 1) := by decide +kernel
