theorem dX4_init_0 : decode cX4_init 0 = .ok (.aload_n 0, 1) := by decide +kernel
theorem dX4_init_1 : decode cX4_init 1 = .ok (.invokespecial 1, 3) := by decide +kernel
theorem dX4_init_4 : decode cX4_init 4 = .ok (.aload_n 0, 1) := by decide +kernel
theorem dX4_init_5 : decode cX4_init 5 = .ok (.bipush 8, 2) := by decide +kernel
theorem dX4_init_7 : decode cX4_init 7 = .ok (.newarray .int, 2) := by decide +kernel
theorem dX4_init_9 : decode cX4_init 9 = .ok (.putfield 7, 3) := by decide +kernel
theorem dX4_init_12 : decode cX4_init 12 = .ok (.aload_n 0, 1) := by decide +kernel
theorem dX4_init_13 : decode cX4_init 13 = .ok (.bipush 8, 2) := by decide +kernel
theorem dX4_init_15 : decode cX4_init 15 = .ok (.newarray .boolean, 2) := by decide +kernel
theorem dX4_init_17 : decode cX4_init 17 = .ok (.putfield 13, 3) := by decide +kernel
theorem dX4_init_20 : decode cX4_init 20 = .ok (.aload_n 0, 1) := by decide +kernel
theorem dX4_init_21 : decode cX4_init 21 = .ok (.bipush 8, 2) := by decide +kernel
theorem dX4_init_23 : decode cX4_init 23 = .ok (.newarray .boolean, 2) := by decide +kernel
theorem dX4_init_25 : decode cX4_init 25 = .ok (.putfield 17, 3) := by decide +kernel
theorem dX4_init_28 : decode cX4_init 28 = .ok (.aload_n 0, 1) := by decide +kernel
theorem dX4_init_29 : decode cX4_init 29 = .ok (.sipush 320, 3) := by decide +kernel
theorem dX4_init_32 : decode cX4_init 32 = .ok (.newarray .int, 2) := by decide +kernel
theorem dX4_init_34 : decode cX4_init 34 = .ok (.putfield 20, 3) := by decide +kernel
theorem dX4_init_37 : decode cX4_init 37 = .ok (.aload_n 0, 1) := by decide +kernel
theorem dX4_init_38 : decode cX4_init 38 = .ok (.bipush 8, 2) := by decide +kernel
theorem dX4_init_40 : decode cX4_init 40 = .ok (.newarray .int, 2) := by decide +kernel
theorem dX4_init_42 : decode cX4_init 42 = .ok (.putfield 23, 3) := by decide +kernel
theorem dX4_init_45 : decode cX4_init 45 = .ok (.aload_n 0, 1) := by decide +kernel
theorem dX4_init_46 : decode cX4_init 46 = .ok (.bipush 48, 2) := by decide +kernel
theorem dX4_init_48 : decode cX4_init 48 = .ok (.newarray .int, 2) := by decide +kernel
theorem dX4_init_50 : decode cX4_init 50 = .ok (.putfield 26, 3) := by decide +kernel
theorem dX4_init_53 : decode cX4_init 53 = .ok (.aload_n 0, 1) := by decide +kernel
theorem dX4_init_54 : decode cX4_init 54 = .ok (.bipush 80, 2) := by decide +kernel
theorem dX4_init_56 : decode cX4_init 56 = .ok (.newarray .int, 2) := by decide +kernel
theorem dX4_init_58 : decode cX4_init 58 = .ok (.putfield 29, 3) := by decide +kernel
theorem dX4_init_61 : decode cX4_init 61 = .ok (.aload_n 0, 1) := by decide +kernel
theorem dX4_init_62 : decode cX4_init 62 = .ok (.bipush 80, 2) := by decide +kernel
theorem dX4_init_64 : decode cX4_init 64 = .ok (.newarray .int, 2) := by decide +kernel
theorem dX4_init_66 : decode cX4_init 66 = .ok (.putfield 32, 3) := by decide +kernel
theorem dX4_init_69 : decode cX4_init 69 = .ok (.aload_n 0, 1) := by decide +kernel
theorem dX4_init_70 : decode cX4_init 70 = .ok (.bipush 80, 2) := by decide +kernel
theorem dX4_init_72 : decode cX4_init 72 = .ok (.newarray .int, 2) := by decide +kernel
theorem dX4_init_74 : decode cX4_init 74 = .ok (.putfield 35, 3) := by decide +kernel
theorem dX4_init_77 : decode cX4_init 77 = .ok (.aload_n 0, 1) := by decide +kernel
theorem dX4_init_78 : decode cX4_init 78 = .ok (.bipush 80, 2) := by decide +kernel
theorem dX4_init_80 : decode cX4_init 80 = .ok (.newarray .int, 2) := by decide +kernel
theorem dX4_init_82 : decode cX4_init 82 = .ok (.putfield 38, 3) := by decide +kernel
theorem dX4_init_85 : decode cX4_init 85 = .ok (.aload_n 0, 1) := by decide +kernel
theorem dX4_init_86 : decode cX4_init 86 = .ok (.bipush 80, 2) := by decide +kernel
theorem dX4_init_88 : decode cX4_init 88 = .ok (.newarray .int, 2) := by decide +kernel
theorem dX4_init_90 : decode cX4_init 90 = .ok (.putfield 41, 3) := by decide +kernel
theorem dX4_init_93 : decode cX4_init 93 = .ok (.aload_n 0, 1) := by decide +kernel
theorem dX4_init_94 : decode cX4_init 94 = .ok (.bipush 80, 2) := by decide +kernel
theorem dX4_init_96 : decode cX4_init 96 = .ok (.newarray .int, 2) := by decide +kernel
theorem dX4_init_98 : decode cX4_init 98 = .ok (.putfield 44, 3) := by decide +kernel
theorem dX4_init_101 : decode cX4_init 101 = .ok (.aload_n 0, 1) := by decide +kernel
theorem dX4_init_102 : decode cX4_init 102 = .ok (.bipush 80, 2) := by decide +kernel
theorem dX4_init_104 : decode cX4_init 104 = .ok (.newarray .int, 2) := by decide +kernel
theorem dX4_init_106 : decode cX4_init 106 = .ok (.putfield 47, 3) := by decide +kernel
theorem dX4_init_109 : decode cX4_init 109 = .ok (.aload_n 0, 1) := by decide +kernel
theorem dX4_init_110 : decode cX4_init 110 = .ok (.sipush 320, 3) := by decide +kernel
theorem dX4_init_113 : decode cX4_init 113 = .ok (.newarray .int, 2) := by decide +kernel
theorem dX4_init_115 : decode cX4_init 115 = .ok (.putfield 50, 3) := by decide +kernel
theorem dX4_init_118 : decode cX4_init 118 = .ok (.aload_n 0, 1) := by decide +kernel
theorem dX4_init_119 : decode cX4_init 119 = .ok (.bipush 8, 2) := by decide +kernel
theorem dX4_init_121 : decode cX4_init 121 = .ok (.newarray .int, 2) := by decide +kernel
theorem dX4_init_123 : decode cX4_init 123 = .ok (.putfield 53, 3) := by decide +kernel
theorem dX4_init_126 : decode cX4_init 126 = .ok (.aload_n 0, 1) := by decide +kernel
theorem dX4_init_127 : decode cX4_init 127 = .ok (.bipush 8, 2) := by decide +kernel
theorem dX4_init_129 : decode cX4_init 129 = .ok (.newarray .boolean, 2) := by decide +kernel
theorem dX4_init_131 : decode cX4_init 131 = .ok (.putfield 56, 3) := by decide +kernel
theorem dX4_init_134 : decode cX4_init 134 = .ok (.aload_n 0, 1) := by decide +kernel
theorem dX4_init_135 : decode cX4_init 135 = .ok (.bipush 48, 2) := by decide +kernel
theorem dX4_init_137 : decode cX4_init 137 = .ok (.newarray .int, 2) := by decide +kernel
theorem dX4_init_139 : decode cX4_init 139 = .ok (.putfield 59, 3) := by decide +kernel
theorem dX4_init_142 : decode cX4_init 142 = .ok (.aload_n 0, 1) := by decide +kernel
theorem dX4_init_143 : decode cX4_init 143 = .ok (.iload_n 1, 1) := by decide +kernel
theorem dX4_init_144 : decode cX4_init 144 = .ok (.bipush 19, 2) := by decide +kernel
theorem dX4_init_146 : decode cX4_init 146 = .ok (.if_icmp .ge 8, 3) := by decide +kernel
theorem dX4_init_149 : decode cX4_init 149 = .ok (.bipush 19, 2) := by decide +kernel
theorem dX4_init_151 : decode cX4_init 151 = .ok (.goto 15, 3) := by decide +kernel
theorem dX4_init_154 : decode cX4_init 154 = .ok (.iload_n 1, 1) := by decide +kernel
theorem dX4_init_155 : decode cX4_init 155 = .ok (.bipush 30, 2) := by decide +kernel
theorem dX4_init_157 : decode cX4_init 157 = .ok (.if_icmp .le 8, 3) := by decide +kernel
theorem dX4_init_160 : decode cX4_init 160 = .ok (.bipush 30, 2) := by decide +kernel
theorem dX4_init_162 : decode cX4_init 162 = .ok (.goto 4, 3) := by decide +kernel
theorem dX4_init_165 : decode cX4_init 165 = .ok (.iload_n 1, 1) := by decide +kernel
theorem dX4_init_166 : decode cX4_init 166 = .ok (.putfield 62, 3) := by decide +kernel
theorem dX4_init_169 : decode cX4_init 169 = .ok (.aload_n 0, 1) := by decide +kernel
theorem dX4_init_170 : decode cX4_init 170 = .ok (.iload_n 2, 1) := by decide +kernel
theorem dX4_init_171 : decode cX4_init 171 = .ok (.iconst 5, 1) := by decide +kernel
theorem dX4_init_172 : decode cX4_init 172 = .ok (.if_icmp .ge 7, 3) := by decide +kernel
theorem dX4_init_175 : decode cX4_init 175 = .ok (.iconst 5, 1) := by decide +kernel
theorem dX4_init_176 : decode cX4_init 176 = .ok (.goto 15, 3) := by decide +kernel
theorem dX4_init_179 : decode cX4_init 179 = .ok (.iload_n 2, 1) := by decide +kernel
theorem dX4_init_180 : decode cX4_init 180 = .ok (.bipush 10, 2) := by decide +kernel
theorem dX4_init_182 : decode cX4_init 182 = .ok (.if_icmp .le 8, 3) := by decide +kernel
theorem dX4_init_185 : decode cX4_init 185 = .ok (.bipush 10, 2) := by decide +kernel
theorem dX4_init_187 : decode cX4_init 187 = .ok (.goto 4, 3) := by decide +kernel
theorem dX4_init_190 : decode cX4_init 190 = .ok (.iload_n 2, 1) := by decide +kernel
theorem dX4_init_191 : decode cX4_init 191 = .ok (.putfield 66, 3) := by decide +kernel
theorem dX4_init_194 : decode cX4_init 194 = .ok (.aload_n 0, 1) := by decide +kernel
theorem dX4_init_195 : decode cX4_init 195 = .ok (.iload_n 3, 1) := by decide +kernel
theorem dX4_init_196 : decode cX4_init 196 = .ok (.ifCond .ge 7, 3) := by decide +kernel
theorem dX4_init_199 : decode cX4_init 199 = .ok (.iconst 0, 1) := by decide +kernel
theorem dX4_init_200 : decode cX4_init 200 = .ok (.goto 15, 3) := by decide +kernel
theorem dX4_init_203 : decode cX4_init 203 = .ok (.iload_n 3, 1) := by decide +kernel
theorem dX4_init_204 : decode cX4_init 204 = .ok (.bipush 6, 2) := by decide +kernel
theorem dX4_init_206 : decode cX4_init 206 = .ok (.if_icmp .le 8, 3) := by decide +kernel
theorem dX4_init_209 : decode cX4_init 209 = .ok (.bipush 6, 2) := by decide +kernel
theorem dX4_init_211 : decode cX4_init 211 = .ok (.goto 4, 3) := by decide +kernel
theorem dX4_init_214 : decode cX4_init 214 = .ok (.iload_n 3, 1) := by decide +kernel
theorem dX4_init_215 : decode cX4_init 215 = .ok (.putfield 69, 3) := by decide +kernel
theorem dX4_init_218 : decode cX4_init 218 = .ok (.iconst 0, 1) := by decide +kernel
theorem dX4_init_219 : decode cX4_init 219 = .ok (.istore 4, 2) := by decide +kernel
theorem dX4_init_221 : decode cX4_init 221 = .ok (.iload 4, 2) := by decide +kernel
theorem dX4_init_223 : decode cX4_init 223 = .ok (.bipush 8, 2) := by decide +kernel
theorem dX4_init_225 : decode cX4_init 225 = .ok (.if_icmp .ge 17, 3) := by decide +kernel
theorem dX4_init_228 : decode cX4_init 228 = .ok (.aload_n 0, 1) := by decide +kernel
theorem dX4_init_229 : decode cX4_init 229 = .ok (.getfield 7, 3) := by decide +kernel
theorem dX4_init_232 : decode cX4_init 232 = .ok (.iload 4, 2) := by decide +kernel
theorem dX4_init_234 : decode cX4_init 234 = .ok (.iconst (-1), 1) := by decide +kernel
theorem dX4_init_235 : decode cX4_init 235 = .ok (.iastore, 1) := by decide +kernel
theorem dX4_init_236 : decode cX4_init 236 = .ok (.iinc 4 1, 3) := by decide +kernel
theorem dX4_init_239 : decode cX4_init 239 = .ok (.goto (-18), 3) := by decide +kernel
theorem dX4_init_242 : decode cX4_init 242 = .ok (.return_, 1) := by decide +kernel
theorem dX4_set_0 : decode cX4_set 0 = .ok (.iload_n 1, 1) := by decide +kernel
theorem dX4_set_1 : decode cX4_set 1 = .ok (.bipush 8, 2) := by decide +kernel
theorem dX4_set_3 : decode cX4_set 3 = .ok (.invokestatic 123, 3) := by decide +kernel
theorem dX4_set_6 : decode cX4_set 6 = .ok (.ifCond .ne 22, 3) := by decide +kernel
theorem dX4_set_9 : decode cX4_set 9 = .ok (.iload_n 3, 1) := by decide +kernel
theorem dX4_set_10 : decode cX4_set 10 = .ok (.bipush 6, 2) := by decide +kernel
theorem dX4_set_12 : decode cX4_set 12 = .ok (.invokestatic 123, 3) := by decide +kernel
theorem dX4_set_15 : decode cX4_set 15 = .ok (.ifCond .ne 13, 3) := by decide +kernel
theorem dX4_set_18 : decode cX4_set 18 = .ok (.iload 6, 2) := by decide +kernel
theorem dX4_set_20 : decode cX4_set 20 = .ok (.bipush 10, 2) := by decide +kernel
theorem dX4_set_22 : decode cX4_set 22 = .ok (.invokestatic 123, 3) := by decide +kernel
theorem dX4_set_25 : decode cX4_set 25 = .ok (.ifCond .eq 6, 3) := by decide +kernel
theorem dX4_set_28 : decode cX4_set 28 = .ok (.bipush (-15), 2) := by decide +kernel
theorem dX4_set_30 : decode cX4_set 30 = .ok (.ireturn, 1) := by decide +kernel
theorem dX4_set_31 : decode cX4_set 31 = .ok (.aload_n 0, 1) := by decide +kernel
theorem dX4_set_32 : decode cX4_set 32 = .ok (.getfield 29, 3) := by decide +kernel
theorem dX4_set_35 : decode cX4_set 35 = .ok (.lload 4, 2) := by decide +kernel
theorem dX4_set_37 : decode cX4_set 37 = .ok (.invokestatic 100, 3) := by decide +kernel
theorem dX4_set_40 : decode cX4_set 40 = .ok (.aload_n 0, 1) := by decide +kernel
theorem dX4_set_41 : decode cX4_set 41 = .ok (.getfield 29, 3) := by decide +kernel
theorem dX4_set_44 : decode cX4_set 44 = .ok (.bipush 10, 2) := by decide +kernel
theorem dX4_set_46 : decode cX4_set 46 = .ok (.iload 6, 2) := by decide +kernel
theorem dX4_set_48 : decode cX4_set 48 = .ok (.isub, 1) := by decide +kernel
theorem dX4_set_49 : decode cX4_set 49 = .ok (.invokestatic 82, 3) := by decide +kernel
theorem dX4_set_52 : decode cX4_set 52 = .ok (.aload_n 0, 1) := by decide +kernel
theorem dX4_set_53 : decode cX4_set 53 = .ok (.getfield 32, 3) := by decide +kernel
theorem dX4_set_56 : decode cX4_set 56 = .ok (.lconst 1, 1) := by decide +kernel
theorem dX4_set_57 : decode cX4_set 57 = .ok (.invokestatic 100, 3) := by decide +kernel
theorem dX4_set_60 : decode cX4_set 60 = .ok (.aload_n 0, 1) := by decide +kernel
theorem dX4_set_61 : decode cX4_set 61 = .ok (.iload_n 1, 1) := by decide +kernel
theorem dX4_set_62 : decode cX4_set 62 = .ok (.iload_n 3, 1) := by decide +kernel
theorem dX4_set_63 : decode cX4_set 63 = .ok (.iload_n 2, 1) := by decide +kernel
theorem dX4_set_64 : decode cX4_set 64 = .ok (.lload 4, 2) := by decide +kernel
theorem dX4_set_66 : decode cX4_set 66 = .ok (.lconst 0, 1) := by decide +kernel
theorem dX4_set_67 : decode cX4_set 67 = .ok (.lcmp, 1) := by decide +kernel
theorem dX4_set_68 : decode cX4_set 68 = .ok (.ifCond .ge 7, 3) := by decide +kernel
theorem dX4_set_71 : decode cX4_set 71 = .ok (.iconst 1, 1) := by decide +kernel
theorem dX4_set_72 : decode cX4_set 72 = .ok (.goto 4, 3) := by decide +kernel
theorem dX4_set_75 : decode cX4_set 75 = .ok (.iconst 0, 1) := by decide +kernel
theorem dX4_set_76 : decode cX4_set 76 = .ok (.invokevirtual 127, 3) := by decide +kernel
theorem dX4_set_79 : decode cX4_set 79 = .ok (.ireturn, 1) := by decide +kernel
theorem dX4_outside_0 : decode cX4_outside 0 = .ok (.iload_n 0, 1) := by decide +kernel
theorem dX4_outside_1 : decode cX4_outside 1 = .ok (.ifCond .lt 8, 3) := by decide +kernel
theorem dX4_outside_4 : decode cX4_outside 4 = .ok (.iload_n 0, 1) := by decide +kernel
theorem dX4_outside_5 : decode cX4_outside 5 = .ok (.iload_n 1, 1) := by decide +kernel
theorem dX4_outside_6 : decode cX4_outside 6 = .ok (.if_icmp .lt 7, 3) := by decide +kernel
theorem dX4_outside_9 : decode cX4_outside 9 = .ok (.iconst 1, 1) := by decide +kernel
theorem dX4_outside_10 : decode cX4_outside 10 = .ok (.goto 4, 3) := by decide +kernel
theorem dX4_outside_13 : decode cX4_outside 13 = .ok (.iconst 0, 1) := by decide +kernel
theorem dX4_outside_14 : decode cX4_outside 14 = .ok (.ireturn, 1) := by decide +kernel
theorem dX4_load_0 : decode cX4_load 0 = .ok (.aload_n 0, 1) := by decide +kernel
theorem dX4_load_1 : decode cX4_load 1 = .ok (.invokestatic 72, 3) := by decide +kernel
theorem dX4_load_4 : decode cX4_load 4 = .ok (.lload_n 1, 1) := by decide +kernel
theorem dX4_load_5 : decode cX4_load 5 = .ok (.lstore_n 3, 1) := by decide +kernel
theorem dX4_load_6 : decode cX4_load 6 = .ok (.iconst 0, 1) := by decide +kernel
theorem dX4_load_7 : decode cX4_load 7 = .ok (.istore 5, 2) := by decide +kernel
theorem dX4_load_9 : decode cX4_load 9 = .ok (.iload 5, 2) := by decide +kernel
theorem dX4_load_11 : decode cX4_load 11 = .ok (.bipush 20, 2) := by decide +kernel
theorem dX4_load_13 : decode cX4_load 13 = .ok (.if_icmp .ge 40, 3) := by decide +kernel
theorem dX4_load_16 : decode cX4_load 16 = .ok (.lload_n 3, 1) := by decide +kernel
theorem dX4_load_17 : decode cX4_load 17 = .ok (.ldc2_w 76, 3) := by decide +kernel
theorem dX4_load_20 : decode cX4_load 20 = .ok (.lrem, 1) := by decide +kernel
theorem dX4_load_21 : decode cX4_load 21 = .ok (.l2i, 1) := by decide +kernel
theorem dX4_load_22 : decode cX4_load 22 = .ok (.istore 6, 2) := by decide +kernel
theorem dX4_load_24 : decode cX4_load 24 = .ok (.aload_n 0, 1) := by decide +kernel
theorem dX4_load_25 : decode cX4_load 25 = .ok (.iload 5, 2) := by decide +kernel
theorem dX4_load_27 : decode cX4_load 27 = .ok (.iload 6, 2) := by decide +kernel
theorem dX4_load_29 : decode cX4_load 29 = .ok (.ifCond .ge 9, 3) := by decide +kernel
theorem dX4_load_32 : decode cX4_load 32 = .ok (.iload 6, 2) := by decide +kernel
theorem dX4_load_34 : decode cX4_load 34 = .ok (.ineg, 1) := by decide +kernel
theorem dX4_load_35 : decode cX4_load 35 = .ok (.goto 5, 3) := by decide +kernel
theorem dX4_load_38 : decode cX4_load 38 = .ok (.iload 6, 2) := by decide +kernel
theorem dX4_load_40 : decode cX4_load 40 = .ok (.iastore, 1) := by decide +kernel
theorem dX4_load_41 : decode cX4_load 41 = .ok (.lload_n 3, 1) := by decide +kernel
theorem dX4_load_42 : decode cX4_load 42 = .ok (.ldc2_w 76, 3) := by decide +kernel
theorem dX4_load_45 : decode cX4_load 45 = .ok (.ldiv, 1) := by decide +kernel
theorem dX4_load_46 : decode cX4_load 46 = .ok (.lstore_n 3, 1) := by decide +kernel
theorem dX4_load_47 : decode cX4_load 47 = .ok (.iinc 5 1, 3) := by decide +kernel
theorem dX4_load_50 : decode cX4_load 50 = .ok (.goto (-41), 3) := by decide +kernel
theorem dX4_load_53 : decode cX4_load 53 = .ok (.return_, 1) := by decide +kernel
theorem dX4_clear_0 : decode cX4_clear 0 = .ok (.iconst 0, 1) := by decide +kernel
theorem dX4_clear_1 : decode cX4_clear 1 = .ok (.istore_n 1, 1) := by decide +kernel
theorem dX4_clear_2 : decode cX4_clear 2 = .ok (.iload_n 1, 1) := by decide +kernel
theorem dX4_clear_3 : decode cX4_clear 3 = .ok (.bipush 80, 2) := by decide +kernel
theorem dX4_clear_5 : decode cX4_clear 5 = .ok (.if_icmp .ge 13, 3) := by decide +kernel
theorem dX4_clear_8 : decode cX4_clear 8 = .ok (.aload_n 0, 1) := by decide +kernel
theorem dX4_clear_9 : decode cX4_clear 9 = .ok (.iload_n 1, 1) := by decide +kernel
theorem dX4_clear_10 : decode cX4_clear 10 = .ok (.iconst 0, 1) := by decide +kernel
theorem dX4_clear_11 : decode cX4_clear 11 = .ok (.iastore, 1) := by decide +kernel
theorem dX4_clear_12 : decode cX4_clear 12 = .ok (.iinc 1 1, 3) := by decide +kernel
theorem dX4_clear_15 : decode cX4_clear 15 = .ok (.goto (-13), 3) := by decide +kernel
theorem dX4_clear_18 : decode cX4_clear 18 = .ok (.return_, 1) := by decide +kernel
theorem dX4_shift_0 : decode cX4_shift 0 = .ok (.bipush 79, 2) := by decide +kernel
theorem dX4_shift_2 : decode cX4_shift 2 = .ok (.istore_n 2, 1) := by decide +kernel
theorem dX4_shift_3 : decode cX4_shift 3 = .ok (.iload_n 2, 1) := by decide +kernel
theorem dX4_shift_4 : decode cX4_shift 4 = .ok (.ifCond .lt 26, 3) := by decide +kernel
theorem dX4_shift_7 : decode cX4_shift 7 = .ok (.aload_n 0, 1) := by decide +kernel
theorem dX4_shift_8 : decode cX4_shift 8 = .ok (.iload_n 2, 1) := by decide +kernel
theorem dX4_shift_9 : decode cX4_shift 9 = .ok (.iload_n 2, 1) := by decide +kernel
theorem dX4_shift_10 : decode cX4_shift 10 = .ok (.iload_n 1, 1) := by decide +kernel
theorem dX4_shift_11 : decode cX4_shift 11 = .ok (.if_icmp .lt 11, 3) := by decide +kernel
theorem dX4_shift_14 : decode cX4_shift 14 = .ok (.aload_n 0, 1) := by decide +kernel
theorem dX4_shift_15 : decode cX4_shift 15 = .ok (.iload_n 2, 1) := by decide +kernel
theorem dX4_shift_16 : decode cX4_shift 16 = .ok (.iload_n 1, 1) := by decide +kernel
theorem dX4_shift_17 : decode cX4_shift 17 = .ok (.isub, 1) := by decide +kernel
theorem dX4_shift_18 : decode cX4_shift 18 = .ok (.iaload, 1) := by decide +kernel
theorem dX4_shift_19 : decode cX4_shift 19 = .ok (.goto 4, 3) := by decide +kernel
theorem dX4_shift_22 : decode cX4_shift 22 = .ok (.iconst 0, 1) := by decide +kernel
theorem dX4_shift_23 : decode cX4_shift 23 = .ok (.iastore, 1) := by decide +kernel
theorem dX4_shift_24 : decode cX4_shift 24 = .ok (.iinc 2 (-1), 3) := by decide +kernel
theorem dX4_shift_27 : decode cX4_shift 27 = .ok (.goto (-24), 3) := by decide +kernel
theorem dX4_shift_30 : decode cX4_shift 30 = .ok (.return_, 1) := by decide +kernel
theorem dX4_settle_0 : decode cX4_settle 0 = .ok (.iconst 0, 1) := by decide +kernel
theorem dX4_settle_1 : decode cX4_settle 1 = .ok (.istore 5, 2) := by decide +kernel
theorem dX4_settle_3 : decode cX4_settle 3 = .ok (.iload_n 3, 1) := by decide +kernel
theorem dX4_settle_4 : decode cX4_settle 4 = .ok (.ifCond .eq 79, 3) := by decide +kernel
theorem dX4_settle_7 : decode cX4_settle 7 = .ok (.aload_n 0, 1) := by decide +kernel
theorem dX4_settle_8 : decode cX4_settle 8 = .ok (.getfield 32, 3) := by decide +kernel
theorem dX4_settle_11 : decode cX4_settle 11 = .ok (.aload_n 0, 1) := by decide +kernel
theorem dX4_settle_12 : decode cX4_settle 12 = .ok (.getfield 35, 3) := by decide +kernel
theorem dX4_settle_15 : decode cX4_settle 15 = .ok (.invokestatic 94, 3) := by decide +kernel
theorem dX4_settle_18 : decode cX4_settle 18 = .ok (.aload_n 0, 1) := by decide +kernel
theorem dX4_settle_19 : decode cX4_settle 19 = .ok (.getfield 35, 3) := by decide +kernel
theorem dX4_settle_22 : decode cX4_settle 22 = .ok (.bipush 10, 2) := by decide +kernel
theorem dX4_settle_24 : decode cX4_settle 24 = .ok (.invokestatic 82, 3) := by decide +kernel
theorem dX4_settle_27 : decode cX4_settle 27 = .ok (.aload_n 0, 1) := by decide +kernel
theorem dX4_settle_28 : decode cX4_settle 28 = .ok (.invokevirtual 108, 3) := by decide +kernel
theorem dX4_settle_31 : decode cX4_settle 31 = .ok (.aload_n 0, 1) := by decide +kernel
theorem dX4_settle_32 : decode cX4_settle 32 = .ok (.getfield 38, 3) := by decide +kernel
theorem dX4_settle_35 : decode cX4_settle 35 = .ok (.invokestatic 78, 3) := by decide +kernel
theorem dX4_settle_38 : decode cX4_settle 38 = .ok (.istore 6, 2) := by decide +kernel
theorem dX4_settle_40 : decode cX4_settle 40 = .ok (.iload 6, 2) := by decide +kernel
theorem dX4_settle_42 : decode cX4_settle 42 = .ok (.bipush 26, 2) := by decide +kernel
theorem dX4_settle_44 : decode cX4_settle 44 = .ok (.if_icmp .le 6, 3) := by decide +kernel
theorem dX4_settle_47 : decode cX4_settle 47 = .ok (.bipush (-13), 2) := by decide +kernel
theorem dX4_settle_49 : decode cX4_settle 49 = .ok (.ireturn, 1) := by decide +kernel
theorem dX4_settle_50 : decode cX4_settle 50 = .ok (.bipush 10, 2) := by decide +kernel
theorem dX4_settle_52 : decode cX4_settle 52 = .ok (.aload_n 0, 1) := by decide +kernel
theorem dX4_settle_53 : decode cX4_settle 53 = .ok (.getfield 66, 3) := by decide +kernel
theorem dX4_settle_56 : decode cX4_settle 56 = .ok (.aload_n 0, 1) := by decide +kernel
theorem dX4_settle_57 : decode cX4_settle 57 = .ok (.getfield 62, 3) := by decide +kernel
theorem dX4_settle_60 : decode cX4_settle 60 = .ok (.iload 6, 2) := by decide +kernel
theorem dX4_settle_62 : decode cX4_settle 62 = .ok (.isub, 1) := by decide +kernel
theorem dX4_settle_63 : decode cX4_settle 63 = .ok (.if_icmp .ge 10, 3) := by decide +kernel
theorem dX4_settle_66 : decode cX4_settle 66 = .ok (.aload_n 0, 1) := by decide +kernel
theorem dX4_settle_67 : decode cX4_settle 67 = .ok (.getfield 66, 3) := by decide +kernel
theorem dX4_settle_70 : decode cX4_settle 70 = .ok (.goto 10, 3) := by decide +kernel
theorem dX4_settle_73 : decode cX4_settle 73 = .ok (.aload_n 0, 1) := by decide +kernel
theorem dX4_settle_74 : decode cX4_settle 74 = .ok (.getfield 62, 3) := by decide +kernel
theorem dX4_settle_77 : decode cX4_settle 77 = .ok (.iload 6, 2) := by decide +kernel
theorem dX4_settle_79 : decode cX4_settle 79 = .ok (.isub, 1) := by decide +kernel
theorem dX4_settle_80 : decode cX4_settle 80 = .ok (.isub, 1) := by decide +kernel
theorem dX4_settle_81 : decode cX4_settle 81 = .ok (.istore 5, 2) := by decide +kernel
theorem dX4_settle_83 : decode cX4_settle 83 = .ok (.aload_n 0, 1) := by decide +kernel
theorem dX4_settle_84 : decode cX4_settle 84 = .ok (.getfield 32, 3) := by decide +kernel
theorem dX4_settle_87 : decode cX4_settle 87 = .ok (.aload_n 0, 1) := by decide +kernel
theorem dX4_settle_88 : decode cX4_settle 88 = .ok (.getfield 35, 3) := by decide +kernel
theorem dX4_settle_91 : decode cX4_settle 91 = .ok (.invokestatic 94, 3) := by decide +kernel
theorem dX4_settle_94 : decode cX4_settle 94 = .ok (.aload_n 0, 1) := by decide +kernel
theorem dX4_settle_95 : decode cX4_settle 95 = .ok (.getfield 35, 3) := by decide +kernel
theorem dX4_settle_98 : decode cX4_settle 98 = .ok (.iload 5, 2) := by decide +kernel
theorem dX4_settle_100 : decode cX4_settle 100 = .ok (.invokestatic 82, 3) := by decide +kernel
theorem dX4_settle_103 : decode cX4_settle 103 = .ok (.aload_n 0, 1) := by decide +kernel
theorem dX4_settle_104 : decode cX4_settle 104 = .ok (.invokevirtual 108, 3) := by decide +kernel
theorem dX4_settle_107 : decode cX4_settle 107 = .ok (.aload_n 0, 1) := by decide +kernel
theorem dX4_settle_108 : decode cX4_settle 108 = .ok (.getfield 41, 3) := by decide +kernel
theorem dX4_settle_111 : decode cX4_settle 111 = .ok (.invokestatic 78, 3) := by decide +kernel
theorem dX4_settle_114 : decode cX4_settle 114 = .ok (.ifCond .ne 7, 3) := by decide +kernel
theorem dX4_settle_117 : decode cX4_settle 117 = .ok (.iconst 1, 1) := by decide +kernel
theorem dX4_settle_118 : decode cX4_settle 118 = .ok (.goto 4, 3) := by decide +kernel
theorem dX4_settle_121 : decode cX4_settle 121 = .ok (.iconst 0, 1) := by decide +kernel
theorem dX4_settle_122 : decode cX4_settle 122 = .ok (.istore 6, 2) := by decide +kernel
theorem dX4_settle_124 : decode cX4_settle 124 = .ok (.iload_n 3, 1) := by decide +kernel
theorem dX4_settle_125 : decode cX4_settle 125 = .ok (.ifCond .eq 15, 3) := by decide +kernel
theorem dX4_settle_128 : decode cX4_settle 128 = .ok (.aload_n 0, 1) := by decide +kernel
theorem dX4_settle_129 : decode cX4_settle 129 = .ok (.iload 4, 2) := by decide +kernel
theorem dX4_settle_131 : decode cX4_settle 131 = .ok (.aload_n 0, 1) := by decide +kernel
theorem dX4_settle_132 : decode cX4_settle 132 = .ok (.getfield 69, 3) := by decide +kernel
theorem dX4_settle_135 : decode cX4_settle 135 = .ok (.invokevirtual 111, 3) := by decide +kernel
theorem dX4_settle_138 : decode cX4_settle 138 = .ok (.istore 6, 2) := by decide +kernel
theorem dX4_settle_140 : decode cX4_settle 140 = .ok (.aload_n 0, 1) := by decide +kernel
theorem dX4_settle_141 : decode cX4_settle 141 = .ok (.getfield 38, 3) := by decide +kernel
theorem dX4_settle_144 : decode cX4_settle 144 = .ok (.iload 5, 2) := by decide +kernel
theorem dX4_settle_146 : decode cX4_settle 146 = .ok (.invokestatic 82, 3) := by decide +kernel
theorem dX4_settle_149 : decode cX4_settle 149 = .ok (.iload 6, 2) := by decide +kernel
theorem dX4_settle_151 : decode cX4_settle 151 = .ok (.ifCond .eq 33, 3) := by decide +kernel
theorem dX4_settle_154 : decode cX4_settle 154 = .ok (.aload_n 0, 1) := by decide +kernel
theorem dX4_settle_155 : decode cX4_settle 155 = .ok (.aload_n 0, 1) := by decide +kernel
theorem dX4_settle_156 : decode cX4_settle 156 = .ok (.getfield 38, 3) := by decide +kernel
theorem dX4_settle_159 : decode cX4_settle 159 = .ok (.iload_n 3, 1) := by decide +kernel
theorem dX4_settle_160 : decode cX4_settle 160 = .ok (.iload 4, 2) := by decide +kernel
theorem dX4_settle_162 : decode cX4_settle 162 = .ok (.invokevirtual 115, 3) := by decide +kernel
theorem dX4_settle_165 : decode cX4_settle 165 = .ok (.ifCond .eq 19, 3) := by decide +kernel
theorem dX4_settle_168 : decode cX4_settle 168 = .ok (.aload_n 0, 1) := by decide +kernel
theorem dX4_settle_169 : decode cX4_settle 169 = .ok (.iload_n 1, 1) := by decide +kernel
theorem dX4_settle_170 : decode cX4_settle 170 = .ok (.iload_n 2, 1) := by decide +kernel
theorem dX4_settle_171 : decode cX4_settle 171 = .ok (.iload_n 3, 1) := by decide +kernel
theorem dX4_settle_172 : decode cX4_settle 172 = .ok (.iload 4, 2) := by decide +kernel
theorem dX4_settle_174 : decode cX4_settle 174 = .ok (.aload_n 0, 1) := by decide +kernel
theorem dX4_settle_175 : decode cX4_settle 175 = .ok (.getfield 38, 3) := by decide +kernel
theorem dX4_settle_178 : decode cX4_settle 178 = .ok (.invokevirtual 119, 3) := by decide +kernel
theorem dX4_settle_181 : decode cX4_settle 181 = .ok (.goto 5, 3) := by decide +kernel
theorem dX4_settle_184 : decode cX4_settle 184 = .ok (.bipush (-13), 2) := by decide +kernel
theorem dX4_settle_186 : decode cX4_settle 186 = .ok (.ireturn, 1) := by decide +kernel
theorem dX4_copy_0 : decode cX4_copy 0 = .ok (.iconst 0, 1) := by decide +kernel
theorem dX4_copy_1 : decode cX4_copy 1 = .ok (.istore_n 2, 1) := by decide +kernel
theorem dX4_copy_2 : decode cX4_copy 2 = .ok (.iload_n 2, 1) := by decide +kernel
theorem dX4_copy_3 : decode cX4_copy 3 = .ok (.bipush 80, 2) := by decide +kernel
theorem dX4_copy_5 : decode cX4_copy 5 = .ok (.if_icmp .ge 15, 3) := by decide +kernel
theorem dX4_copy_8 : decode cX4_copy 8 = .ok (.aload_n 1, 1) := by decide +kernel
theorem dX4_copy_9 : decode cX4_copy 9 = .ok (.iload_n 2, 1) := by decide +kernel
theorem dX4_copy_10 : decode cX4_copy 10 = .ok (.aload_n 0, 1) := by decide +kernel
theorem dX4_copy_11 : decode cX4_copy 11 = .ok (.iload_n 2, 1) := by decide +kernel
theorem dX4_copy_12 : decode cX4_copy 12 = .ok (.iaload, 1) := by decide +kernel
theorem dX4_copy_13 : decode cX4_copy 13 = .ok (.iastore, 1) := by decide +kernel
theorem dX4_copy_14 : decode cX4_copy 14 = .ok (.iinc 2 1, 3) := by decide +kernel
theorem dX4_copy_17 : decode cX4_copy 17 = .ok (.goto (-15), 3) := by decide +kernel
theorem dX4_copy_20 : decode cX4_copy 20 = .ok (.return_, 1) := by decide +kernel
theorem dX4_quotient_0 : decode cX4_quotient 0 = .ok (.aload_n 0, 1) := by decide +kernel
theorem dX4_quotient_1 : decode cX4_quotient 1 = .ok (.getfield 38, 3) := by decide +kernel
theorem dX4_quotient_4 : decode cX4_quotient 4 = .ok (.invokestatic 72, 3) := by decide +kernel
theorem dX4_quotient_7 : decode cX4_quotient 7 = .ok (.aload_n 0, 1) := by decide +kernel
theorem dX4_quotient_8 : decode cX4_quotient 8 = .ok (.getfield 41, 3) := by decide +kernel
theorem dX4_quotient_11 : decode cX4_quotient 11 = .ok (.invokestatic 72, 3) := by decide +kernel
theorem dX4_quotient_14 : decode cX4_quotient 14 = .ok (.bipush 79, 2) := by decide +kernel
theorem dX4_quotient_16 : decode cX4_quotient 16 = .ok (.istore_n 1, 1) := by decide +kernel
theorem dX4_quotient_17 : decode cX4_quotient 17 = .ok (.iload_n 1, 1) := by decide +kernel
theorem dX4_quotient_18 : decode cX4_quotient 18 = .ok (.ifCond .lt 78, 3) := by decide +kernel
theorem dX4_quotient_21 : decode cX4_quotient 21 = .ok (.aload_n 0, 1) := by decide +kernel
theorem dX4_quotient_22 : decode cX4_quotient 22 = .ok (.getfield 41, 3) := by decide +kernel
theorem dX4_quotient_25 : decode cX4_quotient 25 = .ok (.iconst 1, 1) := by decide +kernel
theorem dX4_quotient_26 : decode cX4_quotient 26 = .ok (.invokestatic 82, 3) := by decide +kernel
theorem dX4_quotient_29 : decode cX4_quotient 29 = .ok (.aload_n 0, 1) := by decide +kernel
theorem dX4_quotient_30 : decode cX4_quotient 30 = .ok (.getfield 41, 3) := by decide +kernel
theorem dX4_quotient_33 : decode cX4_quotient 33 = .ok (.iconst 0, 1) := by decide +kernel
theorem dX4_quotient_34 : decode cX4_quotient 34 = .ok (.aload_n 0, 1) := by decide +kernel
theorem dX4_quotient_35 : decode cX4_quotient 35 = .ok (.getfield 29, 3) := by decide +kernel
theorem dX4_quotient_38 : decode cX4_quotient 38 = .ok (.iload_n 1, 1) := by decide +kernel
theorem dX4_quotient_39 : decode cX4_quotient 39 = .ok (.iaload, 1) := by decide +kernel
theorem dX4_quotient_40 : decode cX4_quotient 40 = .ok (.iastore, 1) := by decide +kernel
theorem dX4_quotient_41 : decode cX4_quotient 41 = .ok (.aload_n 0, 1) := by decide +kernel
theorem dX4_quotient_42 : decode cX4_quotient 42 = .ok (.getfield 38, 3) := by decide +kernel
theorem dX4_quotient_45 : decode cX4_quotient 45 = .ok (.iload_n 1, 1) := by decide +kernel
theorem dX4_quotient_46 : decode cX4_quotient 46 = .ok (.iaload, 1) := by decide +kernel
theorem dX4_quotient_47 : decode cX4_quotient 47 = .ok (.bipush 9, 2) := by decide +kernel
theorem dX4_quotient_49 : decode cX4_quotient 49 = .ok (.if_icmp .ge 41, 3) := by decide +kernel
theorem dX4_quotient_52 : decode cX4_quotient 52 = .ok (.aload_n 0, 1) := by decide +kernel
theorem dX4_quotient_53 : decode cX4_quotient 53 = .ok (.getfield 41, 3) := by decide +kernel
theorem dX4_quotient_56 : decode cX4_quotient 56 = .ok (.aload_n 0, 1) := by decide +kernel
theorem dX4_quotient_57 : decode cX4_quotient 57 = .ok (.getfield 35, 3) := by decide +kernel
theorem dX4_quotient_60 : decode cX4_quotient 60 = .ok (.invokestatic 86, 3) := by decide +kernel
theorem dX4_quotient_63 : decode cX4_quotient 63 = .ok (.ifCond .lt 27, 3) := by decide +kernel
theorem dX4_quotient_66 : decode cX4_quotient 66 = .ok (.aload_n 0, 1) := by decide +kernel
theorem dX4_quotient_67 : decode cX4_quotient 67 = .ok (.getfield 41, 3) := by decide +kernel
theorem dX4_quotient_70 : decode cX4_quotient 70 = .ok (.aload_n 0, 1) := by decide +kernel
theorem dX4_quotient_71 : decode cX4_quotient 71 = .ok (.getfield 35, 3) := by decide +kernel
theorem dX4_quotient_74 : decode cX4_quotient 74 = .ok (.invokestatic 90, 3) := by decide +kernel
theorem dX4_quotient_77 : decode cX4_quotient 77 = .ok (.aload_n 0, 1) := by decide +kernel
theorem dX4_quotient_78 : decode cX4_quotient 78 = .ok (.getfield 38, 3) := by decide +kernel
theorem dX4_quotient_81 : decode cX4_quotient 81 = .ok (.iload_n 1, 1) := by decide +kernel
theorem dX4_quotient_82 : decode cX4_quotient 82 = .ok (.dup2, 1) := by decide +kernel
theorem dX4_quotient_83 : decode cX4_quotient 83 = .ok (.iaload, 1) := by decide +kernel
theorem dX4_quotient_84 : decode cX4_quotient 84 = .ok (.iconst 1, 1) := by decide +kernel
theorem dX4_quotient_85 : decode cX4_quotient 85 = .ok (.iadd, 1) := by decide +kernel
theorem dX4_quotient_86 : decode cX4_quotient 86 = .ok (.iastore, 1) := by decide +kernel
theorem dX4_quotient_87 : decode cX4_quotient 87 = .ok (.goto (-46), 3) := by decide +kernel
theorem dX4_quotient_90 : decode cX4_quotient 90 = .ok (.iinc 1 (-1), 3) := by decide +kernel
theorem dX4_quotient_93 : decode cX4_quotient 93 = .ok (.goto (-76), 3) := by decide +kernel
theorem dX4_quotient_96 : decode cX4_quotient 96 = .ok (.return_, 1) := by decide +kernel
theorem dX4_order_0 : decode cX4_order 0 = .ok (.bipush 79, 2) := by decide +kernel
theorem dX4_order_2 : decode cX4_order 2 = .ok (.istore_n 2, 1) := by decide +kernel
theorem dX4_order_3 : decode cX4_order 3 = .ok (.iload_n 2, 1) := by decide +kernel
theorem dX4_order_4 : decode cX4_order 4 = .ok (.ifCond .lt 33, 3) := by decide +kernel
theorem dX4_order_7 : decode cX4_order 7 = .ok (.aload_n 0, 1) := by decide +kernel
theorem dX4_order_8 : decode cX4_order 8 = .ok (.iload_n 2, 1) := by decide +kernel
theorem dX4_order_9 : decode cX4_order 9 = .ok (.iaload, 1) := by decide +kernel
theorem dX4_order_10 : decode cX4_order 10 = .ok (.aload_n 1, 1) := by decide +kernel
theorem dX4_order_11 : decode cX4_order 11 = .ok (.iload_n 2, 1) := by decide +kernel
theorem dX4_order_12 : decode cX4_order 12 = .ok (.iaload, 1) := by decide +kernel
theorem dX4_order_13 : decode cX4_order 13 = .ok (.if_icmp .eq 18, 3) := by decide +kernel
theorem dX4_order_16 : decode cX4_order 16 = .ok (.aload_n 0, 1) := by decide +kernel
theorem dX4_order_17 : decode cX4_order 17 = .ok (.iload_n 2, 1) := by decide +kernel
theorem dX4_order_18 : decode cX4_order 18 = .ok (.iaload, 1) := by decide +kernel
theorem dX4_order_19 : decode cX4_order 19 = .ok (.aload_n 1, 1) := by decide +kernel
theorem dX4_order_20 : decode cX4_order 20 = .ok (.iload_n 2, 1) := by decide +kernel
theorem dX4_order_21 : decode cX4_order 21 = .ok (.iaload, 1) := by decide +kernel
theorem dX4_order_22 : decode cX4_order 22 = .ok (.if_icmp .ge 7, 3) := by decide +kernel
theorem dX4_order_25 : decode cX4_order 25 = .ok (.iconst (-1), 1) := by decide +kernel
theorem dX4_order_26 : decode cX4_order 26 = .ok (.goto 4, 3) := by decide +kernel
theorem dX4_order_29 : decode cX4_order 29 = .ok (.iconst 1, 1) := by decide +kernel
theorem dX4_order_30 : decode cX4_order 30 = .ok (.ireturn, 1) := by decide +kernel
theorem dX4_order_31 : decode cX4_order 31 = .ok (.iinc 2 (-1), 3) := by decide +kernel
theorem dX4_order_34 : decode cX4_order 34 = .ok (.goto (-31), 3) := by decide +kernel
theorem dX4_order_37 : decode cX4_order 37 = .ok (.iconst 0, 1) := by decide +kernel
theorem dX4_order_38 : decode cX4_order 38 = .ok (.ireturn, 1) := by decide +kernel
theorem dX4_decrease_0 : decode cX4_decrease 0 = .ok (.iconst 0, 1) := by decide +kernel
theorem dX4_decrease_1 : decode cX4_decrease 1 = .ok (.istore_n 2, 1) := by decide +kernel
theorem dX4_decrease_2 : decode cX4_decrease 2 = .ok (.iconst 0, 1) := by decide +kernel
theorem dX4_decrease_3 : decode cX4_decrease 3 = .ok (.istore_n 3, 1) := by decide +kernel
theorem dX4_decrease_4 : decode cX4_decrease 4 = .ok (.iload_n 3, 1) := by decide +kernel
theorem dX4_decrease_5 : decode cX4_decrease 5 = .ok (.bipush 80, 2) := by decide +kernel
theorem dX4_decrease_7 : decode cX4_decrease 7 = .ok (.if_icmp .ge 49, 3) := by decide +kernel
theorem dX4_decrease_10 : decode cX4_decrease 10 = .ok (.aload_n 0, 1) := by decide +kernel
theorem dX4_decrease_11 : decode cX4_decrease 11 = .ok (.iload_n 3, 1) := by decide +kernel
theorem dX4_decrease_12 : decode cX4_decrease 12 = .ok (.iaload, 1) := by decide +kernel
theorem dX4_decrease_13 : decode cX4_decrease 13 = .ok (.aload_n 1, 1) := by decide +kernel
theorem dX4_decrease_14 : decode cX4_decrease 14 = .ok (.iload_n 3, 1) := by decide +kernel
theorem dX4_decrease_15 : decode cX4_decrease 15 = .ok (.iaload, 1) := by decide +kernel
theorem dX4_decrease_16 : decode cX4_decrease 16 = .ok (.isub, 1) := by decide +kernel
theorem dX4_decrease_17 : decode cX4_decrease 17 = .ok (.iload_n 2, 1) := by decide +kernel
theorem dX4_decrease_18 : decode cX4_decrease 18 = .ok (.isub, 1) := by decide +kernel
theorem dX4_decrease_19 : decode cX4_decrease 19 = .ok (.istore 4, 2) := by decide +kernel
theorem dX4_decrease_21 : decode cX4_decrease 21 = .ok (.iload 4, 2) := by decide +kernel
theorem dX4_decrease_23 : decode cX4_decrease 23 = .ok (.ifCond .ge 7, 3) := by decide +kernel
theorem dX4_decrease_26 : decode cX4_decrease 26 = .ok (.iconst 1, 1) := by decide +kernel
theorem dX4_decrease_27 : decode cX4_decrease 27 = .ok (.goto 4, 3) := by decide +kernel
theorem dX4_decrease_30 : decode cX4_decrease 30 = .ok (.iconst 0, 1) := by decide +kernel
theorem dX4_decrease_31 : decode cX4_decrease 31 = .ok (.istore_n 2, 1) := by decide +kernel
theorem dX4_decrease_32 : decode cX4_decrease 32 = .ok (.aload_n 0, 1) := by decide +kernel
theorem dX4_decrease_33 : decode cX4_decrease 33 = .ok (.iload_n 3, 1) := by decide +kernel
theorem dX4_decrease_34 : decode cX4_decrease 34 = .ok (.iload 4, 2) := by decide +kernel
theorem dX4_decrease_36 : decode cX4_decrease 36 = .ok (.ifCond .ge 11, 3) := by decide +kernel
theorem dX4_decrease_39 : decode cX4_decrease 39 = .ok (.iload 4, 2) := by decide +kernel
theorem dX4_decrease_41 : decode cX4_decrease 41 = .ok (.bipush 10, 2) := by decide +kernel
theorem dX4_decrease_43 : decode cX4_decrease 43 = .ok (.iadd, 1) := by decide +kernel
theorem dX4_decrease_44 : decode cX4_decrease 44 = .ok (.goto 5, 3) := by decide +kernel
theorem dX4_decrease_47 : decode cX4_decrease 47 = .ok (.iload 4, 2) := by decide +kernel
theorem dX4_decrease_49 : decode cX4_decrease 49 = .ok (.iastore, 1) := by decide +kernel
theorem dX4_decrease_50 : decode cX4_decrease 50 = .ok (.iinc 3 1, 3) := by decide +kernel
theorem dX4_decrease_53 : decode cX4_decrease 53 = .ok (.goto (-49), 3) := by decide +kernel
theorem dX4_decrease_56 : decode cX4_decrease 56 = .ok (.return_, 1) := by decide +kernel
theorem dX4_size_0 : decode cX4_size 0 = .ok (.iconst 0, 1) := by decide +kernel
theorem dX4_size_1 : decode cX4_size 1 = .ok (.istore_n 1, 1) := by decide +kernel
theorem dX4_size_2 : decode cX4_size 2 = .ok (.iconst 0, 1) := by decide +kernel
theorem dX4_size_3 : decode cX4_size 3 = .ok (.istore_n 2, 1) := by decide +kernel
theorem dX4_size_4 : decode cX4_size 4 = .ok (.iload_n 2, 1) := by decide +kernel
theorem dX4_size_5 : decode cX4_size 5 = .ok (.bipush 80, 2) := by decide +kernel
theorem dX4_size_7 : decode cX4_size 7 = .ok (.if_icmp .ge 23, 3) := by decide +kernel
theorem dX4_size_10 : decode cX4_size 10 = .ok (.aload_n 0, 1) := by decide +kernel
theorem dX4_size_11 : decode cX4_size 11 = .ok (.iload_n 2, 1) := by decide +kernel
theorem dX4_size_12 : decode cX4_size 12 = .ok (.iaload, 1) := by decide +kernel
theorem dX4_size_13 : decode cX4_size 13 = .ok (.ifCond .eq 9, 3) := by decide +kernel
theorem dX4_size_16 : decode cX4_size 16 = .ok (.iload_n 2, 1) := by decide +kernel
theorem dX4_size_17 : decode cX4_size 17 = .ok (.iconst 1, 1) := by decide +kernel
theorem dX4_size_18 : decode cX4_size 18 = .ok (.iadd, 1) := by decide +kernel
theorem dX4_size_19 : decode cX4_size 19 = .ok (.goto 4, 3) := by decide +kernel
theorem dX4_size_22 : decode cX4_size 22 = .ok (.iload_n 1, 1) := by decide +kernel
theorem dX4_size_23 : decode cX4_size 23 = .ok (.istore_n 1, 1) := by decide +kernel
theorem dX4_size_24 : decode cX4_size 24 = .ok (.iinc 2 1, 3) := by decide +kernel
theorem dX4_size_27 : decode cX4_size 27 = .ok (.goto (-23), 3) := by decide +kernel
theorem dX4_size_30 : decode cX4_size 30 = .ok (.iload_n 1, 1) := by decide +kernel
theorem dX4_size_31 : decode cX4_size 31 = .ok (.ireturn, 1) := by decide +kernel
theorem dX4_rounds_0 : decode cX4_rounds 0 = .ok (.aload_n 0, 1) := by decide +kernel
theorem dX4_rounds_1 : decode cX4_rounds 1 = .ok (.getfield 41, 3) := by decide +kernel
theorem dX4_rounds_4 : decode cX4_rounds 4 = .ok (.invokestatic 78, 3) := by decide +kernel
theorem dX4_rounds_7 : decode cX4_rounds 7 = .ok (.ifCond .ne 5, 3) := by decide +kernel
theorem dX4_rounds_10 : decode cX4_rounds 10 = .ok (.iconst 1, 1) := by decide +kernel
theorem dX4_rounds_11 : decode cX4_rounds 11 = .ok (.ireturn, 1) := by decide +kernel
theorem dX4_rounds_12 : decode cX4_rounds 12 = .ok (.aload_n 0, 1) := by decide +kernel
theorem dX4_rounds_13 : decode cX4_rounds 13 = .ok (.getfield 41, 3) := by decide +kernel
theorem dX4_rounds_16 : decode cX4_rounds 16 = .ok (.aload_n 0, 1) := by decide +kernel
theorem dX4_rounds_17 : decode cX4_rounds 17 = .ok (.getfield 44, 3) := by decide +kernel
theorem dX4_rounds_20 : decode cX4_rounds 20 = .ok (.invokestatic 94, 3) := by decide +kernel
theorem dX4_rounds_23 : decode cX4_rounds 23 = .ok (.aload_n 0, 1) := by decide +kernel
theorem dX4_rounds_24 : decode cX4_rounds 24 = .ok (.getfield 44, 3) := by decide +kernel
theorem dX4_rounds_27 : decode cX4_rounds 27 = .ok (.aload_n 0, 1) := by decide +kernel
theorem dX4_rounds_28 : decode cX4_rounds 28 = .ok (.getfield 41, 3) := by decide +kernel
theorem dX4_rounds_31 : decode cX4_rounds 31 = .ok (.invokestatic 97, 3) := by decide +kernel
theorem dX4_rounds_34 : decode cX4_rounds 34 = .ok (.aload_n 0, 1) := by decide +kernel
theorem dX4_rounds_35 : decode cX4_rounds 35 = .ok (.getfield 44, 3) := by decide +kernel
theorem dX4_rounds_38 : decode cX4_rounds 38 = .ok (.aload_n 0, 1) := by decide +kernel
theorem dX4_rounds_39 : decode cX4_rounds 39 = .ok (.getfield 35, 3) := by decide +kernel
theorem dX4_rounds_42 : decode cX4_rounds 42 = .ok (.invokestatic 86, 3) := by decide +kernel
theorem dX4_rounds_45 : decode cX4_rounds 45 = .ok (.istore_n 3, 1) := by decide +kernel
theorem dX4_rounds_46 : decode cX4_rounds 46 = .ok (.aload_n 0, 1) := by decide +kernel
theorem dX4_rounds_47 : decode cX4_rounds 47 = .ok (.getfield 38, 3) := by decide +kernel
theorem dX4_rounds_50 : decode cX4_rounds 50 = .ok (.iconst 0, 1) := by decide +kernel
theorem dX4_rounds_51 : decode cX4_rounds 51 = .ok (.iaload, 1) := by decide +kernel
theorem dX4_rounds_52 : decode cX4_rounds 52 = .ok (.iconst 2, 1) := by decide +kernel
theorem dX4_rounds_53 : decode cX4_rounds 53 = .ok (.irem, 1) := by decide +kernel
theorem dX4_rounds_54 : decode cX4_rounds 54 = .ok (.iconst 1, 1) := by decide +kernel
theorem dX4_rounds_55 : decode cX4_rounds 55 = .ok (.if_icmp .ne 7, 3) := by decide +kernel
theorem dX4_rounds_58 : decode cX4_rounds 58 = .ok (.iconst 1, 1) := by decide +kernel
theorem dX4_rounds_59 : decode cX4_rounds 59 = .ok (.goto 4, 3) := by decide +kernel
theorem dX4_rounds_62 : decode cX4_rounds 62 = .ok (.iconst 0, 1) := by decide +kernel
theorem dX4_rounds_63 : decode cX4_rounds 63 = .ok (.istore 4, 2) := by decide +kernel
theorem dX4_rounds_65 : decode cX4_rounds 65 = .ok (.iload_n 2, 1) := by decide +kernel
theorem dX4_rounds_66 : decode cX4_rounds 66 = .ok (.iconst 4, 1) := by decide +kernel
theorem dX4_rounds_67 : decode cX4_rounds 67 = .ok (.if_icmp .ne 15, 3) := by decide +kernel
theorem dX4_rounds_70 : decode cX4_rounds 70 = .ok (.iload_n 3, 1) := by decide +kernel
theorem dX4_rounds_71 : decode cX4_rounds 71 = .ok (.ifCond .lt 7, 3) := by decide +kernel
theorem dX4_rounds_74 : decode cX4_rounds 74 = .ok (.iconst 1, 1) := by decide +kernel
theorem dX4_rounds_75 : decode cX4_rounds 75 = .ok (.goto 42, 3) := by decide +kernel
theorem dX4_rounds_78 : decode cX4_rounds 78 = .ok (.iconst 0, 1) := by decide +kernel
theorem dX4_rounds_79 : decode cX4_rounds 79 = .ok (.goto 38, 3) := by decide +kernel
theorem dX4_rounds_82 : decode cX4_rounds 82 = .ok (.iload_n 2, 1) := by decide +kernel
theorem dX4_rounds_83 : decode cX4_rounds 83 = .ok (.iconst 5, 1) := by decide +kernel
theorem dX4_rounds_84 : decode cX4_rounds 84 = .ok (.if_icmp .ne 15, 3) := by decide +kernel
theorem dX4_rounds_87 : decode cX4_rounds 87 = .ok (.iload_n 3, 1) := by decide +kernel
theorem dX4_rounds_88 : decode cX4_rounds 88 = .ok (.ifCond .le 7, 3) := by decide +kernel
theorem dX4_rounds_91 : decode cX4_rounds 91 = .ok (.iconst 1, 1) := by decide +kernel
theorem dX4_rounds_92 : decode cX4_rounds 92 = .ok (.goto 25, 3) := by decide +kernel
theorem dX4_rounds_95 : decode cX4_rounds 95 = .ok (.iconst 0, 1) := by decide +kernel
theorem dX4_rounds_96 : decode cX4_rounds 96 = .ok (.goto 21, 3) := by decide +kernel
theorem dX4_rounds_99 : decode cX4_rounds 99 = .ok (.iload_n 3, 1) := by decide +kernel
theorem dX4_rounds_100 : decode cX4_rounds 100 = .ok (.ifCond .gt 12, 3) := by decide +kernel
theorem dX4_rounds_103 : decode cX4_rounds 103 = .ok (.iload_n 3, 1) := by decide +kernel
theorem dX4_rounds_104 : decode cX4_rounds 104 = .ok (.ifCond .ne 12, 3) := by decide +kernel
theorem dX4_rounds_107 : decode cX4_rounds 107 = .ok (.iload 4, 2) := by decide +kernel
theorem dX4_rounds_109 : decode cX4_rounds 109 = .ok (.ifCond .eq 7, 3) := by decide +kernel
theorem dX4_rounds_112 : decode cX4_rounds 112 = .ok (.iconst 1, 1) := by decide +kernel
theorem dX4_rounds_113 : decode cX4_rounds 113 = .ok (.goto 4, 3) := by decide +kernel
theorem dX4_rounds_116 : decode cX4_rounds 116 = .ok (.iconst 0, 1) := by decide +kernel
theorem dX4_rounds_117 : decode cX4_rounds 117 = .ok (.istore 5, 2) := by decide +kernel
theorem dX4_rounds_119 : decode cX4_rounds 119 = .ok (.iload_n 2, 1) := by decide +kernel
theorem dX4_rounds_120 : decode cX4_rounds 120 = .ok (.ifCond .eq 37, 3) := by decide +kernel
theorem dX4_rounds_123 : decode cX4_rounds 123 = .ok (.iload_n 2, 1) := by decide +kernel
theorem dX4_rounds_124 : decode cX4_rounds 124 = .ok (.iconst 2, 1) := by decide +kernel
theorem dX4_rounds_125 : decode cX4_rounds 125 = .ok (.if_icmp .ne 7, 3) := by decide +kernel
theorem dX4_rounds_128 : decode cX4_rounds 128 = .ok (.iload_n 1, 1) := by decide +kernel
theorem dX4_rounds_129 : decode cX4_rounds 129 = .ok (.ifCond .eq 28, 3) := by decide +kernel
theorem dX4_rounds_132 : decode cX4_rounds 132 = .ok (.iload_n 2, 1) := by decide +kernel
theorem dX4_rounds_133 : decode cX4_rounds 133 = .ok (.iconst 3, 1) := by decide +kernel
theorem dX4_rounds_134 : decode cX4_rounds 134 = .ok (.if_icmp .ne 7, 3) := by decide +kernel
theorem dX4_rounds_137 : decode cX4_rounds 137 = .ok (.iload_n 1, 1) := by decide +kernel
theorem dX4_rounds_138 : decode cX4_rounds 138 = .ok (.ifCond .ne 19, 3) := by decide +kernel
theorem dX4_rounds_141 : decode cX4_rounds 141 = .ok (.iload_n 2, 1) := by decide +kernel
theorem dX4_rounds_142 : decode cX4_rounds 142 = .ok (.iconst 4, 1) := by decide +kernel
theorem dX4_rounds_143 : decode cX4_rounds 143 = .ok (.if_icmp .lt 18, 3) := by decide +kernel
theorem dX4_rounds_146 : decode cX4_rounds 146 = .ok (.iload_n 2, 1) := by decide +kernel
theorem dX4_rounds_147 : decode cX4_rounds 147 = .ok (.bipush 6, 2) := by decide +kernel
theorem dX4_rounds_149 : decode cX4_rounds 149 = .ok (.if_icmp .gt 12, 3) := by decide +kernel
theorem dX4_rounds_152 : decode cX4_rounds 152 = .ok (.iload 5, 2) := by decide +kernel
theorem dX4_rounds_154 : decode cX4_rounds 154 = .ok (.ifCond .eq 7, 3) := by decide +kernel
theorem dX4_rounds_157 : decode cX4_rounds 157 = .ok (.iconst 1, 1) := by decide +kernel
theorem dX4_rounds_158 : decode cX4_rounds 158 = .ok (.goto 4, 3) := by decide +kernel
theorem dX4_rounds_161 : decode cX4_rounds 161 = .ok (.iconst 0, 1) := by decide +kernel
theorem dX4_rounds_162 : decode cX4_rounds 162 = .ok (.istore 6, 2) := by decide +kernel
theorem dX4_rounds_164 : decode cX4_rounds 164 = .ok (.iload 6, 2) := by decide +kernel
theorem dX4_rounds_166 : decode cX4_rounds 166 = .ok (.ifCond .eq 22, 3) := by decide +kernel
theorem dX4_rounds_169 : decode cX4_rounds 169 = .ok (.aload_n 0, 1) := by decide +kernel
theorem dX4_rounds_170 : decode cX4_rounds 170 = .ok (.getfield 44, 3) := by decide +kernel
theorem dX4_rounds_173 : decode cX4_rounds 173 = .ok (.lconst 1, 1) := by decide +kernel
theorem dX4_rounds_174 : decode cX4_rounds 174 = .ok (.invokestatic 100, 3) := by decide +kernel
theorem dX4_rounds_177 : decode cX4_rounds 177 = .ok (.aload_n 0, 1) := by decide +kernel
theorem dX4_rounds_178 : decode cX4_rounds 178 = .ok (.getfield 38, 3) := by decide +kernel
theorem dX4_rounds_181 : decode cX4_rounds 181 = .ok (.aload_n 0, 1) := by decide +kernel
theorem dX4_rounds_182 : decode cX4_rounds 182 = .ok (.getfield 44, 3) := by decide +kernel
theorem dX4_rounds_185 : decode cX4_rounds 185 = .ok (.invokestatic 97, 3) := by decide +kernel
theorem dX4_rounds_188 : decode cX4_rounds 188 = .ok (.iload_n 2, 1) := by decide +kernel
theorem dX4_rounds_189 : decode cX4_rounds 189 = .ok (.bipush 7, 2) := by decide +kernel
theorem dX4_rounds_191 : decode cX4_rounds 191 = .ok (.if_icmp .eq 7, 3) := by decide +kernel
theorem dX4_rounds_194 : decode cX4_rounds 194 = .ok (.iconst 1, 1) := by decide +kernel
theorem dX4_rounds_195 : decode cX4_rounds 195 = .ok (.goto 4, 3) := by decide +kernel
theorem dX4_rounds_198 : decode cX4_rounds 198 = .ok (.iconst 0, 1) := by decide +kernel
theorem dX4_rounds_199 : decode cX4_rounds 199 = .ok (.ireturn, 1) := by decide +kernel
theorem dX4_increase_0 : decode cX4_increase 0 = .ok (.iconst 0, 1) := by decide +kernel
theorem dX4_increase_1 : decode cX4_increase 1 = .ok (.istore_n 2, 1) := by decide +kernel
theorem dX4_increase_2 : decode cX4_increase 2 = .ok (.iconst 0, 1) := by decide +kernel
theorem dX4_increase_3 : decode cX4_increase 3 = .ok (.istore_n 3, 1) := by decide +kernel
theorem dX4_increase_4 : decode cX4_increase 4 = .ok (.iload_n 3, 1) := by decide +kernel
theorem dX4_increase_5 : decode cX4_increase 5 = .ok (.bipush 80, 2) := by decide +kernel
theorem dX4_increase_7 : decode cX4_increase 7 = .ok (.if_icmp .ge 34, 3) := by decide +kernel
theorem dX4_increase_10 : decode cX4_increase 10 = .ok (.aload_n 0, 1) := by decide +kernel
theorem dX4_increase_11 : decode cX4_increase 11 = .ok (.iload_n 3, 1) := by decide +kernel
theorem dX4_increase_12 : decode cX4_increase 12 = .ok (.iaload, 1) := by decide +kernel
theorem dX4_increase_13 : decode cX4_increase 13 = .ok (.aload_n 1, 1) := by decide +kernel
theorem dX4_increase_14 : decode cX4_increase 14 = .ok (.iload_n 3, 1) := by decide +kernel
theorem dX4_increase_15 : decode cX4_increase 15 = .ok (.iaload, 1) := by decide +kernel
theorem dX4_increase_16 : decode cX4_increase 16 = .ok (.iadd, 1) := by decide +kernel
theorem dX4_increase_17 : decode cX4_increase 17 = .ok (.iload_n 2, 1) := by decide +kernel
theorem dX4_increase_18 : decode cX4_increase 18 = .ok (.iadd, 1) := by decide +kernel
theorem dX4_increase_19 : decode cX4_increase 19 = .ok (.istore 4, 2) := by decide +kernel
theorem dX4_increase_21 : decode cX4_increase 21 = .ok (.aload_n 0, 1) := by decide +kernel
theorem dX4_increase_22 : decode cX4_increase 22 = .ok (.iload_n 3, 1) := by decide +kernel
theorem dX4_increase_23 : decode cX4_increase 23 = .ok (.iload 4, 2) := by decide +kernel
theorem dX4_increase_25 : decode cX4_increase 25 = .ok (.bipush 10, 2) := by decide +kernel
theorem dX4_increase_27 : decode cX4_increase 27 = .ok (.irem, 1) := by decide +kernel
theorem dX4_increase_28 : decode cX4_increase 28 = .ok (.iastore, 1) := by decide +kernel
