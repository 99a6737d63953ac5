theorem dX4_increase_29 : decode cX4_increase 29 = .ok (.iload 4, 2) := by decide +kernel
theorem dX4_increase_31 : decode cX4_increase 31 = .ok (.bipush 10, 2) := by decide +kernel
theorem dX4_increase_33 : decode cX4_increase 33 = .ok (.idiv, 1) := by decide +kernel
theorem dX4_increase_34 : decode cX4_increase 34 = .ok (.istore_n 2, 1) := by decide +kernel
theorem dX4_increase_35 : decode cX4_increase 35 = .ok (.iinc 3 1, 3) := by decide +kernel
theorem dX4_increase_38 : decode cX4_increase 38 = .ok (.goto (-34), 3) := by decide +kernel
theorem dX4_increase_41 : decode cX4_increase 41 = .ok (.return_, 1) := by decide +kernel
theorem dX4_fits_0 : decode cX4_fits 0 = .ok (.iload_n 2, 1) := by decide +kernel
theorem dX4_fits_1 : decode cX4_fits 1 = .ok (.ifCond .eq 18, 3) := by decide +kernel
theorem dX4_fits_4 : decode cX4_fits 4 = .ok (.aload_n 1, 1) := by decide +kernel
theorem dX4_fits_5 : decode cX4_fits 5 = .ok (.invokestatic 78, 3) := by decide +kernel
theorem dX4_fits_8 : decode cX4_fits 8 = .ok (.bipush 36, 2) := by decide +kernel
theorem dX4_fits_10 : decode cX4_fits 10 = .ok (.if_icmp .gt 7, 3) := by decide +kernel
theorem dX4_fits_13 : decode cX4_fits 13 = .ok (.iconst 1, 1) := by decide +kernel
theorem dX4_fits_14 : decode cX4_fits 14 = .ok (.goto 4, 3) := by decide +kernel
theorem dX4_fits_17 : decode cX4_fits 17 = .ok (.iconst 0, 1) := by decide +kernel
theorem dX4_fits_18 : decode cX4_fits 18 = .ok (.ireturn, 1) := by decide +kernel
theorem dX4_fits_19 : decode cX4_fits 19 = .ok (.iconst 0, 1) := by decide +kernel
theorem dX4_fits_20 : decode cX4_fits 20 = .ok (.istore 4, 2) := by decide +kernel
theorem dX4_fits_22 : decode cX4_fits 22 = .ok (.iload 4, 2) := by decide +kernel
theorem dX4_fits_24 : decode cX4_fits 24 = .ok (.iconst 5, 1) := by decide +kernel
theorem dX4_fits_25 : decode cX4_fits 25 = .ok (.if_icmp .ge 18, 3) := by decide +kernel
theorem dX4_fits_28 : decode cX4_fits 28 = .ok (.aload_n 1, 1) := by decide +kernel
theorem dX4_fits_29 : decode cX4_fits 29 = .ok (.iload 4, 2) := by decide +kernel
theorem dX4_fits_31 : decode cX4_fits 31 = .ok (.iaload, 1) := by decide +kernel
theorem dX4_fits_32 : decode cX4_fits 32 = .ok (.ifCond .eq 5, 3) := by decide +kernel
theorem dX4_fits_35 : decode cX4_fits 35 = .ok (.iconst 0, 1) := by decide +kernel
theorem dX4_fits_36 : decode cX4_fits 36 = .ok (.ireturn, 1) := by decide +kernel
theorem dX4_fits_37 : decode cX4_fits 37 = .ok (.iinc 4 1, 3) := by decide +kernel
theorem dX4_fits_40 : decode cX4_fits 40 = .ok (.goto (-18), 3) := by decide +kernel
theorem dX4_fits_43 : decode cX4_fits 43 = .ok (.aload_n 0, 1) := by decide +kernel
theorem dX4_fits_44 : decode cX4_fits 44 = .ok (.getfield 44, 3) := by decide +kernel
theorem dX4_fits_47 : decode cX4_fits 47 = .ok (.iload_n 3, 1) := by decide +kernel
theorem dX4_fits_48 : decode cX4_fits 48 = .ok (.ifCond .eq 9, 3) := by decide +kernel
theorem dX4_fits_51 : decode cX4_fits 51 = .ok (.ldc2_w 104, 3) := by decide +kernel
theorem dX4_fits_54 : decode cX4_fits 54 = .ok (.goto 6, 3) := by decide +kernel
theorem dX4_fits_57 : decode cX4_fits 57 = .ok (.ldc2_w 106, 3) := by decide +kernel
theorem dX4_fits_60 : decode cX4_fits 60 = .ok (.invokestatic 100, 3) := by decide +kernel
theorem dX4_fits_63 : decode cX4_fits 63 = .ok (.aload_n 0, 1) := by decide +kernel
theorem dX4_fits_64 : decode cX4_fits 64 = .ok (.getfield 44, 3) := by decide +kernel
theorem dX4_fits_67 : decode cX4_fits 67 = .ok (.iconst 5, 1) := by decide +kernel
theorem dX4_fits_68 : decode cX4_fits 68 = .ok (.invokestatic 82, 3) := by decide +kernel
theorem dX4_fits_71 : decode cX4_fits 71 = .ok (.aload_n 1, 1) := by decide +kernel
theorem dX4_fits_72 : decode cX4_fits 72 = .ok (.aload_n 0, 1) := by decide +kernel
theorem dX4_fits_73 : decode cX4_fits 73 = .ok (.getfield 44, 3) := by decide +kernel
theorem dX4_fits_76 : decode cX4_fits 76 = .ok (.invokestatic 86, 3) := by decide +kernel
theorem dX4_fits_79 : decode cX4_fits 79 = .ok (.ifCond .gt 7, 3) := by decide +kernel
theorem dX4_fits_82 : decode cX4_fits 82 = .ok (.iconst 1, 1) := by decide +kernel
theorem dX4_fits_83 : decode cX4_fits 83 = .ok (.goto 4, 3) := by decide +kernel
theorem dX4_fits_86 : decode cX4_fits 86 = .ok (.iconst 0, 1) := by decide +kernel
theorem dX4_fits_87 : decode cX4_fits 87 = .ok (.ireturn, 1) := by decide +kernel
theorem dX4_keep_0 : decode cX4_keep 0 = .ok (.aload_n 0, 1) := by decide +kernel
theorem dX4_keep_1 : decode cX4_keep 1 = .ok (.getfield 7, 3) := by decide +kernel
theorem dX4_keep_4 : decode cX4_keep 4 = .ok (.iload_n 1, 1) := by decide +kernel
theorem dX4_keep_5 : decode cX4_keep 5 = .ok (.iload_n 2, 1) := by decide +kernel
theorem dX4_keep_6 : decode cX4_keep 6 = .ok (.iastore, 1) := by decide +kernel
theorem dX4_keep_7 : decode cX4_keep 7 = .ok (.aload_n 0, 1) := by decide +kernel
theorem dX4_keep_8 : decode cX4_keep 8 = .ok (.getfield 13, 3) := by decide +kernel
theorem dX4_keep_11 : decode cX4_keep 11 = .ok (.iload_n 1, 1) := by decide +kernel
theorem dX4_keep_12 : decode cX4_keep 12 = .ok (.iload_n 3, 1) := by decide +kernel
theorem dX4_keep_13 : decode cX4_keep 13 = .ok (.bastore, 1) := by decide +kernel
theorem dX4_keep_14 : decode cX4_keep 14 = .ok (.aload_n 0, 1) := by decide +kernel
theorem dX4_keep_15 : decode cX4_keep 15 = .ok (.getfield 17, 3) := by decide +kernel
theorem dX4_keep_18 : decode cX4_keep 18 = .ok (.iload_n 1, 1) := by decide +kernel
theorem dX4_keep_19 : decode cX4_keep 19 = .ok (.iload 4, 2) := by decide +kernel
theorem dX4_keep_21 : decode cX4_keep 21 = .ok (.ifCond .eq 15, 3) := by decide +kernel
theorem dX4_keep_24 : decode cX4_keep 24 = .ok (.aload 5, 2) := by decide +kernel
theorem dX4_keep_26 : decode cX4_keep 26 = .ok (.invokestatic 78, 3) := by decide +kernel
theorem dX4_keep_29 : decode cX4_keep 29 = .ok (.ifCond .le 7, 3) := by decide +kernel
theorem dX4_keep_32 : decode cX4_keep 32 = .ok (.iconst 1, 1) := by decide +kernel
theorem dX4_keep_33 : decode cX4_keep 33 = .ok (.goto 4, 3) := by decide +kernel
theorem dX4_keep_36 : decode cX4_keep 36 = .ok (.iconst 0, 1) := by decide +kernel
theorem dX4_keep_37 : decode cX4_keep 37 = .ok (.bastore, 1) := by decide +kernel
theorem dX4_keep_38 : decode cX4_keep 38 = .ok (.iconst 0, 1) := by decide +kernel
theorem dX4_keep_39 : decode cX4_keep 39 = .ok (.istore 6, 2) := by decide +kernel
theorem dX4_keep_41 : decode cX4_keep 41 = .ok (.iload 6, 2) := by decide +kernel
theorem dX4_keep_43 : decode cX4_keep 43 = .ok (.bipush 40, 2) := by decide +kernel
theorem dX4_keep_45 : decode cX4_keep 45 = .ok (.if_icmp .ge 26, 3) := by decide +kernel
theorem dX4_keep_48 : decode cX4_keep 48 = .ok (.aload_n 0, 1) := by decide +kernel
theorem dX4_keep_49 : decode cX4_keep 49 = .ok (.getfield 20, 3) := by decide +kernel
theorem dX4_keep_52 : decode cX4_keep 52 = .ok (.bipush 40, 2) := by decide +kernel
theorem dX4_keep_54 : decode cX4_keep 54 = .ok (.iload_n 1, 1) := by decide +kernel
theorem dX4_keep_55 : decode cX4_keep 55 = .ok (.imul, 1) := by decide +kernel
theorem dX4_keep_56 : decode cX4_keep 56 = .ok (.iload 6, 2) := by decide +kernel
theorem dX4_keep_58 : decode cX4_keep 58 = .ok (.iadd, 1) := by decide +kernel
theorem dX4_keep_59 : decode cX4_keep 59 = .ok (.aload 5, 2) := by decide +kernel
theorem dX4_keep_61 : decode cX4_keep 61 = .ok (.iload 6, 2) := by decide +kernel
theorem dX4_keep_63 : decode cX4_keep 63 = .ok (.iaload, 1) := by decide +kernel
theorem dX4_keep_64 : decode cX4_keep 64 = .ok (.iastore, 1) := by decide +kernel
theorem dX4_keep_65 : decode cX4_keep 65 = .ok (.iinc 6 1, 3) := by decide +kernel
theorem dX4_keep_68 : decode cX4_keep 68 = .ok (.goto (-27), 3) := by decide +kernel
theorem dX4_keep_71 : decode cX4_keep 71 = .ok (.iconst 0, 1) := by decide +kernel
theorem dX4_keep_72 : decode cX4_keep 72 = .ok (.ireturn, 1) := by decide +kernel
theorem dX4_add_0 : decode cX4_add 0 = .ok (.aload_n 0, 1) := by decide +kernel
theorem dX4_add_1 : decode cX4_add 1 = .ok (.iload_n 1, 1) := by decide +kernel
theorem dX4_add_2 : decode cX4_add 2 = .ok (.iload_n 2, 1) := by decide +kernel
theorem dX4_add_3 : decode cX4_add 3 = .ok (.iload_n 3, 1) := by decide +kernel
theorem dX4_add_4 : decode cX4_add 4 = .ok (.iconst 0, 1) := by decide +kernel
theorem dX4_add_5 : decode cX4_add 5 = .ok (.invokevirtual 134, 3) := by decide +kernel
theorem dX4_add_8 : decode cX4_add 8 = .ok (.ireturn, 1) := by decide +kernel
theorem dX4_sum_0 : decode cX4_sum 0 = .ok (.iload_n 1, 1) := by decide +kernel
theorem dX4_sum_1 : decode cX4_sum 1 = .ok (.bipush 8, 2) := by decide +kernel
theorem dX4_sum_3 : decode cX4_sum 3 = .ok (.invokestatic 123, 3) := by decide +kernel
theorem dX4_sum_6 : decode cX4_sum 6 = .ok (.ifCond .ne 21, 3) := by decide +kernel
theorem dX4_sum_9 : decode cX4_sum 9 = .ok (.iload_n 2, 1) := by decide +kernel
theorem dX4_sum_10 : decode cX4_sum 10 = .ok (.bipush 8, 2) := by decide +kernel
theorem dX4_sum_12 : decode cX4_sum 12 = .ok (.invokestatic 123, 3) := by decide +kernel
theorem dX4_sum_15 : decode cX4_sum 15 = .ok (.ifCond .ne 12, 3) := by decide +kernel
theorem dX4_sum_18 : decode cX4_sum 18 = .ok (.iload_n 3, 1) := by decide +kernel
theorem dX4_sum_19 : decode cX4_sum 19 = .ok (.bipush 8, 2) := by decide +kernel
theorem dX4_sum_21 : decode cX4_sum 21 = .ok (.invokestatic 123, 3) := by decide +kernel
theorem dX4_sum_24 : decode cX4_sum 24 = .ok (.ifCond .eq 6, 3) := by decide +kernel
theorem dX4_sum_27 : decode cX4_sum 27 = .ok (.bipush (-15), 2) := by decide +kernel
theorem dX4_sum_29 : decode cX4_sum 29 = .ok (.ireturn, 1) := by decide +kernel
theorem dX4_sum_30 : decode cX4_sum 30 = .ok (.aload_n 0, 1) := by decide +kernel
theorem dX4_sum_31 : decode cX4_sum 31 = .ok (.getfield 7, 3) := by decide +kernel
theorem dX4_sum_34 : decode cX4_sum 34 = .ok (.iload_n 2, 1) := by decide +kernel
theorem dX4_sum_35 : decode cX4_sum 35 = .ok (.iaload, 1) := by decide +kernel
theorem dX4_sum_36 : decode cX4_sum 36 = .ok (.ifCond .lt 12, 3) := by decide +kernel
theorem dX4_sum_39 : decode cX4_sum 39 = .ok (.aload_n 0, 1) := by decide +kernel
theorem dX4_sum_40 : decode cX4_sum 40 = .ok (.getfield 7, 3) := by decide +kernel
theorem dX4_sum_43 : decode cX4_sum 43 = .ok (.iload_n 3, 1) := by decide +kernel
theorem dX4_sum_44 : decode cX4_sum 44 = .ok (.iaload, 1) := by decide +kernel
theorem dX4_sum_45 : decode cX4_sum 45 = .ok (.ifCond .ge 6, 3) := by decide +kernel
theorem dX4_sum_48 : decode cX4_sum 48 = .ok (.bipush (-11), 2) := by decide +kernel
theorem dX4_sum_50 : decode cX4_sum 50 = .ok (.ireturn, 1) := by decide +kernel
theorem dX4_sum_51 : decode cX4_sum 51 = .ok (.aload_n 0, 1) := by decide +kernel
theorem dX4_sum_52 : decode cX4_sum 52 = .ok (.getfield 7, 3) := by decide +kernel
theorem dX4_sum_55 : decode cX4_sum 55 = .ok (.iload_n 2, 1) := by decide +kernel
theorem dX4_sum_56 : decode cX4_sum 56 = .ok (.iaload, 1) := by decide +kernel
theorem dX4_sum_57 : decode cX4_sum 57 = .ok (.aload_n 0, 1) := by decide +kernel
theorem dX4_sum_58 : decode cX4_sum 58 = .ok (.getfield 7, 3) := by decide +kernel
theorem dX4_sum_61 : decode cX4_sum 61 = .ok (.iload_n 3, 1) := by decide +kernel
theorem dX4_sum_62 : decode cX4_sum 62 = .ok (.iaload, 1) := by decide +kernel
theorem dX4_sum_63 : decode cX4_sum 63 = .ok (.if_icmp .ne 18, 3) := by decide +kernel
theorem dX4_sum_66 : decode cX4_sum 66 = .ok (.aload_n 0, 1) := by decide +kernel
theorem dX4_sum_67 : decode cX4_sum 67 = .ok (.getfield 13, 3) := by decide +kernel
theorem dX4_sum_70 : decode cX4_sum 70 = .ok (.iload_n 2, 1) := by decide +kernel
theorem dX4_sum_71 : decode cX4_sum 71 = .ok (.baload, 1) := by decide +kernel
theorem dX4_sum_72 : decode cX4_sum 72 = .ok (.aload_n 0, 1) := by decide +kernel
theorem dX4_sum_73 : decode cX4_sum 73 = .ok (.getfield 13, 3) := by decide +kernel
theorem dX4_sum_76 : decode cX4_sum 76 = .ok (.iload_n 3, 1) := by decide +kernel
theorem dX4_sum_77 : decode cX4_sum 77 = .ok (.baload, 1) := by decide +kernel
theorem dX4_sum_78 : decode cX4_sum 78 = .ok (.if_icmp .eq 6, 3) := by decide +kernel
theorem dX4_sum_81 : decode cX4_sum 81 = .ok (.bipush (-12), 2) := by decide +kernel
theorem dX4_sum_83 : decode cX4_sum 83 = .ok (.ireturn, 1) := by decide +kernel
theorem dX4_sum_84 : decode cX4_sum 84 = .ok (.aload_n 0, 1) := by decide +kernel
theorem dX4_sum_85 : decode cX4_sum 85 = .ok (.getfield 17, 3) := by decide +kernel
theorem dX4_sum_88 : decode cX4_sum 88 = .ok (.iload_n 2, 1) := by decide +kernel
theorem dX4_sum_89 : decode cX4_sum 89 = .ok (.baload, 1) := by decide +kernel
theorem dX4_sum_90 : decode cX4_sum 90 = .ok (.istore 5, 2) := by decide +kernel
theorem dX4_sum_92 : decode cX4_sum 92 = .ok (.aload_n 0, 1) := by decide +kernel
theorem dX4_sum_93 : decode cX4_sum 93 = .ok (.getfield 17, 3) := by decide +kernel
theorem dX4_sum_96 : decode cX4_sum 96 = .ok (.iload_n 3, 1) := by decide +kernel
theorem dX4_sum_97 : decode cX4_sum 97 = .ok (.baload, 1) := by decide +kernel
theorem dX4_sum_98 : decode cX4_sum 98 = .ok (.iload 4, 2) := by decide +kernel
theorem dX4_sum_100 : decode cX4_sum 100 = .ok (.if_icmp .eq 7, 3) := by decide +kernel
theorem dX4_sum_103 : decode cX4_sum 103 = .ok (.iconst 1, 1) := by decide +kernel
theorem dX4_sum_104 : decode cX4_sum 104 = .ok (.goto 4, 3) := by decide +kernel
theorem dX4_sum_107 : decode cX4_sum 107 = .ok (.iconst 0, 1) := by decide +kernel
theorem dX4_sum_108 : decode cX4_sum 108 = .ok (.istore 6, 2) := by decide +kernel
theorem dX4_sum_110 : decode cX4_sum 110 = .ok (.aload_n 0, 1) := by decide +kernel
theorem dX4_sum_111 : decode cX4_sum 111 = .ok (.aload_n 0, 1) := by decide +kernel
theorem dX4_sum_112 : decode cX4_sum 112 = .ok (.getfield 29, 3) := by decide +kernel
theorem dX4_sum_115 : decode cX4_sum 115 = .ok (.iload_n 2, 1) := by decide +kernel
theorem dX4_sum_116 : decode cX4_sum 116 = .ok (.invokevirtual 131, 3) := by decide +kernel
theorem dX4_sum_119 : decode cX4_sum 119 = .ok (.aload_n 0, 1) := by decide +kernel
theorem dX4_sum_120 : decode cX4_sum 120 = .ok (.aload_n 0, 1) := by decide +kernel
theorem dX4_sum_121 : decode cX4_sum 121 = .ok (.getfield 47, 3) := by decide +kernel
theorem dX4_sum_124 : decode cX4_sum 124 = .ok (.iload_n 3, 1) := by decide +kernel
theorem dX4_sum_125 : decode cX4_sum 125 = .ok (.invokevirtual 131, 3) := by decide +kernel
theorem dX4_sum_128 : decode cX4_sum 128 = .ok (.iload 5, 2) := by decide +kernel
theorem dX4_sum_130 : decode cX4_sum 130 = .ok (.iload 6, 2) := by decide +kernel
theorem dX4_sum_132 : decode cX4_sum 132 = .ok (.if_icmp .ne 17, 3) := by decide +kernel
theorem dX4_sum_135 : decode cX4_sum 135 = .ok (.aload_n 0, 1) := by decide +kernel
theorem dX4_sum_136 : decode cX4_sum 136 = .ok (.getfield 29, 3) := by decide +kernel
theorem dX4_sum_139 : decode cX4_sum 139 = .ok (.aload_n 0, 1) := by decide +kernel
theorem dX4_sum_140 : decode cX4_sum 140 = .ok (.getfield 47, 3) := by decide +kernel
theorem dX4_sum_143 : decode cX4_sum 143 = .ok (.invokestatic 97, 3) := by decide +kernel
theorem dX4_sum_146 : decode cX4_sum 146 = .ok (.goto 57, 3) := by decide +kernel
theorem dX4_sum_149 : decode cX4_sum 149 = .ok (.aload_n 0, 1) := by decide +kernel
theorem dX4_sum_150 : decode cX4_sum 150 = .ok (.getfield 29, 3) := by decide +kernel
theorem dX4_sum_153 : decode cX4_sum 153 = .ok (.aload_n 0, 1) := by decide +kernel
theorem dX4_sum_154 : decode cX4_sum 154 = .ok (.getfield 47, 3) := by decide +kernel
theorem dX4_sum_157 : decode cX4_sum 157 = .ok (.invokestatic 86, 3) := by decide +kernel
theorem dX4_sum_160 : decode cX4_sum 160 = .ok (.ifCond .lt 17, 3) := by decide +kernel
theorem dX4_sum_163 : decode cX4_sum 163 = .ok (.aload_n 0, 1) := by decide +kernel
theorem dX4_sum_164 : decode cX4_sum 164 = .ok (.getfield 29, 3) := by decide +kernel
theorem dX4_sum_167 : decode cX4_sum 167 = .ok (.aload_n 0, 1) := by decide +kernel
theorem dX4_sum_168 : decode cX4_sum 168 = .ok (.getfield 47, 3) := by decide +kernel
theorem dX4_sum_171 : decode cX4_sum 171 = .ok (.invokestatic 90, 3) := by decide +kernel
theorem dX4_sum_174 : decode cX4_sum 174 = .ok (.goto 29, 3) := by decide +kernel
theorem dX4_sum_177 : decode cX4_sum 177 = .ok (.aload_n 0, 1) := by decide +kernel
theorem dX4_sum_178 : decode cX4_sum 178 = .ok (.getfield 47, 3) := by decide +kernel
theorem dX4_sum_181 : decode cX4_sum 181 = .ok (.aload_n 0, 1) := by decide +kernel
theorem dX4_sum_182 : decode cX4_sum 182 = .ok (.getfield 29, 3) := by decide +kernel
theorem dX4_sum_185 : decode cX4_sum 185 = .ok (.invokestatic 90, 3) := by decide +kernel
theorem dX4_sum_188 : decode cX4_sum 188 = .ok (.aload_n 0, 1) := by decide +kernel
theorem dX4_sum_189 : decode cX4_sum 189 = .ok (.getfield 47, 3) := by decide +kernel
theorem dX4_sum_192 : decode cX4_sum 192 = .ok (.aload_n 0, 1) := by decide +kernel
theorem dX4_sum_193 : decode cX4_sum 193 = .ok (.getfield 29, 3) := by decide +kernel
theorem dX4_sum_196 : decode cX4_sum 196 = .ok (.invokestatic 94, 3) := by decide +kernel
theorem dX4_sum_199 : decode cX4_sum 199 = .ok (.iload 6, 2) := by decide +kernel
theorem dX4_sum_201 : decode cX4_sum 201 = .ok (.istore 5, 2) := by decide +kernel
theorem dX4_sum_203 : decode cX4_sum 203 = .ok (.aload_n 0, 1) := by decide +kernel
theorem dX4_sum_204 : decode cX4_sum 204 = .ok (.getfield 32, 3) := by decide +kernel
theorem dX4_sum_207 : decode cX4_sum 207 = .ok (.lconst 1, 1) := by decide +kernel
theorem dX4_sum_208 : decode cX4_sum 208 = .ok (.invokestatic 100, 3) := by decide +kernel
theorem dX4_sum_211 : decode cX4_sum 211 = .ok (.aload_n 0, 1) := by decide +kernel
theorem dX4_sum_212 : decode cX4_sum 212 = .ok (.iload_n 1, 1) := by decide +kernel
theorem dX4_sum_213 : decode cX4_sum 213 = .ok (.aload_n 0, 1) := by decide +kernel
theorem dX4_sum_214 : decode cX4_sum 214 = .ok (.getfield 7, 3) := by decide +kernel
theorem dX4_sum_217 : decode cX4_sum 217 = .ok (.iload_n 2, 1) := by decide +kernel
theorem dX4_sum_218 : decode cX4_sum 218 = .ok (.iaload, 1) := by decide +kernel
theorem dX4_sum_219 : decode cX4_sum 219 = .ok (.aload_n 0, 1) := by decide +kernel
theorem dX4_sum_220 : decode cX4_sum 220 = .ok (.getfield 13, 3) := by decide +kernel
theorem dX4_sum_223 : decode cX4_sum 223 = .ok (.iload_n 2, 1) := by decide +kernel
theorem dX4_sum_224 : decode cX4_sum 224 = .ok (.baload, 1) := by decide +kernel
theorem dX4_sum_225 : decode cX4_sum 225 = .ok (.iload 5, 2) := by decide +kernel
theorem dX4_sum_227 : decode cX4_sum 227 = .ok (.invokevirtual 127, 3) := by decide +kernel
theorem dX4_sum_230 : decode cX4_sum 230 = .ok (.ireturn, 1) := by decide +kernel
theorem dX4_take_0 : decode cX4_take 0 = .ok (.aload_n 1, 1) := by decide +kernel
theorem dX4_take_1 : decode cX4_take 1 = .ok (.invokestatic 72, 3) := by decide +kernel
theorem dX4_take_4 : decode cX4_take 4 = .ok (.iconst 0, 1) := by decide +kernel
theorem dX4_take_5 : decode cX4_take 5 = .ok (.istore_n 3, 1) := by decide +kernel
theorem dX4_take_6 : decode cX4_take 6 = .ok (.iload_n 3, 1) := by decide +kernel
theorem dX4_take_7 : decode cX4_take 7 = .ok (.bipush 40, 2) := by decide +kernel
theorem dX4_take_9 : decode cX4_take 9 = .ok (.if_icmp .ge 23, 3) := by decide +kernel
theorem dX4_take_12 : decode cX4_take 12 = .ok (.aload_n 1, 1) := by decide +kernel
theorem dX4_take_13 : decode cX4_take 13 = .ok (.iload_n 3, 1) := by decide +kernel
theorem dX4_take_14 : decode cX4_take 14 = .ok (.aload_n 0, 1) := by decide +kernel
theorem dX4_take_15 : decode cX4_take 15 = .ok (.getfield 20, 3) := by decide +kernel
theorem dX4_take_18 : decode cX4_take 18 = .ok (.bipush 40, 2) := by decide +kernel
theorem dX4_take_20 : decode cX4_take 20 = .ok (.iload_n 2, 1) := by decide +kernel
theorem dX4_take_21 : decode cX4_take 21 = .ok (.imul, 1) := by decide +kernel
theorem dX4_take_22 : decode cX4_take 22 = .ok (.iload_n 3, 1) := by decide +kernel
theorem dX4_take_23 : decode cX4_take 23 = .ok (.iadd, 1) := by decide +kernel
theorem dX4_take_24 : decode cX4_take 24 = .ok (.iaload, 1) := by decide +kernel
theorem dX4_take_25 : decode cX4_take 25 = .ok (.iastore, 1) := by decide +kernel
theorem dX4_take_26 : decode cX4_take 26 = .ok (.iinc 3 1, 3) := by decide +kernel
theorem dX4_take_29 : decode cX4_take 29 = .ok (.goto (-23), 3) := by decide +kernel
theorem dX4_take_32 : decode cX4_take 32 = .ok (.return_, 1) := by decide +kernel
theorem dX4_subtract_0 : decode cX4_subtract 0 = .ok (.aload_n 0, 1) := by decide +kernel
theorem dX4_subtract_1 : decode cX4_subtract 1 = .ok (.iload_n 1, 1) := by decide +kernel
theorem dX4_subtract_2 : decode cX4_subtract 2 = .ok (.iload_n 2, 1) := by decide +kernel
theorem dX4_subtract_3 : decode cX4_subtract 3 = .ok (.iload_n 3, 1) := by decide +kernel
theorem dX4_subtract_4 : decode cX4_subtract 4 = .ok (.iconst 1, 1) := by decide +kernel
theorem dX4_subtract_5 : decode cX4_subtract 5 = .ok (.invokevirtual 134, 3) := by decide +kernel
theorem dX4_subtract_8 : decode cX4_subtract 8 = .ok (.ireturn, 1) := by decide +kernel
theorem dX4_multiply_0 : decode cX4_multiply 0 = .ok (.iload_n 1, 1) := by decide +kernel
theorem dX4_multiply_1 : decode cX4_multiply 1 = .ok (.bipush 8, 2) := by decide +kernel
theorem dX4_multiply_3 : decode cX4_multiply 3 = .ok (.invokestatic 123, 3) := by decide +kernel
theorem dX4_multiply_6 : decode cX4_multiply 6 = .ok (.ifCond .ne 22, 3) := by decide +kernel
theorem dX4_multiply_9 : decode cX4_multiply 9 = .ok (.iload_n 2, 1) := by decide +kernel
theorem dX4_multiply_10 : decode cX4_multiply 10 = .ok (.bipush 8, 2) := by decide +kernel
theorem dX4_multiply_12 : decode cX4_multiply 12 = .ok (.invokestatic 123, 3) := by decide +kernel
theorem dX4_multiply_15 : decode cX4_multiply 15 = .ok (.ifCond .ne 13, 3) := by decide +kernel
theorem dX4_multiply_18 : decode cX4_multiply 18 = .ok (.iload 5, 2) := by decide +kernel
theorem dX4_multiply_20 : decode cX4_multiply 20 = .ok (.bipush 10, 2) := by decide +kernel
theorem dX4_multiply_22 : decode cX4_multiply 22 = .ok (.invokestatic 123, 3) := by decide +kernel
theorem dX4_multiply_25 : decode cX4_multiply 25 = .ok (.ifCond .eq 6, 3) := by decide +kernel
theorem dX4_multiply_28 : decode cX4_multiply 28 = .ok (.bipush (-15), 2) := by decide +kernel
theorem dX4_multiply_30 : decode cX4_multiply 30 = .ok (.ireturn, 1) := by decide +kernel
theorem dX4_multiply_31 : decode cX4_multiply 31 = .ok (.aload_n 0, 1) := by decide +kernel
theorem dX4_multiply_32 : decode cX4_multiply 32 = .ok (.getfield 7, 3) := by decide +kernel
theorem dX4_multiply_35 : decode cX4_multiply 35 = .ok (.iload_n 2, 1) := by decide +kernel
theorem dX4_multiply_36 : decode cX4_multiply 36 = .ok (.iaload, 1) := by decide +kernel
theorem dX4_multiply_37 : decode cX4_multiply 37 = .ok (.ifCond .ge 6, 3) := by decide +kernel
theorem dX4_multiply_40 : decode cX4_multiply 40 = .ok (.bipush (-11), 2) := by decide +kernel
theorem dX4_multiply_42 : decode cX4_multiply 42 = .ok (.ireturn, 1) := by decide +kernel
theorem dX4_multiply_43 : decode cX4_multiply 43 = .ok (.aload_n 0, 1) := by decide +kernel
theorem dX4_multiply_44 : decode cX4_multiply 44 = .ok (.aload_n 0, 1) := by decide +kernel
theorem dX4_multiply_45 : decode cX4_multiply 45 = .ok (.getfield 47, 3) := by decide +kernel
theorem dX4_multiply_48 : decode cX4_multiply 48 = .ok (.iload_n 2, 1) := by decide +kernel
theorem dX4_multiply_49 : decode cX4_multiply 49 = .ok (.invokevirtual 131, 3) := by decide +kernel
theorem dX4_multiply_52 : decode cX4_multiply 52 = .ok (.aload_n 0, 1) := by decide +kernel
theorem dX4_multiply_53 : decode cX4_multiply 53 = .ok (.getfield 44, 3) := by decide +kernel
theorem dX4_multiply_56 : decode cX4_multiply 56 = .ok (.lload_n 3, 1) := by decide +kernel
theorem dX4_multiply_57 : decode cX4_multiply 57 = .ok (.invokestatic 100, 3) := by decide +kernel
theorem dX4_multiply_60 : decode cX4_multiply 60 = .ok (.aload_n 0, 1) := by decide +kernel
theorem dX4_multiply_61 : decode cX4_multiply 61 = .ok (.aload_n 0, 1) := by decide +kernel
theorem dX4_multiply_62 : decode cX4_multiply 62 = .ok (.getfield 47, 3) := by decide +kernel
theorem dX4_multiply_65 : decode cX4_multiply 65 = .ok (.aload_n 0, 1) := by decide +kernel
theorem dX4_multiply_66 : decode cX4_multiply 66 = .ok (.getfield 44, 3) := by decide +kernel
theorem dX4_multiply_69 : decode cX4_multiply 69 = .ok (.invokevirtual 138, 3) := by decide +kernel
theorem dX4_multiply_72 : decode cX4_multiply 72 = .ok (.aload_n 0, 1) := by decide +kernel
theorem dX4_multiply_73 : decode cX4_multiply 73 = .ok (.getfield 32, 3) := by decide +kernel
theorem dX4_multiply_76 : decode cX4_multiply 76 = .ok (.lconst 1, 1) := by decide +kernel
theorem dX4_multiply_77 : decode cX4_multiply 77 = .ok (.invokestatic 100, 3) := by decide +kernel
theorem dX4_multiply_80 : decode cX4_multiply 80 = .ok (.aload_n 0, 1) := by decide +kernel
theorem dX4_multiply_81 : decode cX4_multiply 81 = .ok (.getfield 32, 3) := by decide +kernel
theorem dX4_multiply_84 : decode cX4_multiply 84 = .ok (.iload 5, 2) := by decide +kernel
theorem dX4_multiply_86 : decode cX4_multiply 86 = .ok (.invokestatic 82, 3) := by decide +kernel
theorem dX4_multiply_89 : decode cX4_multiply 89 = .ok (.aload_n 0, 1) := by decide +kernel
theorem dX4_multiply_90 : decode cX4_multiply 90 = .ok (.iload_n 1, 1) := by decide +kernel
theorem dX4_multiply_91 : decode cX4_multiply 91 = .ok (.aload_n 0, 1) := by decide +kernel
theorem dX4_multiply_92 : decode cX4_multiply 92 = .ok (.getfield 7, 3) := by decide +kernel
theorem dX4_multiply_95 : decode cX4_multiply 95 = .ok (.iload_n 2, 1) := by decide +kernel
theorem dX4_multiply_96 : decode cX4_multiply 96 = .ok (.iaload, 1) := by decide +kernel
theorem dX4_multiply_97 : decode cX4_multiply 97 = .ok (.aload_n 0, 1) := by decide +kernel
theorem dX4_multiply_98 : decode cX4_multiply 98 = .ok (.getfield 13, 3) := by decide +kernel
theorem dX4_multiply_101 : decode cX4_multiply 101 = .ok (.iload_n 2, 1) := by decide +kernel
theorem dX4_multiply_102 : decode cX4_multiply 102 = .ok (.baload, 1) := by decide +kernel
theorem dX4_multiply_103 : decode cX4_multiply 103 = .ok (.aload_n 0, 1) := by decide +kernel
theorem dX4_multiply_104 : decode cX4_multiply 104 = .ok (.getfield 17, 3) := by decide +kernel
theorem dX4_multiply_107 : decode cX4_multiply 107 = .ok (.iload_n 2, 1) := by decide +kernel
theorem dX4_multiply_108 : decode cX4_multiply 108 = .ok (.baload, 1) := by decide +kernel
theorem dX4_multiply_109 : decode cX4_multiply 109 = .ok (.lload_n 3, 1) := by decide +kernel
theorem dX4_multiply_110 : decode cX4_multiply 110 = .ok (.lconst 0, 1) := by decide +kernel
theorem dX4_multiply_111 : decode cX4_multiply 111 = .ok (.lcmp, 1) := by decide +kernel
theorem dX4_multiply_112 : decode cX4_multiply 112 = .ok (.ifCond .ge 7, 3) := by decide +kernel
theorem dX4_multiply_115 : decode cX4_multiply 115 = .ok (.iconst 1, 1) := by decide +kernel
theorem dX4_multiply_116 : decode cX4_multiply 116 = .ok (.goto 4, 3) := by decide +kernel
theorem dX4_multiply_119 : decode cX4_multiply 119 = .ok (.iconst 0, 1) := by decide +kernel
theorem dX4_multiply_120 : decode cX4_multiply 120 = .ok (.if_icmp .eq 7, 3) := by decide +kernel
theorem dX4_multiply_123 : decode cX4_multiply 123 = .ok (.iconst 1, 1) := by decide +kernel
theorem dX4_multiply_124 : decode cX4_multiply 124 = .ok (.goto 4, 3) := by decide +kernel
theorem dX4_multiply_127 : decode cX4_multiply 127 = .ok (.iconst 0, 1) := by decide +kernel
theorem dX4_multiply_128 : decode cX4_multiply 128 = .ok (.invokevirtual 127, 3) := by decide +kernel
theorem dX4_multiply_131 : decode cX4_multiply 131 = .ok (.ireturn, 1) := by decide +kernel
theorem dX4_product_0 : decode cX4_product 0 = .ok (.aload_n 0, 1) := by decide +kernel
theorem dX4_product_1 : decode cX4_product 1 = .ok (.getfield 29, 3) := by decide +kernel
theorem dX4_product_4 : decode cX4_product 4 = .ok (.invokestatic 72, 3) := by decide +kernel
theorem dX4_product_7 : decode cX4_product 7 = .ok (.aload_n 1, 1) := by decide +kernel
theorem dX4_product_8 : decode cX4_product 8 = .ok (.invokestatic 78, 3) := by decide +kernel
theorem dX4_product_11 : decode cX4_product 11 = .ok (.istore_n 3, 1) := by decide +kernel
theorem dX4_product_12 : decode cX4_product 12 = .ok (.aload_n 2, 1) := by decide +kernel
theorem dX4_product_13 : decode cX4_product 13 = .ok (.invokestatic 78, 3) := by decide +kernel
theorem dX4_product_16 : decode cX4_product 16 = .ok (.istore 4, 2) := by decide +kernel
theorem dX4_product_18 : decode cX4_product 18 = .ok (.iconst 0, 1) := by decide +kernel
theorem dX4_product_19 : decode cX4_product 19 = .ok (.istore 5, 2) := by decide +kernel
theorem dX4_product_21 : decode cX4_product 21 = .ok (.iload 5, 2) := by decide +kernel
theorem dX4_product_23 : decode cX4_product 23 = .ok (.iload_n 3, 1) := by decide +kernel
theorem dX4_product_24 : decode cX4_product 24 = .ok (.if_icmp .ge 91, 3) := by decide +kernel
theorem dX4_product_27 : decode cX4_product 27 = .ok (.iconst 0, 1) := by decide +kernel
theorem dX4_product_28 : decode cX4_product 28 = .ok (.istore 6, 2) := by decide +kernel
theorem dX4_product_30 : decode cX4_product 30 = .ok (.iconst 0, 1) := by decide +kernel
theorem dX4_product_31 : decode cX4_product 31 = .ok (.istore 7, 2) := by decide +kernel
theorem dX4_product_33 : decode cX4_product 33 = .ok (.iload 7, 2) := by decide +kernel
theorem dX4_product_35 : decode cX4_product 35 = .ok (.iload 4, 2) := by decide +kernel
theorem dX4_product_37 : decode cX4_product 37 = .ok (.if_icmp .lt 8, 3) := by decide +kernel
theorem dX4_product_40 : decode cX4_product 40 = .ok (.iload 6, 2) := by decide +kernel
theorem dX4_product_42 : decode cX4_product 42 = .ok (.ifCond .le 67, 3) := by decide +kernel
theorem dX4_product_45 : decode cX4_product 45 = .ok (.aload_n 0, 1) := by decide +kernel
theorem dX4_product_46 : decode cX4_product 46 = .ok (.getfield 29, 3) := by decide +kernel
theorem dX4_product_49 : decode cX4_product 49 = .ok (.iload 5, 2) := by decide +kernel
theorem dX4_product_51 : decode cX4_product 51 = .ok (.iload 7, 2) := by decide +kernel
theorem dX4_product_53 : decode cX4_product 53 = .ok (.iadd, 1) := by decide +kernel
theorem dX4_product_54 : decode cX4_product 54 = .ok (.iaload, 1) := by decide +kernel
theorem dX4_product_55 : decode cX4_product 55 = .ok (.iload 6, 2) := by decide +kernel
theorem dX4_product_57 : decode cX4_product 57 = .ok (.iadd, 1) := by decide +kernel
theorem dX4_product_58 : decode cX4_product 58 = .ok (.iload 7, 2) := by decide +kernel
theorem dX4_product_60 : decode cX4_product 60 = .ok (.iload 4, 2) := by decide +kernel
theorem dX4_product_62 : decode cX4_product 62 = .ok (.if_icmp .ge 15, 3) := by decide +kernel
theorem dX4_product_65 : decode cX4_product 65 = .ok (.aload_n 1, 1) := by decide +kernel
theorem dX4_product_66 : decode cX4_product 66 = .ok (.iload 5, 2) := by decide +kernel
theorem dX4_product_68 : decode cX4_product 68 = .ok (.iaload, 1) := by decide +kernel
theorem dX4_product_69 : decode cX4_product 69 = .ok (.aload_n 2, 1) := by decide +kernel
theorem dX4_product_70 : decode cX4_product 70 = .ok (.iload 7, 2) := by decide +kernel
theorem dX4_product_72 : decode cX4_product 72 = .ok (.iaload, 1) := by decide +kernel
theorem dX4_product_73 : decode cX4_product 73 = .ok (.imul, 1) := by decide +kernel
theorem dX4_product_74 : decode cX4_product 74 = .ok (.goto 4, 3) := by decide +kernel
theorem dX4_product_77 : decode cX4_product 77 = .ok (.iconst 0, 1) := by decide +kernel
theorem dX4_product_78 : decode cX4_product 78 = .ok (.iadd, 1) := by decide +kernel
theorem dX4_product_79 : decode cX4_product 79 = .ok (.istore 8, 2) := by decide +kernel
theorem dX4_product_81 : decode cX4_product 81 = .ok (.aload_n 0, 1) := by decide +kernel
theorem dX4_product_82 : decode cX4_product 82 = .ok (.getfield 29, 3) := by decide +kernel
theorem dX4_product_85 : decode cX4_product 85 = .ok (.iload 5, 2) := by decide +kernel
theorem dX4_product_87 : decode cX4_product 87 = .ok (.iload 7, 2) := by decide +kernel
theorem dX4_product_89 : decode cX4_product 89 = .ok (.iadd, 1) := by decide +kernel
theorem dX4_product_90 : decode cX4_product 90 = .ok (.iload 8, 2) := by decide +kernel
theorem dX4_product_92 : decode cX4_product 92 = .ok (.bipush 10, 2) := by decide +kernel
theorem dX4_product_94 : decode cX4_product 94 = .ok (.irem, 1) := by decide +kernel
theorem dX4_product_95 : decode cX4_product 95 = .ok (.iastore, 1) := by decide +kernel
theorem dX4_product_96 : decode cX4_product 96 = .ok (.iload 8, 2) := by decide +kernel
theorem dX4_product_98 : decode cX4_product 98 = .ok (.bipush 10, 2) := by decide +kernel
theorem dX4_product_100 : decode cX4_product 100 = .ok (.idiv, 1) := by decide +kernel
theorem dX4_product_101 : decode cX4_product 101 = .ok (.istore 6, 2) := by decide +kernel
theorem dX4_product_103 : decode cX4_product 103 = .ok (.iinc 7 1, 3) := by decide +kernel
theorem dX4_product_106 : decode cX4_product 106 = .ok (.goto (-73), 3) := by decide +kernel
theorem dX4_product_109 : decode cX4_product 109 = .ok (.iinc 5 1, 3) := by decide +kernel
theorem dX4_product_112 : decode cX4_product 112 = .ok (.goto (-91), 3) := by decide +kernel
theorem dX4_product_115 : decode cX4_product 115 = .ok (.return_, 1) := by decide +kernel
theorem dX4_divide_0 : decode cX4_divide 0 = .ok (.iload_n 1, 1) := by decide +kernel
theorem dX4_divide_1 : decode cX4_divide 1 = .ok (.bipush 8, 2) := by decide +kernel
theorem dX4_divide_3 : decode cX4_divide 3 = .ok (.invokestatic 123, 3) := by decide +kernel
theorem dX4_divide_6 : decode cX4_divide 6 = .ok (.ifCond .ne 22, 3) := by decide +kernel
theorem dX4_divide_9 : decode cX4_divide 9 = .ok (.iload_n 2, 1) := by decide +kernel
theorem dX4_divide_10 : decode cX4_divide 10 = .ok (.bipush 8, 2) := by decide +kernel
theorem dX4_divide_12 : decode cX4_divide 12 = .ok (.invokestatic 123, 3) := by decide +kernel
theorem dX4_divide_15 : decode cX4_divide 15 = .ok (.ifCond .ne 13, 3) := by decide +kernel
theorem dX4_divide_18 : decode cX4_divide 18 = .ok (.iload 5, 2) := by decide +kernel
theorem dX4_divide_20 : decode cX4_divide 20 = .ok (.bipush 10, 2) := by decide +kernel
theorem dX4_divide_22 : decode cX4_divide 22 = .ok (.invokestatic 123, 3) := by decide +kernel
theorem dX4_divide_25 : decode cX4_divide 25 = .ok (.ifCond .eq 6, 3) := by decide +kernel
theorem dX4_divide_28 : decode cX4_divide 28 = .ok (.bipush (-15), 2) := by decide +kernel
theorem dX4_divide_30 : decode cX4_divide 30 = .ok (.ireturn, 1) := by decide +kernel
theorem dX4_divide_31 : decode cX4_divide 31 = .ok (.aload_n 0, 1) := by decide +kernel
theorem dX4_divide_32 : decode cX4_divide 32 = .ok (.getfield 7, 3) := by decide +kernel
theorem dX4_divide_35 : decode cX4_divide 35 = .ok (.iload_n 2, 1) := by decide +kernel
theorem dX4_divide_36 : decode cX4_divide 36 = .ok (.iaload, 1) := by decide +kernel
theorem dX4_divide_37 : decode cX4_divide 37 = .ok (.ifCond .ge 6, 3) := by decide +kernel
theorem dX4_divide_40 : decode cX4_divide 40 = .ok (.bipush (-11), 2) := by decide +kernel
theorem dX4_divide_42 : decode cX4_divide 42 = .ok (.ireturn, 1) := by decide +kernel
theorem dX4_divide_43 : decode cX4_divide 43 = .ok (.lload_n 3, 1) := by decide +kernel
theorem dX4_divide_44 : decode cX4_divide 44 = .ok (.lconst 0, 1) := by decide +kernel
theorem dX4_divide_45 : decode cX4_divide 45 = .ok (.lcmp, 1) := by decide +kernel
theorem dX4_divide_46 : decode cX4_divide 46 = .ok (.ifCond .ne 6, 3) := by decide +kernel
theorem dX4_divide_49 : decode cX4_divide 49 = .ok (.bipush (-14), 2) := by decide +kernel
theorem dX4_divide_51 : decode cX4_divide 51 = .ok (.ireturn, 1) := by decide +kernel
theorem dX4_divide_52 : decode cX4_divide 52 = .ok (.aload_n 0, 1) := by decide +kernel
theorem dX4_divide_53 : decode cX4_divide 53 = .ok (.aload_n 0, 1) := by decide +kernel
theorem dX4_divide_54 : decode cX4_divide 54 = .ok (.getfield 29, 3) := by decide +kernel
theorem dX4_divide_57 : decode cX4_divide 57 = .ok (.iload_n 2, 1) := by decide +kernel
theorem dX4_divide_58 : decode cX4_divide 58 = .ok (.invokevirtual 131, 3) := by decide +kernel
theorem dX4_divide_61 : decode cX4_divide 61 = .ok (.aload_n 0, 1) := by decide +kernel
theorem dX4_divide_62 : decode cX4_divide 62 = .ok (.getfield 29, 3) := by decide +kernel
theorem dX4_divide_65 : decode cX4_divide 65 = .ok (.iload 5, 2) := by decide +kernel
theorem dX4_divide_67 : decode cX4_divide 67 = .ok (.invokestatic 82, 3) := by decide +kernel
theorem dX4_divide_70 : decode cX4_divide 70 = .ok (.aload_n 0, 1) := by decide +kernel
theorem dX4_divide_71 : decode cX4_divide 71 = .ok (.getfield 32, 3) := by decide +kernel
theorem dX4_divide_74 : decode cX4_divide 74 = .ok (.lload_n 3, 1) := by decide +kernel
theorem dX4_divide_75 : decode cX4_divide 75 = .ok (.invokestatic 100, 3) := by decide +kernel
theorem dX4_divide_78 : decode cX4_divide 78 = .ok (.aload_n 0, 1) := by decide +kernel
theorem dX4_divide_79 : decode cX4_divide 79 = .ok (.iload_n 1, 1) := by decide +kernel
theorem dX4_divide_80 : decode cX4_divide 80 = .ok (.aload_n 0, 1) := by decide +kernel
theorem dX4_divide_81 : decode cX4_divide 81 = .ok (.getfield 7, 3) := by decide +kernel
theorem dX4_divide_84 : decode cX4_divide 84 = .ok (.iload_n 2, 1) := by decide +kernel
theorem dX4_divide_85 : decode cX4_divide 85 = .ok (.iaload, 1) := by decide +kernel
theorem dX4_divide_86 : decode cX4_divide 86 = .ok (.aload_n 0, 1) := by decide +kernel
theorem dX4_divide_87 : decode cX4_divide 87 = .ok (.getfield 13, 3) := by decide +kernel
theorem dX4_divide_90 : decode cX4_divide 90 = .ok (.iload_n 2, 1) := by decide +kernel
theorem dX4_divide_91 : decode cX4_divide 91 = .ok (.baload, 1) := by decide +kernel
theorem dX4_divide_92 : decode cX4_divide 92 = .ok (.aload_n 0, 1) := by decide +kernel
theorem dX4_divide_93 : decode cX4_divide 93 = .ok (.getfield 17, 3) := by decide +kernel
theorem dX4_divide_96 : decode cX4_divide 96 = .ok (.iload_n 2, 1) := by decide +kernel
theorem dX4_divide_97 : decode cX4_divide 97 = .ok (.baload, 1) := by decide +kernel
theorem dX4_divide_98 : decode cX4_divide 98 = .ok (.lload_n 3, 1) := by decide +kernel
theorem dX4_divide_99 : decode cX4_divide 99 = .ok (.lconst 0, 1) := by decide +kernel
theorem dX4_divide_100 : decode cX4_divide 100 = .ok (.lcmp, 1) := by decide +kernel
theorem dX4_divide_101 : decode cX4_divide 101 = .ok (.ifCond .ge 7, 3) := by decide +kernel
theorem dX4_divide_104 : decode cX4_divide 104 = .ok (.iconst 1, 1) := by decide +kernel
theorem dX4_divide_105 : decode cX4_divide 105 = .ok (.goto 4, 3) := by decide +kernel
theorem dX4_divide_108 : decode cX4_divide 108 = .ok (.iconst 0, 1) := by decide +kernel
theorem dX4_divide_109 : decode cX4_divide 109 = .ok (.if_icmp .eq 7, 3) := by decide +kernel
theorem dX4_divide_112 : decode cX4_divide 112 = .ok (.iconst 1, 1) := by decide +kernel
theorem dX4_divide_113 : decode cX4_divide 113 = .ok (.goto 4, 3) := by decide +kernel
theorem dX4_divide_116 : decode cX4_divide 116 = .ok (.iconst 0, 1) := by decide +kernel
theorem dX4_divide_117 : decode cX4_divide 117 = .ok (.invokevirtual 127, 3) := by decide +kernel
theorem dX4_divide_120 : decode cX4_divide 120 = .ok (.ireturn, 1) := by decide +kernel
theorem dX4_negate_0 : decode cX4_negate 0 = .ok (.iload_n 1, 1) := by decide +kernel
theorem dX4_negate_1 : decode cX4_negate 1 = .ok (.bipush 8, 2) := by decide +kernel
theorem dX4_negate_3 : decode cX4_negate 3 = .ok (.invokestatic 123, 3) := by decide +kernel
theorem dX4_negate_6 : decode cX4_negate 6 = .ok (.ifCond .ne 12, 3) := by decide +kernel
theorem dX4_negate_9 : decode cX4_negate 9 = .ok (.iload_n 2, 1) := by decide +kernel
theorem dX4_negate_10 : decode cX4_negate 10 = .ok (.bipush 8, 2) := by decide +kernel
theorem dX4_negate_12 : decode cX4_negate 12 = .ok (.invokestatic 123, 3) := by decide +kernel
theorem dX4_negate_15 : decode cX4_negate 15 = .ok (.ifCond .eq 6, 3) := by decide +kernel
theorem dX4_negate_18 : decode cX4_negate 18 = .ok (.bipush (-15), 2) := by decide +kernel
theorem dX4_negate_20 : decode cX4_negate 20 = .ok (.ireturn, 1) := by decide +kernel
theorem dX4_negate_21 : decode cX4_negate 21 = .ok (.aload_n 0, 1) := by decide +kernel
theorem dX4_negate_22 : decode cX4_negate 22 = .ok (.getfield 7, 3) := by decide +kernel
theorem dX4_negate_25 : decode cX4_negate 25 = .ok (.iload_n 2, 1) := by decide +kernel
theorem dX4_negate_26 : decode cX4_negate 26 = .ok (.iaload, 1) := by decide +kernel
theorem dX4_negate_27 : decode cX4_negate 27 = .ok (.ifCond .ge 6, 3) := by decide +kernel
theorem dX4_negate_30 : decode cX4_negate 30 = .ok (.bipush (-11), 2) := by decide +kernel
theorem dX4_negate_32 : decode cX4_negate 32 = .ok (.ireturn, 1) := by decide +kernel
theorem dX4_negate_33 : decode cX4_negate 33 = .ok (.aload_n 0, 1) := by decide +kernel
theorem dX4_negate_34 : decode cX4_negate 34 = .ok (.aload_n 0, 1) := by decide +kernel
theorem dX4_negate_35 : decode cX4_negate 35 = .ok (.getfield 29, 3) := by decide +kernel
theorem dX4_negate_38 : decode cX4_negate 38 = .ok (.iload_n 2, 1) := by decide +kernel
theorem dX4_negate_39 : decode cX4_negate 39 = .ok (.invokevirtual 131, 3) := by decide +kernel
theorem dX4_negate_42 : decode cX4_negate 42 = .ok (.aload_n 0, 1) := by decide +kernel
theorem dX4_negate_43 : decode cX4_negate 43 = .ok (.aload_n 0, 1) := by decide +kernel
theorem dX4_negate_44 : decode cX4_negate 44 = .ok (.getfield 29, 3) := by decide +kernel
theorem dX4_negate_47 : decode cX4_negate 47 = .ok (.aload_n 0, 1) := by decide +kernel
theorem dX4_negate_48 : decode cX4_negate 48 = .ok (.getfield 13, 3) := by decide +kernel
theorem dX4_negate_51 : decode cX4_negate 51 = .ok (.iload_n 2, 1) := by decide +kernel
theorem dX4_negate_52 : decode cX4_negate 52 = .ok (.baload, 1) := by decide +kernel
theorem dX4_negate_53 : decode cX4_negate 53 = .ok (.aload_n 0, 1) := by decide +kernel
theorem dX4_negate_54 : decode cX4_negate 54 = .ok (.getfield 17, 3) := by decide +kernel
theorem dX4_negate_57 : decode cX4_negate 57 = .ok (.iload_n 2, 1) := by decide +kernel
theorem dX4_negate_58 : decode cX4_negate 58 = .ok (.baload, 1) := by decide +kernel
theorem dX4_negate_59 : decode cX4_negate 59 = .ok (.ifCond .ne 7, 3) := by decide +kernel
theorem dX4_negate_62 : decode cX4_negate 62 = .ok (.iconst 1, 1) := by decide +kernel
theorem dX4_negate_63 : decode cX4_negate 63 = .ok (.goto 4, 3) := by decide +kernel
theorem dX4_negate_66 : decode cX4_negate 66 = .ok (.iconst 0, 1) := by decide +kernel
theorem dX4_negate_67 : decode cX4_negate 67 = .ok (.invokevirtual 115, 3) := by decide +kernel
theorem dX4_negate_70 : decode cX4_negate 70 = .ok (.istore_n 3, 1) := by decide +kernel
theorem dX4_negate_71 : decode cX4_negate 71 = .ok (.iload_n 3, 1) := by decide +kernel
theorem dX4_negate_72 : decode cX4_negate 72 = .ok (.ifCond .eq 41, 3) := by decide +kernel
theorem dX4_negate_75 : decode cX4_negate 75 = .ok (.aload_n 0, 1) := by decide +kernel
theorem dX4_negate_76 : decode cX4_negate 76 = .ok (.iload_n 1, 1) := by decide +kernel
theorem dX4_negate_77 : decode cX4_negate 77 = .ok (.aload_n 0, 1) := by decide +kernel
theorem dX4_negate_78 : decode cX4_negate 78 = .ok (.getfield 7, 3) := by decide +kernel
theorem dX4_negate_81 : decode cX4_negate 81 = .ok (.iload_n 2, 1) := by decide +kernel
theorem dX4_negate_82 : decode cX4_negate 82 = .ok (.iaload, 1) := by decide +kernel
theorem dX4_negate_83 : decode cX4_negate 83 = .ok (.aload_n 0, 1) := by decide +kernel
theorem dX4_negate_84 : decode cX4_negate 84 = .ok (.getfield 13, 3) := by decide +kernel
theorem dX4_negate_87 : decode cX4_negate 87 = .ok (.iload_n 2, 1) := by decide +kernel
theorem dX4_negate_88 : decode cX4_negate 88 = .ok (.baload, 1) := by decide +kernel
theorem dX4_negate_89 : decode cX4_negate 89 = .ok (.aload_n 0, 1) := by decide +kernel
theorem dX4_negate_90 : decode cX4_negate 90 = .ok (.getfield 17, 3) := by decide +kernel
theorem dX4_negate_93 : decode cX4_negate 93 = .ok (.iload_n 2, 1) := by decide +kernel
theorem dX4_negate_94 : decode cX4_negate 94 = .ok (.baload, 1) := by decide +kernel
theorem dX4_negate_95 : decode cX4_negate 95 = .ok (.ifCond .ne 7, 3) := by decide +kernel
theorem dX4_negate_98 : decode cX4_negate 98 = .ok (.iconst 1, 1) := by decide +kernel
theorem dX4_negate_99 : decode cX4_negate 99 = .ok (.goto 4, 3) := by decide +kernel
theorem dX4_negate_102 : decode cX4_negate 102 = .ok (.iconst 0, 1) := by decide +kernel
theorem dX4_negate_103 : decode cX4_negate 103 = .ok (.aload_n 0, 1) := by decide +kernel
theorem dX4_negate_104 : decode cX4_negate 104 = .ok (.getfield 29, 3) := by decide +kernel
theorem dX4_negate_107 : decode cX4_negate 107 = .ok (.invokevirtual 119, 3) := by decide +kernel
theorem dX4_negate_110 : decode cX4_negate 110 = .ok (.goto 5, 3) := by decide +kernel
theorem dX4_negate_113 : decode cX4_negate 113 = .ok (.bipush (-13), 2) := by decide +kernel
theorem dX4_negate_115 : decode cX4_negate 115 = .ok (.ireturn, 1) := by decide +kernel
theorem dX4_round_0 : decode cX4_round 0 = .ok (.iload_n 1, 1) := by decide +kernel
theorem dX4_round_1 : decode cX4_round 1 = .ok (.bipush 8, 2) := by decide +kernel
theorem dX4_round_3 : decode cX4_round 3 = .ok (.invokestatic 123, 3) := by decide +kernel
theorem dX4_round_6 : decode cX4_round 6 = .ok (.ifCond .ne 21, 3) := by decide +kernel
theorem dX4_round_9 : decode cX4_round 9 = .ok (.iload_n 2, 1) := by decide +kernel
theorem dX4_round_10 : decode cX4_round 10 = .ok (.bipush 8, 2) := by decide +kernel
theorem dX4_round_12 : decode cX4_round 12 = .ok (.invokestatic 123, 3) := by decide +kernel
theorem dX4_round_15 : decode cX4_round 15 = .ok (.ifCond .ne 12, 3) := by decide +kernel
theorem dX4_round_18 : decode cX4_round 18 = .ok (.iload_n 3, 1) := by decide +kernel
theorem dX4_round_19 : decode cX4_round 19 = .ok (.bipush 8, 2) := by decide +kernel
theorem dX4_round_21 : decode cX4_round 21 = .ok (.invokestatic 123, 3) := by decide +kernel
theorem dX4_round_24 : decode cX4_round 24 = .ok (.ifCond .eq 6, 3) := by decide +kernel
theorem dX4_round_27 : decode cX4_round 27 = .ok (.bipush (-15), 2) := by decide +kernel
theorem dX4_round_29 : decode cX4_round 29 = .ok (.ireturn, 1) := by decide +kernel
theorem dX4_round_30 : decode cX4_round 30 = .ok (.aload_n 0, 1) := by decide +kernel
theorem dX4_round_31 : decode cX4_round 31 = .ok (.getfield 7, 3) := by decide +kernel
theorem dX4_round_34 : decode cX4_round 34 = .ok (.iload_n 2, 1) := by decide +kernel
theorem dX4_round_35 : decode cX4_round 35 = .ok (.iaload, 1) := by decide +kernel
theorem dX4_round_36 : decode cX4_round 36 = .ok (.ifCond .ge 6, 3) := by decide +kernel
theorem dX4_round_39 : decode cX4_round 39 = .ok (.bipush (-11), 2) := by decide +kernel
theorem dX4_round_41 : decode cX4_round 41 = .ok (.ireturn, 1) := by decide +kernel
theorem dX4_round_42 : decode cX4_round 42 = .ok (.aload_n 0, 1) := by decide +kernel
theorem dX4_round_43 : decode cX4_round 43 = .ok (.getfield 7, 3) := by decide +kernel
theorem dX4_round_46 : decode cX4_round 46 = .ok (.iload_n 2, 1) := by decide +kernel
theorem dX4_round_47 : decode cX4_round 47 = .ok (.iaload, 1) := by decide +kernel
theorem dX4_round_48 : decode cX4_round 48 = .ok (.istore 5, 2) := by decide +kernel
theorem dX4_round_50 : decode cX4_round 50 = .ok (.aload_n 0, 1) := by decide +kernel
theorem dX4_round_51 : decode cX4_round 51 = .ok (.iload 5, 2) := by decide +kernel
theorem dX4_round_53 : decode cX4_round 53 = .ok (.iload 4, 2) := by decide +kernel
theorem dX4_round_55 : decode cX4_round 55 = .ok (.ifCond .ne 7, 3) := by decide +kernel
theorem dX4_round_58 : decode cX4_round 58 = .ok (.iconst 1, 1) := by decide +kernel
theorem dX4_round_59 : decode cX4_round 59 = .ok (.goto 24, 3) := by decide +kernel
theorem dX4_round_62 : decode cX4_round 62 = .ok (.iload 5, 2) := by decide +kernel
theorem dX4_round_64 : decode cX4_round 64 = .ok (.iconst 4, 1) := by decide +kernel
theorem dX4_round_65 : decode cX4_round 65 = .ok (.if_icmp .ne 7, 3) := by decide +kernel
theorem dX4_round_68 : decode cX4_round 68 = .ok (.iconst 5, 1) := by decide +kernel
theorem dX4_round_69 : decode cX4_round 69 = .ok (.goto 14, 3) := by decide +kernel
theorem dX4_round_72 : decode cX4_round 72 = .ok (.iload 5, 2) := by decide +kernel
theorem dX4_round_74 : decode cX4_round 74 = .ok (.iconst 5, 1) := by decide +kernel
theorem dX4_round_75 : decode cX4_round 75 = .ok (.if_icmp .ne 7, 3) := by decide +kernel
theorem dX4_round_78 : decode cX4_round 78 = .ok (.iconst 2, 1) := by decide +kernel
theorem dX4_round_79 : decode cX4_round 79 = .ok (.goto 4, 3) := by decide +kernel
theorem dX4_round_82 : decode cX4_round 82 = .ok (.iconst 1, 1) := by decide +kernel
theorem dX4_round_83 : decode cX4_round 83 = .ok (.invokevirtual 145, 3) := by decide +kernel
theorem dX4_round_86 : decode cX4_round 86 = .ok (.aload_n 0, 1) := by decide +kernel
theorem dX4_round_87 : decode cX4_round 87 = .ok (.aload_n 0, 1) := by decide +kernel
theorem dX4_round_88 : decode cX4_round 88 = .ok (.getfield 29, 3) := by decide +kernel
theorem dX4_round_91 : decode cX4_round 91 = .ok (.iload_n 2, 1) := by decide +kernel
theorem dX4_round_92 : decode cX4_round 92 = .ok (.invokevirtual 131, 3) := by decide +kernel
theorem dX4_round_95 : decode cX4_round 95 = .ok (.aload_n 0, 1) := by decide +kernel
theorem dX4_round_96 : decode cX4_round 96 = .ok (.invokevirtual 108, 3) := by decide +kernel
theorem dX4_round_99 : decode cX4_round 99 = .ok (.aload_n 0, 1) := by decide +kernel
theorem dX4_round_100 : decode cX4_round 100 = .ok (.aload_n 0, 1) := by decide +kernel
theorem dX4_round_101 : decode cX4_round 101 = .ok (.getfield 17, 3) := by decide +kernel
theorem dX4_round_104 : decode cX4_round 104 = .ok (.iload_n 2, 1) := by decide +kernel
theorem dX4_round_105 : decode cX4_round 105 = .ok (.baload, 1) := by decide +kernel
theorem dX4_round_106 : decode cX4_round 106 = .ok (.iload_n 3, 1) := by decide +kernel
theorem dX4_round_107 : decode cX4_round 107 = .ok (.invokevirtual 111, 3) := by decide +kernel
theorem dX4_round_110 : decode cX4_round 110 = .ok (.ifCond .ne 6, 3) := by decide +kernel
theorem dX4_round_113 : decode cX4_round 113 = .ok (.bipush (-16), 2) := by decide +kernel
theorem dX4_round_115 : decode cX4_round 115 = .ok (.ireturn, 1) := by decide +kernel
theorem dX4_round_116 : decode cX4_round 116 = .ok (.aload_n 0, 1) := by decide +kernel
theorem dX4_round_117 : decode cX4_round 117 = .ok (.aload_n 0, 1) := by decide +kernel
theorem dX4_round_118 : decode cX4_round 118 = .ok (.getfield 38, 3) := by decide +kernel
theorem dX4_round_121 : decode cX4_round 121 = .ok (.aload_n 0, 1) := by decide +kernel
theorem dX4_round_122 : decode cX4_round 122 = .ok (.getfield 35, 3) := by decide +kernel
theorem dX4_round_125 : decode cX4_round 125 = .ok (.invokevirtual 138, 3) := by decide +kernel
theorem dX4_round_128 : decode cX4_round 128 = .ok (.aload_n 0, 1) := by decide +kernel
theorem dX4_round_129 : decode cX4_round 129 = .ok (.aload_n 0, 1) := by decide +kernel
theorem dX4_round_130 : decode cX4_round 130 = .ok (.getfield 29, 3) := by decide +kernel
theorem dX4_round_133 : decode cX4_round 133 = .ok (.aload_n 0, 1) := by decide +kernel
theorem dX4_round_134 : decode cX4_round 134 = .ok (.getfield 13, 3) := by decide +kernel
theorem dX4_round_137 : decode cX4_round 137 = .ok (.iload_n 2, 1) := by decide +kernel
theorem dX4_round_138 : decode cX4_round 138 = .ok (.baload, 1) := by decide +kernel
theorem dX4_round_139 : decode cX4_round 139 = .ok (.aload_n 0, 1) := by decide +kernel
theorem dX4_round_140 : decode cX4_round 140 = .ok (.getfield 17, 3) := by decide +kernel
theorem dX4_round_143 : decode cX4_round 143 = .ok (.iload_n 2, 1) := by decide +kernel
theorem dX4_round_144 : decode cX4_round 144 = .ok (.baload, 1) := by decide +kernel
theorem dX4_round_145 : decode cX4_round 145 = .ok (.invokevirtual 115, 3) := by decide +kernel
theorem dX4_round_148 : decode cX4_round 148 = .ok (.ifCond .eq 29, 3) := by decide +kernel
theorem dX4_round_151 : decode cX4_round 151 = .ok (.aload_n 0, 1) := by decide +kernel
theorem dX4_round_152 : decode cX4_round 152 = .ok (.iload_n 1, 1) := by decide +kernel
theorem dX4_round_153 : decode cX4_round 153 = .ok (.iload 5, 2) := by decide +kernel
theorem dX4_round_155 : decode cX4_round 155 = .ok (.aload_n 0, 1) := by decide +kernel
theorem dX4_round_156 : decode cX4_round 156 = .ok (.getfield 13, 3) := by decide +kernel
