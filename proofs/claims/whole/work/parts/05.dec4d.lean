theorem dX4_discard_21 : decode cX4_discard 21 = .ok (.getfield 7, 3) := by decide +kernel
theorem dX4_discard_24 : decode cX4_discard 24 = .ok (.iload_n 1, 1) := by decide +kernel
theorem dX4_discard_25 : decode cX4_discard 25 = .ok (.iconst (-1), 1) := by decide +kernel
theorem dX4_discard_26 : decode cX4_discard 26 = .ok (.iastore, 1) := by decide +kernel
theorem dX4_discard_27 : decode cX4_discard 27 = .ok (.iconst 1, 1) := by decide +kernel
theorem dX4_discard_28 : decode cX4_discard 28 = .ok (.ireturn, 1) := by decide +kernel
theorem dX4_format_0 : decode cX4_format 0 = .ok (.iload_n 1, 1) := by decide +kernel
theorem dX4_format_1 : decode cX4_format 1 = .ok (.bipush 8, 2) := by decide +kernel
theorem dX4_format_3 : decode cX4_format 3 = .ok (.invokestatic 123, 3) := by decide +kernel
theorem dX4_format_6 : decode cX4_format 6 = .ok (.ifCond .ne 12, 3) := by decide +kernel
theorem dX4_format_9 : decode cX4_format 9 = .ok (.iload_n 2, 1) := by decide +kernel
theorem dX4_format_10 : decode cX4_format 10 = .ok (.bipush 8, 2) := by decide +kernel
theorem dX4_format_12 : decode cX4_format 12 = .ok (.invokestatic 123, 3) := by decide +kernel
theorem dX4_format_15 : decode cX4_format 15 = .ok (.ifCond .eq 6, 3) := by decide +kernel
theorem dX4_format_18 : decode cX4_format 18 = .ok (.bipush (-15), 2) := by decide +kernel
theorem dX4_format_20 : decode cX4_format 20 = .ok (.ireturn, 1) := by decide +kernel
theorem dX4_format_21 : decode cX4_format 21 = .ok (.aload_n 0, 1) := by decide +kernel
theorem dX4_format_22 : decode cX4_format 22 = .ok (.getfield 7, 3) := by decide +kernel
theorem dX4_format_25 : decode cX4_format 25 = .ok (.iload_n 1, 1) := by decide +kernel
theorem dX4_format_26 : decode cX4_format 26 = .ok (.iaload, 1) := by decide +kernel
theorem dX4_format_27 : decode cX4_format 27 = .ok (.ifCond .ge 6, 3) := by decide +kernel
theorem dX4_format_30 : decode cX4_format 30 = .ok (.bipush (-11), 2) := by decide +kernel
theorem dX4_format_32 : decode cX4_format 32 = .ok (.ireturn, 1) := by decide +kernel
theorem dX4_format_33 : decode cX4_format 33 = .ok (.aload_n 0, 1) := by decide +kernel
theorem dX4_format_34 : decode cX4_format 34 = .ok (.getfield 7, 3) := by decide +kernel
theorem dX4_format_37 : decode cX4_format 37 = .ok (.iload_n 1, 1) := by decide +kernel
theorem dX4_format_38 : decode cX4_format 38 = .ok (.iaload, 1) := by decide +kernel
theorem dX4_format_39 : decode cX4_format 39 = .ok (.istore_n 3, 1) := by decide +kernel
theorem dX4_format_40 : decode cX4_format 40 = .ok (.aload_n 0, 1) := by decide +kernel
theorem dX4_format_41 : decode cX4_format 41 = .ok (.iload_n 3, 1) := by decide +kernel
theorem dX4_format_42 : decode cX4_format 42 = .ok (.iconst 1, 1) := by decide +kernel
theorem dX4_format_43 : decode cX4_format 43 = .ok (.invokevirtual 145, 3) := by decide +kernel
theorem dX4_format_46 : decode cX4_format 46 = .ok (.aload_n 0, 1) := by decide +kernel
theorem dX4_format_47 : decode cX4_format 47 = .ok (.aload_n 0, 1) := by decide +kernel
theorem dX4_format_48 : decode cX4_format 48 = .ok (.getfield 29, 3) := by decide +kernel
theorem dX4_format_51 : decode cX4_format 51 = .ok (.iload_n 1, 1) := by decide +kernel
theorem dX4_format_52 : decode cX4_format 52 = .ok (.invokevirtual 131, 3) := by decide +kernel
theorem dX4_format_55 : decode cX4_format 55 = .ok (.aload_n 0, 1) := by decide +kernel
theorem dX4_format_56 : decode cX4_format 56 = .ok (.invokevirtual 108, 3) := by decide +kernel
theorem dX4_format_59 : decode cX4_format 59 = .ok (.aload_n 0, 1) := by decide +kernel
theorem dX4_format_60 : decode cX4_format 60 = .ok (.aload_n 0, 1) := by decide +kernel
theorem dX4_format_61 : decode cX4_format 61 = .ok (.getfield 17, 3) := by decide +kernel
theorem dX4_format_64 : decode cX4_format 64 = .ok (.iload_n 1, 1) := by decide +kernel
theorem dX4_format_65 : decode cX4_format 65 = .ok (.baload, 1) := by decide +kernel
theorem dX4_format_66 : decode cX4_format 66 = .ok (.bipush 6, 2) := by decide +kernel
theorem dX4_format_68 : decode cX4_format 68 = .ok (.invokevirtual 111, 3) := by decide +kernel
theorem dX4_format_71 : decode cX4_format 71 = .ok (.istore 4, 2) := by decide +kernel
theorem dX4_format_73 : decode cX4_format 73 = .ok (.aload_n 0, 1) := by decide +kernel
theorem dX4_format_74 : decode cX4_format 74 = .ok (.getfield 17, 3) := by decide +kernel
theorem dX4_format_77 : decode cX4_format 77 = .ok (.iload_n 1, 1) := by decide +kernel
theorem dX4_format_78 : decode cX4_format 78 = .ok (.baload, 1) := by decide +kernel
theorem dX4_format_79 : decode cX4_format 79 = .ok (.ifCond .eq 17, 3) := by decide +kernel
theorem dX4_format_82 : decode cX4_format 82 = .ok (.aload_n 0, 1) := by decide +kernel
theorem dX4_format_83 : decode cX4_format 83 = .ok (.getfield 38, 3) := by decide +kernel
theorem dX4_format_86 : decode cX4_format 86 = .ok (.invokestatic 78, 3) := by decide +kernel
theorem dX4_format_89 : decode cX4_format 89 = .ok (.ifCond .le 7, 3) := by decide +kernel
theorem dX4_format_92 : decode cX4_format 92 = .ok (.iconst 1, 1) := by decide +kernel
theorem dX4_format_93 : decode cX4_format 93 = .ok (.goto 4, 3) := by decide +kernel
theorem dX4_format_96 : decode cX4_format 96 = .ok (.iconst 0, 1) := by decide +kernel
theorem dX4_format_97 : decode cX4_format 97 = .ok (.istore 5, 2) := by decide +kernel
theorem dX4_format_99 : decode cX4_format 99 = .ok (.iload_n 2, 1) := by decide +kernel
theorem dX4_format_100 : decode cX4_format 100 = .ok (.iconst 4, 1) := by decide +kernel
theorem dX4_format_101 : decode cX4_format 101 = .ok (.irem, 1) := by decide +kernel
theorem dX4_format_102 : decode cX4_format 102 = .ok (.iconst 2, 1) := by decide +kernel
theorem dX4_format_103 : decode cX4_format 103 = .ok (.if_icmp .lt 7, 3) := by decide +kernel
theorem dX4_format_106 : decode cX4_format 106 = .ok (.iconst 1, 1) := by decide +kernel
theorem dX4_format_107 : decode cX4_format 107 = .ok (.goto 4, 3) := by decide +kernel
theorem dX4_format_110 : decode cX4_format 110 = .ok (.iconst 0, 1) := by decide +kernel
theorem dX4_format_111 : decode cX4_format 111 = .ok (.istore 6, 2) := by decide +kernel
theorem dX4_format_113 : decode cX4_format 113 = .ok (.aload_n 0, 1) := by decide +kernel
theorem dX4_format_114 : decode cX4_format 114 = .ok (.iconst 0, 1) := by decide +kernel
theorem dX4_format_115 : decode cX4_format 115 = .ok (.putfield 166, 3) := by decide +kernel
theorem dX4_format_118 : decode cX4_format 118 = .ok (.iload 6, 2) := by decide +kernel
theorem dX4_format_120 : decode cX4_format 120 = .ok (.ifCond .ne 14, 3) := by decide +kernel
theorem dX4_format_123 : decode cX4_format 123 = .ok (.aload_n 0, 1) := by decide +kernel
theorem dX4_format_124 : decode cX4_format 124 = .ok (.iload_n 3, 1) := by decide +kernel
theorem dX4_format_125 : decode cX4_format 125 = .ok (.invokevirtual 173, 3) := by decide +kernel
theorem dX4_format_128 : decode cX4_format 128 = .ok (.aload_n 0, 1) := by decide +kernel
theorem dX4_format_129 : decode cX4_format 129 = .ok (.bipush 32, 2) := by decide +kernel
theorem dX4_format_131 : decode cX4_format 131 = .ok (.invokevirtual 169, 3) := by decide +kernel
theorem dX4_format_134 : decode cX4_format 134 = .ok (.aload_n 0, 1) := by decide +kernel
theorem dX4_format_135 : decode cX4_format 135 = .ok (.iload_n 3, 1) := by decide +kernel
theorem dX4_format_136 : decode cX4_format 136 = .ok (.invokestatic 141, 3) := by decide +kernel
theorem dX4_format_139 : decode cX4_format 139 = .ok (.iload_n 2, 1) := by decide +kernel
theorem dX4_format_140 : decode cX4_format 140 = .ok (.iload 5, 2) := by decide +kernel
theorem dX4_format_142 : decode cX4_format 142 = .ok (.invokevirtual 176, 3) := by decide +kernel
theorem dX4_format_145 : decode cX4_format 145 = .ok (.iload 6, 2) := by decide +kernel
theorem dX4_format_147 : decode cX4_format 147 = .ok (.ifCond .eq 14, 3) := by decide +kernel
theorem dX4_format_150 : decode cX4_format 150 = .ok (.aload_n 0, 1) := by decide +kernel
theorem dX4_format_151 : decode cX4_format 151 = .ok (.bipush 32, 2) := by decide +kernel
theorem dX4_format_153 : decode cX4_format 153 = .ok (.invokevirtual 169, 3) := by decide +kernel
theorem dX4_format_156 : decode cX4_format 156 = .ok (.aload_n 0, 1) := by decide +kernel
theorem dX4_format_157 : decode cX4_format 157 = .ok (.iload_n 3, 1) := by decide +kernel
theorem dX4_format_158 : decode cX4_format 158 = .ok (.invokevirtual 173, 3) := by decide +kernel
theorem dX4_format_161 : decode cX4_format 161 = .ok (.aload_n 0, 1) := by decide +kernel
theorem dX4_format_162 : decode cX4_format 162 = .ok (.getfield 166, 3) := by decide +kernel
theorem dX4_format_165 : decode cX4_format 165 = .ok (.ireturn, 1) := by decide +kernel
theorem dX4_putCode_0 : decode cX4_putCode 0 = .ok (.iconst 0, 1) := by decide +kernel
theorem dX4_putCode_1 : decode cX4_putCode 1 = .ok (.istore_n 2, 1) := by decide +kernel
theorem dX4_putCode_2 : decode cX4_putCode 2 = .ok (.iload_n 2, 1) := by decide +kernel
theorem dX4_putCode_3 : decode cX4_putCode 3 = .ok (.iconst 3, 1) := by decide +kernel
theorem dX4_putCode_4 : decode cX4_putCode 4 = .ok (.if_icmp .ge 17, 3) := by decide +kernel
theorem dX4_putCode_7 : decode cX4_putCode 7 = .ok (.aload_n 0, 1) := by decide +kernel
theorem dX4_putCode_8 : decode cX4_putCode 8 = .ok (.bipush 65, 2) := by decide +kernel
theorem dX4_putCode_10 : decode cX4_putCode 10 = .ok (.iload_n 1, 1) := by decide +kernel
theorem dX4_putCode_11 : decode cX4_putCode 11 = .ok (.iadd, 1) := by decide +kernel
theorem dX4_putCode_12 : decode cX4_putCode 12 = .ok (.invokevirtual 169, 3) := by decide +kernel
theorem dX4_putCode_15 : decode cX4_putCode 15 = .ok (.iinc 2 1, 3) := by decide +kernel
theorem dX4_putCode_18 : decode cX4_putCode 18 = .ok (.goto (-16), 3) := by decide +kernel
theorem dX4_putCode_21 : decode cX4_putCode 21 = .ok (.return_, 1) := by decide +kernel
theorem dX4_put_0 : decode cX4_put 0 = .ok (.aload_n 0, 1) := by decide +kernel
theorem dX4_put_1 : decode cX4_put 1 = .ok (.getfield 26, 3) := by decide +kernel
theorem dX4_put_4 : decode cX4_put 4 = .ok (.aload_n 0, 1) := by decide +kernel
theorem dX4_put_5 : decode cX4_put 5 = .ok (.getfield 166, 3) := by decide +kernel
theorem dX4_put_8 : decode cX4_put 8 = .ok (.iload_n 1, 1) := by decide +kernel
theorem dX4_put_9 : decode cX4_put 9 = .ok (.iastore, 1) := by decide +kernel
theorem dX4_put_10 : decode cX4_put 10 = .ok (.aload_n 0, 1) := by decide +kernel
theorem dX4_put_11 : decode cX4_put 11 = .ok (.dup, 1) := by decide +kernel
theorem dX4_put_12 : decode cX4_put 12 = .ok (.getfield 166, 3) := by decide +kernel
theorem dX4_put_15 : decode cX4_put 15 = .ok (.iconst 1, 1) := by decide +kernel
theorem dX4_put_16 : decode cX4_put 16 = .ok (.iadd, 1) := by decide +kernel
theorem dX4_put_17 : decode cX4_put 17 = .ok (.putfield 166, 3) := by decide +kernel
theorem dX4_put_20 : decode cX4_put 20 = .ok (.return_, 1) := by decide +kernel
theorem dX4_putNumber_0 : decode cX4_putNumber 0 = .ok (.iload_n 2, 1) := by decide +kernel
theorem dX4_putNumber_1 : decode cX4_putNumber 1 = .ok (.iconst 4, 1) := by decide +kernel
theorem dX4_putNumber_2 : decode cX4_putNumber 2 = .ok (.if_icmp .lt 7, 3) := by decide +kernel
theorem dX4_putNumber_5 : decode cX4_putNumber 5 = .ok (.iconst 1, 1) := by decide +kernel
theorem dX4_putNumber_6 : decode cX4_putNumber 6 = .ok (.goto 4, 3) := by decide +kernel
theorem dX4_putNumber_9 : decode cX4_putNumber 9 = .ok (.iconst 0, 1) := by decide +kernel
theorem dX4_putNumber_10 : decode cX4_putNumber 10 = .ok (.istore 4, 2) := by decide +kernel
theorem dX4_putNumber_12 : decode cX4_putNumber 12 = .ok (.iload_n 3, 1) := by decide +kernel
theorem dX4_putNumber_13 : decode cX4_putNumber 13 = .ok (.ifCond .eq 19, 3) := by decide +kernel
theorem dX4_putNumber_16 : decode cX4_putNumber 16 = .ok (.aload_n 0, 1) := by decide +kernel
theorem dX4_putNumber_17 : decode cX4_putNumber 17 = .ok (.iload 4, 2) := by decide +kernel
theorem dX4_putNumber_19 : decode cX4_putNumber 19 = .ok (.ifCond .eq 8, 3) := by decide +kernel
theorem dX4_putNumber_22 : decode cX4_putNumber 22 = .ok (.bipush 40, 2) := by decide +kernel
theorem dX4_putNumber_24 : decode cX4_putNumber 24 = .ok (.goto 5, 3) := by decide +kernel
theorem dX4_putNumber_27 : decode cX4_putNumber 27 = .ok (.bipush 45, 2) := by decide +kernel
theorem dX4_putNumber_29 : decode cX4_putNumber 29 = .ok (.invokevirtual 169, 3) := by decide +kernel
theorem dX4_putNumber_32 : decode cX4_putNumber 32 = .ok (.aload_n 0, 1) := by decide +kernel
theorem dX4_putNumber_33 : decode cX4_putNumber 33 = .ok (.getfield 38, 3) := by decide +kernel
theorem dX4_putNumber_36 : decode cX4_putNumber 36 = .ok (.invokestatic 78, 3) := by decide +kernel
theorem dX4_putNumber_39 : decode cX4_putNumber 39 = .ok (.iload_n 1, 1) := by decide +kernel
theorem dX4_putNumber_40 : decode cX4_putNumber 40 = .ok (.if_icmp .le 13, 3) := by decide +kernel
theorem dX4_putNumber_43 : decode cX4_putNumber 43 = .ok (.aload_n 0, 1) := by decide +kernel
theorem dX4_putNumber_44 : decode cX4_putNumber 44 = .ok (.getfield 38, 3) := by decide +kernel
theorem dX4_putNumber_47 : decode cX4_putNumber 47 = .ok (.invokestatic 78, 3) := by decide +kernel
theorem dX4_putNumber_50 : decode cX4_putNumber 50 = .ok (.goto 6, 3) := by decide +kernel
theorem dX4_putNumber_53 : decode cX4_putNumber 53 = .ok (.iload_n 1, 1) := by decide +kernel
theorem dX4_putNumber_54 : decode cX4_putNumber 54 = .ok (.iconst 1, 1) := by decide +kernel
theorem dX4_putNumber_55 : decode cX4_putNumber 55 = .ok (.iadd, 1) := by decide +kernel
theorem dX4_putNumber_56 : decode cX4_putNumber 56 = .ok (.istore 5, 2) := by decide +kernel
theorem dX4_putNumber_58 : decode cX4_putNumber 58 = .ok (.iload 5, 2) := by decide +kernel
theorem dX4_putNumber_60 : decode cX4_putNumber 60 = .ok (.iconst 1, 1) := by decide +kernel
theorem dX4_putNumber_61 : decode cX4_putNumber 61 = .ok (.isub, 1) := by decide +kernel
theorem dX4_putNumber_62 : decode cX4_putNumber 62 = .ok (.istore 6, 2) := by decide +kernel
theorem dX4_putNumber_64 : decode cX4_putNumber 64 = .ok (.iload 6, 2) := by decide +kernel
theorem dX4_putNumber_66 : decode cX4_putNumber 66 = .ok (.ifCond .lt 69, 3) := by decide +kernel
theorem dX4_putNumber_69 : decode cX4_putNumber 69 = .ok (.aload_n 0, 1) := by decide +kernel
theorem dX4_putNumber_70 : decode cX4_putNumber 70 = .ok (.bipush 48, 2) := by decide +kernel
theorem dX4_putNumber_72 : decode cX4_putNumber 72 = .ok (.aload_n 0, 1) := by decide +kernel
theorem dX4_putNumber_73 : decode cX4_putNumber 73 = .ok (.getfield 38, 3) := by decide +kernel
theorem dX4_putNumber_76 : decode cX4_putNumber 76 = .ok (.iload 6, 2) := by decide +kernel
theorem dX4_putNumber_78 : decode cX4_putNumber 78 = .ok (.iaload, 1) := by decide +kernel
theorem dX4_putNumber_79 : decode cX4_putNumber 79 = .ok (.iadd, 1) := by decide +kernel
theorem dX4_putNumber_80 : decode cX4_putNumber 80 = .ok (.invokevirtual 169, 3) := by decide +kernel
theorem dX4_putNumber_83 : decode cX4_putNumber 83 = .ok (.iload 6, 2) := by decide +kernel
theorem dX4_putNumber_85 : decode cX4_putNumber 85 = .ok (.iload_n 1, 1) := by decide +kernel
theorem dX4_putNumber_86 : decode cX4_putNumber 86 = .ok (.isub, 1) := by decide +kernel
theorem dX4_putNumber_87 : decode cX4_putNumber 87 = .ok (.istore 7, 2) := by decide +kernel
theorem dX4_putNumber_89 : decode cX4_putNumber 89 = .ok (.iload 7, 2) := by decide +kernel
theorem dX4_putNumber_91 : decode cX4_putNumber 91 = .ok (.ifCond .le 23, 3) := by decide +kernel
theorem dX4_putNumber_94 : decode cX4_putNumber 94 = .ok (.iload 7, 2) := by decide +kernel
theorem dX4_putNumber_96 : decode cX4_putNumber 96 = .ok (.iconst 3, 1) := by decide +kernel
theorem dX4_putNumber_97 : decode cX4_putNumber 97 = .ok (.irem, 1) := by decide +kernel
theorem dX4_putNumber_98 : decode cX4_putNumber 98 = .ok (.ifCond .ne 16, 3) := by decide +kernel
theorem dX4_putNumber_101 : decode cX4_putNumber 101 = .ok (.iload_n 2, 1) := by decide +kernel
theorem dX4_putNumber_102 : decode cX4_putNumber 102 = .ok (.iconst 2, 1) := by decide +kernel
theorem dX4_putNumber_103 : decode cX4_putNumber 103 = .ok (.irem, 1) := by decide +kernel
theorem dX4_putNumber_104 : decode cX4_putNumber 104 = .ok (.iconst 1, 1) := by decide +kernel
theorem dX4_putNumber_105 : decode cX4_putNumber 105 = .ok (.if_icmp .ne 9, 3) := by decide +kernel
theorem dX4_putNumber_108 : decode cX4_putNumber 108 = .ok (.aload_n 0, 1) := by decide +kernel
theorem dX4_putNumber_109 : decode cX4_putNumber 109 = .ok (.bipush 44, 2) := by decide +kernel
theorem dX4_putNumber_111 : decode cX4_putNumber 111 = .ok (.invokevirtual 169, 3) := by decide +kernel
theorem dX4_putNumber_114 : decode cX4_putNumber 114 = .ok (.iload 7, 2) := by decide +kernel
theorem dX4_putNumber_116 : decode cX4_putNumber 116 = .ok (.ifCond .ne 13, 3) := by decide +kernel
theorem dX4_putNumber_119 : decode cX4_putNumber 119 = .ok (.iload_n 1, 1) := by decide +kernel
theorem dX4_putNumber_120 : decode cX4_putNumber 120 = .ok (.ifCond .le 9, 3) := by decide +kernel
theorem dX4_putNumber_123 : decode cX4_putNumber 123 = .ok (.aload_n 0, 1) := by decide +kernel
theorem dX4_putNumber_124 : decode cX4_putNumber 124 = .ok (.bipush 46, 2) := by decide +kernel
theorem dX4_putNumber_126 : decode cX4_putNumber 126 = .ok (.invokevirtual 169, 3) := by decide +kernel
theorem dX4_putNumber_129 : decode cX4_putNumber 129 = .ok (.iinc 6 (-1), 3) := by decide +kernel
theorem dX4_putNumber_132 : decode cX4_putNumber 132 = .ok (.goto (-68), 3) := by decide +kernel
theorem dX4_putNumber_135 : decode cX4_putNumber 135 = .ok (.iload_n 3, 1) := by decide +kernel
theorem dX4_putNumber_136 : decode cX4_putNumber 136 = .ok (.ifCond .eq 14, 3) := by decide +kernel
theorem dX4_putNumber_139 : decode cX4_putNumber 139 = .ok (.iload 4, 2) := by decide +kernel
theorem dX4_putNumber_141 : decode cX4_putNumber 141 = .ok (.ifCond .eq 9, 3) := by decide +kernel
theorem dX4_putNumber_144 : decode cX4_putNumber 144 = .ok (.aload_n 0, 1) := by decide +kernel
theorem dX4_putNumber_145 : decode cX4_putNumber 145 = .ok (.bipush 41, 2) := by decide +kernel
theorem dX4_putNumber_147 : decode cX4_putNumber 147 = .ok (.invokevirtual 169, 3) := by decide +kernel
theorem dX4_putNumber_150 : decode cX4_putNumber 150 = .ok (.return_, 1) := by decide +kernel
theorem dX4_type_0 : decode cX4_type 0 = .ok (.iload_n 1, 1) := by decide +kernel
theorem dX4_type_1 : decode cX4_type 1 = .ok (.bipush 32, 2) := by decide +kernel
theorem dX4_type_3 : decode cX4_type 3 = .ok (.if_icmp .lt 18, 3) := by decide +kernel
theorem dX4_type_6 : decode cX4_type 6 = .ok (.iload_n 1, 1) := by decide +kernel
theorem dX4_type_7 : decode cX4_type 7 = .ok (.bipush 126, 2) := by decide +kernel
theorem dX4_type_9 : decode cX4_type 9 = .ok (.if_icmp .gt 12, 3) := by decide +kernel
theorem dX4_type_12 : decode cX4_type 12 = .ok (.aload_n 0, 1) := by decide +kernel
theorem dX4_type_13 : decode cX4_type 13 = .ok (.getfield 166, 3) := by decide +kernel
theorem dX4_type_16 : decode cX4_type 16 = .ok (.bipush 48, 2) := by decide +kernel
theorem dX4_type_18 : decode cX4_type 18 = .ok (.if_icmp .ne 6, 3) := by decide +kernel
theorem dX4_type_21 : decode cX4_type 21 = .ok (.bipush (-15), 2) := by decide +kernel
theorem dX4_type_23 : decode cX4_type 23 = .ok (.ireturn, 1) := by decide +kernel
theorem dX4_type_24 : decode cX4_type 24 = .ok (.aload_n 0, 1) := by decide +kernel
theorem dX4_type_25 : decode cX4_type 25 = .ok (.iload_n 1, 1) := by decide +kernel
theorem dX4_type_26 : decode cX4_type 26 = .ok (.invokevirtual 169, 3) := by decide +kernel
theorem dX4_type_29 : decode cX4_type 29 = .ok (.aload_n 0, 1) := by decide +kernel
theorem dX4_type_30 : decode cX4_type 30 = .ok (.getfield 166, 3) := by decide +kernel
theorem dX4_type_33 : decode cX4_type 33 = .ok (.ireturn, 1) := by decide +kernel
theorem dX4_wipe_0 : decode cX4_wipe 0 = .ok (.aload_n 0, 1) := by decide +kernel
theorem dX4_wipe_1 : decode cX4_wipe 1 = .ok (.iconst 0, 1) := by decide +kernel
theorem dX4_wipe_2 : decode cX4_wipe 2 = .ok (.putfield 166, 3) := by decide +kernel
theorem dX4_wipe_5 : decode cX4_wipe 5 = .ok (.return_, 1) := by decide +kernel
theorem dX4_letter_0 : decode cX4_letter 0 = .ok (.iload_n 1, 1) := by decide +kernel
theorem dX4_letter_1 : decode cX4_letter 1 = .ok (.ifCond .lt 11, 3) := by decide +kernel
theorem dX4_letter_4 : decode cX4_letter 4 = .ok (.iload_n 1, 1) := by decide +kernel
theorem dX4_letter_5 : decode cX4_letter 5 = .ok (.aload_n 0, 1) := by decide +kernel
theorem dX4_letter_6 : decode cX4_letter 6 = .ok (.getfield 166, 3) := by decide +kernel
theorem dX4_letter_9 : decode cX4_letter 9 = .ok (.if_icmp .lt 8, 3) := by decide +kernel
theorem dX4_letter_12 : decode cX4_letter 12 = .ok (.bipush (-15), 2) := by decide +kernel
theorem dX4_letter_14 : decode cX4_letter 14 = .ok (.goto 9, 3) := by decide +kernel
theorem dX4_letter_17 : decode cX4_letter 17 = .ok (.aload_n 0, 1) := by decide +kernel
theorem dX4_letter_18 : decode cX4_letter 18 = .ok (.getfield 26, 3) := by decide +kernel
theorem dX4_letter_21 : decode cX4_letter 21 = .ok (.iload_n 1, 1) := by decide +kernel
theorem dX4_letter_22 : decode cX4_letter 22 = .ok (.iaload, 1) := by decide +kernel
theorem dX4_letter_23 : decode cX4_letter 23 = .ok (.ireturn, 1) := by decide +kernel
theorem dX4_parse_0 : decode cX4_parse 0 = .ok (.iload_n 1, 1) := by decide +kernel
theorem dX4_parse_1 : decode cX4_parse 1 = .ok (.bipush 8, 2) := by decide +kernel
theorem dX4_parse_3 : decode cX4_parse 3 = .ok (.invokestatic 123, 3) := by decide +kernel
theorem dX4_parse_6 : decode cX4_parse 6 = .ok (.ifCond .ne 12, 3) := by decide +kernel
theorem dX4_parse_9 : decode cX4_parse 9 = .ok (.iload_n 3, 1) := by decide +kernel
theorem dX4_parse_10 : decode cX4_parse 10 = .ok (.bipush 8, 2) := by decide +kernel
theorem dX4_parse_12 : decode cX4_parse 12 = .ok (.invokestatic 123, 3) := by decide +kernel
theorem dX4_parse_15 : decode cX4_parse 15 = .ok (.ifCond .eq 6, 3) := by decide +kernel
theorem dX4_parse_18 : decode cX4_parse 18 = .ok (.bipush (-15), 2) := by decide +kernel
theorem dX4_parse_20 : decode cX4_parse 20 = .ok (.ireturn, 1) := by decide +kernel
theorem dX4_parse_21 : decode cX4_parse 21 = .ok (.aload_n 0, 1) := by decide +kernel
theorem dX4_parse_22 : decode cX4_parse 22 = .ok (.iconst 0, 1) := by decide +kernel
theorem dX4_parse_23 : decode cX4_parse 23 = .ok (.putfield 183, 3) := by decide +kernel
theorem dX4_parse_26 : decode cX4_parse 26 = .ok (.aload_n 0, 1) := by decide +kernel
theorem dX4_parse_27 : decode cX4_parse 27 = .ok (.iconst (-1), 1) := by decide +kernel
theorem dX4_parse_28 : decode cX4_parse 28 = .ok (.putfield 180, 3) := by decide +kernel
theorem dX4_parse_31 : decode cX4_parse 31 = .ok (.aload_n 0, 1) := by decide +kernel
theorem dX4_parse_32 : decode cX4_parse 32 = .ok (.iconst 0, 1) := by decide +kernel
theorem dX4_parse_33 : decode cX4_parse 33 = .ok (.putfield 197, 3) := by decide +kernel
theorem dX4_parse_36 : decode cX4_parse 36 = .ok (.aload_n 0, 1) := by decide +kernel
theorem dX4_parse_37 : decode cX4_parse 37 = .ok (.iconst 0, 1) := by decide +kernel
theorem dX4_parse_38 : decode cX4_parse 38 = .ok (.putfield 212, 3) := by decide +kernel
theorem dX4_parse_41 : decode cX4_parse 41 = .ok (.iload_n 3, 1) := by decide +kernel
theorem dX4_parse_42 : decode cX4_parse 42 = .ok (.iconst 4, 1) := by decide +kernel
theorem dX4_parse_43 : decode cX4_parse 43 = .ok (.irem, 1) := by decide +kernel
theorem dX4_parse_44 : decode cX4_parse 44 = .ok (.iconst 2, 1) := by decide +kernel
theorem dX4_parse_45 : decode cX4_parse 45 = .ok (.if_icmp .lt 21, 3) := by decide +kernel
theorem dX4_parse_48 : decode cX4_parse 48 = .ok (.aload_n 0, 1) := by decide +kernel
theorem dX4_parse_49 : decode cX4_parse 49 = .ok (.iload_n 3, 1) := by decide +kernel
theorem dX4_parse_50 : decode cX4_parse 50 = .ok (.invokevirtual 223, 3) := by decide +kernel
theorem dX4_parse_53 : decode cX4_parse 53 = .ok (.aload_n 0, 1) := by decide +kernel
theorem dX4_parse_54 : decode cX4_parse 54 = .ok (.bipush 32, 2) := by decide +kernel
theorem dX4_parse_56 : decode cX4_parse 56 = .ok (.invokevirtual 206, 3) := by decide +kernel
theorem dX4_parse_59 : decode cX4_parse 59 = .ok (.aload_n 0, 1) := by decide +kernel
theorem dX4_parse_60 : decode cX4_parse 60 = .ok (.invokevirtual 226, 3) := by decide +kernel
theorem dX4_parse_63 : decode cX4_parse 63 = .ok (.goto 18, 3) := by decide +kernel
theorem dX4_parse_66 : decode cX4_parse 66 = .ok (.aload_n 0, 1) := by decide +kernel
theorem dX4_parse_67 : decode cX4_parse 67 = .ok (.invokevirtual 226, 3) := by decide +kernel
theorem dX4_parse_70 : decode cX4_parse 70 = .ok (.aload_n 0, 1) := by decide +kernel
theorem dX4_parse_71 : decode cX4_parse 71 = .ok (.bipush 32, 2) := by decide +kernel
theorem dX4_parse_73 : decode cX4_parse 73 = .ok (.invokevirtual 206, 3) := by decide +kernel
theorem dX4_parse_76 : decode cX4_parse 76 = .ok (.aload_n 0, 1) := by decide +kernel
theorem dX4_parse_77 : decode cX4_parse 77 = .ok (.iload_n 3, 1) := by decide +kernel
theorem dX4_parse_78 : decode cX4_parse 78 = .ok (.invokevirtual 223, 3) := by decide +kernel
theorem dX4_parse_81 : decode cX4_parse 81 = .ok (.aload_n 0, 1) := by decide +kernel
theorem dX4_parse_82 : decode cX4_parse 82 = .ok (.getfield 183, 3) := by decide +kernel
theorem dX4_parse_85 : decode cX4_parse 85 = .ok (.aload_n 0, 1) := by decide +kernel
theorem dX4_parse_86 : decode cX4_parse 86 = .ok (.getfield 166, 3) := by decide +kernel
theorem dX4_parse_89 : decode cX4_parse 89 = .ok (.if_icmp .ge 7, 3) := by decide +kernel
theorem dX4_parse_92 : decode cX4_parse 92 = .ok (.aload_n 0, 1) := by decide +kernel
theorem dX4_parse_93 : decode cX4_parse 93 = .ok (.invokevirtual 190, 3) := by decide +kernel
theorem dX4_parse_96 : decode cX4_parse 96 = .ok (.aload_n 0, 1) := by decide +kernel
theorem dX4_parse_97 : decode cX4_parse 97 = .ok (.getfield 180, 3) := by decide +kernel
theorem dX4_parse_100 : decode cX4_parse 100 = .ok (.ifCond .lt 11, 3) := by decide +kernel
theorem dX4_parse_103 : decode cX4_parse 103 = .ok (.bipush (-100), 2) := by decide +kernel
theorem dX4_parse_105 : decode cX4_parse 105 = .ok (.aload_n 0, 1) := by decide +kernel
theorem dX4_parse_106 : decode cX4_parse 106 = .ok (.getfield 180, 3) := by decide +kernel
theorem dX4_parse_109 : decode cX4_parse 109 = .ok (.isub, 1) := by decide +kernel
theorem dX4_parse_110 : decode cX4_parse 110 = .ok (.ireturn, 1) := by decide +kernel
theorem dX4_parse_111 : decode cX4_parse 111 = .ok (.aload_n 0, 1) := by decide +kernel
theorem dX4_parse_112 : decode cX4_parse 112 = .ok (.getfield 29, 3) := by decide +kernel
theorem dX4_parse_115 : decode cX4_parse 115 = .ok (.invokestatic 72, 3) := by decide +kernel
theorem dX4_parse_118 : decode cX4_parse 118 = .ok (.iconst 0, 1) := by decide +kernel
theorem dX4_parse_119 : decode cX4_parse 119 = .ok (.istore 4, 2) := by decide +kernel
theorem dX4_parse_121 : decode cX4_parse 121 = .ok (.iload 4, 2) := by decide +kernel
theorem dX4_parse_123 : decode cX4_parse 123 = .ok (.aload_n 0, 1) := by decide +kernel
theorem dX4_parse_124 : decode cX4_parse 124 = .ok (.getfield 197, 3) := by decide +kernel
theorem dX4_parse_127 : decode cX4_parse 127 = .ok (.if_icmp .ge 30, 3) := by decide +kernel
theorem dX4_parse_130 : decode cX4_parse 130 = .ok (.aload_n 0, 1) := by decide +kernel
theorem dX4_parse_131 : decode cX4_parse 131 = .ok (.getfield 29, 3) := by decide +kernel
theorem dX4_parse_134 : decode cX4_parse 134 = .ok (.aload_n 0, 1) := by decide +kernel
theorem dX4_parse_135 : decode cX4_parse 135 = .ok (.getfield 197, 3) := by decide +kernel
theorem dX4_parse_138 : decode cX4_parse 138 = .ok (.iconst 1, 1) := by decide +kernel
theorem dX4_parse_139 : decode cX4_parse 139 = .ok (.isub, 1) := by decide +kernel
theorem dX4_parse_140 : decode cX4_parse 140 = .ok (.iload 4, 2) := by decide +kernel
theorem dX4_parse_142 : decode cX4_parse 142 = .ok (.isub, 1) := by decide +kernel
theorem dX4_parse_143 : decode cX4_parse 143 = .ok (.aload_n 0, 1) := by decide +kernel
theorem dX4_parse_144 : decode cX4_parse 144 = .ok (.getfield 59, 3) := by decide +kernel
theorem dX4_parse_147 : decode cX4_parse 147 = .ok (.iload 4, 2) := by decide +kernel
theorem dX4_parse_149 : decode cX4_parse 149 = .ok (.iaload, 1) := by decide +kernel
theorem dX4_parse_150 : decode cX4_parse 150 = .ok (.iastore, 1) := by decide +kernel
theorem dX4_parse_151 : decode cX4_parse 151 = .ok (.iinc 4 1, 3) := by decide +kernel
theorem dX4_parse_154 : decode cX4_parse 154 = .ok (.goto (-33), 3) := by decide +kernel
theorem dX4_parse_157 : decode cX4_parse 157 = .ok (.aload_n 0, 1) := by decide +kernel
theorem dX4_parse_158 : decode cX4_parse 158 = .ok (.getfield 29, 3) := by decide +kernel
theorem dX4_parse_161 : decode cX4_parse 161 = .ok (.bipush 10, 2) := by decide +kernel
theorem dX4_parse_163 : decode cX4_parse 163 = .ok (.aload_n 0, 1) := by decide +kernel
theorem dX4_parse_164 : decode cX4_parse 164 = .ok (.getfield 212, 3) := by decide +kernel
theorem dX4_parse_167 : decode cX4_parse 167 = .ok (.isub, 1) := by decide +kernel
theorem dX4_parse_168 : decode cX4_parse 168 = .ok (.invokestatic 82, 3) := by decide +kernel
theorem dX4_parse_171 : decode cX4_parse 171 = .ok (.aload_n 0, 1) := by decide +kernel
theorem dX4_parse_172 : decode cX4_parse 172 = .ok (.getfield 32, 3) := by decide +kernel
theorem dX4_parse_175 : decode cX4_parse 175 = .ok (.lconst 1, 1) := by decide +kernel
theorem dX4_parse_176 : decode cX4_parse 176 = .ok (.invokestatic 100, 3) := by decide +kernel
theorem dX4_parse_179 : decode cX4_parse 179 = .ok (.aload_n 0, 1) := by decide +kernel
theorem dX4_parse_180 : decode cX4_parse 180 = .ok (.iload_n 1, 1) := by decide +kernel
theorem dX4_parse_181 : decode cX4_parse 181 = .ok (.aload_n 0, 1) := by decide +kernel
theorem dX4_parse_182 : decode cX4_parse 182 = .ok (.getfield 203, 3) := by decide +kernel
theorem dX4_parse_185 : decode cX4_parse 185 = .ok (.iload_n 2, 1) := by decide +kernel
theorem dX4_parse_186 : decode cX4_parse 186 = .ok (.aload_n 0, 1) := by decide +kernel
theorem dX4_parse_187 : decode cX4_parse 187 = .ok (.getfield 215, 3) := by decide +kernel
theorem dX4_parse_190 : decode cX4_parse 190 = .ok (.invokevirtual 127, 3) := by decide +kernel
theorem dX4_parse_193 : decode cX4_parse 193 = .ok (.ireturn, 1) := by decide +kernel
theorem dX4_readNumber_0 : decode cX4_readNumber 0 = .ok (.aload_n 0, 1) := by decide +kernel
theorem dX4_readNumber_1 : decode cX4_readNumber 1 = .ok (.iload_n 1, 1) := by decide +kernel
theorem dX4_readNumber_2 : decode cX4_readNumber 2 = .ok (.iconst 4, 1) := by decide +kernel
theorem dX4_readNumber_3 : decode cX4_readNumber 3 = .ok (.if_icmp .lt 8, 3) := by decide +kernel
theorem dX4_readNumber_6 : decode cX4_readNumber 6 = .ok (.bipush 40, 2) := by decide +kernel
theorem dX4_readNumber_8 : decode cX4_readNumber 8 = .ok (.goto 5, 3) := by decide +kernel
theorem dX4_readNumber_11 : decode cX4_readNumber 11 = .ok (.bipush 45, 2) := by decide +kernel
theorem dX4_readNumber_13 : decode cX4_readNumber 13 = .ok (.invokevirtual 186, 3) := by decide +kernel
theorem dX4_readNumber_16 : decode cX4_readNumber 16 = .ok (.istore_n 2, 1) := by decide +kernel
theorem dX4_readNumber_17 : decode cX4_readNumber 17 = .ok (.aload_n 0, 1) := by decide +kernel
theorem dX4_readNumber_18 : decode cX4_readNumber 18 = .ok (.iload_n 2, 1) := by decide +kernel
theorem dX4_readNumber_19 : decode cX4_readNumber 19 = .ok (.ifCond .eq 12, 3) := by decide +kernel
theorem dX4_readNumber_22 : decode cX4_readNumber 22 = .ok (.aload_n 0, 1) := by decide +kernel
theorem dX4_readNumber_23 : decode cX4_readNumber 23 = .ok (.getfield 183, 3) := by decide +kernel
theorem dX4_readNumber_26 : decode cX4_readNumber 26 = .ok (.iconst 1, 1) := by decide +kernel
theorem dX4_readNumber_27 : decode cX4_readNumber 27 = .ok (.iadd, 1) := by decide +kernel
theorem dX4_readNumber_28 : decode cX4_readNumber 28 = .ok (.goto 7, 3) := by decide +kernel
theorem dX4_readNumber_31 : decode cX4_readNumber 31 = .ok (.aload_n 0, 1) := by decide +kernel
theorem dX4_readNumber_32 : decode cX4_readNumber 32 = .ok (.getfield 183, 3) := by decide +kernel
theorem dX4_readNumber_35 : decode cX4_readNumber 35 = .ok (.putfield 183, 3) := by decide +kernel
theorem dX4_readNumber_38 : decode cX4_readNumber 38 = .ok (.aload_n 0, 1) := by decide +kernel
theorem dX4_readNumber_39 : decode cX4_readNumber 39 = .ok (.iload_n 2, 1) := by decide +kernel
theorem dX4_readNumber_40 : decode cX4_readNumber 40 = .ok (.putfield 215, 3) := by decide +kernel
theorem dX4_readNumber_43 : decode cX4_readNumber 43 = .ok (.aload_n 0, 1) := by decide +kernel
theorem dX4_readNumber_44 : decode cX4_readNumber 44 = .ok (.iload_n 1, 1) := by decide +kernel
theorem dX4_readNumber_45 : decode cX4_readNumber 45 = .ok (.iconst 2, 1) := by decide +kernel
theorem dX4_readNumber_46 : decode cX4_readNumber 46 = .ok (.irem, 1) := by decide +kernel
theorem dX4_readNumber_47 : decode cX4_readNumber 47 = .ok (.iconst 1, 1) := by decide +kernel
theorem dX4_readNumber_48 : decode cX4_readNumber 48 = .ok (.if_icmp .ne 7, 3) := by decide +kernel
theorem dX4_readNumber_51 : decode cX4_readNumber 51 = .ok (.iconst 1, 1) := by decide +kernel
theorem dX4_readNumber_52 : decode cX4_readNumber 52 = .ok (.goto 4, 3) := by decide +kernel
theorem dX4_readNumber_55 : decode cX4_readNumber 55 = .ok (.iconst 0, 1) := by decide +kernel
theorem dX4_readNumber_56 : decode cX4_readNumber 56 = .ok (.invokevirtual 219, 3) := by decide +kernel
theorem dX4_readNumber_59 : decode cX4_readNumber 59 = .ok (.iload_n 2, 1) := by decide +kernel
theorem dX4_readNumber_60 : decode cX4_readNumber 60 = .ok (.ifCond .eq 14, 3) := by decide +kernel
theorem dX4_readNumber_63 : decode cX4_readNumber 63 = .ok (.iload_n 1, 1) := by decide +kernel
theorem dX4_readNumber_64 : decode cX4_readNumber 64 = .ok (.iconst 4, 1) := by decide +kernel
theorem dX4_readNumber_65 : decode cX4_readNumber 65 = .ok (.if_icmp .lt 9, 3) := by decide +kernel
theorem dX4_readNumber_68 : decode cX4_readNumber 68 = .ok (.aload_n 0, 1) := by decide +kernel
theorem dX4_readNumber_69 : decode cX4_readNumber 69 = .ok (.bipush 41, 2) := by decide +kernel
theorem dX4_readNumber_71 : decode cX4_readNumber 71 = .ok (.invokevirtual 206, 3) := by decide +kernel
theorem dX4_readNumber_74 : decode cX4_readNumber 74 = .ok (.return_, 1) := by decide +kernel
theorem dX4_sees_0 : decode cX4_sees 0 = .ok (.aload_n 0, 1) := by decide +kernel
theorem dX4_sees_1 : decode cX4_sees 1 = .ok (.getfield 180, 3) := by decide +kernel
theorem dX4_sees_4 : decode cX4_sees 4 = .ok (.ifCond .ge 31, 3) := by decide +kernel
theorem dX4_sees_7 : decode cX4_sees 7 = .ok (.aload_n 0, 1) := by decide +kernel
theorem dX4_sees_8 : decode cX4_sees 8 = .ok (.getfield 183, 3) := by decide +kernel
theorem dX4_sees_11 : decode cX4_sees 11 = .ok (.aload_n 0, 1) := by decide +kernel
theorem dX4_sees_12 : decode cX4_sees 12 = .ok (.getfield 166, 3) := by decide +kernel
theorem dX4_sees_15 : decode cX4_sees 15 = .ok (.if_icmp .ge 20, 3) := by decide +kernel
theorem dX4_sees_18 : decode cX4_sees 18 = .ok (.aload_n 0, 1) := by decide +kernel
theorem dX4_sees_19 : decode cX4_sees 19 = .ok (.getfield 26, 3) := by decide +kernel
theorem dX4_sees_22 : decode cX4_sees 22 = .ok (.aload_n 0, 1) := by decide +kernel
theorem dX4_sees_23 : decode cX4_sees 23 = .ok (.getfield 183, 3) := by decide +kernel
theorem dX4_sees_26 : decode cX4_sees 26 = .ok (.iaload, 1) := by decide +kernel
theorem dX4_sees_27 : decode cX4_sees 27 = .ok (.iload_n 1, 1) := by decide +kernel
theorem dX4_sees_28 : decode cX4_sees 28 = .ok (.if_icmp .ne 7, 3) := by decide +kernel
theorem dX4_sees_31 : decode cX4_sees 31 = .ok (.iconst 1, 1) := by decide +kernel
theorem dX4_sees_32 : decode cX4_sees 32 = .ok (.goto 4, 3) := by decide +kernel
theorem dX4_sees_35 : decode cX4_sees 35 = .ok (.iconst 0, 1) := by decide +kernel
theorem dX4_sees_36 : decode cX4_sees 36 = .ok (.ireturn, 1) := by decide +kernel
theorem dX4_readBody_0 : decode cX4_readBody 0 = .ok (.aload_n 0, 1) := by decide +kernel
theorem dX4_readBody_1 : decode cX4_readBody 1 = .ok (.iconst 1, 1) := by decide +kernel
theorem dX4_readBody_2 : decode cX4_readBody 2 = .ok (.iload_n 1, 1) := by decide +kernel
theorem dX4_readBody_3 : decode cX4_readBody 3 = .ok (.ifCond .eq 7, 3) := by decide +kernel
theorem dX4_readBody_6 : decode cX4_readBody 6 = .ok (.iconst 3, 1) := by decide +kernel
theorem dX4_readBody_7 : decode cX4_readBody 7 = .ok (.goto 5, 3) := by decide +kernel
theorem dX4_readBody_10 : decode cX4_readBody 10 = .ok (.bipush 48, 2) := by decide +kernel
theorem dX4_readBody_12 : decode cX4_readBody 12 = .ok (.invokevirtual 209, 3) := by decide +kernel
theorem dX4_readBody_15 : decode cX4_readBody 15 = .ok (.iload_n 1, 1) := by decide +kernel
theorem dX4_readBody_16 : decode cX4_readBody 16 = .ok (.ifCond .eq 31, 3) := by decide +kernel
theorem dX4_readBody_19 : decode cX4_readBody 19 = .ok (.aload_n 0, 1) := by decide +kernel
theorem dX4_readBody_20 : decode cX4_readBody 20 = .ok (.bipush 44, 2) := by decide +kernel
theorem dX4_readBody_22 : decode cX4_readBody 22 = .ok (.invokevirtual 186, 3) := by decide +kernel
theorem dX4_readBody_25 : decode cX4_readBody 25 = .ok (.ifCond .eq 22, 3) := by decide +kernel
theorem dX4_readBody_28 : decode cX4_readBody 28 = .ok (.aload_n 0, 1) := by decide +kernel
theorem dX4_readBody_29 : decode cX4_readBody 29 = .ok (.dup, 1) := by decide +kernel
theorem dX4_readBody_30 : decode cX4_readBody 30 = .ok (.getfield 183, 3) := by decide +kernel
theorem dX4_readBody_33 : decode cX4_readBody 33 = .ok (.iconst 1, 1) := by decide +kernel
theorem dX4_readBody_34 : decode cX4_readBody 34 = .ok (.iadd, 1) := by decide +kernel
theorem dX4_readBody_35 : decode cX4_readBody 35 = .ok (.putfield 183, 3) := by decide +kernel
theorem dX4_readBody_38 : decode cX4_readBody 38 = .ok (.aload_n 0, 1) := by decide +kernel
theorem dX4_readBody_39 : decode cX4_readBody 39 = .ok (.iconst 3, 1) := by decide +kernel
theorem dX4_readBody_40 : decode cX4_readBody 40 = .ok (.iconst 3, 1) := by decide +kernel
theorem dX4_readBody_41 : decode cX4_readBody 41 = .ok (.invokevirtual 209, 3) := by decide +kernel
theorem dX4_readBody_44 : decode cX4_readBody 44 = .ok (.goto (-29), 3) := by decide +kernel
theorem dX4_readBody_47 : decode cX4_readBody 47 = .ok (.aload_n 0, 1) := by decide +kernel
theorem dX4_readBody_48 : decode cX4_readBody 48 = .ok (.bipush 46, 2) := by decide +kernel
theorem dX4_readBody_50 : decode cX4_readBody 50 = .ok (.invokevirtual 186, 3) := by decide +kernel
theorem dX4_readBody_53 : decode cX4_readBody 53 = .ok (.ifCond .eq 35, 3) := by decide +kernel
theorem dX4_readBody_56 : decode cX4_readBody 56 = .ok (.aload_n 0, 1) := by decide +kernel
theorem dX4_readBody_57 : decode cX4_readBody 57 = .ok (.dup, 1) := by decide +kernel
theorem dX4_readBody_58 : decode cX4_readBody 58 = .ok (.getfield 183, 3) := by decide +kernel
theorem dX4_readBody_61 : decode cX4_readBody 61 = .ok (.iconst 1, 1) := by decide +kernel
theorem dX4_readBody_62 : decode cX4_readBody 62 = .ok (.iadd, 1) := by decide +kernel
theorem dX4_readBody_63 : decode cX4_readBody 63 = .ok (.putfield 183, 3) := by decide +kernel
theorem dX4_readBody_66 : decode cX4_readBody 66 = .ok (.aload_n 0, 1) := by decide +kernel
theorem dX4_readBody_67 : decode cX4_readBody 67 = .ok (.getfield 197, 3) := by decide +kernel
theorem dX4_readBody_70 : decode cX4_readBody 70 = .ok (.istore_n 2, 1) := by decide +kernel
theorem dX4_readBody_71 : decode cX4_readBody 71 = .ok (.aload_n 0, 1) := by decide +kernel
theorem dX4_readBody_72 : decode cX4_readBody 72 = .ok (.iconst 1, 1) := by decide +kernel
theorem dX4_readBody_73 : decode cX4_readBody 73 = .ok (.bipush 10, 2) := by decide +kernel
theorem dX4_readBody_75 : decode cX4_readBody 75 = .ok (.invokevirtual 209, 3) := by decide +kernel
theorem dX4_readBody_78 : decode cX4_readBody 78 = .ok (.aload_n 0, 1) := by decide +kernel
theorem dX4_readBody_79 : decode cX4_readBody 79 = .ok (.aload_n 0, 1) := by decide +kernel
theorem dX4_readBody_80 : decode cX4_readBody 80 = .ok (.getfield 197, 3) := by decide +kernel
theorem dX4_readBody_83 : decode cX4_readBody 83 = .ok (.iload_n 2, 1) := by decide +kernel
theorem dX4_readBody_84 : decode cX4_readBody 84 = .ok (.isub, 1) := by decide +kernel
theorem dX4_readBody_85 : decode cX4_readBody 85 = .ok (.putfield 212, 3) := by decide +kernel
theorem dX4_readBody_88 : decode cX4_readBody 88 = .ok (.return_, 1) := by decide +kernel
theorem dX4_need_0 : decode cX4_need 0 = .ok (.aload_n 0, 1) := by decide +kernel
theorem dX4_need_1 : decode cX4_need 1 = .ok (.iload_n 2, 1) := by decide +kernel
theorem dX4_need_2 : decode cX4_need 2 = .ok (.invokevirtual 200, 3) := by decide +kernel
theorem dX4_need_5 : decode cX4_need 5 = .ok (.iload_n 1, 1) := by decide +kernel
theorem dX4_need_6 : decode cX4_need 6 = .ok (.if_icmp .ge 7, 3) := by decide +kernel
theorem dX4_need_9 : decode cX4_need 9 = .ok (.aload_n 0, 1) := by decide +kernel
theorem dX4_need_10 : decode cX4_need 10 = .ok (.invokevirtual 190, 3) := by decide +kernel
theorem dX4_need_13 : decode cX4_need 13 = .ok (.return_, 1) := by decide +kernel
theorem dX4_digitsUpTo_0 : decode cX4_digitsUpTo 0 = .ok (.iconst 0, 1) := by decide +kernel
theorem dX4_digitsUpTo_1 : decode cX4_digitsUpTo 1 = .ok (.istore_n 2, 1) := by decide +kernel
theorem dX4_digitsUpTo_2 : decode cX4_digitsUpTo 2 = .ok (.iload_n 2, 1) := by decide +kernel
theorem dX4_digitsUpTo_3 : decode cX4_digitsUpTo 3 = .ok (.iload_n 1, 1) := by decide +kernel
theorem dX4_digitsUpTo_4 : decode cX4_digitsUpTo 4 = .ok (.if_icmp .ge 57, 3) := by decide +kernel
theorem dX4_digitsUpTo_7 : decode cX4_digitsUpTo 7 = .ok (.aload_n 0, 1) := by decide +kernel
theorem dX4_digitsUpTo_8 : decode cX4_digitsUpTo 8 = .ok (.invokevirtual 193, 3) := by decide +kernel
theorem dX4_digitsUpTo_11 : decode cX4_digitsUpTo 11 = .ok (.ifCond .eq 50, 3) := by decide +kernel
theorem dX4_digitsUpTo_14 : decode cX4_digitsUpTo 14 = .ok (.aload_n 0, 1) := by decide +kernel
theorem dX4_digitsUpTo_15 : decode cX4_digitsUpTo 15 = .ok (.getfield 59, 3) := by decide +kernel
theorem dX4_digitsUpTo_18 : decode cX4_digitsUpTo 18 = .ok (.aload_n 0, 1) := by decide +kernel
theorem dX4_digitsUpTo_19 : decode cX4_digitsUpTo 19 = .ok (.getfield 197, 3) := by decide +kernel
theorem dX4_digitsUpTo_22 : decode cX4_digitsUpTo 22 = .ok (.aload_n 0, 1) := by decide +kernel
theorem dX4_digitsUpTo_23 : decode cX4_digitsUpTo 23 = .ok (.getfield 26, 3) := by decide +kernel
theorem dX4_digitsUpTo_26 : decode cX4_digitsUpTo 26 = .ok (.aload_n 0, 1) := by decide +kernel
theorem dX4_digitsUpTo_27 : decode cX4_digitsUpTo 27 = .ok (.getfield 183, 3) := by decide +kernel
theorem dX4_digitsUpTo_30 : decode cX4_digitsUpTo 30 = .ok (.iaload, 1) := by decide +kernel
theorem dX4_digitsUpTo_31 : decode cX4_digitsUpTo 31 = .ok (.bipush 48, 2) := by decide +kernel
theorem dX4_digitsUpTo_33 : decode cX4_digitsUpTo 33 = .ok (.isub, 1) := by decide +kernel
theorem dX4_digitsUpTo_34 : decode cX4_digitsUpTo 34 = .ok (.iastore, 1) := by decide +kernel
theorem dX4_digitsUpTo_35 : decode cX4_digitsUpTo 35 = .ok (.aload_n 0, 1) := by decide +kernel
theorem dX4_digitsUpTo_36 : decode cX4_digitsUpTo 36 = .ok (.dup, 1) := by decide +kernel
theorem dX4_digitsUpTo_37 : decode cX4_digitsUpTo 37 = .ok (.getfield 197, 3) := by decide +kernel
theorem dX4_digitsUpTo_40 : decode cX4_digitsUpTo 40 = .ok (.iconst 1, 1) := by decide +kernel
theorem dX4_digitsUpTo_41 : decode cX4_digitsUpTo 41 = .ok (.iadd, 1) := by decide +kernel
theorem dX4_digitsUpTo_42 : decode cX4_digitsUpTo 42 = .ok (.putfield 197, 3) := by decide +kernel
theorem dX4_digitsUpTo_45 : decode cX4_digitsUpTo 45 = .ok (.aload_n 0, 1) := by decide +kernel
theorem dX4_digitsUpTo_46 : decode cX4_digitsUpTo 46 = .ok (.dup, 1) := by decide +kernel
theorem dX4_digitsUpTo_47 : decode cX4_digitsUpTo 47 = .ok (.getfield 183, 3) := by decide +kernel
theorem dX4_digitsUpTo_50 : decode cX4_digitsUpTo 50 = .ok (.iconst 1, 1) := by decide +kernel
theorem dX4_digitsUpTo_51 : decode cX4_digitsUpTo 51 = .ok (.iadd, 1) := by decide +kernel
theorem dX4_digitsUpTo_52 : decode cX4_digitsUpTo 52 = .ok (.putfield 183, 3) := by decide +kernel
theorem dX4_digitsUpTo_55 : decode cX4_digitsUpTo 55 = .ok (.iinc 2 1, 3) := by decide +kernel
theorem dX4_digitsUpTo_58 : decode cX4_digitsUpTo 58 = .ok (.goto (-56), 3) := by decide +kernel
theorem dX4_digitsUpTo_61 : decode cX4_digitsUpTo 61 = .ok (.iload_n 2, 1) := by decide +kernel
theorem dX4_digitsUpTo_62 : decode cX4_digitsUpTo 62 = .ok (.ireturn, 1) := by decide +kernel
theorem dX4_seesDigit_0 : decode cX4_seesDigit 0 = .ok (.aload_n 0, 1) := by decide +kernel
theorem dX4_seesDigit_1 : decode cX4_seesDigit 1 = .ok (.getfield 180, 3) := by decide +kernel
theorem dX4_seesDigit_4 : decode cX4_seesDigit 4 = .ok (.ifCond .ge 46, 3) := by decide +kernel
theorem dX4_seesDigit_7 : decode cX4_seesDigit 7 = .ok (.aload_n 0, 1) := by decide +kernel
theorem dX4_seesDigit_8 : decode cX4_seesDigit 8 = .ok (.getfield 183, 3) := by decide +kernel
theorem dX4_seesDigit_11 : decode cX4_seesDigit 11 = .ok (.aload_n 0, 1) := by decide +kernel
theorem dX4_seesDigit_12 : decode cX4_seesDigit 12 = .ok (.getfield 166, 3) := by decide +kernel
theorem dX4_seesDigit_15 : decode cX4_seesDigit 15 = .ok (.if_icmp .ge 35, 3) := by decide +kernel
theorem dX4_seesDigit_18 : decode cX4_seesDigit 18 = .ok (.aload_n 0, 1) := by decide +kernel
theorem dX4_seesDigit_19 : decode cX4_seesDigit 19 = .ok (.getfield 26, 3) := by decide +kernel
theorem dX4_seesDigit_22 : decode cX4_seesDigit 22 = .ok (.aload_n 0, 1) := by decide +kernel
theorem dX4_seesDigit_23 : decode cX4_seesDigit 23 = .ok (.getfield 183, 3) := by decide +kernel
theorem dX4_seesDigit_26 : decode cX4_seesDigit 26 = .ok (.iaload, 1) := by decide +kernel
theorem dX4_seesDigit_27 : decode cX4_seesDigit 27 = .ok (.bipush 48, 2) := by decide +kernel
theorem dX4_seesDigit_29 : decode cX4_seesDigit 29 = .ok (.if_icmp .lt 21, 3) := by decide +kernel
theorem dX4_seesDigit_32 : decode cX4_seesDigit 32 = .ok (.aload_n 0, 1) := by decide +kernel
theorem dX4_seesDigit_33 : decode cX4_seesDigit 33 = .ok (.getfield 26, 3) := by decide +kernel
theorem dX4_seesDigit_36 : decode cX4_seesDigit 36 = .ok (.aload_n 0, 1) := by decide +kernel
theorem dX4_seesDigit_37 : decode cX4_seesDigit 37 = .ok (.getfield 183, 3) := by decide +kernel
theorem dX4_seesDigit_40 : decode cX4_seesDigit 40 = .ok (.iaload, 1) := by decide +kernel
theorem dX4_seesDigit_41 : decode cX4_seesDigit 41 = .ok (.bipush 57, 2) := by decide +kernel
theorem dX4_seesDigit_43 : decode cX4_seesDigit 43 = .ok (.if_icmp .gt 7, 3) := by decide +kernel
theorem dX4_seesDigit_46 : decode cX4_seesDigit 46 = .ok (.iconst 1, 1) := by decide +kernel
theorem dX4_seesDigit_47 : decode cX4_seesDigit 47 = .ok (.goto 4, 3) := by decide +kernel
theorem dX4_seesDigit_50 : decode cX4_seesDigit 50 = .ok (.iconst 0, 1) := by decide +kernel
theorem dX4_seesDigit_51 : decode cX4_seesDigit 51 = .ok (.ireturn, 1) := by decide +kernel
theorem dX4_fail_0 : decode cX4_fail 0 = .ok (.aload_n 0, 1) := by decide +kernel
theorem dX4_fail_1 : decode cX4_fail 1 = .ok (.aload_n 0, 1) := by decide +kernel
theorem dX4_fail_2 : decode cX4_fail 2 = .ok (.getfield 180, 3) := by decide +kernel
theorem dX4_fail_5 : decode cX4_fail 5 = .ok (.ifCond .ge 10, 3) := by decide +kernel
theorem dX4_fail_8 : decode cX4_fail 8 = .ok (.aload_n 0, 1) := by decide +kernel
theorem dX4_fail_9 : decode cX4_fail 9 = .ok (.getfield 183, 3) := by decide +kernel
theorem dX4_fail_12 : decode cX4_fail 12 = .ok (.goto 7, 3) := by decide +kernel
theorem dX4_fail_15 : decode cX4_fail 15 = .ok (.aload_n 0, 1) := by decide +kernel
theorem dX4_fail_16 : decode cX4_fail 16 = .ok (.getfield 180, 3) := by decide +kernel
theorem dX4_fail_19 : decode cX4_fail 19 = .ok (.putfield 180, 3) := by decide +kernel
theorem dX4_fail_22 : decode cX4_fail 22 = .ok (.return_, 1) := by decide +kernel
theorem dX4_expect_0 : decode cX4_expect 0 = .ok (.aload_n 0, 1) := by decide +kernel
theorem dX4_expect_1 : decode cX4_expect 1 = .ok (.iload_n 1, 1) := by decide +kernel
theorem dX4_expect_2 : decode cX4_expect 2 = .ok (.invokevirtual 186, 3) := by decide +kernel
theorem dX4_expect_5 : decode cX4_expect 5 = .ok (.ifCond .eq 16, 3) := by decide +kernel
theorem dX4_expect_8 : decode cX4_expect 8 = .ok (.aload_n 0, 1) := by decide +kernel
theorem dX4_expect_9 : decode cX4_expect 9 = .ok (.dup, 1) := by decide +kernel
theorem dX4_expect_10 : decode cX4_expect 10 = .ok (.getfield 183, 3) := by decide +kernel
theorem dX4_expect_13 : decode cX4_expect 13 = .ok (.iconst 1, 1) := by decide +kernel
theorem dX4_expect_14 : decode cX4_expect 14 = .ok (.iadd, 1) := by decide +kernel
theorem dX4_expect_15 : decode cX4_expect 15 = .ok (.putfield 183, 3) := by decide +kernel
theorem dX4_expect_18 : decode cX4_expect 18 = .ok (.goto 7, 3) := by decide +kernel
theorem dX4_expect_21 : decode cX4_expect 21 = .ok (.aload_n 0, 1) := by decide +kernel
theorem dX4_expect_22 : decode cX4_expect 22 = .ok (.invokevirtual 190, 3) := by decide +kernel
theorem dX4_expect_25 : decode cX4_expect 25 = .ok (.return_, 1) := by decide +kernel
theorem dX4_readCode_0 : decode cX4_readCode 0 = .ok (.aload_n 0, 1) := by decide +kernel
theorem dX4_readCode_1 : decode cX4_readCode 1 = .ok (.getfield 180, 3) := by decide +kernel
theorem dX4_readCode_4 : decode cX4_readCode 4 = .ok (.ifCond .ge 46, 3) := by decide +kernel
theorem dX4_readCode_7 : decode cX4_readCode 7 = .ok (.aload_n 0, 1) := by decide +kernel
theorem dX4_readCode_8 : decode cX4_readCode 8 = .ok (.getfield 183, 3) := by decide +kernel
theorem dX4_readCode_11 : decode cX4_readCode 11 = .ok (.aload_n 0, 1) := by decide +kernel
theorem dX4_readCode_12 : decode cX4_readCode 12 = .ok (.getfield 166, 3) := by decide +kernel
theorem dX4_readCode_15 : decode cX4_readCode 15 = .ok (.if_icmp .ge 35, 3) := by decide +kernel
theorem dX4_readCode_18 : decode cX4_readCode 18 = .ok (.aload_n 0, 1) := by decide +kernel
theorem dX4_readCode_19 : decode cX4_readCode 19 = .ok (.getfield 26, 3) := by decide +kernel
theorem dX4_readCode_22 : decode cX4_readCode 22 = .ok (.aload_n 0, 1) := by decide +kernel
theorem dX4_readCode_23 : decode cX4_readCode 23 = .ok (.getfield 183, 3) := by decide +kernel
theorem dX4_readCode_26 : decode cX4_readCode 26 = .ok (.iaload, 1) := by decide +kernel
theorem dX4_readCode_27 : decode cX4_readCode 27 = .ok (.bipush 65, 2) := by decide +kernel
theorem dX4_readCode_29 : decode cX4_readCode 29 = .ok (.if_icmp .lt 21, 3) := by decide +kernel
theorem dX4_readCode_32 : decode cX4_readCode 32 = .ok (.aload_n 0, 1) := by decide +kernel
theorem dX4_readCode_33 : decode cX4_readCode 33 = .ok (.getfield 26, 3) := by decide +kernel
theorem dX4_readCode_36 : decode cX4_readCode 36 = .ok (.aload_n 0, 1) := by decide +kernel
theorem dX4_readCode_37 : decode cX4_readCode 37 = .ok (.getfield 183, 3) := by decide +kernel
theorem dX4_readCode_40 : decode cX4_readCode 40 = .ok (.iaload, 1) := by decide +kernel
theorem dX4_readCode_41 : decode cX4_readCode 41 = .ok (.bipush 70, 2) := by decide +kernel
theorem dX4_readCode_43 : decode cX4_readCode 43 = .ok (.if_icmp .gt 7, 3) := by decide +kernel
theorem dX4_readCode_46 : decode cX4_readCode 46 = .ok (.iconst 1, 1) := by decide +kernel
theorem dX4_readCode_47 : decode cX4_readCode 47 = .ok (.goto 4, 3) := by decide +kernel
theorem dX4_readCode_50 : decode cX4_readCode 50 = .ok (.iconst 0, 1) := by decide +kernel
theorem dX4_readCode_51 : decode cX4_readCode 51 = .ok (.istore_n 1, 1) := by decide +kernel
theorem dX4_readCode_52 : decode cX4_readCode 52 = .ok (.iload_n 1, 1) := by decide +kernel
theorem dX4_readCode_53 : decode cX4_readCode 53 = .ok (.ifCond .ne 8, 3) := by decide +kernel
theorem dX4_readCode_56 : decode cX4_readCode 56 = .ok (.aload_n 0, 1) := by decide +kernel
theorem dX4_readCode_57 : decode cX4_readCode 57 = .ok (.invokevirtual 190, 3) := by decide +kernel
theorem dX4_readCode_60 : decode cX4_readCode 60 = .ok (.return_, 1) := by decide +kernel
theorem dX4_readCode_61 : decode cX4_readCode 61 = .ok (.aload_n 0, 1) := by decide +kernel
theorem dX4_readCode_62 : decode cX4_readCode 62 = .ok (.getfield 26, 3) := by decide +kernel
theorem dX4_readCode_65 : decode cX4_readCode 65 = .ok (.aload_n 0, 1) := by decide +kernel
theorem dX4_readCode_66 : decode cX4_readCode 66 = .ok (.getfield 183, 3) := by decide +kernel
theorem dX4_readCode_69 : decode cX4_readCode 69 = .ok (.iaload, 1) := by decide +kernel
theorem dX4_readCode_70 : decode cX4_readCode 70 = .ok (.istore_n 2, 1) := by decide +kernel
theorem dX4_readCode_71 : decode cX4_readCode 71 = .ok (.aload_n 0, 1) := by decide +kernel
theorem dX4_readCode_72 : decode cX4_readCode 72 = .ok (.iload_n 2, 1) := by decide +kernel
theorem dX4_readCode_73 : decode cX4_readCode 73 = .ok (.bipush 65, 2) := by decide +kernel
theorem dX4_readCode_75 : decode cX4_readCode 75 = .ok (.isub, 1) := by decide +kernel
theorem dX4_readCode_76 : decode cX4_readCode 76 = .ok (.putfield 203, 3) := by decide +kernel
theorem dX4_readCode_79 : decode cX4_readCode 79 = .ok (.aload_n 0, 1) := by decide +kernel
theorem dX4_readCode_80 : decode cX4_readCode 80 = .ok (.iload_n 2, 1) := by decide +kernel
theorem dX4_readCode_81 : decode cX4_readCode 81 = .ok (.invokevirtual 206, 3) := by decide +kernel
theorem dX4_readCode_84 : decode cX4_readCode 84 = .ok (.aload_n 0, 1) := by decide +kernel
theorem dX4_readCode_85 : decode cX4_readCode 85 = .ok (.iload_n 2, 1) := by decide +kernel
theorem dX4_readCode_86 : decode cX4_readCode 86 = .ok (.invokevirtual 206, 3) := by decide +kernel
theorem dX4_readCode_89 : decode cX4_readCode 89 = .ok (.aload_n 0, 1) := by decide +kernel
theorem dX4_readCode_90 : decode cX4_readCode 90 = .ok (.iload_n 2, 1) := by decide +kernel
theorem dX4_readCode_91 : decode cX4_readCode 91 = .ok (.invokevirtual 206, 3) := by decide +kernel
theorem dX4_readCode_94 : decode cX4_readCode 94 = .ok (.return_, 1) := by decide +kernel
